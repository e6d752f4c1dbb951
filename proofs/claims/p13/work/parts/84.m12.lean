/-! THE REFERENCE: change at a session that is ADMIN -/
set_option maxRecDepth 100000 in
set_option maxHeartbeats 4000000 in
theorem m_change_2b {l : Launch} {G : zG} {U : zU} (w : wR G U) (N : zR) (r : Nat) (hr5 : r < 5) (s : Nat) (hs5 : s < 5) (tx rx : Int32) (h : ¬ N 11 (5 * r + s) = 0) (h0 : N 12 (5 * r + s) = 0) : zF l y_M_change b_M_change 9 none 4 84 G [.ref (U.1 43), .int (nI r), .int (nI s), .int tx, .int rx] (eR U N) none (eR U (u2 N 43 0 2)) := by
  refine zF.ofZ (by decide) w.2.2.2.2 (Nat.le_of_ble_eq_true rfl) (fun X hXl hN hr C => ?_)
  subst hXl
  show Z X G (zA G) 9 _ (eR U N) 0 [(0, .ref (U.1 43)), (1, .int (nI r)), (2, .int (nI s)), (3, .int tx), (4, .int rx)] []
  refine Z_iload_n C 3 d_M_change_0 rfl rfl ?_
  refine Z_if_ne (tgt := 13) C d_M_change_1 (by decide) (fun c1 => ?_) (fun c1 => ?_)
  · skip
    refine Z_iconst (v := 0) C d_M_change_13 (by decide) ?_
    refine Z_istore C d_M_change_14 (by decide) rfl ?_
    refine Z_iload C 0 d_M_change_16 rfl ?_
    refine Z_if_ne (tgt := 47) C d_M_change_18 (by decide) (fun c18 => ?_) (fun c18 => ?_)
    · exact absurd rfl c18
    · skip
      refine Z_iload_n C 4 d_M_change_21 rfl rfl ?_
      refine Z_iconst (v := 1) C d_M_change_22 (by decide) ?_
      refine Z_icmp_lt (tgt := 51) C d_M_change_23 (by decide) (fun c23 => ?_) (fun c23 => ?_)
      · skip
        refine Z_iconst (v := 0) C d_M_change_51 (by decide) ?_
        refine Z_istore C d_M_change_52 (by decide) rfl ?_
        refine Z_aload_n C 2 d_M_change_54 rfl rfl ?_
        refine Z_iload_n C 3 d_M_change_55 rfl rfl ?_
        refine C_csv C ms_M_isRouter ml_M_128 (c_M_isRouter w _ _) rfl (by decide) rfl (Nat.le_of_ble_eq_true rfl) d_M_change_56 ?_
        refine Z_if_eq (tgt := 69) C d_M_change_59 (by decide) (fun c59 => ?_) (fun c59 => ?_)
        · exact absurd c59 (mIsR_ne hr5) --stop
        · skip
          refine Z_iload_n C 4 d_M_change_62 rfl rfl ?_
          refine C_csv C ms_M_isRouter ml_M_128 (c_M_isRouter w _ _) rfl (by decide) rfl (Nat.le_of_ble_eq_true rfl) d_M_change_63 ?_
          refine Z_if_ne (tgt := 73) C d_M_change_66 (by decide) (fun c66 => ?_) (fun c66 => ?_)
          · skip
            refine Z_aload_n C 2 d_M_change_73 rfl rfl ?_
            refine R_get C w 11 (by decide) fl_M_37 rfl rfl d_M_change_74 ?_
            refine Z_iconst (v := 5) C d_M_change_77 (by decide) ?_
            refine Z_iload_n C 3 d_M_change_78 rfl rfl ?_
            refine Z_imul C d_M_change_79 ?_
            refine Z_iload_n C 4 d_M_change_80 rfl rfl ?_
            refine Z_iadd C d_M_change_81 ?_
            refine R_zld 11 C w rfl rfl (5 * r + s) (by rw [ix5]; exact nI_clamp (by omega)) (by rw [ix5]; exact vp_in_nI (n := 5 * r + s) (N := 25) (by omega) (by decide)) d_M_change_82 ?_
            refine Z_if_eq (tgt := 99) C d_M_change_83 (by decide) (fun c83 => ?_) (fun c83 => ?_)
            · exact absurd c83 h --stop
            · skip
              refine Z_aload_n C 2 d_M_change_86 rfl rfl ?_
              refine R_get C w 12 (by decide) fl_M_41 rfl rfl d_M_change_87 ?_
              refine Z_iconst (v := 5) C d_M_change_90 (by decide) ?_
              refine Z_iload_n C 3 d_M_change_91 rfl rfl ?_
              refine Z_imul C d_M_change_92 ?_
              refine Z_iload_n C 4 d_M_change_93 rfl rfl ?_
              refine Z_iadd C d_M_change_94 ?_
              refine R_ld 12 C w rfl rfl (5 * r + s) (by rw [ix5]; exact nI_clamp (by omega)) (by rw [ix5]; exact vp_in_nI (n := 5 * r + s) (N := 25) (by omega) (by decide)) d_M_change_95 ?_
              refine Z_if_ne (tgt := 103) C d_M_change_96 (by decide) (fun c96 => ?_) (fun c96 => ?_)
              · exact absurd h0 c96 --stop
              · skip
                refine Z_iconst (v := 2) C d_M_change_99 (by decide) ?_
                refine Z_goto (tgt := 113) C d_M_change_100 (by decide) ?_
                refine R_put C w 0 (by decide) fl_M_124 rfl rfl rfl rfl rfl d_M_change_113 ?_
                refine Z_aload_n C 2 d_M_change_116 rfl rfl ?_
                refine R_get C w 0 (by decide) fl_M_124 rfl rfl d_M_change_117 ?_
                refine Z_if_eq (tgt := 124) C d_M_change_120 (by decide) (fun c120 => ?_) (fun c120 => ?_)
                · exact absurd c120 (by simp [u2, upd]) --stop
                · skip
                  exact Z_vret C hN hr d_M_change_123 rfl (zeq (rfl))
          · exact absurd c66 (mIsR_ne hs5) --stop
      · skip
        refine Z_iload_n C 4 d_M_change_26 rfl rfl ?_
        refine Z_sipush (v := 1000) C d_M_change_27 (by decide) ?_
        refine Z_icmp_gt (tgt := 51) C d_M_change_30 (by decide) (fun c30 => ?_) (fun c30 => ?_)
        · skip
          refine Z_iconst (v := 0) C d_M_change_51 (by decide) ?_
          refine Z_istore C d_M_change_52 (by decide) rfl ?_
          refine Z_aload_n C 2 d_M_change_54 rfl rfl ?_
          refine Z_iload_n C 3 d_M_change_55 rfl rfl ?_
          refine C_csv C ms_M_isRouter ml_M_128 (c_M_isRouter w _ _) rfl (by decide) rfl (Nat.le_of_ble_eq_true rfl) d_M_change_56 ?_
          refine Z_if_eq (tgt := 69) C d_M_change_59 (by decide) (fun c59 => ?_) (fun c59 => ?_)
          · exact absurd c59 (mIsR_ne hr5) --stop
          · skip
            refine Z_iload_n C 4 d_M_change_62 rfl rfl ?_
            refine C_csv C ms_M_isRouter ml_M_128 (c_M_isRouter w _ _) rfl (by decide) rfl (Nat.le_of_ble_eq_true rfl) d_M_change_63 ?_
            refine Z_if_ne (tgt := 73) C d_M_change_66 (by decide) (fun c66 => ?_) (fun c66 => ?_)
            · skip
              refine Z_aload_n C 2 d_M_change_73 rfl rfl ?_
              refine R_get C w 11 (by decide) fl_M_37 rfl rfl d_M_change_74 ?_
              refine Z_iconst (v := 5) C d_M_change_77 (by decide) ?_
              refine Z_iload_n C 3 d_M_change_78 rfl rfl ?_
              refine Z_imul C d_M_change_79 ?_
              refine Z_iload_n C 4 d_M_change_80 rfl rfl ?_
              refine Z_iadd C d_M_change_81 ?_
              refine R_zld 11 C w rfl rfl (5 * r + s) (by rw [ix5]; exact nI_clamp (by omega)) (by rw [ix5]; exact vp_in_nI (n := 5 * r + s) (N := 25) (by omega) (by decide)) d_M_change_82 ?_
              refine Z_if_eq (tgt := 99) C d_M_change_83 (by decide) (fun c83 => ?_) (fun c83 => ?_)
              · exact absurd c83 h --stop
              · skip
                refine Z_aload_n C 2 d_M_change_86 rfl rfl ?_
                refine R_get C w 12 (by decide) fl_M_41 rfl rfl d_M_change_87 ?_
                refine Z_iconst (v := 5) C d_M_change_90 (by decide) ?_
                refine Z_iload_n C 3 d_M_change_91 rfl rfl ?_
                refine Z_imul C d_M_change_92 ?_
                refine Z_iload_n C 4 d_M_change_93 rfl rfl ?_
                refine Z_iadd C d_M_change_94 ?_
                refine R_ld 12 C w rfl rfl (5 * r + s) (by rw [ix5]; exact nI_clamp (by omega)) (by rw [ix5]; exact vp_in_nI (n := 5 * r + s) (N := 25) (by omega) (by decide)) d_M_change_95 ?_
                refine Z_if_ne (tgt := 103) C d_M_change_96 (by decide) (fun c96 => ?_) (fun c96 => ?_)
                · exact absurd h0 c96 --stop
                · skip
                  refine Z_iconst (v := 2) C d_M_change_99 (by decide) ?_
                  refine Z_goto (tgt := 113) C d_M_change_100 (by decide) ?_
                  refine R_put C w 0 (by decide) fl_M_124 rfl rfl rfl rfl rfl d_M_change_113 ?_
                  refine Z_aload_n C 2 d_M_change_116 rfl rfl ?_
                  refine R_get C w 0 (by decide) fl_M_124 rfl rfl d_M_change_117 ?_
                  refine Z_if_eq (tgt := 124) C d_M_change_120 (by decide) (fun c120 => ?_) (fun c120 => ?_)
                  · exact absurd c120 (by simp [u2, upd]) --stop
                  · skip
                    exact Z_vret C hN hr d_M_change_123 rfl (zeq (rfl))
            · exact absurd c66 (mIsR_ne hs5) --stop
        · skip
          refine Z_iload C 5 d_M_change_33 rfl ?_
          refine Z_iconst (v := 1) C d_M_change_35 (by decide) ?_
          refine Z_icmp_lt (tgt := 51) C d_M_change_36 (by decide) (fun c36 => ?_) (fun c36 => ?_)
          · skip
            refine Z_iconst (v := 0) C d_M_change_51 (by decide) ?_
            refine Z_istore C d_M_change_52 (by decide) rfl ?_
            refine Z_aload_n C 2 d_M_change_54 rfl rfl ?_
            refine Z_iload_n C 3 d_M_change_55 rfl rfl ?_
            refine C_csv C ms_M_isRouter ml_M_128 (c_M_isRouter w _ _) rfl (by decide) rfl (Nat.le_of_ble_eq_true rfl) d_M_change_56 ?_
            refine Z_if_eq (tgt := 69) C d_M_change_59 (by decide) (fun c59 => ?_) (fun c59 => ?_)
            · exact absurd c59 (mIsR_ne hr5) --stop
            · skip
              refine Z_iload_n C 4 d_M_change_62 rfl rfl ?_
              refine C_csv C ms_M_isRouter ml_M_128 (c_M_isRouter w _ _) rfl (by decide) rfl (Nat.le_of_ble_eq_true rfl) d_M_change_63 ?_
              refine Z_if_ne (tgt := 73) C d_M_change_66 (by decide) (fun c66 => ?_) (fun c66 => ?_)
              · skip
                refine Z_aload_n C 2 d_M_change_73 rfl rfl ?_
                refine R_get C w 11 (by decide) fl_M_37 rfl rfl d_M_change_74 ?_
                refine Z_iconst (v := 5) C d_M_change_77 (by decide) ?_
                refine Z_iload_n C 3 d_M_change_78 rfl rfl ?_
                refine Z_imul C d_M_change_79 ?_
                refine Z_iload_n C 4 d_M_change_80 rfl rfl ?_
                refine Z_iadd C d_M_change_81 ?_
                refine R_zld 11 C w rfl rfl (5 * r + s) (by rw [ix5]; exact nI_clamp (by omega)) (by rw [ix5]; exact vp_in_nI (n := 5 * r + s) (N := 25) (by omega) (by decide)) d_M_change_82 ?_
                refine Z_if_eq (tgt := 99) C d_M_change_83 (by decide) (fun c83 => ?_) (fun c83 => ?_)
                · exact absurd c83 h --stop
                · skip
                  refine Z_aload_n C 2 d_M_change_86 rfl rfl ?_
                  refine R_get C w 12 (by decide) fl_M_41 rfl rfl d_M_change_87 ?_
                  refine Z_iconst (v := 5) C d_M_change_90 (by decide) ?_
                  refine Z_iload_n C 3 d_M_change_91 rfl rfl ?_
                  refine Z_imul C d_M_change_92 ?_
                  refine Z_iload_n C 4 d_M_change_93 rfl rfl ?_
                  refine Z_iadd C d_M_change_94 ?_
                  refine R_ld 12 C w rfl rfl (5 * r + s) (by rw [ix5]; exact nI_clamp (by omega)) (by rw [ix5]; exact vp_in_nI (n := 5 * r + s) (N := 25) (by omega) (by decide)) d_M_change_95 ?_
                  refine Z_if_ne (tgt := 103) C d_M_change_96 (by decide) (fun c96 => ?_) (fun c96 => ?_)
                  · exact absurd h0 c96 --stop
                  · skip
                    refine Z_iconst (v := 2) C d_M_change_99 (by decide) ?_
                    refine Z_goto (tgt := 113) C d_M_change_100 (by decide) ?_
                    refine R_put C w 0 (by decide) fl_M_124 rfl rfl rfl rfl rfl d_M_change_113 ?_
                    refine Z_aload_n C 2 d_M_change_116 rfl rfl ?_
                    refine R_get C w 0 (by decide) fl_M_124 rfl rfl d_M_change_117 ?_
                    refine Z_if_eq (tgt := 124) C d_M_change_120 (by decide) (fun c120 => ?_) (fun c120 => ?_)
                    · exact absurd c120 (by simp [u2, upd]) --stop
                    · skip
                      exact Z_vret C hN hr d_M_change_123 rfl (zeq (rfl))
              · exact absurd c66 (mIsR_ne hs5) --stop
          · skip
            refine Z_iload C 5 d_M_change_39 rfl ?_
            refine Z_sipush (v := 1000) C d_M_change_41 (by decide) ?_
            refine Z_icmp_gt (tgt := 51) C d_M_change_44 (by decide) (fun c44 => ?_) (fun c44 => ?_)
            · skip
              refine Z_iconst (v := 0) C d_M_change_51 (by decide) ?_
              refine Z_istore C d_M_change_52 (by decide) rfl ?_
              refine Z_aload_n C 2 d_M_change_54 rfl rfl ?_
              refine Z_iload_n C 3 d_M_change_55 rfl rfl ?_
              refine C_csv C ms_M_isRouter ml_M_128 (c_M_isRouter w _ _) rfl (by decide) rfl (Nat.le_of_ble_eq_true rfl) d_M_change_56 ?_
              refine Z_if_eq (tgt := 69) C d_M_change_59 (by decide) (fun c59 => ?_) (fun c59 => ?_)
              · exact absurd c59 (mIsR_ne hr5) --stop
              · skip
                refine Z_iload_n C 4 d_M_change_62 rfl rfl ?_
                refine C_csv C ms_M_isRouter ml_M_128 (c_M_isRouter w _ _) rfl (by decide) rfl (Nat.le_of_ble_eq_true rfl) d_M_change_63 ?_
                refine Z_if_ne (tgt := 73) C d_M_change_66 (by decide) (fun c66 => ?_) (fun c66 => ?_)
                · skip
                  refine Z_aload_n C 2 d_M_change_73 rfl rfl ?_
                  refine R_get C w 11 (by decide) fl_M_37 rfl rfl d_M_change_74 ?_
                  refine Z_iconst (v := 5) C d_M_change_77 (by decide) ?_
                  refine Z_iload_n C 3 d_M_change_78 rfl rfl ?_
                  refine Z_imul C d_M_change_79 ?_
                  refine Z_iload_n C 4 d_M_change_80 rfl rfl ?_
                  refine Z_iadd C d_M_change_81 ?_
                  refine R_zld 11 C w rfl rfl (5 * r + s) (by rw [ix5]; exact nI_clamp (by omega)) (by rw [ix5]; exact vp_in_nI (n := 5 * r + s) (N := 25) (by omega) (by decide)) d_M_change_82 ?_
                  refine Z_if_eq (tgt := 99) C d_M_change_83 (by decide) (fun c83 => ?_) (fun c83 => ?_)
                  · exact absurd c83 h --stop
                  · skip
                    refine Z_aload_n C 2 d_M_change_86 rfl rfl ?_
                    refine R_get C w 12 (by decide) fl_M_41 rfl rfl d_M_change_87 ?_
                    refine Z_iconst (v := 5) C d_M_change_90 (by decide) ?_
                    refine Z_iload_n C 3 d_M_change_91 rfl rfl ?_
                    refine Z_imul C d_M_change_92 ?_
                    refine Z_iload_n C 4 d_M_change_93 rfl rfl ?_
                    refine Z_iadd C d_M_change_94 ?_
                    refine R_ld 12 C w rfl rfl (5 * r + s) (by rw [ix5]; exact nI_clamp (by omega)) (by rw [ix5]; exact vp_in_nI (n := 5 * r + s) (N := 25) (by omega) (by decide)) d_M_change_95 ?_
                    refine Z_if_ne (tgt := 103) C d_M_change_96 (by decide) (fun c96 => ?_) (fun c96 => ?_)
                    · exact absurd h0 c96 --stop
                    · skip
                      refine Z_iconst (v := 2) C d_M_change_99 (by decide) ?_
                      refine Z_goto (tgt := 113) C d_M_change_100 (by decide) ?_
                      refine R_put C w 0 (by decide) fl_M_124 rfl rfl rfl rfl rfl d_M_change_113 ?_
                      refine Z_aload_n C 2 d_M_change_116 rfl rfl ?_
                      refine R_get C w 0 (by decide) fl_M_124 rfl rfl d_M_change_117 ?_
                      refine Z_if_eq (tgt := 124) C d_M_change_120 (by decide) (fun c120 => ?_) (fun c120 => ?_)
                      · exact absurd c120 (by simp [u2, upd]) --stop
                      · skip
                        exact Z_vret C hN hr d_M_change_123 rfl (zeq (rfl))
                · exact absurd c66 (mIsR_ne hs5) --stop
            · skip
              refine Z_iconst (v := 1) C d_M_change_47 (by decide) ?_
              refine Z_goto (tgt := 52) C d_M_change_48 (by decide) ?_
              refine Z_istore C d_M_change_52 (by decide) rfl ?_
              refine Z_aload_n C 2 d_M_change_54 rfl rfl ?_
              refine Z_iload_n C 3 d_M_change_55 rfl rfl ?_
              refine C_csv C ms_M_isRouter ml_M_128 (c_M_isRouter w _ _) rfl (by decide) rfl (Nat.le_of_ble_eq_true rfl) d_M_change_56 ?_
              refine Z_if_eq (tgt := 69) C d_M_change_59 (by decide) (fun c59 => ?_) (fun c59 => ?_)
              · exact absurd c59 (mIsR_ne hr5) --stop
              · skip
                refine Z_iload_n C 4 d_M_change_62 rfl rfl ?_
                refine C_csv C ms_M_isRouter ml_M_128 (c_M_isRouter w _ _) rfl (by decide) rfl (Nat.le_of_ble_eq_true rfl) d_M_change_63 ?_
                refine Z_if_ne (tgt := 73) C d_M_change_66 (by decide) (fun c66 => ?_) (fun c66 => ?_)
                · skip
                  refine Z_aload_n C 2 d_M_change_73 rfl rfl ?_
                  refine R_get C w 11 (by decide) fl_M_37 rfl rfl d_M_change_74 ?_
                  refine Z_iconst (v := 5) C d_M_change_77 (by decide) ?_
                  refine Z_iload_n C 3 d_M_change_78 rfl rfl ?_
                  refine Z_imul C d_M_change_79 ?_
                  refine Z_iload_n C 4 d_M_change_80 rfl rfl ?_
                  refine Z_iadd C d_M_change_81 ?_
                  refine R_zld 11 C w rfl rfl (5 * r + s) (by rw [ix5]; exact nI_clamp (by omega)) (by rw [ix5]; exact vp_in_nI (n := 5 * r + s) (N := 25) (by omega) (by decide)) d_M_change_82 ?_
                  refine Z_if_eq (tgt := 99) C d_M_change_83 (by decide) (fun c83 => ?_) (fun c83 => ?_)
                  · exact absurd c83 h --stop
                  · skip
                    refine Z_aload_n C 2 d_M_change_86 rfl rfl ?_
                    refine R_get C w 12 (by decide) fl_M_41 rfl rfl d_M_change_87 ?_
                    refine Z_iconst (v := 5) C d_M_change_90 (by decide) ?_
                    refine Z_iload_n C 3 d_M_change_91 rfl rfl ?_
                    refine Z_imul C d_M_change_92 ?_
                    refine Z_iload_n C 4 d_M_change_93 rfl rfl ?_
                    refine Z_iadd C d_M_change_94 ?_
                    refine R_ld 12 C w rfl rfl (5 * r + s) (by rw [ix5]; exact nI_clamp (by omega)) (by rw [ix5]; exact vp_in_nI (n := 5 * r + s) (N := 25) (by omega) (by decide)) d_M_change_95 ?_
                    refine Z_if_ne (tgt := 103) C d_M_change_96 (by decide) (fun c96 => ?_) (fun c96 => ?_)
                    · exact absurd h0 c96 --stop
                    · skip
                      refine Z_iconst (v := 2) C d_M_change_99 (by decide) ?_
                      refine Z_goto (tgt := 113) C d_M_change_100 (by decide) ?_
                      refine R_put C w 0 (by decide) fl_M_124 rfl rfl rfl rfl rfl d_M_change_113 ?_
                      refine Z_aload_n C 2 d_M_change_116 rfl rfl ?_
                      refine R_get C w 0 (by decide) fl_M_124 rfl rfl d_M_change_117 ?_
                      refine Z_if_eq (tgt := 124) C d_M_change_120 (by decide) (fun c120 => ?_) (fun c120 => ?_)
                      · exact absurd c120 (by simp [u2, upd]) --stop
                      · skip
                        exact Z_vret C hN hr d_M_change_123 rfl (zeq (rfl))
                · exact absurd c66 (mIsR_ne hs5) --stop
  · skip
    refine Z_iload C 4 d_M_change_4 rfl ?_
    refine Z_if_ne (tgt := 13) C d_M_change_6 (by decide) (fun c6 => ?_) (fun c6 => ?_)
    · skip
      refine Z_iconst (v := 0) C d_M_change_13 (by decide) ?_
      refine Z_istore C d_M_change_14 (by decide) rfl ?_
      refine Z_iload C 0 d_M_change_16 rfl ?_
      refine Z_if_ne (tgt := 47) C d_M_change_18 (by decide) (fun c18 => ?_) (fun c18 => ?_)
      · exact absurd rfl c18
      · skip
        refine Z_iload_n C 4 d_M_change_21 rfl rfl ?_
        refine Z_iconst (v := 1) C d_M_change_22 (by decide) ?_
        refine Z_icmp_lt (tgt := 51) C d_M_change_23 (by decide) (fun c23 => ?_) (fun c23 => ?_)
        · skip
          refine Z_iconst (v := 0) C d_M_change_51 (by decide) ?_
          refine Z_istore C d_M_change_52 (by decide) rfl ?_
          refine Z_aload_n C 2 d_M_change_54 rfl rfl ?_
          refine Z_iload_n C 3 d_M_change_55 rfl rfl ?_
          refine C_csv C ms_M_isRouter ml_M_128 (c_M_isRouter w _ _) rfl (by decide) rfl (Nat.le_of_ble_eq_true rfl) d_M_change_56 ?_
          refine Z_if_eq (tgt := 69) C d_M_change_59 (by decide) (fun c59 => ?_) (fun c59 => ?_)
          · exact absurd c59 (mIsR_ne hr5) --stop
          · skip
            refine Z_iload_n C 4 d_M_change_62 rfl rfl ?_
            refine C_csv C ms_M_isRouter ml_M_128 (c_M_isRouter w _ _) rfl (by decide) rfl (Nat.le_of_ble_eq_true rfl) d_M_change_63 ?_
            refine Z_if_ne (tgt := 73) C d_M_change_66 (by decide) (fun c66 => ?_) (fun c66 => ?_)
            · skip
              refine Z_aload_n C 2 d_M_change_73 rfl rfl ?_
              refine R_get C w 11 (by decide) fl_M_37 rfl rfl d_M_change_74 ?_
              refine Z_iconst (v := 5) C d_M_change_77 (by decide) ?_
              refine Z_iload_n C 3 d_M_change_78 rfl rfl ?_
              refine Z_imul C d_M_change_79 ?_
              refine Z_iload_n C 4 d_M_change_80 rfl rfl ?_
              refine Z_iadd C d_M_change_81 ?_
              refine R_zld 11 C w rfl rfl (5 * r + s) (by rw [ix5]; exact nI_clamp (by omega)) (by rw [ix5]; exact vp_in_nI (n := 5 * r + s) (N := 25) (by omega) (by decide)) d_M_change_82 ?_
              refine Z_if_eq (tgt := 99) C d_M_change_83 (by decide) (fun c83 => ?_) (fun c83 => ?_)
              · exact absurd c83 h --stop
              · skip
                refine Z_aload_n C 2 d_M_change_86 rfl rfl ?_
                refine R_get C w 12 (by decide) fl_M_41 rfl rfl d_M_change_87 ?_
                refine Z_iconst (v := 5) C d_M_change_90 (by decide) ?_
                refine Z_iload_n C 3 d_M_change_91 rfl rfl ?_
                refine Z_imul C d_M_change_92 ?_
                refine Z_iload_n C 4 d_M_change_93 rfl rfl ?_
                refine Z_iadd C d_M_change_94 ?_
                refine R_ld 12 C w rfl rfl (5 * r + s) (by rw [ix5]; exact nI_clamp (by omega)) (by rw [ix5]; exact vp_in_nI (n := 5 * r + s) (N := 25) (by omega) (by decide)) d_M_change_95 ?_
                refine Z_if_ne (tgt := 103) C d_M_change_96 (by decide) (fun c96 => ?_) (fun c96 => ?_)
                · exact absurd h0 c96 --stop
                · skip
                  refine Z_iconst (v := 2) C d_M_change_99 (by decide) ?_
                  refine Z_goto (tgt := 113) C d_M_change_100 (by decide) ?_
                  refine R_put C w 0 (by decide) fl_M_124 rfl rfl rfl rfl rfl d_M_change_113 ?_
                  refine Z_aload_n C 2 d_M_change_116 rfl rfl ?_
                  refine R_get C w 0 (by decide) fl_M_124 rfl rfl d_M_change_117 ?_
                  refine Z_if_eq (tgt := 124) C d_M_change_120 (by decide) (fun c120 => ?_) (fun c120 => ?_)
                  · exact absurd c120 (by simp [u2, upd]) --stop
                  · skip
                    exact Z_vret C hN hr d_M_change_123 rfl (zeq (rfl))
            · exact absurd c66 (mIsR_ne hs5) --stop
        · skip
          refine Z_iload_n C 4 d_M_change_26 rfl rfl ?_
          refine Z_sipush (v := 1000) C d_M_change_27 (by decide) ?_
          refine Z_icmp_gt (tgt := 51) C d_M_change_30 (by decide) (fun c30 => ?_) (fun c30 => ?_)
          · skip
            refine Z_iconst (v := 0) C d_M_change_51 (by decide) ?_
            refine Z_istore C d_M_change_52 (by decide) rfl ?_
            refine Z_aload_n C 2 d_M_change_54 rfl rfl ?_
            refine Z_iload_n C 3 d_M_change_55 rfl rfl ?_
            refine C_csv C ms_M_isRouter ml_M_128 (c_M_isRouter w _ _) rfl (by decide) rfl (Nat.le_of_ble_eq_true rfl) d_M_change_56 ?_
            refine Z_if_eq (tgt := 69) C d_M_change_59 (by decide) (fun c59 => ?_) (fun c59 => ?_)
            · exact absurd c59 (mIsR_ne hr5) --stop
            · skip
              refine Z_iload_n C 4 d_M_change_62 rfl rfl ?_
              refine C_csv C ms_M_isRouter ml_M_128 (c_M_isRouter w _ _) rfl (by decide) rfl (Nat.le_of_ble_eq_true rfl) d_M_change_63 ?_
              refine Z_if_ne (tgt := 73) C d_M_change_66 (by decide) (fun c66 => ?_) (fun c66 => ?_)
              · skip
                refine Z_aload_n C 2 d_M_change_73 rfl rfl ?_
                refine R_get C w 11 (by decide) fl_M_37 rfl rfl d_M_change_74 ?_
                refine Z_iconst (v := 5) C d_M_change_77 (by decide) ?_
                refine Z_iload_n C 3 d_M_change_78 rfl rfl ?_
                refine Z_imul C d_M_change_79 ?_
                refine Z_iload_n C 4 d_M_change_80 rfl rfl ?_
                refine Z_iadd C d_M_change_81 ?_
                refine R_zld 11 C w rfl rfl (5 * r + s) (by rw [ix5]; exact nI_clamp (by omega)) (by rw [ix5]; exact vp_in_nI (n := 5 * r + s) (N := 25) (by omega) (by decide)) d_M_change_82 ?_
                refine Z_if_eq (tgt := 99) C d_M_change_83 (by decide) (fun c83 => ?_) (fun c83 => ?_)
                · exact absurd c83 h --stop
                · skip
                  refine Z_aload_n C 2 d_M_change_86 rfl rfl ?_
                  refine R_get C w 12 (by decide) fl_M_41 rfl rfl d_M_change_87 ?_
                  refine Z_iconst (v := 5) C d_M_change_90 (by decide) ?_
                  refine Z_iload_n C 3 d_M_change_91 rfl rfl ?_
                  refine Z_imul C d_M_change_92 ?_
                  refine Z_iload_n C 4 d_M_change_93 rfl rfl ?_
                  refine Z_iadd C d_M_change_94 ?_
                  refine R_ld 12 C w rfl rfl (5 * r + s) (by rw [ix5]; exact nI_clamp (by omega)) (by rw [ix5]; exact vp_in_nI (n := 5 * r + s) (N := 25) (by omega) (by decide)) d_M_change_95 ?_
                  refine Z_if_ne (tgt := 103) C d_M_change_96 (by decide) (fun c96 => ?_) (fun c96 => ?_)
                  · exact absurd h0 c96 --stop
                  · skip
                    refine Z_iconst (v := 2) C d_M_change_99 (by decide) ?_
                    refine Z_goto (tgt := 113) C d_M_change_100 (by decide) ?_
                    refine R_put C w 0 (by decide) fl_M_124 rfl rfl rfl rfl rfl d_M_change_113 ?_
                    refine Z_aload_n C 2 d_M_change_116 rfl rfl ?_
                    refine R_get C w 0 (by decide) fl_M_124 rfl rfl d_M_change_117 ?_
                    refine Z_if_eq (tgt := 124) C d_M_change_120 (by decide) (fun c120 => ?_) (fun c120 => ?_)
                    · exact absurd c120 (by simp [u2, upd]) --stop
                    · skip
                      exact Z_vret C hN hr d_M_change_123 rfl (zeq (rfl))
              · exact absurd c66 (mIsR_ne hs5) --stop
          · skip
            refine Z_iload C 5 d_M_change_33 rfl ?_
            refine Z_iconst (v := 1) C d_M_change_35 (by decide) ?_
            refine Z_icmp_lt (tgt := 51) C d_M_change_36 (by decide) (fun c36 => ?_) (fun c36 => ?_)
            · skip
              refine Z_iconst (v := 0) C d_M_change_51 (by decide) ?_
              refine Z_istore C d_M_change_52 (by decide) rfl ?_
              refine Z_aload_n C 2 d_M_change_54 rfl rfl ?_
              refine Z_iload_n C 3 d_M_change_55 rfl rfl ?_
              refine C_csv C ms_M_isRouter ml_M_128 (c_M_isRouter w _ _) rfl (by decide) rfl (Nat.le_of_ble_eq_true rfl) d_M_change_56 ?_
              refine Z_if_eq (tgt := 69) C d_M_change_59 (by decide) (fun c59 => ?_) (fun c59 => ?_)
              · exact absurd c59 (mIsR_ne hr5) --stop
              · skip
                refine Z_iload_n C 4 d_M_change_62 rfl rfl ?_
                refine C_csv C ms_M_isRouter ml_M_128 (c_M_isRouter w _ _) rfl (by decide) rfl (Nat.le_of_ble_eq_true rfl) d_M_change_63 ?_
                refine Z_if_ne (tgt := 73) C d_M_change_66 (by decide) (fun c66 => ?_) (fun c66 => ?_)
                · skip
                  refine Z_aload_n C 2 d_M_change_73 rfl rfl ?_
                  refine R_get C w 11 (by decide) fl_M_37 rfl rfl d_M_change_74 ?_
                  refine Z_iconst (v := 5) C d_M_change_77 (by decide) ?_
                  refine Z_iload_n C 3 d_M_change_78 rfl rfl ?_
                  refine Z_imul C d_M_change_79 ?_
                  refine Z_iload_n C 4 d_M_change_80 rfl rfl ?_
                  refine Z_iadd C d_M_change_81 ?_
                  refine R_zld 11 C w rfl rfl (5 * r + s) (by rw [ix5]; exact nI_clamp (by omega)) (by rw [ix5]; exact vp_in_nI (n := 5 * r + s) (N := 25) (by omega) (by decide)) d_M_change_82 ?_
                  refine Z_if_eq (tgt := 99) C d_M_change_83 (by decide) (fun c83 => ?_) (fun c83 => ?_)
                  · exact absurd c83 h --stop
                  · skip
                    refine Z_aload_n C 2 d_M_change_86 rfl rfl ?_
                    refine R_get C w 12 (by decide) fl_M_41 rfl rfl d_M_change_87 ?_
                    refine Z_iconst (v := 5) C d_M_change_90 (by decide) ?_
                    refine Z_iload_n C 3 d_M_change_91 rfl rfl ?_
                    refine Z_imul C d_M_change_92 ?_
                    refine Z_iload_n C 4 d_M_change_93 rfl rfl ?_
                    refine Z_iadd C d_M_change_94 ?_
                    refine R_ld 12 C w rfl rfl (5 * r + s) (by rw [ix5]; exact nI_clamp (by omega)) (by rw [ix5]; exact vp_in_nI (n := 5 * r + s) (N := 25) (by omega) (by decide)) d_M_change_95 ?_
                    refine Z_if_ne (tgt := 103) C d_M_change_96 (by decide) (fun c96 => ?_) (fun c96 => ?_)
                    · exact absurd h0 c96 --stop
                    · skip
                      refine Z_iconst (v := 2) C d_M_change_99 (by decide) ?_
                      refine Z_goto (tgt := 113) C d_M_change_100 (by decide) ?_
                      refine R_put C w 0 (by decide) fl_M_124 rfl rfl rfl rfl rfl d_M_change_113 ?_
                      refine Z_aload_n C 2 d_M_change_116 rfl rfl ?_
                      refine R_get C w 0 (by decide) fl_M_124 rfl rfl d_M_change_117 ?_
                      refine Z_if_eq (tgt := 124) C d_M_change_120 (by decide) (fun c120 => ?_) (fun c120 => ?_)
                      · exact absurd c120 (by simp [u2, upd]) --stop
                      · skip
                        exact Z_vret C hN hr d_M_change_123 rfl (zeq (rfl))
                · exact absurd c66 (mIsR_ne hs5) --stop
            · skip
              refine Z_iload C 5 d_M_change_39 rfl ?_
              refine Z_sipush (v := 1000) C d_M_change_41 (by decide) ?_
              refine Z_icmp_gt (tgt := 51) C d_M_change_44 (by decide) (fun c44 => ?_) (fun c44 => ?_)
              · skip
                refine Z_iconst (v := 0) C d_M_change_51 (by decide) ?_
                refine Z_istore C d_M_change_52 (by decide) rfl ?_
                refine Z_aload_n C 2 d_M_change_54 rfl rfl ?_
                refine Z_iload_n C 3 d_M_change_55 rfl rfl ?_
                refine C_csv C ms_M_isRouter ml_M_128 (c_M_isRouter w _ _) rfl (by decide) rfl (Nat.le_of_ble_eq_true rfl) d_M_change_56 ?_
                refine Z_if_eq (tgt := 69) C d_M_change_59 (by decide) (fun c59 => ?_) (fun c59 => ?_)
                · exact absurd c59 (mIsR_ne hr5) --stop
                · skip
                  refine Z_iload_n C 4 d_M_change_62 rfl rfl ?_
                  refine C_csv C ms_M_isRouter ml_M_128 (c_M_isRouter w _ _) rfl (by decide) rfl (Nat.le_of_ble_eq_true rfl) d_M_change_63 ?_
                  refine Z_if_ne (tgt := 73) C d_M_change_66 (by decide) (fun c66 => ?_) (fun c66 => ?_)
                  · skip
                    refine Z_aload_n C 2 d_M_change_73 rfl rfl ?_
                    refine R_get C w 11 (by decide) fl_M_37 rfl rfl d_M_change_74 ?_
                    refine Z_iconst (v := 5) C d_M_change_77 (by decide) ?_
                    refine Z_iload_n C 3 d_M_change_78 rfl rfl ?_
                    refine Z_imul C d_M_change_79 ?_
                    refine Z_iload_n C 4 d_M_change_80 rfl rfl ?_
                    refine Z_iadd C d_M_change_81 ?_
                    refine R_zld 11 C w rfl rfl (5 * r + s) (by rw [ix5]; exact nI_clamp (by omega)) (by rw [ix5]; exact vp_in_nI (n := 5 * r + s) (N := 25) (by omega) (by decide)) d_M_change_82 ?_
                    refine Z_if_eq (tgt := 99) C d_M_change_83 (by decide) (fun c83 => ?_) (fun c83 => ?_)
                    · exact absurd c83 h --stop
                    · skip
                      refine Z_aload_n C 2 d_M_change_86 rfl rfl ?_
                      refine R_get C w 12 (by decide) fl_M_41 rfl rfl d_M_change_87 ?_
                      refine Z_iconst (v := 5) C d_M_change_90 (by decide) ?_
                      refine Z_iload_n C 3 d_M_change_91 rfl rfl ?_
                      refine Z_imul C d_M_change_92 ?_
                      refine Z_iload_n C 4 d_M_change_93 rfl rfl ?_
                      refine Z_iadd C d_M_change_94 ?_
                      refine R_ld 12 C w rfl rfl (5 * r + s) (by rw [ix5]; exact nI_clamp (by omega)) (by rw [ix5]; exact vp_in_nI (n := 5 * r + s) (N := 25) (by omega) (by decide)) d_M_change_95 ?_
                      refine Z_if_ne (tgt := 103) C d_M_change_96 (by decide) (fun c96 => ?_) (fun c96 => ?_)
                      · exact absurd h0 c96 --stop
                      · skip
                        refine Z_iconst (v := 2) C d_M_change_99 (by decide) ?_
                        refine Z_goto (tgt := 113) C d_M_change_100 (by decide) ?_
                        refine R_put C w 0 (by decide) fl_M_124 rfl rfl rfl rfl rfl d_M_change_113 ?_
                        refine Z_aload_n C 2 d_M_change_116 rfl rfl ?_
                        refine R_get C w 0 (by decide) fl_M_124 rfl rfl d_M_change_117 ?_
                        refine Z_if_eq (tgt := 124) C d_M_change_120 (by decide) (fun c120 => ?_) (fun c120 => ?_)
                        · exact absurd c120 (by simp [u2, upd]) --stop
                        · skip
                          exact Z_vret C hN hr d_M_change_123 rfl (zeq (rfl))
                  · exact absurd c66 (mIsR_ne hs5) --stop
              · skip
                refine Z_iconst (v := 1) C d_M_change_47 (by decide) ?_
                refine Z_goto (tgt := 52) C d_M_change_48 (by decide) ?_
                refine Z_istore C d_M_change_52 (by decide) rfl ?_
                refine Z_aload_n C 2 d_M_change_54 rfl rfl ?_
                refine Z_iload_n C 3 d_M_change_55 rfl rfl ?_
                refine C_csv C ms_M_isRouter ml_M_128 (c_M_isRouter w _ _) rfl (by decide) rfl (Nat.le_of_ble_eq_true rfl) d_M_change_56 ?_
                refine Z_if_eq (tgt := 69) C d_M_change_59 (by decide) (fun c59 => ?_) (fun c59 => ?_)
                · exact absurd c59 (mIsR_ne hr5) --stop
                · skip
                  refine Z_iload_n C 4 d_M_change_62 rfl rfl ?_
                  refine C_csv C ms_M_isRouter ml_M_128 (c_M_isRouter w _ _) rfl (by decide) rfl (Nat.le_of_ble_eq_true rfl) d_M_change_63 ?_
                  refine Z_if_ne (tgt := 73) C d_M_change_66 (by decide) (fun c66 => ?_) (fun c66 => ?_)
                  · skip
                    refine Z_aload_n C 2 d_M_change_73 rfl rfl ?_
                    refine R_get C w 11 (by decide) fl_M_37 rfl rfl d_M_change_74 ?_
                    refine Z_iconst (v := 5) C d_M_change_77 (by decide) ?_
                    refine Z_iload_n C 3 d_M_change_78 rfl rfl ?_
                    refine Z_imul C d_M_change_79 ?_
                    refine Z_iload_n C 4 d_M_change_80 rfl rfl ?_
                    refine Z_iadd C d_M_change_81 ?_
                    refine R_zld 11 C w rfl rfl (5 * r + s) (by rw [ix5]; exact nI_clamp (by omega)) (by rw [ix5]; exact vp_in_nI (n := 5 * r + s) (N := 25) (by omega) (by decide)) d_M_change_82 ?_
                    refine Z_if_eq (tgt := 99) C d_M_change_83 (by decide) (fun c83 => ?_) (fun c83 => ?_)
                    · exact absurd c83 h --stop
                    · skip
                      refine Z_aload_n C 2 d_M_change_86 rfl rfl ?_
                      refine R_get C w 12 (by decide) fl_M_41 rfl rfl d_M_change_87 ?_
                      refine Z_iconst (v := 5) C d_M_change_90 (by decide) ?_
                      refine Z_iload_n C 3 d_M_change_91 rfl rfl ?_
                      refine Z_imul C d_M_change_92 ?_
                      refine Z_iload_n C 4 d_M_change_93 rfl rfl ?_
                      refine Z_iadd C d_M_change_94 ?_
                      refine R_ld 12 C w rfl rfl (5 * r + s) (by rw [ix5]; exact nI_clamp (by omega)) (by rw [ix5]; exact vp_in_nI (n := 5 * r + s) (N := 25) (by omega) (by decide)) d_M_change_95 ?_
                      refine Z_if_ne (tgt := 103) C d_M_change_96 (by decide) (fun c96 => ?_) (fun c96 => ?_)
                      · exact absurd h0 c96 --stop
                      · skip
                        refine Z_iconst (v := 2) C d_M_change_99 (by decide) ?_
                        refine Z_goto (tgt := 113) C d_M_change_100 (by decide) ?_
                        refine R_put C w 0 (by decide) fl_M_124 rfl rfl rfl rfl rfl d_M_change_113 ?_
                        refine Z_aload_n C 2 d_M_change_116 rfl rfl ?_
                        refine R_get C w 0 (by decide) fl_M_124 rfl rfl d_M_change_117 ?_
                        refine Z_if_eq (tgt := 124) C d_M_change_120 (by decide) (fun c120 => ?_) (fun c120 => ?_)
                        · exact absurd c120 (by simp [u2, upd]) --stop
                        · skip
                          exact Z_vret C hN hr d_M_change_123 rfl (zeq (rfl))
                  · exact absurd c66 (mIsR_ne hs5) --stop
    · skip
      refine Z_iconst (v := 1) C d_M_change_9 (by decide) ?_
      refine Z_goto (tgt := 14) C d_M_change_10 (by decide) ?_
      refine Z_istore C d_M_change_14 (by decide) rfl ?_
      refine Z_iload C 0 d_M_change_16 rfl ?_
      refine Z_if_ne (tgt := 47) C d_M_change_18 (by decide) (fun c18 => ?_) (fun c18 => ?_)
      · skip
        refine Z_iconst (v := 1) C d_M_change_47 (by decide) ?_
        refine Z_goto (tgt := 52) C d_M_change_48 (by decide) ?_
        refine Z_istore C d_M_change_52 (by decide) rfl ?_
        refine Z_aload_n C 2 d_M_change_54 rfl rfl ?_
        refine Z_iload_n C 3 d_M_change_55 rfl rfl ?_
        refine C_csv C ms_M_isRouter ml_M_128 (c_M_isRouter w _ _) rfl (by decide) rfl (Nat.le_of_ble_eq_true rfl) d_M_change_56 ?_
        refine Z_if_eq (tgt := 69) C d_M_change_59 (by decide) (fun c59 => ?_) (fun c59 => ?_)
        · exact absurd c59 (mIsR_ne hr5) --stop
        · skip
          refine Z_iload_n C 4 d_M_change_62 rfl rfl ?_
          refine C_csv C ms_M_isRouter ml_M_128 (c_M_isRouter w _ _) rfl (by decide) rfl (Nat.le_of_ble_eq_true rfl) d_M_change_63 ?_
          refine Z_if_ne (tgt := 73) C d_M_change_66 (by decide) (fun c66 => ?_) (fun c66 => ?_)
          · skip
            refine Z_aload_n C 2 d_M_change_73 rfl rfl ?_
            refine R_get C w 11 (by decide) fl_M_37 rfl rfl d_M_change_74 ?_
            refine Z_iconst (v := 5) C d_M_change_77 (by decide) ?_
            refine Z_iload_n C 3 d_M_change_78 rfl rfl ?_
            refine Z_imul C d_M_change_79 ?_
            refine Z_iload_n C 4 d_M_change_80 rfl rfl ?_
            refine Z_iadd C d_M_change_81 ?_
            refine R_zld 11 C w rfl rfl (5 * r + s) (by rw [ix5]; exact nI_clamp (by omega)) (by rw [ix5]; exact vp_in_nI (n := 5 * r + s) (N := 25) (by omega) (by decide)) d_M_change_82 ?_
            refine Z_if_eq (tgt := 99) C d_M_change_83 (by decide) (fun c83 => ?_) (fun c83 => ?_)
            · exact absurd c83 h --stop
            · skip
              refine Z_aload_n C 2 d_M_change_86 rfl rfl ?_
              refine R_get C w 12 (by decide) fl_M_41 rfl rfl d_M_change_87 ?_
              refine Z_iconst (v := 5) C d_M_change_90 (by decide) ?_
              refine Z_iload_n C 3 d_M_change_91 rfl rfl ?_
              refine Z_imul C d_M_change_92 ?_
              refine Z_iload_n C 4 d_M_change_93 rfl rfl ?_
              refine Z_iadd C d_M_change_94 ?_
              refine R_ld 12 C w rfl rfl (5 * r + s) (by rw [ix5]; exact nI_clamp (by omega)) (by rw [ix5]; exact vp_in_nI (n := 5 * r + s) (N := 25) (by omega) (by decide)) d_M_change_95 ?_
              refine Z_if_ne (tgt := 103) C d_M_change_96 (by decide) (fun c96 => ?_) (fun c96 => ?_)
              · exact absurd h0 c96 --stop
              · skip
                refine Z_iconst (v := 2) C d_M_change_99 (by decide) ?_
                refine Z_goto (tgt := 113) C d_M_change_100 (by decide) ?_
                refine R_put C w 0 (by decide) fl_M_124 rfl rfl rfl rfl rfl d_M_change_113 ?_
                refine Z_aload_n C 2 d_M_change_116 rfl rfl ?_
                refine R_get C w 0 (by decide) fl_M_124 rfl rfl d_M_change_117 ?_
                refine Z_if_eq (tgt := 124) C d_M_change_120 (by decide) (fun c120 => ?_) (fun c120 => ?_)
                · exact absurd c120 (by simp [u2, upd]) --stop
                · skip
                  exact Z_vret C hN hr d_M_change_123 rfl (zeq (rfl))
          · exact absurd c66 (mIsR_ne hs5) --stop
      · exact absurd c18 (by decide)
