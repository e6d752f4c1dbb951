/-! calls that may throw, where they don't -/
theorem lIsR_1 {r : Nat} (h : r < 5) : lIsR (nI r) = 1 := by
  unfold lIsR
  rw [if_neg (nI_pos (by omega)), if_neg (show ¬ (5 : Int32) ≤ nI r from nI_ge (a := r) (b := 5) h (by omega))]
theorem lIsR_ne {r : Nat} (h : r < 5) : ¬ lIsR (nI r) = 0 := by rw [lIsR_1 h]; decide
def stS (σ : zS) (r : Nat) (b : Int32) : zS := if b = 0 then (rForget (gbS σ r).1 r, (gbS σ r).2.1, (gbS σ r).2.2) else (rForget σ.1 r, σ.2.1, σ.2.2)
def chM (M : zM) (r s : Nat) (tx rx : Int32) : zM := if tx = 0 ∧ rx = 0 then rw4 M 5 r s (sShut (M 5 r s)) else rw4 M 5 r s (sWant (M 5 r s) tx rx)
def ar1 (M : zM) (kind station hops address : Int32) : zM := up (up (up (up M 9 62 0 2 kind) 9 62 0 3 station) 9 62 0 6 hops) 9 62 0 5 address
def arS (σ : zS) (r : Nat) (kind station hops address : Int32) : zS := (up (heS (ar1 σ.1 kind station hops address, σ.2.1, σ.2.2) r 62).1 9 62 0 1 0, (heS (ar1 σ.1 kind station hops address, σ.2.1, σ.2.2) r 62).2.1, (heS (ar1 σ.1 kind station hops address, σ.2.1, σ.2.2) r 62).2.2)
theorem heR_n (M : zM) (i k : Nat) : narrow .boolean (.int (heR M i k)) = .int (heR M i k) := by
  unfold heR
  split
  · split
    · decide
    · decide
  · split
    · exact hpR_n M i k
    · decide
set_option maxRecDepth 100000 in
set_option maxHeartbeats 4000000 in
theorem c_L_start {l : Launch} {G : zG} {V : zV} (w : wC G V) (M : zM) (P : Nat → Nat) (D : Nat × Nat) (r : Nat) (hr5 : r < 5) (hI : Inv M P D) (h0 : M 2 r 0 4 = 0) : zF l y_L_start b_L_start 2 none 5 108 G [.ref (V.1 0 0 0), .int (nI r)] (eC V M P D) none (eC V (wkS (M, P, D) r).1 (wkS (M, P, D) r).2.1 (wkS (M, P, D) r).2.2) := by
  refine zF.ofZ (by decide) w.2.2.2.2 (Nat.le_of_ble_eq_true rfl) (fun X hXl hN hr C => ?_)
  subst hXl
  show Z X G (zA G) 2 _ (eC V M P D) 0 [(0, .ref (V.1 0 0 0)), (1, .int (nI r))] []
  refine Z_iload_n C 1 d_L_start_0 rfl rfl ?_
  refine C_csv C ms_L_isRouter ml_L_32 (c_L_isRouter w _ _ _ _) rfl (by decide) rfl (Nat.le_of_ble_eq_true rfl) d_L_start_1 ?_
  refine Z_if_ne (tgt := 17) C d_L_start_4 (by decide) (fun c4 => ?_) (fun c4 => ?_)
  · skip
    refine Z_aload_n C 0 d_L_start_17 rfl rfl ?_
    refine C_gL C w 1 (by decide) fl_L_21 rfl rfl d_L_start_18 ?_
    refine Z_iload_n C 1 d_L_start_21 rfl rfl ?_
    refine C_ldQ C w r (nI_clamp (by omega)) (vp_in_nI (by omega) (by decide)) d_L_start_22 ?_
    refine C_gR C w (by assumption) 4 (by decide) fl_L_60 rfl rfl d_L_start_23 ?_
    refine Z_if_eq (tgt := 39) C d_L_start_26 (by decide) (fun c26 => ?_) (fun c26 => ?_)
    · skip
      refine Z_aload_n C 0 d_L_start_39 rfl rfl ?_
      refine C_gL C w 1 (by decide) fl_L_21 rfl rfl d_L_start_40 ?_
      refine Z_iload_n C 1 d_L_start_43 rfl rfl ?_
      refine C_ldQ C w r (nI_clamp (by omega)) (vp_in_nI (by omega) (by decide)) d_L_start_44 ?_
      refine C_cRn C w (by assumption) mi_R_wake ml_L_69 (c_R_wake w _ _ _ _ (by assumption) (by assumption)) rfl rfl (by decide) rfl (Nat.le_of_ble_eq_true rfl) d_L_start_45 ?_
      exact Z_vret C hN hr d_L_start_48 rfl (zeq (rfl))
    · exact absurd h0 c26 --stop
  · exact absurd c4 (lIsR_ne hr5) --stop
set_option maxRecDepth 100000 in
set_option maxHeartbeats 4000000 in
theorem c_L_stop {l : Launch} {G : zG} {V : zV} (w : wC G V) (M : zM) (P : Nat → Nat) (D : Nat × Nat) (r : Nat) (hr5 : r < 5) (hI : Inv M P D) (h0 : ¬ M 2 r 0 4 = 0) (b : Int32) : zF l y_L_stop b_L_stop 3 none 4 87 G [.ref (V.1 0 0 0), .int (nI r), .int b] (eC V M P D) none (eC V (stS (M, P, D) r b).1 (stS (M, P, D) r b).2.1 (stS (M, P, D) r b).2.2) := by
  refine zF.ofZ (by decide) w.2.2.2.2 (Nat.le_of_ble_eq_true rfl) (fun X hXl hN hr C => ?_)
  subst hXl
  show Z X G (zA G) 3 _ (eC V M P D) 0 [(0, .ref (V.1 0 0 0)), (1, .int (nI r)), (2, .int b)] []
  refine Z_iload_n C 1 d_L_stop_0 rfl rfl ?_
  refine C_csv C ms_L_isRouter ml_L_32 (c_L_isRouter w _ _ _ _) rfl (by decide) rfl (Nat.le_of_ble_eq_true rfl) d_L_stop_1 ?_
  refine Z_if_ne (tgt := 17) C d_L_stop_4 (by decide) (fun c4 => ?_) (fun c4 => ?_)
  · skip
    refine Z_aload_n C 0 d_L_stop_17 rfl rfl ?_
    refine C_gL C w 1 (by decide) fl_L_21 rfl rfl d_L_stop_18 ?_
    refine Z_iload_n C 1 d_L_stop_21 rfl rfl ?_
    refine C_ldQ C w r (nI_clamp (by omega)) (vp_in_nI (by omega) (by decide)) d_L_stop_22 ?_
    refine C_gR C w (by assumption) 4 (by decide) fl_L_60 rfl rfl d_L_stop_23 ?_
    refine Z_if_ne (tgt := 39) C d_L_stop_26 (by decide) (fun c26 => ?_) (fun c26 => ?_)
    · skip
      refine Z_iload_n C 2 d_L_stop_39 rfl rfl ?_
      refine Z_if_ne (tgt := 52) C d_L_stop_40 (by decide) (fun c40 => ?_) (fun c40 => ?_)
      · skip
        refine Z_aload_n C 0 d_L_stop_52 rfl rfl ?_
        refine C_gL C w 1 (by decide) fl_L_21 rfl rfl d_L_stop_53 ?_
        refine Z_iload_n C 1 d_L_stop_56 rfl rfl ?_
        refine C_ldQ C w r (nI_clamp (by omega)) (vp_in_nI (by omega) (by decide)) d_L_stop_57 ?_
        refine C_cRn C w (by assumption) mi_R_forgetAll ml_L_77 (c_R_forgetAll w _ _ _ _ (by assumption)) rfl rfl (by decide) rfl (Nat.le_of_ble_eq_true rfl) d_L_stop_58 ?_
        exact Z_vret C hN hr d_L_stop_61 rfl (zeq (by unfold stS; first | (rw [if_pos c40]; done) | (rw [if_neg c40]; done)))
      · skip
        refine Z_aload_n C 0 d_L_stop_43 rfl rfl ?_
        refine C_gL C w 1 (by decide) fl_L_21 rfl rfl d_L_stop_44 ?_
        refine Z_iload_n C 1 d_L_stop_47 rfl rfl ?_
        refine C_ldQ C w r (nI_clamp (by omega)) (vp_in_nI (by omega) (by decide)) d_L_stop_48 ?_
        refine C_cRn C w (by assumption) mi_R_sayGoodbye ml_L_74 (c_R_sayGoodbye w _ _ _ _ (by assumption) (by assumption)) rfl rfl (by decide) rfl (Nat.le_of_ble_eq_true rfl) d_L_stop_49 ?_
        refine Z_aload_n C 0 d_L_stop_52 rfl rfl ?_
        refine C_gL C w 1 (by decide) fl_L_21 rfl rfl d_L_stop_53 ?_
        refine Z_iload_n C 1 d_L_stop_56 rfl rfl ?_
        refine C_ldQ C w r (nI_clamp (by omega)) (vp_in_nI (by omega) (by decide)) d_L_stop_57 ?_
        refine C_cRn C w (by assumption) mi_R_forgetAll ml_L_77 (c_R_forgetAll w _ _ _ _ (by assumption)) rfl rfl (by decide) rfl (Nat.le_of_ble_eq_true rfl) d_L_stop_58 ?_
        exact Z_vret C hN hr d_L_stop_61 rfl (zeq (by unfold stS; first | (rw [if_pos c40]; done) | (rw [if_neg c40]; done)))
    · exact absurd c26 h0 --stop
  · exact absurd c4 (lIsR_ne hr5) --stop
set_option maxRecDepth 100000 in
set_option maxHeartbeats 4000000 in
theorem c_L_ask {l : Launch} {G : zG} {V : zV} (w : wC G V) (M : zM) (P : Nat → Nat) (D : Nat × Nat) (r : Nat) (hr5 : r < 5) (hI : Inv M P D) (h0 : ¬ M 2 r 0 4 = 0) : zF l y_L_ask b_L_ask 2 none 3 68 G [.ref (V.1 0 0 0), .int (nI r)] (eC V M P D) none (eC V (seS (M, P, D) r 3 r 15).1 (seS (M, P, D) r 3 r 15).2.1 (seS (M, P, D) r 3 r 15).2.2) := by
  refine zF.ofZ (by decide) w.2.2.2.2 (Nat.le_of_ble_eq_true rfl) (fun X hXl hN hr C => ?_)
  subst hXl
  show Z X G (zA G) 2 _ (eC V M P D) 0 [(0, .ref (V.1 0 0 0)), (1, .int (nI r))] []
  refine Z_iload_n C 1 d_L_ask_0 rfl rfl ?_
  refine C_csv C ms_L_isRouter ml_L_32 (c_L_isRouter w _ _ _ _) rfl (by decide) rfl (Nat.le_of_ble_eq_true rfl) d_L_ask_1 ?_
  refine Z_if_ne (tgt := 17) C d_L_ask_4 (by decide) (fun c4 => ?_) (fun c4 => ?_)
  · skip
    refine Z_aload_n C 0 d_L_ask_17 rfl rfl ?_
    refine C_gL C w 1 (by decide) fl_L_21 rfl rfl d_L_ask_18 ?_
    refine Z_iload_n C 1 d_L_ask_21 rfl rfl ?_
    refine C_ldQ C w r (nI_clamp (by omega)) (vp_in_nI (by omega) (by decide)) d_L_ask_22 ?_
    refine C_gR C w (by assumption) 4 (by decide) fl_L_60 rfl rfl d_L_ask_23 ?_
    refine Z_if_ne (tgt := 39) C d_L_ask_26 (by decide) (fun c26 => ?_) (fun c26 => ?_)
    · skip
      refine Z_aload_n C 0 d_L_ask_39 rfl rfl ?_
      refine C_gL C w 1 (by decide) fl_L_21 rfl rfl d_L_ask_40 ?_
      refine Z_iload_n C 1 d_L_ask_43 rfl rfl ?_
      refine C_ldQ C w r (nI_clamp (by omega)) (vp_in_nI (by omega) (by decide)) d_L_ask_44 ?_
      refine Z_iconst (v := 3) C d_L_ask_45 (by decide) ?_
      refine Z_iload_n C 1 d_L_ask_46 rfl rfl ?_
      refine Z_bipush (v := 15) C d_L_ask_47 (by decide) ?_
      refine C_cRn C w (by assumption) mi_R_sendEmpty ml_L_113 (c_R_sendEmpty w _ _ _ r hr5 3 r 15 (by omega) hI) rfl rfl (by decide) rfl (Nat.le_of_ble_eq_true rfl) d_L_ask_49 ?_
      exact Z_vret C hN hr d_L_ask_52 rfl (zeq (rfl))
    · exact absurd c26 h0 --stop
  · exact absurd c4 (lIsR_ne hr5) --stop
set_option maxRecDepth 100000 in
set_option maxHeartbeats 4000000 in
theorem c_L_open {l : Launch} {G : zG} {V : zV} (w : wC G V) (M : zM) (P : Nat → Nat) (D : Nat × Nat) (r : Nat) (hr5 : r < 5) (s : Nat) (hs5 : s < 5) (hrs : ¬ s = r) (h0 : ¬ M 2 r 0 4 = 0) (tx rx m : Int32) (htx : ¬ lRate tx = 0) (hrx : ¬ lRate rx = 0) (hm1 : ¬ m < 1) (hm2 : m ≤ 255) : zF l y_L_open b_L_open 6 none 4 85 G [.ref (V.1 0 0 0), .int (nI r), .int (nI s), .int tx, .int rx, .int m] (eC V M P D) none (eC V (rw4 M 5 r s (sBegin (M 5 r s) tx rx m)) P D) := by
  refine zF.ofZ (by decide) w.2.2.2.2 (Nat.le_of_ble_eq_true rfl) (fun X hXl hN hr C => ?_)
  subst hXl
  show Z X G (zA G) 6 _ (eC V M P D) 0 [(0, .ref (V.1 0 0 0)), (1, .int (nI r)), (2, .int (nI s)), (3, .int tx), (4, .int rx), (5, .int m)] []
  refine Z_iload_n C 1 d_L_open_0 rfl rfl ?_
  refine C_csv C ms_L_isRouter ml_L_32 (c_L_isRouter w _ _ _ _) rfl (by decide) rfl (Nat.le_of_ble_eq_true rfl) d_L_open_1 ?_
  refine Z_if_eq (tgt := 19) C d_L_open_4 (by decide) (fun c4 => ?_) (fun c4 => ?_)
  · exact absurd c4 (lIsR_ne hr5) --stop
  · skip
    refine Z_iload_n C 2 d_L_open_7 rfl rfl ?_
    refine C_csv C ms_L_isRouter ml_L_32 (c_L_isRouter w _ _ _ _) rfl (by decide) rfl (Nat.le_of_ble_eq_true rfl) d_L_open_8 ?_
    refine Z_if_eq (tgt := 19) C d_L_open_11 (by decide) (fun c11 => ?_) (fun c11 => ?_)
    · exact absurd c11 (lIsR_ne hs5) --stop
    · skip
      refine Z_iload_n C 2 d_L_open_14 rfl rfl ?_
      refine Z_iload_n C 1 d_L_open_15 rfl rfl ?_
      refine Z_icmp_ne (tgt := 29) C d_L_open_16 (by decide) (fun c16 => ?_) (fun c16 => ?_)
      · skip
        refine Z_aload_n C 0 d_L_open_29 rfl rfl ?_
        refine C_gL C w 1 (by decide) fl_L_21 rfl rfl d_L_open_30 ?_
        refine Z_iload_n C 1 d_L_open_33 rfl rfl ?_
        refine C_ldQ C w r (nI_clamp (by omega)) (vp_in_nI (by omega) (by decide)) d_L_open_34 ?_
        refine C_gR C w (by assumption) 4 (by decide) fl_L_60 rfl rfl d_L_open_35 ?_
        refine Z_if_ne (tgt := 51) C d_L_open_38 (by decide) (fun c38 => ?_) (fun c38 => ?_)
        · skip
          refine Z_iload_n C 3 d_L_open_51 rfl rfl ?_
          refine C_csv C ms_L_isRate ml_L_82 (c_L_isRate w _ _ _ _) rfl (by decide) rfl (Nat.le_of_ble_eq_true rfl) d_L_open_52 ?_
          refine Z_if_eq (tgt := 80) C d_L_open_55 (by decide) (fun c55 => ?_) (fun c55 => ?_)
          · exact absurd c55 htx --stop
          · skip
            refine Z_iload C 4 d_L_open_58 rfl ?_
            refine C_csv C ms_L_isRate ml_L_82 (c_L_isRate w _ _ _ _) rfl (by decide) rfl (Nat.le_of_ble_eq_true rfl) d_L_open_60 ?_
            refine Z_if_eq (tgt := 80) C d_L_open_63 (by decide) (fun c63 => ?_) (fun c63 => ?_)
            · exact absurd c63 hrx --stop
            · skip
              refine Z_iload C 5 d_L_open_66 rfl ?_
              refine Z_iconst (v := 1) C d_L_open_68 (by decide) ?_
              refine Z_icmp_lt (tgt := 80) C d_L_open_69 (by decide) (fun c69 => ?_) (fun c69 => ?_)
              · exact absurd c69 hm1 --stop
              · skip
                refine Z_iload C 5 d_L_open_72 rfl ?_
                refine Z_sipush (v := 255) C d_L_open_74 (by decide) ?_
                refine Z_icmp_le (tgt := 90) C d_L_open_77 (by decide) (fun c77 => ?_) (fun c77 => ?_)
                · skip
                  refine Z_aload_n C 0 d_L_open_90 rfl rfl ?_
                  refine C_gL C w 1 (by decide) fl_L_21 rfl rfl d_L_open_91 ?_
                  refine Z_iload_n C 1 d_L_open_94 rfl rfl ?_
                  refine C_ldQ C w r (nI_clamp (by omega)) (vp_in_nI (by omega) (by decide)) d_L_open_95 ?_
                  refine C_gR C w (by assumption) 3 (by decide) fl_L_87 rfl rfl d_L_open_96 ?_
                  refine Z_iload_n C 2 d_L_open_99 rfl rfl ?_
                  refine C_ldX C w (by assumption) s (nI_clamp (by omega)) (vp_in_nI (by omega) (by decide)) d_L_open_100 ?_
                  refine Z_iload_n C 3 d_L_open_101 rfl rfl ?_
                  refine Z_iload C 4 d_L_open_102 rfl ?_
                  refine Z_iload C 5 d_L_open_104 rfl ?_
                  refine C_cSn C w (by assumption) (by assumption) mi_S_begin ml_L_91 (c_S_begin w _ _ _ _ _ (by assumption) (by assumption) _ _ _) rfl rfl (by decide) rfl (Nat.le_of_ble_eq_true rfl) d_L_open_106 ?_
                  exact Z_vret C hN hr d_L_open_109 rfl (zeq (rfl))
                · exact absurd hm2 c77 --stop
        · exact absurd c38 h0 --stop
      · exact absurd ((nI_eq (by omega) (by omega)).mp c16) hrs --stop
set_option maxRecDepth 100000 in
set_option maxHeartbeats 4000000 in
theorem c_L_change {l : Launch} {G : zG} {V : zV} (w : wC G V) (M : zM) (P : Nat → Nat) (D : Nat × Nat) (r : Nat) (hr5 : r < 5) (s : Nat) (hs5 : s < 5) (h0 : ¬ M 5 r s 2 = 0) (h1 : ¬ M 5 r s 3 = 0) (tx rx : Int32) (hok : (tx = 0 ∧ rx = 0) ∨ (¬ lRate tx = 0 ∧ ¬ lRate rx = 0)) : zF l y_L_change b_L_change 7 none 5 105 G [.ref (V.1 0 0 0), .int (nI r), .int (nI s), .int tx, .int rx] (eC V M P D) none (eC V (chM M r s tx rx) P D) := by
  refine zF.ofZ (by decide) w.2.2.2.2 (Nat.le_of_ble_eq_true rfl) (fun X hXl hN hr C => ?_)
  subst hXl
  show Z X G (zA G) 7 _ (eC V M P D) 0 [(0, .ref (V.1 0 0 0)), (1, .int (nI r)), (2, .int (nI s)), (3, .int tx), (4, .int rx)] []
  refine Z_iload_n C 1 d_L_change_0 rfl rfl ?_
  refine C_csv C ms_L_isRouter ml_L_32 (c_L_isRouter w _ _ _ _) rfl (by decide) rfl (Nat.le_of_ble_eq_true rfl) d_L_change_1 ?_
  refine Z_if_eq (tgt := 14) C d_L_change_4 (by decide) (fun c4 => ?_) (fun c4 => ?_)
  · exact absurd c4 (lIsR_ne hr5) --stop
  · skip
    refine Z_iload_n C 2 d_L_change_7 rfl rfl ?_
    refine C_csv C ms_L_isRouter ml_L_32 (c_L_isRouter w _ _ _ _) rfl (by decide) rfl (Nat.le_of_ble_eq_true rfl) d_L_change_8 ?_
    refine Z_if_ne (tgt := 24) C d_L_change_11 (by decide) (fun c11 => ?_) (fun c11 => ?_)
    · skip
      refine Z_aload_n C 0 d_L_change_24 rfl rfl ?_
      refine C_gL C w 1 (by decide) fl_L_21 rfl rfl d_L_change_25 ?_
      refine Z_iload_n C 1 d_L_change_28 rfl rfl ?_
      refine C_ldQ C w r (nI_clamp (by omega)) (vp_in_nI (by omega) (by decide)) d_L_change_29 ?_
      refine C_gR C w (by assumption) 3 (by decide) fl_L_87 rfl rfl d_L_change_30 ?_
      refine Z_iload_n C 2 d_L_change_33 rfl rfl ?_
      refine C_ldX C w (by assumption) s (nI_clamp (by omega)) (vp_in_nI (by omega) (by decide)) d_L_change_34 ?_
      refine Z_astore C d_L_change_35 (by decide) rfl ?_
      refine Z_aload C 0 d_L_change_37 rfl ?_
      refine C_gS C w (by assumption) (by assumption) 2 (by decide) fl_L_97 rfl rfl d_L_change_39 ?_
      refine Z_if_eq (tgt := 53) C d_L_change_42 (by decide) (fun c42 => ?_) (fun c42 => ?_)
      · exact absurd c42 h0 --stop
      · skip
        refine Z_aload C 0 d_L_change_45 rfl ?_
        refine C_gS C w (by assumption) (by assumption) 3 (by decide) fl_L_101 rfl rfl d_L_change_47 ?_
        refine Z_if_ne (tgt := 63) C d_L_change_50 (by decide) (fun c50 => ?_) (fun c50 => ?_)
        · skip
          refine Z_iload_n C 4 d_L_change_63 rfl rfl ?_
          refine Z_if_ne (tgt := 76) C d_L_change_64 (by decide) (fun c64 => ?_) (fun c64 => ?_)
          · skip
            refine Z_iconst (v := 0) C d_L_change_76 (by decide) ?_
            refine Z_istore C d_L_change_77 (by decide) rfl ?_
            refine Z_iload C 0 d_L_change_79 rfl ?_
            refine Z_if_ne (tgt := 109) C d_L_change_81 (by decide) (fun c81 => ?_) (fun c81 => ?_)
            · exact absurd rfl c81
            · skip
              refine Z_iload_n C 5 d_L_change_84 rfl rfl ?_
              refine C_csv C ms_L_isRate ml_L_82 (c_L_isRate w _ _ _ _) rfl (by decide) rfl (Nat.le_of_ble_eq_true rfl) d_L_change_85 ?_
              refine Z_if_eq (tgt := 99) C d_L_change_88 (by decide) (fun c88 => ?_) (fun c88 => ?_)
              · exact absurd c88 (hok.resolve_left (by intro z; first | exact c64 z.1 | exact c69 z.2)).1 --stop
              · skip
                refine Z_iload C 6 d_L_change_91 rfl ?_
                refine C_csv C ms_L_isRate ml_L_82 (c_L_isRate w _ _ _ _) rfl (by decide) rfl (Nat.le_of_ble_eq_true rfl) d_L_change_93 ?_
                refine Z_if_ne (tgt := 109) C d_L_change_96 (by decide) (fun c96 => ?_) (fun c96 => ?_)
                · skip
                  refine Z_iload C 0 d_L_change_109 rfl ?_
                  refine Z_if_eq (tgt := 122) C d_L_change_111 (by decide) (fun c111 => ?_) (fun c111 => ?_)
                  · skip
                    refine Z_aload C 1 d_L_change_122 rfl ?_
                    refine Z_iload_n C 5 d_L_change_124 rfl rfl ?_
                    refine Z_iload C 6 d_L_change_125 rfl ?_
                    refine C_cSn C w (by assumption) (by assumption) mi_S_wantRates ml_L_109 (c_S_wantRates w _ _ _ _ _ (by assumption) (by assumption) _ _) rfl rfl (by decide) rfl (Nat.le_of_ble_eq_true rfl) d_L_change_127 ?_
                    exact Z_vret C hN hr d_L_change_130 rfl (zeq (by apply eC_M; unfold chM; first | (rw [if_pos ⟨c64, c69⟩]; done) | (rw [if_neg (fun z => c64 z.1)]; done) | (rw [if_neg (fun z => c69 z.2)]; done)))
                  · exact absurd rfl c111
                · exact absurd c96 (hok.resolve_left (by intro z; first | exact c64 z.1 | exact c69 z.2)).2 --stop
          · skip
            refine Z_iload C 5 d_L_change_67 rfl ?_
            refine Z_if_ne (tgt := 76) C d_L_change_69 (by decide) (fun c69 => ?_) (fun c69 => ?_)
            · skip
              refine Z_iconst (v := 0) C d_L_change_76 (by decide) ?_
              refine Z_istore C d_L_change_77 (by decide) rfl ?_
              refine Z_iload C 0 d_L_change_79 rfl ?_
              refine Z_if_ne (tgt := 109) C d_L_change_81 (by decide) (fun c81 => ?_) (fun c81 => ?_)
              · exact absurd rfl c81
              · skip
                refine Z_iload_n C 5 d_L_change_84 rfl rfl ?_
                refine C_csv C ms_L_isRate ml_L_82 (c_L_isRate w _ _ _ _) rfl (by decide) rfl (Nat.le_of_ble_eq_true rfl) d_L_change_85 ?_
                refine Z_if_eq (tgt := 99) C d_L_change_88 (by decide) (fun c88 => ?_) (fun c88 => ?_)
                · exact absurd c88 (hok.resolve_left (by intro z; first | exact c64 z.1 | exact c69 z.2)).1 --stop
                · skip
                  refine Z_iload C 6 d_L_change_91 rfl ?_
                  refine C_csv C ms_L_isRate ml_L_82 (c_L_isRate w _ _ _ _) rfl (by decide) rfl (Nat.le_of_ble_eq_true rfl) d_L_change_93 ?_
                  refine Z_if_ne (tgt := 109) C d_L_change_96 (by decide) (fun c96 => ?_) (fun c96 => ?_)
                  · skip
                    refine Z_iload C 0 d_L_change_109 rfl ?_
                    refine Z_if_eq (tgt := 122) C d_L_change_111 (by decide) (fun c111 => ?_) (fun c111 => ?_)
                    · skip
                      refine Z_aload C 1 d_L_change_122 rfl ?_
                      refine Z_iload_n C 5 d_L_change_124 rfl rfl ?_
                      refine Z_iload C 6 d_L_change_125 rfl ?_
                      refine C_cSn C w (by assumption) (by assumption) mi_S_wantRates ml_L_109 (c_S_wantRates w _ _ _ _ _ (by assumption) (by assumption) _ _) rfl rfl (by decide) rfl (Nat.le_of_ble_eq_true rfl) d_L_change_127 ?_
                      exact Z_vret C hN hr d_L_change_130 rfl (zeq (by apply eC_M; unfold chM; first | (rw [if_pos ⟨c64, c69⟩]; done) | (rw [if_neg (fun z => c64 z.1)]; done) | (rw [if_neg (fun z => c69 z.2)]; done)))
                    · exact absurd rfl c111
                  · exact absurd c96 (hok.resolve_left (by intro z; first | exact c64 z.1 | exact c69 z.2)).2 --stop
            · skip
              refine Z_iconst (v := 1) C d_L_change_72 (by decide) ?_
              refine Z_goto (tgt := 77) C d_L_change_73 (by decide) ?_
              refine Z_istore C d_L_change_77 (by decide) rfl ?_
              refine Z_iload C 0 d_L_change_79 rfl ?_
              refine Z_if_ne (tgt := 109) C d_L_change_81 (by decide) (fun c81 => ?_) (fun c81 => ?_)
              · skip
                refine Z_iload C 0 d_L_change_109 rfl ?_
                refine Z_if_eq (tgt := 122) C d_L_change_111 (by decide) (fun c111 => ?_) (fun c111 => ?_)
                · exact absurd c111 (by decide)
                · skip
                  refine Z_aload C 1 d_L_change_114 rfl ?_
                  refine C_cSn C w (by assumption) (by assumption) mi_S_shut ml_L_106 (c_S_shut w _ _ _ _ _ (by assumption) (by assumption)) rfl rfl (by decide) rfl (Nat.le_of_ble_eq_true rfl) d_L_change_116 ?_
                  refine Z_goto (tgt := 130) C d_L_change_119 (by decide) ?_
                  exact Z_vret C hN hr d_L_change_130 rfl (zeq (by apply eC_M; unfold chM; first | (rw [if_pos ⟨c64, c69⟩]; done) | (rw [if_neg (fun z => c64 z.1)]; done) | (rw [if_neg (fun z => c69 z.2)]; done)))
              · exact absurd c81 (by decide)
        · exact absurd c50 h1 --stop
    · exact absurd c11 (lIsR_ne hs5) --stop
set_option maxRecDepth 100000 in
set_option maxHeartbeats 4000000 in
theorem c_L_arrive {l : Launch} {G : zG} {V : zV} (w : wC G V) (M : zM) (P : Nat → Nat) (D : Nat × Nat) (r : Nat) (hr5 : r < 5) (hI : Inv M P D) (h0 : ¬ M 2 r 0 4 = 0) (kind station hops address : Int32) (hk : kind = 1 ∨ kind = 2) (hs1 : ¬ station < 0) (hs2 : ¬ 15 ≤ station) (hh1 : ¬ hops < 0) (hh2 : hops ≤ 255) : zF l y_L_arrive b_L_arrive 7 (some .boolean) 6 127 G [.ref (V.1 0 0 0), .int (nI r), .int kind, .int station, .int hops, .int address] (eC V M P D) (some (.int (heR (ar1 M kind station hops address) r 62))) (eC V (arS (M, P, D) r kind station hops address).1 (arS (M, P, D) r kind station hops address).2.1 (arS (M, P, D) r kind station hops address).2.2) := by
  refine zF.ofZ (by decide) w.2.2.2.2 (Nat.le_of_ble_eq_true rfl) (fun X hXl hN hr C => ?_)
  subst hXl
  show Z X G (zA G) 7 _ (eC V M P D) 0 [(0, .ref (V.1 0 0 0)), (1, .int (nI r)), (2, .int kind), (3, .int station), (4, .int hops), (5, .int address)] []
  have h62 : 62 < 63 := by decide
  refine Z_iload_n C 1 d_L_arrive_0 rfl rfl ?_
  refine C_csv C ms_L_isRouter ml_L_32 (c_L_isRouter w _ _ _ _) rfl (by decide) rfl (Nat.le_of_ble_eq_true rfl) d_L_arrive_1 ?_
  refine Z_if_ne (tgt := 17) C d_L_arrive_4 (by decide) (fun c4 => ?_) (fun c4 => ?_)
  · skip
    refine Z_iload_n C 2 d_L_arrive_17 rfl rfl ?_
    refine Z_iconst (v := 1) C d_L_arrive_18 (by decide) ?_
    refine Z_icmp_eq (tgt := 27) C d_L_arrive_19 (by decide) (fun c19 => ?_) (fun c19 => ?_)
    · skip
      refine Z_iload_n C 3 d_L_arrive_27 rfl rfl ?_
      refine Z_if_lt (tgt := 50) C d_L_arrive_28 (by decide) (fun c28 => ?_) (fun c28 => ?_)
      · exact absurd c28 hs1 --stop
      · skip
        refine Z_iload_n C 3 d_L_arrive_31 rfl rfl ?_
        refine Z_bipush (v := 15) C d_L_arrive_32 (by decide) ?_
        refine Z_icmp_ge (tgt := 50) C d_L_arrive_34 (by decide) (fun c34 => ?_) (fun c34 => ?_)
        · exact absurd c34 hs2 --stop
        · skip
          refine Z_iload C 4 d_L_arrive_37 rfl ?_
          refine Z_if_lt (tgt := 50) C d_L_arrive_39 (by decide) (fun c39 => ?_) (fun c39 => ?_)
          · exact absurd c39 hh1 --stop
          · skip
            refine Z_iload C 4 d_L_arrive_42 rfl ?_
            refine Z_sipush (v := 255) C d_L_arrive_44 (by decide) ?_
            refine Z_icmp_le (tgt := 60) C d_L_arrive_47 (by decide) (fun c47 => ?_) (fun c47 => ?_)
            · skip
              refine Z_aload_n C 0 d_L_arrive_60 rfl rfl ?_
              refine C_gL C w 1 (by decide) fl_L_21 rfl rfl d_L_arrive_61 ?_
              refine Z_iload_n C 1 d_L_arrive_64 rfl rfl ?_
              refine C_ldQ C w r (nI_clamp (by omega)) (vp_in_nI (by omega) (by decide)) d_L_arrive_65 ?_
              refine C_gR C w (by assumption) 4 (by decide) fl_L_60 rfl rfl d_L_arrive_66 ?_
              refine Z_if_ne (tgt := 82) C d_L_arrive_69 (by decide) (fun c69 => ?_) (fun c69 => ?_)
              · skip
                refine Z_aload_n C 0 d_L_arrive_82 rfl rfl ?_
                refine C_gL C w 2 (by decide) fl_L_28 rfl rfl d_L_arrive_83 ?_
                refine Z_iload_n C 2 d_L_arrive_86 rfl rfl ?_
                refine C_pF C w (by assumption) 2 (by decide) fl_L_145 rfl rfl rfl rfl rfl d_L_arrive_87 ?_
                refine Z_aload_n C 0 d_L_arrive_90 rfl rfl ?_
                refine C_gL C w 2 (by decide) fl_L_28 rfl rfl d_L_arrive_91 ?_
                refine Z_iload_n C 3 d_L_arrive_94 rfl rfl ?_
                refine C_pF C w (by assumption) 3 (by decide) fl_L_148 rfl rfl rfl rfl rfl d_L_arrive_95 ?_
                refine Z_aload_n C 0 d_L_arrive_98 rfl rfl ?_
                refine C_gL C w 2 (by decide) fl_L_28 rfl rfl d_L_arrive_99 ?_
                refine Z_iload C 4 d_L_arrive_102 rfl ?_
                refine C_pF C w (by assumption) 6 (by decide) fl_L_151 rfl rfl rfl rfl rfl d_L_arrive_104 ?_
                refine Z_aload_n C 0 d_L_arrive_107 rfl rfl ?_
                refine C_gL C w 2 (by decide) fl_L_28 rfl rfl d_L_arrive_108 ?_
                refine Z_iload C 5 d_L_arrive_111 rfl ?_
                refine C_pF C w (by assumption) 5 (by decide) fl_L_154 rfl rfl rfl rfl rfl d_L_arrive_113 ?_
                refine Z_aload_n C 0 d_L_arrive_116 rfl rfl ?_
                refine C_gL C w 1 (by decide) fl_L_21 rfl rfl d_L_arrive_117 ?_
                refine Z_iload_n C 1 d_L_arrive_120 rfl rfl ?_
                refine C_ldQ C w r (nI_clamp (by omega)) (vp_in_nI (by omega) (by decide)) d_L_arrive_121 ?_
                refine Z_aload_n C 0 d_L_arrive_122 rfl rfl ?_
                refine C_gL C w 2 (by decide) fl_L_28 rfl rfl d_L_arrive_123 ?_
                refine C_cRv C w (by assumption) mi_R_hear ml_L_157 (c_R_hear w (ar1 M kind station hops address) _ _ r hr5 62 h62 (hI.of rfl)) rfl rfl (by decide) rfl (Nat.le_of_ble_eq_true rfl) d_L_arrive_126 ?_
                refine Z_istore C d_L_arrive_129 (by decide) rfl ?_
                refine Z_aload_n C 1 d_L_arrive_131 rfl rfl ?_
                refine C_gL C w 2 (by decide) fl_L_28 rfl rfl d_L_arrive_132 ?_
                refine Z_iconst (v := 0) C d_L_arrive_135 (by decide) ?_
                refine C_pF C w (by assumption) 1 (by decide) fl_L_136 rfl rfl rfl rfl rfl d_L_arrive_136 ?_
                refine Z_iload C 0 d_L_arrive_139 rfl ?_
                exact Z_zret C hN hr (heR_n _ _ _) d_L_arrive_141 (rfl) (zeq (rfl))
              · exact absurd c69 h0 --stop
            · exact absurd hh2 c47 --stop
    · skip
      refine Z_iload_n C 2 d_L_arrive_22 rfl rfl ?_
      refine Z_iconst (v := 2) C d_L_arrive_23 (by decide) ?_
      refine Z_icmp_ne (tgt := 50) C d_L_arrive_24 (by decide) (fun c24 => ?_) (fun c24 => ?_)
      · exact absurd (hk.resolve_left c19) c24 --stop
      · skip
        refine Z_iload_n C 3 d_L_arrive_27 rfl rfl ?_
        refine Z_if_lt (tgt := 50) C d_L_arrive_28 (by decide) (fun c28 => ?_) (fun c28 => ?_)
        · exact absurd c28 hs1 --stop
        · skip
          refine Z_iload_n C 3 d_L_arrive_31 rfl rfl ?_
          refine Z_bipush (v := 15) C d_L_arrive_32 (by decide) ?_
          refine Z_icmp_ge (tgt := 50) C d_L_arrive_34 (by decide) (fun c34 => ?_) (fun c34 => ?_)
          · exact absurd c34 hs2 --stop
          · skip
            refine Z_iload C 4 d_L_arrive_37 rfl ?_
            refine Z_if_lt (tgt := 50) C d_L_arrive_39 (by decide) (fun c39 => ?_) (fun c39 => ?_)
            · exact absurd c39 hh1 --stop
            · skip
              refine Z_iload C 4 d_L_arrive_42 rfl ?_
              refine Z_sipush (v := 255) C d_L_arrive_44 (by decide) ?_
              refine Z_icmp_le (tgt := 60) C d_L_arrive_47 (by decide) (fun c47 => ?_) (fun c47 => ?_)
              · skip
                refine Z_aload_n C 0 d_L_arrive_60 rfl rfl ?_
                refine C_gL C w 1 (by decide) fl_L_21 rfl rfl d_L_arrive_61 ?_
                refine Z_iload_n C 1 d_L_arrive_64 rfl rfl ?_
                refine C_ldQ C w r (nI_clamp (by omega)) (vp_in_nI (by omega) (by decide)) d_L_arrive_65 ?_
                refine C_gR C w (by assumption) 4 (by decide) fl_L_60 rfl rfl d_L_arrive_66 ?_
                refine Z_if_ne (tgt := 82) C d_L_arrive_69 (by decide) (fun c69 => ?_) (fun c69 => ?_)
                · skip
                  refine Z_aload_n C 0 d_L_arrive_82 rfl rfl ?_
                  refine C_gL C w 2 (by decide) fl_L_28 rfl rfl d_L_arrive_83 ?_
                  refine Z_iload_n C 2 d_L_arrive_86 rfl rfl ?_
                  refine C_pF C w (by assumption) 2 (by decide) fl_L_145 rfl rfl rfl rfl rfl d_L_arrive_87 ?_
                  refine Z_aload_n C 0 d_L_arrive_90 rfl rfl ?_
                  refine C_gL C w 2 (by decide) fl_L_28 rfl rfl d_L_arrive_91 ?_
                  refine Z_iload_n C 3 d_L_arrive_94 rfl rfl ?_
                  refine C_pF C w (by assumption) 3 (by decide) fl_L_148 rfl rfl rfl rfl rfl d_L_arrive_95 ?_
                  refine Z_aload_n C 0 d_L_arrive_98 rfl rfl ?_
                  refine C_gL C w 2 (by decide) fl_L_28 rfl rfl d_L_arrive_99 ?_
                  refine Z_iload C 4 d_L_arrive_102 rfl ?_
                  refine C_pF C w (by assumption) 6 (by decide) fl_L_151 rfl rfl rfl rfl rfl d_L_arrive_104 ?_
                  refine Z_aload_n C 0 d_L_arrive_107 rfl rfl ?_
                  refine C_gL C w 2 (by decide) fl_L_28 rfl rfl d_L_arrive_108 ?_
                  refine Z_iload C 5 d_L_arrive_111 rfl ?_
                  refine C_pF C w (by assumption) 5 (by decide) fl_L_154 rfl rfl rfl rfl rfl d_L_arrive_113 ?_
                  refine Z_aload_n C 0 d_L_arrive_116 rfl rfl ?_
                  refine C_gL C w 1 (by decide) fl_L_21 rfl rfl d_L_arrive_117 ?_
                  refine Z_iload_n C 1 d_L_arrive_120 rfl rfl ?_
                  refine C_ldQ C w r (nI_clamp (by omega)) (vp_in_nI (by omega) (by decide)) d_L_arrive_121 ?_
                  refine Z_aload_n C 0 d_L_arrive_122 rfl rfl ?_
                  refine C_gL C w 2 (by decide) fl_L_28 rfl rfl d_L_arrive_123 ?_
                  refine C_cRv C w (by assumption) mi_R_hear ml_L_157 (c_R_hear w (ar1 M kind station hops address) _ _ r hr5 62 h62 (hI.of rfl)) rfl rfl (by decide) rfl (Nat.le_of_ble_eq_true rfl) d_L_arrive_126 ?_
                  refine Z_istore C d_L_arrive_129 (by decide) rfl ?_
                  refine Z_aload_n C 1 d_L_arrive_131 rfl rfl ?_
                  refine C_gL C w 2 (by decide) fl_L_28 rfl rfl d_L_arrive_132 ?_
                  refine Z_iconst (v := 0) C d_L_arrive_135 (by decide) ?_
                  refine C_pF C w (by assumption) 1 (by decide) fl_L_136 rfl rfl rfl rfl rfl d_L_arrive_136 ?_
                  refine Z_iload C 0 d_L_arrive_139 rfl ?_
                  exact Z_zret C hN hr (heR_n _ _ _) d_L_arrive_141 (rfl) (zeq (rfl))
                · exact absurd c69 h0 --stop
              · exact absurd hh2 c47 --stop
  · exact absurd c4 (lIsR_ne hr5) --stop

