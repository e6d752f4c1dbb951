/-! THE REFERENCE: loops -/
def mCounts (N : zR) (r s : Nat) : Int32 := if ¬ ((N 2 (10 * r + 9) >>> (nI s &&& 31)) &&& 1) = 1 then 0 else if N 11 (5 * r + s) = 0 then 0 else if N 12 (5 * r + s) = 3 then 0 else 1
def mwStep (N : zR) (r s : Nat) (p : Int32) : Int32 := p - (if mCounts N r s = 0 then 0 else N 2 (10 * r + 8))
def mwgh (N : zR) (r : Nat) : Nat → Nat → Int32 → Int32
  | 0, _, p => p
  | n + 1, s, p => mwgh N r n (s + 1) (mwStep N r s p)
def mWeighed (N : zR) (r : Nat) : Int32 := if N 2 (10 * r + 0) = 255 then 255 else mMax 1 (mwgh N r 5 0 (N 2 (10 * r + 0)))
def mSkew (N : zR) (r : Nat) : Int32 := (256 - mWeighed N r) * N 5 r / 256
theorem mPut_size {N : zR} {b : Int32} {z : Nat} (h : N 43 38 = nI z) : mPut N b 43 38 = nI (z + 1) := by
  unfold mPut
  rw [u2_self]
  show u2 N 37 (N 43 38).toNatClampNeg (b &&& 255) 43 38 + 1 = nI (z + 1)
  rw [u2_ne (by decide), h, nI_1]
def mpL (v : Int32) : Nat → zR → zR
  | 0, N => N
  | k + 1, N => mpL v k (mPut N (ush v (8 * nI k)))
def mtL (N : zR) (at_ : Nat) : Nat → Nat → Int64 → Int64
  | 0, _, v => v
  | n + 1, k, v => mtL N at_ n (k + 1) ((v <<< ((8 : Int32).toInt64 &&& 63)) ||| (N 39 (at_ + k)).toInt64)
def mTold (N : zR) (at_ many : Nat) : Int64 := mtL N at_ many 0 0
set_option maxRecDepth 100000 in
set_option maxHeartbeats 4000000 in
theorem c_M_weighed {l : Launch} {G : zG} {U : zU} (w : wR G U) (N : zR) (r : Nat) (hr5 : r < 5) : zF l y_M_weighed b_M_weighed 5 (some .int) 1 22 G [.ref (U.1 43), .int (nI r)] (eR U N) (some (.int (mWeighed N r))) (eR U N) := by
  refine zF.ofZ (by decide) w.2.2.2.2 (Nat.le_of_ble_eq_true rfl) (fun X hXl hN hr C => ?_)
  subst hXl
  show Z X G (zA G) 5 _ (eR U N) 0 [(0, .ref (U.1 43)), (1, .int (nI r))] []
  refine Z_aload_n C 0 d_M_weighed_0 rfl rfl ?_
  refine Z_iload_n C 1 d_M_weighed_1 rfl rfl ?_
  refine Z_iconst (v := 0) C d_M_weighed_2 (by decide) ?_
  refine C_cMv C w mi_M_is ml_M_143 (c_M_is w _ r 0 (by assumption) (by decide)) rfl rfl (by decide) rfl (Nat.le_of_ble_eq_true rfl) d_M_weighed_3 ?_
  refine Z_istore_n C d_M_weighed_6 rfl (by decide) rfl ?_
  refine Z_iload_n C 0 d_M_weighed_7 rfl rfl ?_
  refine Z_sipush (v := 255) C d_M_weighed_8 (by decide) ?_
  refine Z_icmp_ne (tgt := 18) C d_M_weighed_11 (by decide) (fun c11 => ?_) (fun c11 => ?_)
  · skip
    refine Z_iconst (v := 0) C d_M_weighed_18 (by decide) ?_
    refine Z_istore_n C d_M_weighed_19 rfl (by decide) rfl ?_
    have hlp : ∀ (n s : Nat) (p : Int32), s + n = 5 → mwgh N r n s p = mwgh N r 5 0 (N 2 (10 * r + 0)) → ∀ (lv : List (Nat × Value)), lv_pick lv [0, 1, 2, 3] = [(3, .int (nI s)), (2, .int p), (0, .ref (U.1 43)), (1, .int (nI r))] → Z X G (zA G) 5 (zQ X G (some (.int (mWeighed N r))) (eR U N)) (eR U N) 20 lv [] := by
      intro n
      induction n with
      | zero =>
        intro s p h1 h2 lv hlv
        refine zlv [0, 1, 2, 3] hlv ?_
        refine Z_iload_n C 0 d_M_weighed_20 rfl rfl ?_
        refine Z_iconst (v := 5) C d_M_weighed_21 (by decide) ?_
        refine Z_icmp_ge (tgt := 99) C d_M_weighed_22 (by decide) (fun c22 => ?_) (fun c22 => ?_)
        · skip
          refine Z_iconst (v := 1) C d_M_weighed_99 (by decide) ?_
          refine Z_iload_n C 1 d_M_weighed_100 rfl rfl ?_
          refine C_csv C ms_M_max ml_M_153 (c_M_max w _ _ _) rfl (by decide) rfl (Nat.le_of_ble_eq_true rfl) d_M_weighed_101 ?_
          exact Z_iret C hN hr d_M_weighed_104 (by unfold mWeighed; rw [if_neg c11, ← h2]; rfl) (zeq (rfl))
        · exact absurd (nI_le (a := 5) (b := s) (by omega) (by omega)) c22 --stop
      | succ n ih =>
        intro s p h1 h2 lv hlv
        refine zlv [0, 1, 2, 3] hlv ?_
        have hs : s < 5 := by omega
        refine Z_iload_n C 0 d_M_weighed_20 rfl rfl ?_
        refine Z_iconst (v := 5) C d_M_weighed_21 (by decide) ?_
        refine Z_icmp_ge (tgt := 99) C d_M_weighed_22 (by decide) (fun c22 => ?_) (fun c22 => ?_)
        · exact absurd c22 (nI_ge (a := s) (b := 5) (by omega) (by decide)) --stop
        · skip
          refine Z_aload_n C 2 d_M_weighed_25 rfl rfl ?_
          refine Z_iload_n C 3 d_M_weighed_26 rfl rfl ?_
          refine Z_bipush (v := 9) C d_M_weighed_27 (by decide) ?_
          refine C_cMv C w mi_M_is ml_M_143 (c_M_is w _ r 9 (by assumption) (by decide)) rfl rfl (by decide) rfl (Nat.le_of_ble_eq_true rfl) d_M_weighed_29 ?_
          refine Z_iload_n C 0 d_M_weighed_32 rfl rfl ?_
          refine Z_ishr C d_M_weighed_33 ?_
          refine Z_iconst (v := 1) C d_M_weighed_34 (by decide) ?_
          refine Z_iand C d_M_weighed_35 ?_
          refine Z_iconst (v := 1) C d_M_weighed_36 (by decide) ?_
          refine Z_icmp_ne (tgt := 71) C d_M_weighed_37 (by decide) (fun c37 => ?_) (fun c37 => ?_)
          · skip
            refine Z_iconst (v := 0) C d_M_weighed_71 (by decide) ?_
            refine zst (st' := [.int (mCounts N r s)]) (by simp [mCounts, c37]) ?_
            refine Z_istore C d_M_weighed_72 (by decide) rfl ?_
            refine Z_iload_n C 2 d_M_weighed_74 rfl rfl ?_
            refine Z_iload C 0 d_M_weighed_75 rfl ?_
            refine Z_if_eq (tgt := 90) C d_M_weighed_77 (by decide) (fun c77 => ?_) (fun c77 => ?_)
            · skip
              refine Z_iconst (v := 0) C d_M_weighed_90 (by decide) ?_
              refine zst (st' := [.int (if mCounts N r s = 0 then 0 else N 2 (10 * r + 8)), .int p]) (by first | rw [if_pos c77] | rw [if_neg c77]) ?_
              refine Z_isub C d_M_weighed_91 ?_
              refine Z_istore_n C d_M_weighed_92 rfl (by decide) rfl ?_
              refine Z_iinc 2 C d_M_weighed_93 rfl (nI_1 s) (by decide) rfl ?_
              refine Z_goto (tgt := 20) C d_M_weighed_96 (by decide) ?_
              refine zlv (lv' := [(3, .int (nI (s + 1))), (2, .int (mwStep N r s p)), (0, .ref (U.1 43)), (1, .int (nI r))]) [0, 1, 3, 4] rfl ?_
              exact ih (s + 1) (mwStep N r s p) (by omega) h2 _ rfl
            · skip
              refine Z_aload_n C 3 d_M_weighed_80 rfl rfl ?_
              refine Z_iload_n C 4 d_M_weighed_81 rfl rfl ?_
              refine Z_bipush (v := 8) C d_M_weighed_82 (by decide) ?_
              refine C_cMv C w mi_M_is ml_M_143 (c_M_is w _ r 8 (by assumption) (by decide)) rfl rfl (by decide) rfl (Nat.le_of_ble_eq_true rfl) d_M_weighed_84 ?_
              refine Z_goto (tgt := 91) C d_M_weighed_87 (by decide) ?_
              refine zst (st' := [.int (if mCounts N r s = 0 then 0 else N 2 (10 * r + 8)), .int p]) (by first | rw [if_pos c77] | rw [if_neg c77]) ?_
              refine Z_isub C d_M_weighed_91 ?_
              refine Z_istore_n C d_M_weighed_92 rfl (by decide) rfl ?_
              refine Z_iinc 2 C d_M_weighed_93 rfl (nI_1 s) (by decide) rfl ?_
              refine Z_goto (tgt := 20) C d_M_weighed_96 (by decide) ?_
              refine zlv (lv' := [(3, .int (nI (s + 1))), (2, .int (mwStep N r s p)), (0, .ref (U.1 43)), (1, .int (nI r))]) [0, 1, 3, 4] rfl ?_
              exact ih (s + 1) (mwStep N r s p) (by omega) h2 _ rfl
          · skip
            refine Z_aload_n C 2 d_M_weighed_40 rfl rfl ?_
            refine R_get C w 11 (by decide) fl_M_37 rfl rfl d_M_weighed_41 ?_
            refine Z_iconst (v := 5) C d_M_weighed_44 (by decide) ?_
            refine Z_iload_n C 3 d_M_weighed_45 rfl rfl ?_
            refine Z_imul C d_M_weighed_46 ?_
            refine Z_iload_n C 0 d_M_weighed_47 rfl rfl ?_
            refine Z_iadd C d_M_weighed_48 ?_
            refine R_zld 11 C w rfl rfl (5 * r + s) (by rw [ix5]; exact nI_clamp (by omega)) (by rw [ix5]; exact vp_in_nI (n := 5 * r + s) (N := 25) (by omega) (by decide)) d_M_weighed_49 ?_
            refine Z_if_eq (tgt := 71) C d_M_weighed_50 (by decide) (fun c50 => ?_) (fun c50 => ?_)
            · skip
              refine Z_iconst (v := 0) C d_M_weighed_71 (by decide) ?_
              refine zst (st' := [.int (mCounts N r s)]) (by simp [mCounts, c37, c50]) ?_
              refine Z_istore C d_M_weighed_72 (by decide) rfl ?_
              refine Z_iload_n C 2 d_M_weighed_74 rfl rfl ?_
              refine Z_iload C 0 d_M_weighed_75 rfl ?_
              refine Z_if_eq (tgt := 90) C d_M_weighed_77 (by decide) (fun c77 => ?_) (fun c77 => ?_)
              · skip
                refine Z_iconst (v := 0) C d_M_weighed_90 (by decide) ?_
                refine zst (st' := [.int (if mCounts N r s = 0 then 0 else N 2 (10 * r + 8)), .int p]) (by first | rw [if_pos c77] | rw [if_neg c77]) ?_
                refine Z_isub C d_M_weighed_91 ?_
                refine Z_istore_n C d_M_weighed_92 rfl (by decide) rfl ?_
                refine Z_iinc 2 C d_M_weighed_93 rfl (nI_1 s) (by decide) rfl ?_
                refine Z_goto (tgt := 20) C d_M_weighed_96 (by decide) ?_
                refine zlv (lv' := [(3, .int (nI (s + 1))), (2, .int (mwStep N r s p)), (0, .ref (U.1 43)), (1, .int (nI r))]) [0, 1, 3, 4] rfl ?_
                exact ih (s + 1) (mwStep N r s p) (by omega) h2 _ rfl
              · skip
                refine Z_aload_n C 3 d_M_weighed_80 rfl rfl ?_
                refine Z_iload_n C 4 d_M_weighed_81 rfl rfl ?_
                refine Z_bipush (v := 8) C d_M_weighed_82 (by decide) ?_
                refine C_cMv C w mi_M_is ml_M_143 (c_M_is w _ r 8 (by assumption) (by decide)) rfl rfl (by decide) rfl (Nat.le_of_ble_eq_true rfl) d_M_weighed_84 ?_
                refine Z_goto (tgt := 91) C d_M_weighed_87 (by decide) ?_
                refine zst (st' := [.int (if mCounts N r s = 0 then 0 else N 2 (10 * r + 8)), .int p]) (by first | rw [if_pos c77] | rw [if_neg c77]) ?_
                refine Z_isub C d_M_weighed_91 ?_
                refine Z_istore_n C d_M_weighed_92 rfl (by decide) rfl ?_
                refine Z_iinc 2 C d_M_weighed_93 rfl (nI_1 s) (by decide) rfl ?_
                refine Z_goto (tgt := 20) C d_M_weighed_96 (by decide) ?_
                refine zlv (lv' := [(3, .int (nI (s + 1))), (2, .int (mwStep N r s p)), (0, .ref (U.1 43)), (1, .int (nI r))]) [0, 1, 3, 4] rfl ?_
                exact ih (s + 1) (mwStep N r s p) (by omega) h2 _ rfl
            · skip
              refine Z_aload_n C 2 d_M_weighed_53 rfl rfl ?_
              refine R_get C w 12 (by decide) fl_M_41 rfl rfl d_M_weighed_54 ?_
              refine Z_iconst (v := 5) C d_M_weighed_57 (by decide) ?_
              refine Z_iload_n C 3 d_M_weighed_58 rfl rfl ?_
              refine Z_imul C d_M_weighed_59 ?_
              refine Z_iload_n C 0 d_M_weighed_60 rfl rfl ?_
              refine Z_iadd C d_M_weighed_61 ?_
              refine R_ld 12 C w rfl rfl (5 * r + s) (by rw [ix5]; exact nI_clamp (by omega)) (by rw [ix5]; exact vp_in_nI (n := 5 * r + s) (N := 25) (by omega) (by decide)) d_M_weighed_62 ?_
              refine Z_iconst (v := 3) C d_M_weighed_63 (by decide) ?_
              refine Z_icmp_eq (tgt := 71) C d_M_weighed_64 (by decide) (fun c64 => ?_) (fun c64 => ?_)
              · skip
                refine Z_iconst (v := 0) C d_M_weighed_71 (by decide) ?_
                refine zst (st' := [.int (mCounts N r s)]) (by simp [mCounts, c37, c50, c64]) ?_
                refine Z_istore C d_M_weighed_72 (by decide) rfl ?_
                refine Z_iload_n C 2 d_M_weighed_74 rfl rfl ?_
                refine Z_iload C 0 d_M_weighed_75 rfl ?_
                refine Z_if_eq (tgt := 90) C d_M_weighed_77 (by decide) (fun c77 => ?_) (fun c77 => ?_)
                · skip
                  refine Z_iconst (v := 0) C d_M_weighed_90 (by decide) ?_
                  refine zst (st' := [.int (if mCounts N r s = 0 then 0 else N 2 (10 * r + 8)), .int p]) (by first | rw [if_pos c77] | rw [if_neg c77]) ?_
                  refine Z_isub C d_M_weighed_91 ?_
                  refine Z_istore_n C d_M_weighed_92 rfl (by decide) rfl ?_
                  refine Z_iinc 2 C d_M_weighed_93 rfl (nI_1 s) (by decide) rfl ?_
                  refine Z_goto (tgt := 20) C d_M_weighed_96 (by decide) ?_
                  refine zlv (lv' := [(3, .int (nI (s + 1))), (2, .int (mwStep N r s p)), (0, .ref (U.1 43)), (1, .int (nI r))]) [0, 1, 3, 4] rfl ?_
                  exact ih (s + 1) (mwStep N r s p) (by omega) h2 _ rfl
                · skip
                  refine Z_aload_n C 3 d_M_weighed_80 rfl rfl ?_
                  refine Z_iload_n C 4 d_M_weighed_81 rfl rfl ?_
                  refine Z_bipush (v := 8) C d_M_weighed_82 (by decide) ?_
                  refine C_cMv C w mi_M_is ml_M_143 (c_M_is w _ r 8 (by assumption) (by decide)) rfl rfl (by decide) rfl (Nat.le_of_ble_eq_true rfl) d_M_weighed_84 ?_
                  refine Z_goto (tgt := 91) C d_M_weighed_87 (by decide) ?_
                  refine zst (st' := [.int (if mCounts N r s = 0 then 0 else N 2 (10 * r + 8)), .int p]) (by first | rw [if_pos c77] | rw [if_neg c77]) ?_
                  refine Z_isub C d_M_weighed_91 ?_
                  refine Z_istore_n C d_M_weighed_92 rfl (by decide) rfl ?_
                  refine Z_iinc 2 C d_M_weighed_93 rfl (nI_1 s) (by decide) rfl ?_
                  refine Z_goto (tgt := 20) C d_M_weighed_96 (by decide) ?_
                  refine zlv (lv' := [(3, .int (nI (s + 1))), (2, .int (mwStep N r s p)), (0, .ref (U.1 43)), (1, .int (nI r))]) [0, 1, 3, 4] rfl ?_
                  exact ih (s + 1) (mwStep N r s p) (by omega) h2 _ rfl
              · skip
                refine Z_iconst (v := 1) C d_M_weighed_67 (by decide) ?_
                refine Z_goto (tgt := 72) C d_M_weighed_68 (by decide) ?_
                refine zst (st' := [.int (mCounts N r s)]) (by simp [mCounts, c37, c50, c64]) ?_
                refine Z_istore C d_M_weighed_72 (by decide) rfl ?_
                refine Z_iload_n C 2 d_M_weighed_74 rfl rfl ?_
                refine Z_iload C 0 d_M_weighed_75 rfl ?_
                refine Z_if_eq (tgt := 90) C d_M_weighed_77 (by decide) (fun c77 => ?_) (fun c77 => ?_)
                · skip
                  refine Z_iconst (v := 0) C d_M_weighed_90 (by decide) ?_
                  refine zst (st' := [.int (if mCounts N r s = 0 then 0 else N 2 (10 * r + 8)), .int p]) (by first | rw [if_pos c77] | rw [if_neg c77]) ?_
                  refine Z_isub C d_M_weighed_91 ?_
                  refine Z_istore_n C d_M_weighed_92 rfl (by decide) rfl ?_
                  refine Z_iinc 2 C d_M_weighed_93 rfl (nI_1 s) (by decide) rfl ?_
                  refine Z_goto (tgt := 20) C d_M_weighed_96 (by decide) ?_
                  refine zlv (lv' := [(3, .int (nI (s + 1))), (2, .int (mwStep N r s p)), (0, .ref (U.1 43)), (1, .int (nI r))]) [0, 1, 3, 4] rfl ?_
                  exact ih (s + 1) (mwStep N r s p) (by omega) h2 _ rfl
                · skip
                  refine Z_aload_n C 3 d_M_weighed_80 rfl rfl ?_
                  refine Z_iload_n C 4 d_M_weighed_81 rfl rfl ?_
                  refine Z_bipush (v := 8) C d_M_weighed_82 (by decide) ?_
                  refine C_cMv C w mi_M_is ml_M_143 (c_M_is w _ r 8 (by assumption) (by decide)) rfl rfl (by decide) rfl (Nat.le_of_ble_eq_true rfl) d_M_weighed_84 ?_
                  refine Z_goto (tgt := 91) C d_M_weighed_87 (by decide) ?_
                  refine zst (st' := [.int (if mCounts N r s = 0 then 0 else N 2 (10 * r + 8)), .int p]) (by first | rw [if_pos c77] | rw [if_neg c77]) ?_
                  refine Z_isub C d_M_weighed_91 ?_
                  refine Z_istore_n C d_M_weighed_92 rfl (by decide) rfl ?_
                  refine Z_iinc 2 C d_M_weighed_93 rfl (nI_1 s) (by decide) rfl ?_
                  refine Z_goto (tgt := 20) C d_M_weighed_96 (by decide) ?_
                  refine zlv (lv' := [(3, .int (nI (s + 1))), (2, .int (mwStep N r s p)), (0, .ref (U.1 43)), (1, .int (nI r))]) [0, 1, 3, 4] rfl ?_
                  exact ih (s + 1) (mwStep N r s p) (by omega) h2 _ rfl
    exact hlp 5 0 _ rfl rfl _ rfl
  · skip
    refine Z_sipush (v := 255) C d_M_weighed_14 (by decide) ?_
    exact Z_iret C hN hr d_M_weighed_17 (by unfold mWeighed; rw [if_pos c11]) (zeq (rfl))
set_option maxRecDepth 100000 in
set_option maxHeartbeats 4000000 in
theorem c_M_skew {l : Launch} {G : zG} {U : zU} (w : wR G U) (N : zR) (r : Nat) (hr5 : r < 5) : zF l y_M_skew b_M_skew 2 (some .int) 2 46 G [.ref (U.1 43), .int (nI r)] (eR U N) (some (.int (mSkew N r))) (eR U N) := by
  refine zF.ofZ (by decide) w.2.2.2.2 (Nat.le_of_ble_eq_true rfl) (fun X hXl hN hr C => ?_)
  subst hXl
  show Z X G (zA G) 2 _ (eR U N) 0 [(0, .ref (U.1 43)), (1, .int (nI r))] []
  refine Z_sipush (v := 256) C d_M_skew_0 (by decide) ?_
  refine Z_aload_n C 0 d_M_skew_3 rfl rfl ?_
  refine Z_iload_n C 1 d_M_skew_4 rfl rfl ?_
  refine C_cMv C w mi_M_weighed ml_M_156 (c_M_weighed w _ _ (by assumption)) rfl rfl (by decide) rfl (Nat.le_of_ble_eq_true rfl) d_M_skew_5 ?_
  refine Z_isub C d_M_skew_8 ?_
  refine Z_aload_n C 0 d_M_skew_9 rfl rfl ?_
  refine R_get C w 5 (by decide) fl_M_19 rfl rfl d_M_skew_10 ?_
  refine Z_iload_n C 1 d_M_skew_13 rfl rfl ?_
  refine R_ld 5 C w rfl rfl r (nI_clamp (by omega)) (vp_in_nI (n := r) (N := 5) hr5 (by decide)) d_M_skew_14 ?_
  refine Z_imul C d_M_skew_15 ?_
  refine Z_sipush (v := 256) C d_M_skew_16 (by decide) ?_
  refine Z_idiv C d_M_skew_19 (by decide) ?_
  exact Z_iret C hN hr d_M_skew_20 (rfl) (zeq (rfl))
set_option maxRecDepth 100000 in
set_option maxHeartbeats 4000000 in
theorem c_M_putMany {l : Launch} {G : zG} {U : zU} (w : wR G U) (N : zR) (v : Int32) (many z : Nat) (hm0 : 0 < many) (hsz : N 43 38 = nI z) (hzm : z + many ≤ 40) : zF l y_M_putMany b_M_putMany 4 none 1 21 G [.ref (U.1 43), .int v, .int (nI many)] (eR U N) none (eR U (mpL v many N)) := by
  refine zF.ofZ (by decide) w.2.2.2.2 (Nat.le_of_ble_eq_true rfl) (fun X hXl hN hr C => ?_)
  subst hXl
  show Z X G (zA G) 4 _ (eR U N) 0 [(0, .ref (U.1 43)), (1, .int v), (2, .int (nI many))] []
  refine Z_iload_n C 2 d_M_putMany_0 rfl rfl ?_
  refine Z_iconst (v := 1) C d_M_putMany_1 (by decide) ?_
  refine Z_isub C d_M_putMany_2 ?_
  refine Z_istore_n C d_M_putMany_3 rfl (by decide) rfl ?_
  have hlp : ∀ (k z : Nat) (N1 : zR), N1 43 38 = nI z → z + k ≤ 40 → mpL v k N1 = mpL v many N → Z X G (zA G) 4 (zQ X G none (eR U (mpL v many N))) (eR U N1) 4 [(3, .int (dn k)), (0, .ref (U.1 43)), (1, .int v), (2, .int (nI many))] [] := by
    intro k
    induction k with
    | zero =>
      intro z N1 h1 h2 h3
      refine Z_iload_n C 0 d_M_putMany_4 rfl rfl ?_
      refine Z_if_lt (tgt := 24) C d_M_putMany_5 (by decide) (fun c5 => ?_) (fun c5 => ?_)
      · skip
        exact Z_vret C hN hr d_M_putMany_24 rfl (zeq (by rw [← h3]; rfl))
      · exact absurd (by decide) c5 --stop
    | succ k ih =>
      intro z N1 h1 h2 h3
      have hz : vp_in (N1 43 38) 40 := by rw [h1]; exact vp_in_nI (by omega) (by decide)
      refine Z_iload_n C 0 d_M_putMany_4 rfl rfl ?_
      refine Z_if_lt (tgt := 24) C d_M_putMany_5 (by decide) (fun c5 => ?_) (fun c5 => ?_)
      · exact absurd c5 (nI_pos (n := k) (by omega)) --stop
      · skip
        refine Z_aload_n C 1 d_M_putMany_8 rfl rfl ?_
        refine Z_iload_n C 2 d_M_putMany_9 rfl rfl ?_
        refine Z_bipush (v := 8) C d_M_putMany_10 (by decide) ?_
        refine Z_iload_n C 0 d_M_putMany_12 rfl rfl ?_
        refine Z_imul C d_M_putMany_13 ?_
        refine Z_iushr C d_M_putMany_14 ?_
        refine C_cMn C w mi_M_put ml_M_139 (c_M_put w N1 _ hz) rfl rfl (by decide) rfl (Nat.le_of_ble_eq_true rfl) d_M_putMany_15 ?_
        refine Z_iinc 0 C d_M_putMany_18 rfl (dn_s k) (by decide) rfl ?_
        refine Z_goto (tgt := 4) C d_M_putMany_21 (by decide) ?_
        exact ih (z + 1) _ (mPut_size h1) (by omega) h3
  have hq := hlp many z N hsz hzm rfl
  rw [← dn_p hm0] at hq
  exact hq
set_option maxRecDepth 100000 in
set_option maxHeartbeats 4000000 in
theorem c_M_told {l : Launch} {G : zG} {U : zU} (w : wR G U) (N : zR) (at_ many : Nat) (ham : at_ + many ≤ 40) : zF l y_M_told b_M_told 6 (some .long) 0 0 G [.ref (U.1 43), .int (nI at_), .int (nI many)] (eR U N) (some (.long (mTold N at_ many))) (eR U N) := by
  refine zF.ofZ (by decide) w.2.2.2.2 (Nat.le_of_ble_eq_true rfl) (fun X hXl hN hr C => ?_)
  subst hXl
  show Z X G (zA G) 6 _ (eR U N) 0 [(0, .ref (U.1 43)), (1, .int (nI at_)), (2, .int (nI many))] []
  refine Z_lconst (v := 0) C d_M_told_0 rfl ?_
  refine Z_lstore_n C d_M_told_1 rfl (by decide) rfl ?_
  refine Z_iconst (v := 0) C d_M_told_2 (by decide) ?_
  refine Z_istore C d_M_told_3 (by decide) rfl ?_
  have hlp : ∀ (n k : Nat) (v : Int64), k + n = many → mtL N at_ n k v = mTold N at_ many → ∀ (lv : List (Nat × Value)), lv_pick lv [0, 1, 2, 3, 4] = [(5, .int (nI k)), (3, .long v), (0, .ref (U.1 43)), (1, .int (nI at_)), (2, .int (nI many))] → Z X G (zA G) 6 (zQ X G (some (.long (mTold N at_ many))) (eR U N)) (eR U N) 5 lv [] := by
    intro n
    induction n with
    | zero =>
      intro k v h1 h2 lv hlv
      refine zlv [0, 1, 2, 3, 4] hlv ?_
      refine Z_iload C 0 d_M_told_5 rfl ?_
      refine Z_iload_n C 4 d_M_told_7 rfl rfl ?_
      refine Z_icmp_ge (tgt := 33) C d_M_told_8 (by decide) (fun c8 => ?_) (fun c8 => ?_)
      · skip
        refine Z_lload_n C 1 d_M_told_33 rfl rfl ?_
        exact Z_lret C hN hr d_M_told_34 (by rw [← h2]; rfl) (zeq (rfl))
      · exact absurd (nI_le (by omega) (by omega)) c8 --stop
    | succ n ih =>
      intro k v h1 h2 lv hlv
      refine zlv [0, 1, 2, 3, 4] hlv ?_
      refine Z_iload C 0 d_M_told_5 rfl ?_
      refine Z_iload_n C 4 d_M_told_7 rfl rfl ?_
      refine Z_icmp_ge (tgt := 33) C d_M_told_8 (by decide) (fun c8 => ?_) (fun c8 => ?_)
      · exact absurd c8 (nI_ge (a := k) (b := many) (by omega) (by omega)) --stop
      · skip
        refine Z_lload_n C 1 d_M_told_11 rfl rfl ?_
        refine Z_bipush (v := 8) C d_M_told_12 (by decide) ?_
        refine Z_lshl C d_M_told_14 ?_
        refine Z_aload_n C 2 d_M_told_15 rfl rfl ?_
        refine R_get C w 39 (by decide) fl_M_116 rfl rfl d_M_told_16 ?_
        refine Z_iload_n C 3 d_M_told_19 rfl rfl ?_
        refine Z_iload C 0 d_M_told_20 rfl ?_
        refine Z_iadd C d_M_told_22 ?_
        refine R_ld 39 C w rfl rfl (at_ + k) (by rw [nI_add]; exact nI_clamp (by omega)) (by rw [nI_add]; exact vp_in_nI (n := at_ + k) (N := 40) (by omega) (by decide)) d_M_told_23 ?_
        refine Z_i2l C d_M_told_24 ?_
        refine Z_lor C d_M_told_25 ?_
        refine Z_lstore_n C d_M_told_26 rfl (by decide) rfl ?_
        refine Z_iinc 1 C d_M_told_27 rfl (nI_1 k) (by decide) rfl ?_
        refine Z_goto (tgt := 5) C d_M_told_30 (by decide) ?_
        exact ih (k + 1) _ (by omega) h2 _ rfl
  exact hlp many 0 _ (by omega) rfl _ rfl

