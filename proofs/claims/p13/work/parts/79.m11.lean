/-! THE REFERENCE: its calls on every state -/
abbrev t0 (N : zR) : zR := u2 N 43 0 0
def mSt1 (N : zR) (r : Nat) (b : Int32) : zR := if ¬ N 3 r = 2 then N else if ¬ b = 0 then N else mAdv N r 0
def mStL (r : Nat) : Nat → Nat → zR → zR
  | 0, _, N => N
  | n + 1, s, N => mStL r n (s + 1) (u2 N 11 (5 * r + s) 0)
def mSt2 (N : zR) (r : Nat) : zR := u2 (u2 (u2 N 3 r 0) 4 r 0) 5 r 0
def mStop (N : zR) (r : Nat) (b : Int32) : zR := mStL r 5 0 (mSt2 (mSt1 N r b) r)
def mOp1 (N : zR) (i : Nat) (tx rx m : Int32) : zR := u2 (u2 (u2 (u2 (u2 (u2 (u2 (u2 (u2 (u2 (u2 (u2 (u2 (u2 (u2 (u2 N 11 i 1) 12 i 1) 13 i 1) 14 i 0) 15 i 0) 21 i 1) 22 i 0) 23 i 0) 24 i 0) 16 i tx) 17 i rx) 18 i tx) 19 i rx) 20 i m) 26 i 0) 27 i 0
def mOpn (N : zR) (i : Nat) (tx rx m : Int32) : zR := mSet (mOp1 N i tx rx m) i
def mChS (N : zR) (i : Nat) : zR := u2 (u2 (u2 N 12 i 0) 15 i 7) 24 i 0
def mC1 (N : zR) (i : Nat) (tx rx : Int32) : zR := u2 (u2 N 16 i tx) 17 i rx
def mC2 (N : zR) (i : Nat) : zR := u2 N 24 i (if ¬ N 24 i = 0 then 1 else if N 12 i = 3 then 1 else 0)
def mC3 (N : zR) (i : Nat) (tx : Int32) : zR := if ¬ N 12 i = 3 then u2 N 18 i tx else if N 18 i < tx then N else u2 N 18 i tx
def mC4 (N : zR) (i : Nat) (rx : Int32) : zR := if ¬ N 12 i = 3 then u2 N 19 i rx else if rx < N 19 i then N else u2 N 19 i rx
def mChg (N : zR) (i : Nat) (tx rx : Int32) : zR := mHurry (mC4 (mC3 (mC2 (mC1 N i tx rx) i) i tx) i rx) i
def taL : Nat → Nat → zR → zR
  | 0, _, N => N
  | n + 1, k, N => taL n (k + 1) (u2 N 39 k (if N 43 42 ≤ nI k then 0 else N 41 k))
def mArv (N : zR) : zR := u2 (taL 40 0 (u2 (t0 N) 43 40 (t0 N 43 42))) 43 42 0
def mRon (N : zR) (r : Nat) (x : Int32) : Int32 := if x = 0 then N 3 r else if x = 1 then N 4 r else if x = 2 then mWeighed N r else if x = 3 then N 5 r else if x = 4 then N 6 r else if x = 5 then N 7 r else if x = 6 then N 8 r else N 9 r
def mSes (N : zR) (i : Nat) (z : Int32) : Int32 := if z < 0 then -1 else if ¬ z ≤ 11 then -1 else if z = 0 then N 12 i else if z = 1 then N 13 i else if z = 2 then N 14 i else if z = 3 then N 15 i else if z = 4 then N 25 i else if z = 5 then N 26 i else if z = 6 then N 18 i else if z = 7 then N 19 i else if z = 8 then (if N 24 i = 0 then 0 else 1) else if z = 9 then N 21 i else if z = 10 then N 22 i else N 27 i
def mFrm (N : zR) (x y : Int32) : Int32 := if x < 0 then -1 else if N 43 28 ≤ x then -1 else if y < -6 then -1 else if ¬ y < N 35 x.toNatClampNeg then -1 else if y = -1 then N 29 x.toNatClampNeg - N 43 1 else if y = -2 then N 30 x.toNatClampNeg else if y = -3 then N 31 x.toNatClampNeg else if y = -4 then N 32 x.toNatClampNeg else if y = -5 then N 35 x.toNatClampNeg else if y = -6 then N 34 x.toNatClampNeg else N 36 (40 * x.toNatClampNeg + y.toNatClampNeg)
theorem mC3_12 (N : zR) (i : Nat) (tx : Int32) : mC3 N i tx 12 = N 12 := by
  unfold mC3
  split
  · rfl
  split <;> rfl
theorem mC4_12 (N : zR) (i : Nat) (rx : Int32) : mC4 N i rx 12 = N 12 := by
  unfold mC4
  split
  · rfl
  split <;> rfl
theorem t0_o (N : zR) {a : Nat} (h : a ≠ 43) : t0 N a = N a := u2_ne h
theorem t0_43 (N : zR) {f : Nat} (h : f ≠ 0) : t0 N 43 f = N 43 f := by rw [show t0 N 43 = upd (N 43) 0 0 from u2_self _ _ _ _, pk_un h]
theorem inv_t0 {N : zR} (h : InvR N) : InvR (t0 N) := h.of (t0_43 N (by decide))
/-- a place of the way, and what lies there -/
theorem fr_ix {N : zR} (hI : InvR N) {x : Int32} (h1 : ¬ x < 0) (h2 : ¬ N 43 28 ≤ x) : x.toNatClampNeg < 60 ∧ x = nI x.toNatClampNeg := by
  obtain ⟨j, hj, rfl⟩ := nI_of h1
  rw [nI_clamp hj]
  refine ⟨?_, rfl⟩
  rw [hI.1] at h2
  have := hI.2
  rcases Nat.lt_or_ge j (fly N) with q | q
  · omega
  · exact absurd (nI_le q hj) h2
theorem fr_iy {z : Nat} {y l : Int32} (hz : z ≤ 40) (hl : l = nI z) (h3 : ¬ y < -6) (h4 : y < l) (h5 : ¬ y = -1 ∧ ¬ y = -2 ∧ ¬ y = -3 ∧ ¬ y = -4 ∧ ¬ y = -5 ∧ ¬ y = -6) : y.toNatClampNeg < 40 ∧ y = nI y.toNatClampNeg := by
  subst hl
  have h0 : ¬ y < 0 := by
    obtain ⟨a1, a2, a3, a4, a5, a6⟩ := h5
    rw [← Int32.toInt_inj] at a1 a2 a3 a4 a5 a6
    rw [Int32.lt_iff_toInt_lt] at h3 ⊢
    have e0 : (0 : Int32).toInt = 0 := rfl
    have e1 : (-1 : Int32).toInt = -1 := rfl
    have e2 : (-2 : Int32).toInt = -2 := rfl
    have e3 : (-3 : Int32).toInt = -3 := rfl
    have e4 : (-4 : Int32).toInt = -4 := rfl
    have e5 : (-5 : Int32).toInt = -5 := rfl
    have e6 : (-6 : Int32).toInt = -6 := rfl
    omega
  obtain ⟨j, hj, rfl⟩ := nI_of h0
  rw [nI_clamp hj]
  refine ⟨?_, rfl⟩
  rcases Nat.lt_or_ge j z with q | q
  · omega
  · exact absurd h4 (nI_nlt q hj)
set_option maxRecDepth 100000 in
set_option maxHeartbeats 4000000 in
theorem m_start_a {l : Launch} {G : zG} {U : zU} (w : wR G U) (N : zR) (r : Nat) (hr5 : r < 5) (h : N 3 r = 0) (hI : InvR N) (hw : mWeighed (u2 (t0 N) 5 r (t0 N 2 (10 * r + 1))) r = 255) : zF l y_M_start b_M_start 2 none 4 93 G [.ref (U.1 43), .int (nI r)] (eR U N) none (eR U (mAct (u2 (t0 N) 5 r (t0 N 2 (10 * r + 1))) r)) := by
  refine zF.ofZ (by decide) w.2.2.2.2 (Nat.le_of_ble_eq_true rfl) (fun X hXl hN hr C => ?_)
  subst hXl
  show Z X G (zA G) 2 _ (eR U N) 0 [(0, .ref (U.1 43)), (1, .int (nI r))] []
  refine Z_aload_n C 0 d_M_start_0 rfl rfl ?_
  refine Z_iload_n C 1 d_M_start_1 rfl rfl ?_
  refine C_csv C ms_M_isRouter ml_M_128 (c_M_isRouter w _ _) rfl (by decide) rfl (Nat.le_of_ble_eq_true rfl) d_M_start_2 ?_
  refine Z_if_ne (tgt := 12) C d_M_start_5 (by decide) (fun c5 => ?_) (fun c5 => ?_)
  · skip
    refine Z_aload_n C 0 d_M_start_12 rfl rfl ?_
    refine R_get C w 3 (by decide) fl_M_13 rfl rfl d_M_start_13 ?_
    refine Z_iload_n C 1 d_M_start_16 rfl rfl ?_
    refine R_ld 3 C w rfl rfl r (nI_clamp (by omega)) (vp_in_nI (n := r) (N := 5) (by omega) (by decide)) d_M_start_17 ?_
    refine Z_if_eq (tgt := 25) C d_M_start_18 (by decide) (fun c18 => ?_) (fun c18 => ?_)
    · skip
      refine Z_iconst (v := 0) C d_M_start_25 (by decide) ?_
      refine R_put C w 0 (by decide) fl_M_124 rfl rfl rfl rfl rfl d_M_start_26 ?_
      refine Z_aload_n C 0 d_M_start_29 rfl rfl ?_
      refine R_get C w 0 (by decide) fl_M_124 rfl rfl d_M_start_30 ?_
      refine Z_if_eq (tgt := 37) C d_M_start_33 (by decide) (fun c33 => ?_) (fun c33 => ?_)
      · skip
        refine Z_aload_n C 0 d_M_start_37 rfl rfl ?_
        refine R_get C w 5 (by decide) fl_M_19 rfl rfl d_M_start_38 ?_
        refine Z_iload_n C 1 d_M_start_41 rfl rfl ?_
        refine Z_aload_n C 0 d_M_start_42 rfl rfl ?_
        refine Z_iload_n C 1 d_M_start_43 rfl rfl ?_
        refine Z_iconst (v := 1) C d_M_start_44 (by decide) ?_
        refine C_cMv C w mi_M_is ml_M_143 (c_M_is w _ r 1 hr5 (by decide)) rfl rfl (by decide) rfl (Nat.le_of_ble_eq_true rfl) d_M_start_45 ?_
        refine R_st 5 C w rfl rfl r (nI_clamp (by omega)) (vp_in_nI (n := r) (N := 5) (by omega) (by decide)) d_M_start_48 ?_
        refine Z_aload_n C 0 d_M_start_49 rfl rfl ?_
        refine Z_iload_n C 1 d_M_start_50 rfl rfl ?_
        refine C_cMv C w mi_M_weighed ml_M_156 (c_M_weighed w _ _ (by assumption)) rfl rfl (by decide) rfl (Nat.le_of_ble_eq_true rfl) d_M_start_51 ?_
        refine Z_sipush (v := 255) C d_M_start_54 (by decide) ?_
        refine Z_icmp_ne (tgt := 68) C d_M_start_57 (by decide) (fun c57 => ?_) (fun c57 => ?_)
        · exact absurd hw c57 --stop
        · skip
          refine Z_aload_n C 0 d_M_start_60 rfl rfl ?_
          refine Z_iload_n C 1 d_M_start_61 rfl rfl ?_
          refine C_cMn C w mi_M_beActive ml_M_186 (c_M_beActive w _ r hr5 (hI.of rfl)) rfl rfl (by decide) rfl (Nat.le_of_ble_eq_true rfl) d_M_start_62 ?_
          refine Z_goto (tgt := 73) C d_M_start_65 (by decide) ?_
          exact Z_vret C hN hr d_M_start_73 rfl (zeq (rfl))
      · exact absurd (by simp [u2, upd]) c33 --stop
    · exact absurd h c18 --stop
  · exact absurd c5 (mIsR_ne hr5) --stop
set_option maxRecDepth 100000 in
set_option maxHeartbeats 4000000 in
theorem m_stop_0 {l : Launch} {G : zG} {U : zU} (w : wR G U) (N : zR) (r : Nat) (hr5 : r < 5) (b : Int32) (h : ¬ N 3 r = 0) (hI : InvR N) : zF l y_M_stop b_M_stop 4 none 3 72 G [.ref (U.1 43), .int (nI r), .int b] (eR U N) none (eR U (mStop (t0 N) r b)) := by
  refine zF.ofZ (by decide) w.2.2.2.2 (Nat.le_of_ble_eq_true rfl) (fun X hXl hN hr C => ?_)
  subst hXl
  show Z X G (zA G) 4 _ (eR U N) 0 [(0, .ref (U.1 43)), (1, .int (nI r)), (2, .int b)] []
  refine Z_aload_n C 0 d_M_stop_0 rfl rfl ?_
  refine Z_iload_n C 1 d_M_stop_1 rfl rfl ?_
  refine C_csv C ms_M_isRouter ml_M_128 (c_M_isRouter w _ _) rfl (by decide) rfl (Nat.le_of_ble_eq_true rfl) d_M_stop_2 ?_
  refine Z_if_ne (tgt := 12) C d_M_stop_5 (by decide) (fun c5 => ?_) (fun c5 => ?_)
  · skip
    refine Z_aload_n C 0 d_M_stop_12 rfl rfl ?_
    refine R_get C w 3 (by decide) fl_M_13 rfl rfl d_M_stop_13 ?_
    refine Z_iload_n C 1 d_M_stop_16 rfl rfl ?_
    refine R_ld 3 C w rfl rfl r (nI_clamp (by omega)) (vp_in_nI (n := r) (N := 5) (by omega) (by decide)) d_M_stop_17 ?_
    refine Z_if_ne (tgt := 25) C d_M_stop_18 (by decide) (fun c18 => ?_) (fun c18 => ?_)
    · skip
      refine Z_iconst (v := 0) C d_M_stop_25 (by decide) ?_
      refine R_put C w 0 (by decide) fl_M_124 rfl rfl rfl rfl rfl d_M_stop_26 ?_
      refine Z_aload_n C 0 d_M_stop_29 rfl rfl ?_
      refine R_get C w 0 (by decide) fl_M_124 rfl rfl d_M_stop_30 ?_
      refine Z_if_eq (tgt := 37) C d_M_stop_33 (by decide) (fun c33 => ?_) (fun c33 => ?_)
      · skip
        have hlp : ∀ (n s : Nat) (N1 : zR), s + n = 5 → mStL r n s N1 = mStop (t0 N) r b → Z X G (zA G) 4 (zQ X G none (eR U (mStop (t0 N) r b))) (eR U N1) 80 [(3, .int (nI s)), (0, .ref (U.1 43)), (1, .int (nI r)), (2, .int b)] [] := by
          intro n
          induction n with
          | zero =>
            intro s N1 h1 h2
            obtain rfl : s = 5 := by omega
            refine Z_iload_n C 0 d_M_stop_80 rfl rfl ?_
            refine Z_iconst (v := 5) C d_M_stop_81 (by decide) ?_
            refine Z_icmp_ge (tgt := 102) C d_M_stop_82 (by decide) (fun c82 => ?_) (fun c82 => ?_)
            · skip
              exact Z_vret C hN hr d_M_stop_102 rfl (zeq (by apply eR_N; exact h2))
            · exact absurd (by decide) c82 --stop
          | succ n ih =>
            intro s N1 h1 h2
            refine Z_iload_n C 0 d_M_stop_80 rfl rfl ?_
            refine Z_iconst (v := 5) C d_M_stop_81 (by decide) ?_
            refine Z_icmp_ge (tgt := 102) C d_M_stop_82 (by decide) (fun c82 => ?_) (fun c82 => ?_)
            · exact absurd c82 (nI_ge (a := s) (b := 5) (by omega) (by decide)) --stop
            · skip
              refine Z_aload_n C 1 d_M_stop_85 rfl rfl ?_
              refine R_get C w 11 (by decide) fl_M_37 rfl rfl d_M_stop_86 ?_
              refine Z_iconst (v := 5) C d_M_stop_89 (by decide) ?_
              refine Z_iload_n C 2 d_M_stop_90 rfl rfl ?_
              refine Z_imul C d_M_stop_91 ?_
              refine Z_iload_n C 0 d_M_stop_92 rfl rfl ?_
              refine Z_iadd C d_M_stop_93 ?_
              refine Z_iconst (v := 0) C d_M_stop_94 (by decide) ?_
              refine R_zst 11 C w rfl rfl (5 * r + s) (by rw [ix5]; exact nI_clamp (by omega)) (by rw [ix5]; exact vp_in_nI (n := 5 * r + s) (N := 25) (by omega) (by decide)) rfl d_M_stop_95 ?_
              refine Z_iinc 0 C d_M_stop_96 rfl (nI_1 s) (by decide) rfl ?_
              refine Z_goto (tgt := 80) C d_M_stop_99 (by decide) ?_
              exact ih (s + 1) _ (by omega) h2
        have hJ : ∀ (N1 : zR), N1 = mSt1 (t0 N) r b → Z X G (zA G) 4 (zQ X G none (eR U (mStop (t0 N) r b))) (eR U N1) 57 [(0, .ref (U.1 43)), (1, .int (nI r)), (2, .int b)] [] := by
          intro N1 hN1
          refine Z_aload_n C 0 d_M_stop_57 rfl rfl ?_
          refine R_get C w 3 (by decide) fl_M_13 rfl rfl d_M_stop_58 ?_
          refine Z_iload_n C 1 d_M_stop_61 rfl rfl ?_
          refine Z_iconst (v := 0) C d_M_stop_62 (by decide) ?_
          refine R_st 3 C w rfl rfl r (nI_clamp (by omega)) (vp_in_nI (n := r) (N := 5) (by omega) (by decide)) d_M_stop_63 ?_
          refine Z_aload_n C 0 d_M_stop_64 rfl rfl ?_
          refine R_get C w 4 (by decide) fl_M_16 rfl rfl d_M_stop_65 ?_
          refine Z_iload_n C 1 d_M_stop_68 rfl rfl ?_
          refine Z_iconst (v := 0) C d_M_stop_69 (by decide) ?_
          refine R_st 4 C w rfl rfl r (nI_clamp (by omega)) (vp_in_nI (n := r) (N := 5) (by omega) (by decide)) d_M_stop_70 ?_
          refine Z_aload_n C 0 d_M_stop_71 rfl rfl ?_
          refine R_get C w 5 (by decide) fl_M_19 rfl rfl d_M_stop_72 ?_
          refine Z_iload_n C 1 d_M_stop_75 rfl rfl ?_
          refine Z_iconst (v := 0) C d_M_stop_76 (by decide) ?_
          refine R_st 5 C w rfl rfl r (nI_clamp (by omega)) (vp_in_nI (n := r) (N := 5) (by omega) (by decide)) d_M_stop_77 ?_
          refine Z_iconst (v := 0) C d_M_stop_78 (by decide) ?_
          refine Z_istore_n C d_M_stop_79 rfl (by decide) rfl ?_
          exact hlp 5 0 _ rfl (by rw [hN1]; rfl)
        refine Z_aload_n C 0 d_M_stop_37 rfl rfl ?_
        refine R_get C w 3 (by decide) fl_M_13 rfl rfl d_M_stop_38 ?_
        refine Z_iload_n C 1 d_M_stop_41 rfl rfl ?_
        refine R_ld 3 C w rfl rfl r (nI_clamp (by omega)) (vp_in_nI (n := r) (N := 5) (by omega) (by decide)) d_M_stop_42 ?_
        refine Z_iconst (v := 2) C d_M_stop_43 (by decide) ?_
        refine Z_icmp_ne (tgt := 57) C d_M_stop_44 (by decide) (fun c44 => ?_) (fun c44 => ?_)
        · skip
          exact hJ _ (by unfold mSt1; first | rw [if_pos c44] | rw [if_neg (fun z => z c44), if_pos c48] | rw [if_neg (fun z => z c44), if_neg (fun z => z c48)])
        · skip
          refine Z_iload_n C 2 d_M_stop_47 rfl rfl ?_
          refine Z_if_ne (tgt := 57) C d_M_stop_48 (by decide) (fun c48 => ?_) (fun c48 => ?_)
          · skip
            exact hJ _ (by unfold mSt1; first | rw [if_pos c44] | rw [if_neg (fun z => z c44), if_pos c48] | rw [if_neg (fun z => z c44), if_neg (fun z => z c48)])
          · skip
            refine Z_aload_n C 0 d_M_stop_51 rfl rfl ?_
            refine Z_iload_n C 1 d_M_stop_52 rfl rfl ?_
            refine Z_iconst (v := 0) C d_M_stop_53 (by decide) ?_
            refine C_cMn C w mi_M_advertise ml_M_177 (c_M_advertise w (t0 N) r hr5 0 (inv_t0 hI)) rfl rfl (by decide) rfl (Nat.le_of_ble_eq_true rfl) d_M_stop_54 ?_
            exact hJ _ (by unfold mSt1; first | rw [if_pos c44] | rw [if_neg (fun z => z c44), if_pos c48] | rw [if_neg (fun z => z c44), if_neg (fun z => z c48)])
      · exact absurd (by simp [u2, upd]) c33 --stop
    · exact absurd c18 h --stop
  · exact absurd c5 (mIsR_ne hr5) --stop
set_option maxRecDepth 100000 in
set_option maxHeartbeats 4000000 in
theorem m_ask_0 {l : Launch} {G : zG} {U : zU} (w : wR G U) (N : zR) (r : Nat) (hr5 : r < 5) (h : ¬ N 3 r = 0) (hI : InvR N) : zF l y_M_ask b_M_ask 2 none 2 49 G [.ref (U.1 43), .int (nI r)] (eR U N) none (eR U (mEmp (t0 N) r 3 r 15)) := by
  refine zF.ofZ (by decide) w.2.2.2.2 (Nat.le_of_ble_eq_true rfl) (fun X hXl hN hr C => ?_)
  subst hXl
  show Z X G (zA G) 2 _ (eR U N) 0 [(0, .ref (U.1 43)), (1, .int (nI r))] []
  refine Z_aload_n C 0 d_M_ask_0 rfl rfl ?_
  refine Z_iload_n C 1 d_M_ask_1 rfl rfl ?_
  refine C_csv C ms_M_isRouter ml_M_128 (c_M_isRouter w _ _) rfl (by decide) rfl (Nat.le_of_ble_eq_true rfl) d_M_ask_2 ?_
  refine Z_if_ne (tgt := 12) C d_M_ask_5 (by decide) (fun c5 => ?_) (fun c5 => ?_)
  · skip
    refine Z_aload_n C 0 d_M_ask_12 rfl rfl ?_
    refine R_get C w 3 (by decide) fl_M_13 rfl rfl d_M_ask_13 ?_
    refine Z_iload_n C 1 d_M_ask_16 rfl rfl ?_
    refine R_ld 3 C w rfl rfl r (nI_clamp (by omega)) (vp_in_nI (n := r) (N := 5) (by omega) (by decide)) d_M_ask_17 ?_
    refine Z_if_ne (tgt := 25) C d_M_ask_18 (by decide) (fun c18 => ?_) (fun c18 => ?_)
    · skip
      refine Z_iconst (v := 0) C d_M_ask_25 (by decide) ?_
      refine R_put C w 0 (by decide) fl_M_124 rfl rfl rfl rfl rfl d_M_ask_26 ?_
      refine Z_aload_n C 0 d_M_ask_29 rfl rfl ?_
      refine R_get C w 0 (by decide) fl_M_124 rfl rfl d_M_ask_30 ?_
      refine Z_if_eq (tgt := 37) C d_M_ask_33 (by decide) (fun c33 => ?_) (fun c33 => ?_)
      · skip
        refine Z_aload_n C 0 d_M_ask_37 rfl rfl ?_
        refine Z_iconst (v := 0) C d_M_ask_38 (by decide) ?_
        refine R_put C w 38 (by decide) fl_M_136 rfl rfl rfl rfl rfl d_M_ask_39 ?_
        refine Z_aload_n C 0 d_M_ask_42 rfl rfl ?_
        refine Z_iload_n C 1 d_M_ask_43 rfl rfl ?_
        refine Z_iconst (v := 3) C d_M_ask_44 (by decide) ?_
        refine Z_iload_n C 1 d_M_ask_45 rfl rfl ?_
        refine Z_bipush (v := 15) C d_M_ask_46 (by decide) ?_
        refine C_cMn C w mi_M_send ml_M_173 (c_M_send w (u2 (t0 N) 43 38 0) r hr5 3 r 15 (fly (t0 N)) 0 (by omega) (by decide) (inv_t0 hI).1 (inv_t0 hI).2 rfl (by decide)) rfl rfl (by decide) rfl (Nat.le_of_ble_eq_true rfl) d_M_ask_48 ?_
        exact Z_vret C hN hr d_M_ask_51 rfl (zeq (rfl))
      · exact absurd (by simp [u2, upd]) c33 --stop
    · exact absurd c18 h --stop
  · exact absurd c5 (mIsR_ne hr5) --stop
set_option maxRecDepth 100000 in
set_option maxHeartbeats 4000000 in
theorem m_open_3 {l : Launch} {G : zG} {U : zU} (w : wR G U) (N : zR) (r : Nat) (hr5 : r < 5) (s : Nat) (hs5 : s < 5) (tx rx m : Int32) (hrs : ¬ r = s) (h : ¬ N 3 r = 0) (hb : tx < 1 ∨ 1000 < tx ∨ rx < 1 ∨ 1000 < rx ∨ m < 1 ∨ 255 < m) : zF l y_M_open b_M_open 8 none 3 63 G [.ref (U.1 43), .int (nI r), .int (nI s), .int tx, .int rx, .int m] (eR U N) none (eR U (u2 N 43 0 3)) := by
  refine zF.ofZ (by decide) w.2.2.2.2 (Nat.le_of_ble_eq_true rfl) (fun X hXl hN hr C => ?_)
  subst hXl
  show Z X G (zA G) 8 _ (eR U N) 0 [(0, .ref (U.1 43)), (1, .int (nI r)), (2, .int (nI s)), (3, .int tx), (4, .int rx), (5, .int m)] []
  refine Z_iload_n C 3 d_M_open_0 rfl rfl ?_
  refine Z_iconst (v := 1) C d_M_open_1 (by decide) ?_
  refine Z_icmp_lt (tgt := 44) C d_M_open_2 (by decide) (fun c2 => ?_) (fun c2 => ?_)
  · skip
    refine Z_iconst (v := 0) C d_M_open_44 (by decide) ?_
    refine Z_istore C d_M_open_45 (by decide) rfl ?_
    refine Z_aload_n C 1 d_M_open_47 rfl rfl ?_
    refine Z_iload_n C 2 d_M_open_48 rfl rfl ?_
    refine C_csv C ms_M_isRouter ml_M_128 (c_M_isRouter w _ _) rfl (by decide) rfl (Nat.le_of_ble_eq_true rfl) d_M_open_49 ?_
    refine Z_if_eq (tgt := 67) C d_M_open_52 (by decide) (fun c52 => ?_) (fun c52 => ?_)
    · exact absurd c52 (mIsR_ne hr5) --stop
    · skip
      refine Z_iload_n C 3 d_M_open_55 rfl rfl ?_
      refine C_csv C ms_M_isRouter ml_M_128 (c_M_isRouter w _ _) rfl (by decide) rfl (Nat.le_of_ble_eq_true rfl) d_M_open_56 ?_
      refine Z_if_eq (tgt := 67) C d_M_open_59 (by decide) (fun c59 => ?_) (fun c59 => ?_)
      · exact absurd c59 (mIsR_ne hs5) --stop
      · skip
        refine Z_iload_n C 2 d_M_open_62 rfl rfl ?_
        refine Z_iload_n C 3 d_M_open_63 rfl rfl ?_
        refine Z_icmp_ne (tgt := 71) C d_M_open_64 (by decide) (fun c64 => ?_) (fun c64 => ?_)
        · skip
          refine Z_aload_n C 1 d_M_open_71 rfl rfl ?_
          refine R_get C w 3 (by decide) fl_M_13 rfl rfl d_M_open_72 ?_
          refine Z_iload_n C 2 d_M_open_75 rfl rfl ?_
          refine R_ld 3 C w rfl rfl r (nI_clamp (by omega)) (vp_in_nI (n := r) (N := 5) (by omega) (by decide)) d_M_open_76 ?_
          refine Z_if_ne (tgt := 84) C d_M_open_77 (by decide) (fun c77 => ?_) (fun c77 => ?_)
          · skip
            refine Z_iload C 0 d_M_open_84 rfl ?_
            refine Z_if_ne (tgt := 93) C d_M_open_86 (by decide) (fun c86 => ?_) (fun c86 => ?_)
            · exact absurd rfl c86
            · skip
              refine Z_iconst (v := 3) C d_M_open_89 (by decide) ?_
              refine Z_goto (tgt := 94) C d_M_open_90 (by decide) ?_
              refine R_put C w 0 (by decide) fl_M_124 rfl rfl rfl rfl rfl d_M_open_94 ?_
              refine Z_aload_n C 1 d_M_open_97 rfl rfl ?_
              refine R_get C w 0 (by decide) fl_M_124 rfl rfl d_M_open_98 ?_
              refine Z_if_eq (tgt := 105) C d_M_open_101 (by decide) (fun c101 => ?_) (fun c101 => ?_)
              · exact absurd c101 (by simp [u2, upd]) --stop
              · skip
                exact Z_vret C hN hr d_M_open_104 rfl (zeq (rfl))
          · exact absurd c77 h --stop
        · exact absurd ((nI_eq (by omega) (by omega)).mp c64) hrs --stop
  · skip
    refine Z_iload_n C 3 d_M_open_5 rfl rfl ?_
    refine Z_sipush (v := 1000) C d_M_open_6 (by decide) ?_
    refine Z_icmp_gt (tgt := 44) C d_M_open_9 (by decide) (fun c9 => ?_) (fun c9 => ?_)
    · skip
      refine Z_iconst (v := 0) C d_M_open_44 (by decide) ?_
      refine Z_istore C d_M_open_45 (by decide) rfl ?_
      refine Z_aload_n C 1 d_M_open_47 rfl rfl ?_
      refine Z_iload_n C 2 d_M_open_48 rfl rfl ?_
      refine C_csv C ms_M_isRouter ml_M_128 (c_M_isRouter w _ _) rfl (by decide) rfl (Nat.le_of_ble_eq_true rfl) d_M_open_49 ?_
      refine Z_if_eq (tgt := 67) C d_M_open_52 (by decide) (fun c52 => ?_) (fun c52 => ?_)
      · exact absurd c52 (mIsR_ne hr5) --stop
      · skip
        refine Z_iload_n C 3 d_M_open_55 rfl rfl ?_
        refine C_csv C ms_M_isRouter ml_M_128 (c_M_isRouter w _ _) rfl (by decide) rfl (Nat.le_of_ble_eq_true rfl) d_M_open_56 ?_
        refine Z_if_eq (tgt := 67) C d_M_open_59 (by decide) (fun c59 => ?_) (fun c59 => ?_)
        · exact absurd c59 (mIsR_ne hs5) --stop
        · skip
          refine Z_iload_n C 2 d_M_open_62 rfl rfl ?_
          refine Z_iload_n C 3 d_M_open_63 rfl rfl ?_
          refine Z_icmp_ne (tgt := 71) C d_M_open_64 (by decide) (fun c64 => ?_) (fun c64 => ?_)
          · skip
            refine Z_aload_n C 1 d_M_open_71 rfl rfl ?_
            refine R_get C w 3 (by decide) fl_M_13 rfl rfl d_M_open_72 ?_
            refine Z_iload_n C 2 d_M_open_75 rfl rfl ?_
            refine R_ld 3 C w rfl rfl r (nI_clamp (by omega)) (vp_in_nI (n := r) (N := 5) (by omega) (by decide)) d_M_open_76 ?_
            refine Z_if_ne (tgt := 84) C d_M_open_77 (by decide) (fun c77 => ?_) (fun c77 => ?_)
            · skip
              refine Z_iload C 0 d_M_open_84 rfl ?_
              refine Z_if_ne (tgt := 93) C d_M_open_86 (by decide) (fun c86 => ?_) (fun c86 => ?_)
              · exact absurd rfl c86
              · skip
                refine Z_iconst (v := 3) C d_M_open_89 (by decide) ?_
                refine Z_goto (tgt := 94) C d_M_open_90 (by decide) ?_
                refine R_put C w 0 (by decide) fl_M_124 rfl rfl rfl rfl rfl d_M_open_94 ?_
                refine Z_aload_n C 1 d_M_open_97 rfl rfl ?_
                refine R_get C w 0 (by decide) fl_M_124 rfl rfl d_M_open_98 ?_
                refine Z_if_eq (tgt := 105) C d_M_open_101 (by decide) (fun c101 => ?_) (fun c101 => ?_)
                · exact absurd c101 (by simp [u2, upd]) --stop
                · skip
                  exact Z_vret C hN hr d_M_open_104 rfl (zeq (rfl))
            · exact absurd c77 h --stop
          · exact absurd ((nI_eq (by omega) (by omega)).mp c64) hrs --stop
    · skip
      refine Z_iload C 4 d_M_open_12 rfl ?_
      refine Z_iconst (v := 1) C d_M_open_14 (by decide) ?_
      refine Z_icmp_lt (tgt := 44) C d_M_open_15 (by decide) (fun c15 => ?_) (fun c15 => ?_)
      · skip
        refine Z_iconst (v := 0) C d_M_open_44 (by decide) ?_
        refine Z_istore C d_M_open_45 (by decide) rfl ?_
        refine Z_aload_n C 1 d_M_open_47 rfl rfl ?_
        refine Z_iload_n C 2 d_M_open_48 rfl rfl ?_
        refine C_csv C ms_M_isRouter ml_M_128 (c_M_isRouter w _ _) rfl (by decide) rfl (Nat.le_of_ble_eq_true rfl) d_M_open_49 ?_
        refine Z_if_eq (tgt := 67) C d_M_open_52 (by decide) (fun c52 => ?_) (fun c52 => ?_)
        · exact absurd c52 (mIsR_ne hr5) --stop
        · skip
          refine Z_iload_n C 3 d_M_open_55 rfl rfl ?_
          refine C_csv C ms_M_isRouter ml_M_128 (c_M_isRouter w _ _) rfl (by decide) rfl (Nat.le_of_ble_eq_true rfl) d_M_open_56 ?_
          refine Z_if_eq (tgt := 67) C d_M_open_59 (by decide) (fun c59 => ?_) (fun c59 => ?_)
          · exact absurd c59 (mIsR_ne hs5) --stop
          · skip
            refine Z_iload_n C 2 d_M_open_62 rfl rfl ?_
            refine Z_iload_n C 3 d_M_open_63 rfl rfl ?_
            refine Z_icmp_ne (tgt := 71) C d_M_open_64 (by decide) (fun c64 => ?_) (fun c64 => ?_)
            · skip
              refine Z_aload_n C 1 d_M_open_71 rfl rfl ?_
              refine R_get C w 3 (by decide) fl_M_13 rfl rfl d_M_open_72 ?_
              refine Z_iload_n C 2 d_M_open_75 rfl rfl ?_
              refine R_ld 3 C w rfl rfl r (nI_clamp (by omega)) (vp_in_nI (n := r) (N := 5) (by omega) (by decide)) d_M_open_76 ?_
              refine Z_if_ne (tgt := 84) C d_M_open_77 (by decide) (fun c77 => ?_) (fun c77 => ?_)
              · skip
                refine Z_iload C 0 d_M_open_84 rfl ?_
                refine Z_if_ne (tgt := 93) C d_M_open_86 (by decide) (fun c86 => ?_) (fun c86 => ?_)
                · exact absurd rfl c86
                · skip
                  refine Z_iconst (v := 3) C d_M_open_89 (by decide) ?_
                  refine Z_goto (tgt := 94) C d_M_open_90 (by decide) ?_
                  refine R_put C w 0 (by decide) fl_M_124 rfl rfl rfl rfl rfl d_M_open_94 ?_
                  refine Z_aload_n C 1 d_M_open_97 rfl rfl ?_
                  refine R_get C w 0 (by decide) fl_M_124 rfl rfl d_M_open_98 ?_
                  refine Z_if_eq (tgt := 105) C d_M_open_101 (by decide) (fun c101 => ?_) (fun c101 => ?_)
                  · exact absurd c101 (by simp [u2, upd]) --stop
                  · skip
                    exact Z_vret C hN hr d_M_open_104 rfl (zeq (rfl))
              · exact absurd c77 h --stop
            · exact absurd ((nI_eq (by omega) (by omega)).mp c64) hrs --stop
      · skip
        refine Z_iload C 4 d_M_open_18 rfl ?_
        refine Z_sipush (v := 1000) C d_M_open_20 (by decide) ?_
        refine Z_icmp_gt (tgt := 44) C d_M_open_23 (by decide) (fun c23 => ?_) (fun c23 => ?_)
        · skip
          refine Z_iconst (v := 0) C d_M_open_44 (by decide) ?_
          refine Z_istore C d_M_open_45 (by decide) rfl ?_
          refine Z_aload_n C 1 d_M_open_47 rfl rfl ?_
          refine Z_iload_n C 2 d_M_open_48 rfl rfl ?_
          refine C_csv C ms_M_isRouter ml_M_128 (c_M_isRouter w _ _) rfl (by decide) rfl (Nat.le_of_ble_eq_true rfl) d_M_open_49 ?_
          refine Z_if_eq (tgt := 67) C d_M_open_52 (by decide) (fun c52 => ?_) (fun c52 => ?_)
          · exact absurd c52 (mIsR_ne hr5) --stop
          · skip
            refine Z_iload_n C 3 d_M_open_55 rfl rfl ?_
            refine C_csv C ms_M_isRouter ml_M_128 (c_M_isRouter w _ _) rfl (by decide) rfl (Nat.le_of_ble_eq_true rfl) d_M_open_56 ?_
            refine Z_if_eq (tgt := 67) C d_M_open_59 (by decide) (fun c59 => ?_) (fun c59 => ?_)
            · exact absurd c59 (mIsR_ne hs5) --stop
            · skip
              refine Z_iload_n C 2 d_M_open_62 rfl rfl ?_
              refine Z_iload_n C 3 d_M_open_63 rfl rfl ?_
              refine Z_icmp_ne (tgt := 71) C d_M_open_64 (by decide) (fun c64 => ?_) (fun c64 => ?_)
              · skip
                refine Z_aload_n C 1 d_M_open_71 rfl rfl ?_
                refine R_get C w 3 (by decide) fl_M_13 rfl rfl d_M_open_72 ?_
                refine Z_iload_n C 2 d_M_open_75 rfl rfl ?_
                refine R_ld 3 C w rfl rfl r (nI_clamp (by omega)) (vp_in_nI (n := r) (N := 5) (by omega) (by decide)) d_M_open_76 ?_
                refine Z_if_ne (tgt := 84) C d_M_open_77 (by decide) (fun c77 => ?_) (fun c77 => ?_)
                · skip
                  refine Z_iload C 0 d_M_open_84 rfl ?_
                  refine Z_if_ne (tgt := 93) C d_M_open_86 (by decide) (fun c86 => ?_) (fun c86 => ?_)
                  · exact absurd rfl c86
                  · skip
                    refine Z_iconst (v := 3) C d_M_open_89 (by decide) ?_
                    refine Z_goto (tgt := 94) C d_M_open_90 (by decide) ?_
                    refine R_put C w 0 (by decide) fl_M_124 rfl rfl rfl rfl rfl d_M_open_94 ?_
                    refine Z_aload_n C 1 d_M_open_97 rfl rfl ?_
                    refine R_get C w 0 (by decide) fl_M_124 rfl rfl d_M_open_98 ?_
                    refine Z_if_eq (tgt := 105) C d_M_open_101 (by decide) (fun c101 => ?_) (fun c101 => ?_)
                    · exact absurd c101 (by simp [u2, upd]) --stop
                    · skip
                      exact Z_vret C hN hr d_M_open_104 rfl (zeq (rfl))
                · exact absurd c77 h --stop
              · exact absurd ((nI_eq (by omega) (by omega)).mp c64) hrs --stop
        · skip
          refine Z_iload C 5 d_M_open_26 rfl ?_
          refine Z_iconst (v := 1) C d_M_open_28 (by decide) ?_
          refine Z_icmp_lt (tgt := 44) C d_M_open_29 (by decide) (fun c29 => ?_) (fun c29 => ?_)
          · skip
            refine Z_iconst (v := 0) C d_M_open_44 (by decide) ?_
            refine Z_istore C d_M_open_45 (by decide) rfl ?_
            refine Z_aload_n C 1 d_M_open_47 rfl rfl ?_
            refine Z_iload_n C 2 d_M_open_48 rfl rfl ?_
            refine C_csv C ms_M_isRouter ml_M_128 (c_M_isRouter w _ _) rfl (by decide) rfl (Nat.le_of_ble_eq_true rfl) d_M_open_49 ?_
            refine Z_if_eq (tgt := 67) C d_M_open_52 (by decide) (fun c52 => ?_) (fun c52 => ?_)
            · exact absurd c52 (mIsR_ne hr5) --stop
            · skip
              refine Z_iload_n C 3 d_M_open_55 rfl rfl ?_
              refine C_csv C ms_M_isRouter ml_M_128 (c_M_isRouter w _ _) rfl (by decide) rfl (Nat.le_of_ble_eq_true rfl) d_M_open_56 ?_
              refine Z_if_eq (tgt := 67) C d_M_open_59 (by decide) (fun c59 => ?_) (fun c59 => ?_)
              · exact absurd c59 (mIsR_ne hs5) --stop
              · skip
                refine Z_iload_n C 2 d_M_open_62 rfl rfl ?_
                refine Z_iload_n C 3 d_M_open_63 rfl rfl ?_
                refine Z_icmp_ne (tgt := 71) C d_M_open_64 (by decide) (fun c64 => ?_) (fun c64 => ?_)
                · skip
                  refine Z_aload_n C 1 d_M_open_71 rfl rfl ?_
                  refine R_get C w 3 (by decide) fl_M_13 rfl rfl d_M_open_72 ?_
                  refine Z_iload_n C 2 d_M_open_75 rfl rfl ?_
                  refine R_ld 3 C w rfl rfl r (nI_clamp (by omega)) (vp_in_nI (n := r) (N := 5) (by omega) (by decide)) d_M_open_76 ?_
                  refine Z_if_ne (tgt := 84) C d_M_open_77 (by decide) (fun c77 => ?_) (fun c77 => ?_)
                  · skip
                    refine Z_iload C 0 d_M_open_84 rfl ?_
                    refine Z_if_ne (tgt := 93) C d_M_open_86 (by decide) (fun c86 => ?_) (fun c86 => ?_)
                    · exact absurd rfl c86
                    · skip
                      refine Z_iconst (v := 3) C d_M_open_89 (by decide) ?_
                      refine Z_goto (tgt := 94) C d_M_open_90 (by decide) ?_
                      refine R_put C w 0 (by decide) fl_M_124 rfl rfl rfl rfl rfl d_M_open_94 ?_
                      refine Z_aload_n C 1 d_M_open_97 rfl rfl ?_
                      refine R_get C w 0 (by decide) fl_M_124 rfl rfl d_M_open_98 ?_
                      refine Z_if_eq (tgt := 105) C d_M_open_101 (by decide) (fun c101 => ?_) (fun c101 => ?_)
                      · exact absurd c101 (by simp [u2, upd]) --stop
                      · skip
                        exact Z_vret C hN hr d_M_open_104 rfl (zeq (rfl))
                  · exact absurd c77 h --stop
                · exact absurd ((nI_eq (by omega) (by omega)).mp c64) hrs --stop
          · skip
            refine Z_iload C 5 d_M_open_32 rfl ?_
            refine Z_sipush (v := 255) C d_M_open_34 (by decide) ?_
            refine Z_icmp_gt (tgt := 44) C d_M_open_37 (by decide) (fun c37 => ?_) (fun c37 => ?_)
            · skip
              refine Z_iconst (v := 0) C d_M_open_44 (by decide) ?_
              refine Z_istore C d_M_open_45 (by decide) rfl ?_
              refine Z_aload_n C 1 d_M_open_47 rfl rfl ?_
              refine Z_iload_n C 2 d_M_open_48 rfl rfl ?_
              refine C_csv C ms_M_isRouter ml_M_128 (c_M_isRouter w _ _) rfl (by decide) rfl (Nat.le_of_ble_eq_true rfl) d_M_open_49 ?_
              refine Z_if_eq (tgt := 67) C d_M_open_52 (by decide) (fun c52 => ?_) (fun c52 => ?_)
              · exact absurd c52 (mIsR_ne hr5) --stop
              · skip
                refine Z_iload_n C 3 d_M_open_55 rfl rfl ?_
                refine C_csv C ms_M_isRouter ml_M_128 (c_M_isRouter w _ _) rfl (by decide) rfl (Nat.le_of_ble_eq_true rfl) d_M_open_56 ?_
                refine Z_if_eq (tgt := 67) C d_M_open_59 (by decide) (fun c59 => ?_) (fun c59 => ?_)
                · exact absurd c59 (mIsR_ne hs5) --stop
                · skip
                  refine Z_iload_n C 2 d_M_open_62 rfl rfl ?_
                  refine Z_iload_n C 3 d_M_open_63 rfl rfl ?_
                  refine Z_icmp_ne (tgt := 71) C d_M_open_64 (by decide) (fun c64 => ?_) (fun c64 => ?_)
                  · skip
                    refine Z_aload_n C 1 d_M_open_71 rfl rfl ?_
                    refine R_get C w 3 (by decide) fl_M_13 rfl rfl d_M_open_72 ?_
                    refine Z_iload_n C 2 d_M_open_75 rfl rfl ?_
                    refine R_ld 3 C w rfl rfl r (nI_clamp (by omega)) (vp_in_nI (n := r) (N := 5) (by omega) (by decide)) d_M_open_76 ?_
                    refine Z_if_ne (tgt := 84) C d_M_open_77 (by decide) (fun c77 => ?_) (fun c77 => ?_)
                    · skip
                      refine Z_iload C 0 d_M_open_84 rfl ?_
                      refine Z_if_ne (tgt := 93) C d_M_open_86 (by decide) (fun c86 => ?_) (fun c86 => ?_)
                      · exact absurd rfl c86
                      · skip
                        refine Z_iconst (v := 3) C d_M_open_89 (by decide) ?_
                        refine Z_goto (tgt := 94) C d_M_open_90 (by decide) ?_
                        refine R_put C w 0 (by decide) fl_M_124 rfl rfl rfl rfl rfl d_M_open_94 ?_
                        refine Z_aload_n C 1 d_M_open_97 rfl rfl ?_
                        refine R_get C w 0 (by decide) fl_M_124 rfl rfl d_M_open_98 ?_
                        refine Z_if_eq (tgt := 105) C d_M_open_101 (by decide) (fun c101 => ?_) (fun c101 => ?_)
                        · exact absurd c101 (by simp [u2, upd]) --stop
                        · skip
                          exact Z_vret C hN hr d_M_open_104 rfl (zeq (rfl))
                    · exact absurd c77 h --stop
                  · exact absurd ((nI_eq (by omega) (by omega)).mp c64) hrs --stop
            · exact absurd (((((hb.resolve_left c2).resolve_left c9).resolve_left c15).resolve_left c23).resolve_left c29) c37 --stop
set_option maxRecDepth 100000 in
set_option maxHeartbeats 4000000 in
theorem m_open_0 {l : Launch} {G : zG} {U : zU} (w : wR G U) (N : zR) (r : Nat) (hr5 : r < 5) (s : Nat) (hs5 : s < 5) (tx rx m : Int32) (hrs : ¬ r = s) (h : ¬ N 3 r = 0) (h1 : ¬ tx < 1) (h2 : ¬ 1000 < tx) (h3 : ¬ rx < 1) (h4 : ¬ 1000 < rx) (h5 : ¬ m < 1) (h6 : ¬ 255 < m) : zF l y_M_open b_M_open 8 none 3 63 G [.ref (U.1 43), .int (nI r), .int (nI s), .int tx, .int rx, .int m] (eR U N) none (eR U (mOpn (t0 N) (5 * r + s) tx rx m)) := by
  refine zF.ofZ (by decide) w.2.2.2.2 (Nat.le_of_ble_eq_true rfl) (fun X hXl hN hr C => ?_)
  subst hXl
  show Z X G (zA G) 8 _ (eR U N) 0 [(0, .ref (U.1 43)), (1, .int (nI r)), (2, .int (nI s)), (3, .int tx), (4, .int rx), (5, .int m)] []
  obtain ⟨i, hi⟩ : ∃ i, i = 5 * r + s := ⟨_, rfl⟩
  rw [← hi]
  refine Z_iload_n C 3 d_M_open_0 rfl rfl ?_
  refine Z_iconst (v := 1) C d_M_open_1 (by decide) ?_
  refine Z_icmp_lt (tgt := 44) C d_M_open_2 (by decide) (fun c2 => ?_) (fun c2 => ?_)
  · exact absurd c2 h1 --stop
  · skip
    refine Z_iload_n C 3 d_M_open_5 rfl rfl ?_
    refine Z_sipush (v := 1000) C d_M_open_6 (by decide) ?_
    refine Z_icmp_gt (tgt := 44) C d_M_open_9 (by decide) (fun c9 => ?_) (fun c9 => ?_)
    · exact absurd c9 h2 --stop
    · skip
      refine Z_iload C 4 d_M_open_12 rfl ?_
      refine Z_iconst (v := 1) C d_M_open_14 (by decide) ?_
      refine Z_icmp_lt (tgt := 44) C d_M_open_15 (by decide) (fun c15 => ?_) (fun c15 => ?_)
      · exact absurd c15 h3 --stop
      · skip
        refine Z_iload C 4 d_M_open_18 rfl ?_
        refine Z_sipush (v := 1000) C d_M_open_20 (by decide) ?_
        refine Z_icmp_gt (tgt := 44) C d_M_open_23 (by decide) (fun c23 => ?_) (fun c23 => ?_)
        · exact absurd c23 h4 --stop
        · skip
          refine Z_iload C 5 d_M_open_26 rfl ?_
          refine Z_iconst (v := 1) C d_M_open_28 (by decide) ?_
          refine Z_icmp_lt (tgt := 44) C d_M_open_29 (by decide) (fun c29 => ?_) (fun c29 => ?_)
          · exact absurd c29 h5 --stop
          · skip
            refine Z_iload C 5 d_M_open_32 rfl ?_
            refine Z_sipush (v := 255) C d_M_open_34 (by decide) ?_
            refine Z_icmp_gt (tgt := 44) C d_M_open_37 (by decide) (fun c37 => ?_) (fun c37 => ?_)
            · exact absurd c37 h6 --stop
            · skip
              refine Z_iconst (v := 1) C d_M_open_40 (by decide) ?_
              refine Z_goto (tgt := 45) C d_M_open_41 (by decide) ?_
              refine Z_istore C d_M_open_45 (by decide) rfl ?_
              refine Z_aload_n C 1 d_M_open_47 rfl rfl ?_
              refine Z_iload_n C 2 d_M_open_48 rfl rfl ?_
              refine C_csv C ms_M_isRouter ml_M_128 (c_M_isRouter w _ _) rfl (by decide) rfl (Nat.le_of_ble_eq_true rfl) d_M_open_49 ?_
              refine Z_if_eq (tgt := 67) C d_M_open_52 (by decide) (fun c52 => ?_) (fun c52 => ?_)
              · exact absurd c52 (mIsR_ne hr5) --stop
              · skip
                refine Z_iload_n C 3 d_M_open_55 rfl rfl ?_
                refine C_csv C ms_M_isRouter ml_M_128 (c_M_isRouter w _ _) rfl (by decide) rfl (Nat.le_of_ble_eq_true rfl) d_M_open_56 ?_
                refine Z_if_eq (tgt := 67) C d_M_open_59 (by decide) (fun c59 => ?_) (fun c59 => ?_)
                · exact absurd c59 (mIsR_ne hs5) --stop
                · skip
                  refine Z_iload_n C 2 d_M_open_62 rfl rfl ?_
                  refine Z_iload_n C 3 d_M_open_63 rfl rfl ?_
                  refine Z_icmp_ne (tgt := 71) C d_M_open_64 (by decide) (fun c64 => ?_) (fun c64 => ?_)
                  · skip
                    refine Z_aload_n C 1 d_M_open_71 rfl rfl ?_
                    refine R_get C w 3 (by decide) fl_M_13 rfl rfl d_M_open_72 ?_
                    refine Z_iload_n C 2 d_M_open_75 rfl rfl ?_
                    refine R_ld 3 C w rfl rfl r (nI_clamp (by omega)) (vp_in_nI (n := r) (N := 5) (by omega) (by decide)) d_M_open_76 ?_
                    refine Z_if_ne (tgt := 84) C d_M_open_77 (by decide) (fun c77 => ?_) (fun c77 => ?_)
                    · skip
                      refine Z_iload C 0 d_M_open_84 rfl ?_
                      refine Z_if_ne (tgt := 93) C d_M_open_86 (by decide) (fun c86 => ?_) (fun c86 => ?_)
                      · skip
                        refine Z_iconst (v := 0) C d_M_open_93 (by decide) ?_
                        refine R_put C w 0 (by decide) fl_M_124 rfl rfl rfl rfl rfl d_M_open_94 ?_
                        refine Z_aload_n C 1 d_M_open_97 rfl rfl ?_
                        refine R_get C w 0 (by decide) fl_M_124 rfl rfl d_M_open_98 ?_
                        refine Z_if_eq (tgt := 105) C d_M_open_101 (by decide) (fun c101 => ?_) (fun c101 => ?_)
                        · skip
                          refine Z_iconst (v := 5) C d_M_open_105 (by decide) ?_
                          refine Z_iload_n C 2 d_M_open_106 rfl rfl ?_
                          refine Z_imul C d_M_open_107 ?_
                          refine Z_iload_n C 3 d_M_open_108 rfl rfl ?_
                          refine Z_iadd C d_M_open_109 ?_
                          refine zst (st' := [.int (nI i)]) (by rw [ix5, hi]) ?_
                          refine Z_istore C d_M_open_110 (by decide) rfl ?_
                          refine Z_aload_n C 2 d_M_open_112 rfl rfl ?_
                          refine R_get C w 11 (by decide) fl_M_37 rfl rfl d_M_open_113 ?_
                          refine Z_iload C 0 d_M_open_116 rfl ?_
                          refine Z_iconst (v := 1) C d_M_open_118 (by decide) ?_
                          refine R_zst 11 C w rfl rfl i (nI_clamp (by omega)) (vp_in_nI (n := i) (N := 25) (by omega) (by decide)) rfl d_M_open_119 ?_
                          refine Z_aload_n C 2 d_M_open_120 rfl rfl ?_
                          refine R_get C w 12 (by decide) fl_M_41 rfl rfl d_M_open_121 ?_
                          refine Z_iload C 0 d_M_open_124 rfl ?_
                          refine Z_iconst (v := 1) C d_M_open_126 (by decide) ?_
                          refine R_st 12 C w rfl rfl i (nI_clamp (by omega)) (vp_in_nI (n := i) (N := 25) (by omega) (by decide)) d_M_open_127 ?_
                          refine Z_aload_n C 2 d_M_open_128 rfl rfl ?_
                          refine R_get C w 13 (by decide) fl_M_44 rfl rfl d_M_open_129 ?_
                          refine Z_iload C 0 d_M_open_132 rfl ?_
                          refine Z_iconst (v := 1) C d_M_open_134 (by decide) ?_
                          refine R_st 13 C w rfl rfl i (nI_clamp (by omega)) (vp_in_nI (n := i) (N := 25) (by omega) (by decide)) d_M_open_135 ?_
                          refine Z_aload_n C 2 d_M_open_136 rfl rfl ?_
                          refine R_get C w 14 (by decide) fl_M_47 rfl rfl d_M_open_137 ?_
                          refine Z_iload C 0 d_M_open_140 rfl ?_
                          refine Z_iconst (v := 0) C d_M_open_142 (by decide) ?_
                          refine R_st 14 C w rfl rfl i (nI_clamp (by omega)) (vp_in_nI (n := i) (N := 25) (by omega) (by decide)) d_M_open_143 ?_
                          refine Z_aload_n C 2 d_M_open_144 rfl rfl ?_
                          refine R_get C w 15 (by decide) fl_M_50 rfl rfl d_M_open_145 ?_
                          refine Z_iload C 0 d_M_open_148 rfl ?_
                          refine Z_iconst (v := 0) C d_M_open_150 (by decide) ?_
                          refine R_st 15 C w rfl rfl i (nI_clamp (by omega)) (vp_in_nI (n := i) (N := 25) (by omega) (by decide)) d_M_open_151 ?_
                          refine Z_aload_n C 2 d_M_open_152 rfl rfl ?_
                          refine R_get C w 21 (by decide) fl_M_68 rfl rfl d_M_open_153 ?_
                          refine Z_iload C 0 d_M_open_156 rfl ?_
                          refine Z_iconst (v := 1) C d_M_open_158 (by decide) ?_
                          refine R_st 21 C w rfl rfl i (nI_clamp (by omega)) (vp_in_nI (n := i) (N := 25) (by omega) (by decide)) d_M_open_159 ?_
                          refine Z_aload_n C 2 d_M_open_160 rfl rfl ?_
                          refine R_get C w 22 (by decide) fl_M_71 rfl rfl d_M_open_161 ?_
                          refine Z_iload C 0 d_M_open_164 rfl ?_
                          refine Z_iconst (v := 0) C d_M_open_166 (by decide) ?_
                          refine R_st 22 C w rfl rfl i (nI_clamp (by omega)) (vp_in_nI (n := i) (N := 25) (by omega) (by decide)) d_M_open_167 ?_
                          refine Z_aload_n C 2 d_M_open_168 rfl rfl ?_
                          refine R_get C w 23 (by decide) fl_M_74 rfl rfl d_M_open_169 ?_
                          refine Z_iload C 0 d_M_open_172 rfl ?_
                          refine Z_iconst (v := 0) C d_M_open_174 (by decide) ?_
                          refine R_st 23 C w rfl rfl i (nI_clamp (by omega)) (vp_in_nI (n := i) (N := 25) (by omega) (by decide)) d_M_open_175 ?_
                          refine Z_aload_n C 2 d_M_open_176 rfl rfl ?_
                          refine R_get C w 24 (by decide) fl_M_77 rfl rfl d_M_open_177 ?_
                          refine Z_iload C 0 d_M_open_180 rfl ?_
                          refine Z_iconst (v := 0) C d_M_open_182 (by decide) ?_
                          refine R_zst 24 C w rfl rfl i (nI_clamp (by omega)) (vp_in_nI (n := i) (N := 25) (by omega) (by decide)) rfl d_M_open_183 ?_
                          refine Z_aload_n C 2 d_M_open_184 rfl rfl ?_
                          refine R_get C w 16 (by decide) fl_M_53 rfl rfl d_M_open_185 ?_
                          refine Z_iload C 0 d_M_open_188 rfl ?_
                          refine Z_iload_n C 5 d_M_open_190 rfl rfl ?_
                          refine R_st 16 C w rfl rfl i (nI_clamp (by omega)) (vp_in_nI (n := i) (N := 25) (by omega) (by decide)) d_M_open_191 ?_
                          refine Z_aload_n C 2 d_M_open_192 rfl rfl ?_
                          refine R_get C w 17 (by decide) fl_M_56 rfl rfl d_M_open_193 ?_
                          refine Z_iload C 0 d_M_open_196 rfl ?_
                          refine Z_iload C 6 d_M_open_198 rfl ?_
                          refine R_st 17 C w rfl rfl i (nI_clamp (by omega)) (vp_in_nI (n := i) (N := 25) (by omega) (by decide)) d_M_open_200 ?_
                          refine Z_aload_n C 2 d_M_open_201 rfl rfl ?_
                          refine R_get C w 18 (by decide) fl_M_59 rfl rfl d_M_open_202 ?_
                          refine Z_iload C 0 d_M_open_205 rfl ?_
                          refine Z_iload_n C 5 d_M_open_207 rfl rfl ?_
                          refine R_st 18 C w rfl rfl i (nI_clamp (by omega)) (vp_in_nI (n := i) (N := 25) (by omega) (by decide)) d_M_open_208 ?_
                          refine Z_aload_n C 2 d_M_open_209 rfl rfl ?_
                          refine R_get C w 19 (by decide) fl_M_62 rfl rfl d_M_open_210 ?_
                          refine Z_iload C 0 d_M_open_213 rfl ?_
                          refine Z_iload C 6 d_M_open_215 rfl ?_
                          refine R_st 19 C w rfl rfl i (nI_clamp (by omega)) (vp_in_nI (n := i) (N := 25) (by omega) (by decide)) d_M_open_217 ?_
                          refine Z_aload_n C 2 d_M_open_218 rfl rfl ?_
                          refine R_get C w 20 (by decide) fl_M_65 rfl rfl d_M_open_219 ?_
                          refine Z_iload C 0 d_M_open_222 rfl ?_
                          refine Z_iload C 7 d_M_open_224 rfl ?_
                          refine R_st 20 C w rfl rfl i (nI_clamp (by omega)) (vp_in_nI (n := i) (N := 25) (by omega) (by decide)) d_M_open_226 ?_
                          refine Z_aload_n C 2 d_M_open_227 rfl rfl ?_
                          refine R_get C w 26 (by decide) fl_M_83 rfl rfl d_M_open_228 ?_
                          refine Z_iload C 0 d_M_open_231 rfl ?_
                          refine Z_iconst (v := 0) C d_M_open_233 (by decide) ?_
                          refine R_st 26 C w rfl rfl i (nI_clamp (by omega)) (vp_in_nI (n := i) (N := 25) (by omega) (by decide)) d_M_open_234 ?_
                          refine Z_aload_n C 2 d_M_open_235 rfl rfl ?_
                          refine R_get C w 27 (by decide) fl_M_86 rfl rfl d_M_open_236 ?_
                          refine Z_iload C 0 d_M_open_239 rfl ?_
                          refine Z_iconst (v := 0) C d_M_open_241 (by decide) ?_
                          refine R_st 27 C w rfl rfl i (nI_clamp (by omega)) (vp_in_nI (n := i) (N := 25) (by omega) (by decide)) d_M_open_242 ?_
                          refine Z_aload_n C 2 d_M_open_243 rfl rfl ?_
                          refine Z_iload C 0 d_M_open_244 rfl ?_
                          refine C_cMn C w mi_M_setSend ml_M_204 (c_M_setSend w _ i (by omega)) rfl rfl (by decide) rfl (Nat.le_of_ble_eq_true rfl) d_M_open_246 ?_
                          exact Z_vret C hN hr d_M_open_249 rfl (zeq (rfl))
                        · exact absurd (by simp [u2, upd]) c101 --stop
                      · exact absurd c86 (by decide)
                    · exact absurd c77 h --stop
                  · exact absurd ((nI_eq (by omega) (by omega)).mp c64) hrs --stop
set_option maxRecDepth 100000 in
set_option maxHeartbeats 4000000 in
theorem m_change_3 {l : Launch} {G : zG} {U : zU} (w : wR G U) (N : zR) (r : Nat) (hr5 : r < 5) (s : Nat) (hs5 : s < 5) (tx rx : Int32) (h : ¬ N 11 (5 * r + s) = 0) (h0 : ¬ N 12 (5 * r + s) = 0) (hz : ¬ (tx = 0 ∧ rx = 0)) (hb : tx < 1 ∨ 1000 < tx ∨ rx < 1 ∨ 1000 < rx) : zF l y_M_change b_M_change 9 none 4 84 G [.ref (U.1 43), .int (nI r), .int (nI s), .int tx, .int rx] (eR U N) none (eR U (u2 N 43 0 3)) := by
  refine zF.ofZ (by decide) w.2.2.2.2 (Nat.le_of_ble_eq_true rfl) (fun X hXl hN hr C => ?_)
  subst hXl
  show Z X G (zA G) 9 _ (eR U N) 0 [(0, .ref (U.1 43)), (1, .int (nI r)), (2, .int (nI s)), (3, .int tx), (4, .int rx)] []
  refine Z_iload_n C 3 d_M_change_0 rfl rfl ?_
  refine Z_if_ne (tgt := 13) C d_M_change_1 (by decide) (fun c1 => ?_) (fun c1 => ?_)
  · skip
    refine Z_iconst (v := 0) C d_M_change_13 (by decide) ?_
    refine Z_istore C d_M_change_14 (by decide) rfl ?_
    refine Z_iload C 0 d_M_change_16 rfl ?_
    refine Z_if_ne (tgt := 47) C d_M_change_18 (by decide) (fun c18 => ?_) (fun c18 => ?_)
    · exact absurd rfl c18
    · skip
      refine Z_iload_n C 4 d_M_change_21 rfl rfl ?_
      refine Z_iconst (v := 1) C d_M_change_22 (by decide) ?_
      refine Z_icmp_lt (tgt := 51) C d_M_change_23 (by decide) (fun c23 => ?_) (fun c23 => ?_)
      · skip
        refine Z_iconst (v := 0) C d_M_change_51 (by decide) ?_
        refine Z_istore C d_M_change_52 (by decide) rfl ?_
        refine Z_aload_n C 2 d_M_change_54 rfl rfl ?_
        refine Z_iload_n C 3 d_M_change_55 rfl rfl ?_
        refine C_csv C ms_M_isRouter ml_M_128 (c_M_isRouter w _ _) rfl (by decide) rfl (Nat.le_of_ble_eq_true rfl) d_M_change_56 ?_
        refine Z_if_eq (tgt := 69) C d_M_change_59 (by decide) (fun c59 => ?_) (fun c59 => ?_)
        · exact absurd c59 (mIsR_ne hr5) --stop
        · skip
          refine Z_iload_n C 4 d_M_change_62 rfl rfl ?_
          refine C_csv C ms_M_isRouter ml_M_128 (c_M_isRouter w _ _) rfl (by decide) rfl (Nat.le_of_ble_eq_true rfl) d_M_change_63 ?_
          refine Z_if_ne (tgt := 73) C d_M_change_66 (by decide) (fun c66 => ?_) (fun c66 => ?_)
          · skip
            refine Z_aload_n C 2 d_M_change_73 rfl rfl ?_
            refine R_get C w 11 (by decide) fl_M_37 rfl rfl d_M_change_74 ?_
            refine Z_iconst (v := 5) C d_M_change_77 (by decide) ?_
            refine Z_iload_n C 3 d_M_change_78 rfl rfl ?_
            refine Z_imul C d_M_change_79 ?_
            refine Z_iload_n C 4 d_M_change_80 rfl rfl ?_
            refine Z_iadd C d_M_change_81 ?_
            refine R_zld 11 C w rfl rfl (5 * r + s) (by rw [ix5]; exact nI_clamp (by omega)) (by rw [ix5]; exact vp_in_nI (n := 5 * r + s) (N := 25) (by omega) (by decide)) d_M_change_82 ?_
            refine Z_if_eq (tgt := 99) C d_M_change_83 (by decide) (fun c83 => ?_) (fun c83 => ?_)
            · exact absurd c83 h --stop
            · skip
              refine Z_aload_n C 2 d_M_change_86 rfl rfl ?_
              refine R_get C w 12 (by decide) fl_M_41 rfl rfl d_M_change_87 ?_
              refine Z_iconst (v := 5) C d_M_change_90 (by decide) ?_
              refine Z_iload_n C 3 d_M_change_91 rfl rfl ?_
              refine Z_imul C d_M_change_92 ?_
              refine Z_iload_n C 4 d_M_change_93 rfl rfl ?_
              refine Z_iadd C d_M_change_94 ?_
              refine R_ld 12 C w rfl rfl (5 * r + s) (by rw [ix5]; exact nI_clamp (by omega)) (by rw [ix5]; exact vp_in_nI (n := 5 * r + s) (N := 25) (by omega) (by decide)) d_M_change_95 ?_
              refine Z_if_ne (tgt := 103) C d_M_change_96 (by decide) (fun c96 => ?_) (fun c96 => ?_)
              · skip
                refine Z_iload C 0 d_M_change_103 rfl ?_
                refine Z_if_ne (tgt := 112) C d_M_change_105 (by decide) (fun c105 => ?_) (fun c105 => ?_)
                · exact absurd rfl c105
                · skip
                  refine Z_iconst (v := 3) C d_M_change_108 (by decide) ?_
                  refine Z_goto (tgt := 113) C d_M_change_109 (by decide) ?_
                  refine R_put C w 0 (by decide) fl_M_124 rfl rfl rfl rfl rfl d_M_change_113 ?_
                  refine Z_aload_n C 2 d_M_change_116 rfl rfl ?_
                  refine R_get C w 0 (by decide) fl_M_124 rfl rfl d_M_change_117 ?_
                  refine Z_if_eq (tgt := 124) C d_M_change_120 (by decide) (fun c120 => ?_) (fun c120 => ?_)
                  · exact absurd c120 (by simp [u2, upd]) --stop
                  · skip
                    exact Z_vret C hN hr d_M_change_123 rfl (zeq (rfl))
              · exact absurd c96 h0 --stop
          · exact absurd c66 (mIsR_ne hs5) --stop
      · skip
        refine Z_iload_n C 4 d_M_change_26 rfl rfl ?_
        refine Z_sipush (v := 1000) C d_M_change_27 (by decide) ?_
        refine Z_icmp_gt (tgt := 51) C d_M_change_30 (by decide) (fun c30 => ?_) (fun c30 => ?_)
        · skip
          refine Z_iconst (v := 0) C d_M_change_51 (by decide) ?_
          refine Z_istore C d_M_change_52 (by decide) rfl ?_
          refine Z_aload_n C 2 d_M_change_54 rfl rfl ?_
          refine Z_iload_n C 3 d_M_change_55 rfl rfl ?_
          refine C_csv C ms_M_isRouter ml_M_128 (c_M_isRouter w _ _) rfl (by decide) rfl (Nat.le_of_ble_eq_true rfl) d_M_change_56 ?_
          refine Z_if_eq (tgt := 69) C d_M_change_59 (by decide) (fun c59 => ?_) (fun c59 => ?_)
          · exact absurd c59 (mIsR_ne hr5) --stop
          · skip
            refine Z_iload_n C 4 d_M_change_62 rfl rfl ?_
            refine C_csv C ms_M_isRouter ml_M_128 (c_M_isRouter w _ _) rfl (by decide) rfl (Nat.le_of_ble_eq_true rfl) d_M_change_63 ?_
            refine Z_if_ne (tgt := 73) C d_M_change_66 (by decide) (fun c66 => ?_) (fun c66 => ?_)
            · skip
              refine Z_aload_n C 2 d_M_change_73 rfl rfl ?_
              refine R_get C w 11 (by decide) fl_M_37 rfl rfl d_M_change_74 ?_
              refine Z_iconst (v := 5) C d_M_change_77 (by decide) ?_
              refine Z_iload_n C 3 d_M_change_78 rfl rfl ?_
              refine Z_imul C d_M_change_79 ?_
              refine Z_iload_n C 4 d_M_change_80 rfl rfl ?_
              refine Z_iadd C d_M_change_81 ?_
              refine R_zld 11 C w rfl rfl (5 * r + s) (by rw [ix5]; exact nI_clamp (by omega)) (by rw [ix5]; exact vp_in_nI (n := 5 * r + s) (N := 25) (by omega) (by decide)) d_M_change_82 ?_
              refine Z_if_eq (tgt := 99) C d_M_change_83 (by decide) (fun c83 => ?_) (fun c83 => ?_)
              · exact absurd c83 h --stop
              · skip
                refine Z_aload_n C 2 d_M_change_86 rfl rfl ?_
                refine R_get C w 12 (by decide) fl_M_41 rfl rfl d_M_change_87 ?_
                refine Z_iconst (v := 5) C d_M_change_90 (by decide) ?_
                refine Z_iload_n C 3 d_M_change_91 rfl rfl ?_
                refine Z_imul C d_M_change_92 ?_
                refine Z_iload_n C 4 d_M_change_93 rfl rfl ?_
                refine Z_iadd C d_M_change_94 ?_
                refine R_ld 12 C w rfl rfl (5 * r + s) (by rw [ix5]; exact nI_clamp (by omega)) (by rw [ix5]; exact vp_in_nI (n := 5 * r + s) (N := 25) (by omega) (by decide)) d_M_change_95 ?_
                refine Z_if_ne (tgt := 103) C d_M_change_96 (by decide) (fun c96 => ?_) (fun c96 => ?_)
                · skip
                  refine Z_iload C 0 d_M_change_103 rfl ?_
                  refine Z_if_ne (tgt := 112) C d_M_change_105 (by decide) (fun c105 => ?_) (fun c105 => ?_)
                  · exact absurd rfl c105
                  · skip
                    refine Z_iconst (v := 3) C d_M_change_108 (by decide) ?_
                    refine Z_goto (tgt := 113) C d_M_change_109 (by decide) ?_
                    refine R_put C w 0 (by decide) fl_M_124 rfl rfl rfl rfl rfl d_M_change_113 ?_
                    refine Z_aload_n C 2 d_M_change_116 rfl rfl ?_
                    refine R_get C w 0 (by decide) fl_M_124 rfl rfl d_M_change_117 ?_
                    refine Z_if_eq (tgt := 124) C d_M_change_120 (by decide) (fun c120 => ?_) (fun c120 => ?_)
                    · exact absurd c120 (by simp [u2, upd]) --stop
                    · skip
                      exact Z_vret C hN hr d_M_change_123 rfl (zeq (rfl))
                · exact absurd c96 h0 --stop
            · exact absurd c66 (mIsR_ne hs5) --stop
        · skip
          refine Z_iload C 5 d_M_change_33 rfl ?_
          refine Z_iconst (v := 1) C d_M_change_35 (by decide) ?_
          refine Z_icmp_lt (tgt := 51) C d_M_change_36 (by decide) (fun c36 => ?_) (fun c36 => ?_)
          · skip
            refine Z_iconst (v := 0) C d_M_change_51 (by decide) ?_
            refine Z_istore C d_M_change_52 (by decide) rfl ?_
            refine Z_aload_n C 2 d_M_change_54 rfl rfl ?_
            refine Z_iload_n C 3 d_M_change_55 rfl rfl ?_
            refine C_csv C ms_M_isRouter ml_M_128 (c_M_isRouter w _ _) rfl (by decide) rfl (Nat.le_of_ble_eq_true rfl) d_M_change_56 ?_
            refine Z_if_eq (tgt := 69) C d_M_change_59 (by decide) (fun c59 => ?_) (fun c59 => ?_)
            · exact absurd c59 (mIsR_ne hr5) --stop
            · skip
              refine Z_iload_n C 4 d_M_change_62 rfl rfl ?_
              refine C_csv C ms_M_isRouter ml_M_128 (c_M_isRouter w _ _) rfl (by decide) rfl (Nat.le_of_ble_eq_true rfl) d_M_change_63 ?_
              refine Z_if_ne (tgt := 73) C d_M_change_66 (by decide) (fun c66 => ?_) (fun c66 => ?_)
              · skip
                refine Z_aload_n C 2 d_M_change_73 rfl rfl ?_
                refine R_get C w 11 (by decide) fl_M_37 rfl rfl d_M_change_74 ?_
                refine Z_iconst (v := 5) C d_M_change_77 (by decide) ?_
                refine Z_iload_n C 3 d_M_change_78 rfl rfl ?_
                refine Z_imul C d_M_change_79 ?_
                refine Z_iload_n C 4 d_M_change_80 rfl rfl ?_
                refine Z_iadd C d_M_change_81 ?_
                refine R_zld 11 C w rfl rfl (5 * r + s) (by rw [ix5]; exact nI_clamp (by omega)) (by rw [ix5]; exact vp_in_nI (n := 5 * r + s) (N := 25) (by omega) (by decide)) d_M_change_82 ?_
                refine Z_if_eq (tgt := 99) C d_M_change_83 (by decide) (fun c83 => ?_) (fun c83 => ?_)
                · exact absurd c83 h --stop
                · skip
                  refine Z_aload_n C 2 d_M_change_86 rfl rfl ?_
                  refine R_get C w 12 (by decide) fl_M_41 rfl rfl d_M_change_87 ?_
                  refine Z_iconst (v := 5) C d_M_change_90 (by decide) ?_
                  refine Z_iload_n C 3 d_M_change_91 rfl rfl ?_
                  refine Z_imul C d_M_change_92 ?_
                  refine Z_iload_n C 4 d_M_change_93 rfl rfl ?_
                  refine Z_iadd C d_M_change_94 ?_
                  refine R_ld 12 C w rfl rfl (5 * r + s) (by rw [ix5]; exact nI_clamp (by omega)) (by rw [ix5]; exact vp_in_nI (n := 5 * r + s) (N := 25) (by omega) (by decide)) d_M_change_95 ?_
                  refine Z_if_ne (tgt := 103) C d_M_change_96 (by decide) (fun c96 => ?_) (fun c96 => ?_)
                  · skip
                    refine Z_iload C 0 d_M_change_103 rfl ?_
                    refine Z_if_ne (tgt := 112) C d_M_change_105 (by decide) (fun c105 => ?_) (fun c105 => ?_)
                    · exact absurd rfl c105
                    · skip
                      refine Z_iconst (v := 3) C d_M_change_108 (by decide) ?_
                      refine Z_goto (tgt := 113) C d_M_change_109 (by decide) ?_
                      refine R_put C w 0 (by decide) fl_M_124 rfl rfl rfl rfl rfl d_M_change_113 ?_
                      refine Z_aload_n C 2 d_M_change_116 rfl rfl ?_
                      refine R_get C w 0 (by decide) fl_M_124 rfl rfl d_M_change_117 ?_
                      refine Z_if_eq (tgt := 124) C d_M_change_120 (by decide) (fun c120 => ?_) (fun c120 => ?_)
                      · exact absurd c120 (by simp [u2, upd]) --stop
                      · skip
                        exact Z_vret C hN hr d_M_change_123 rfl (zeq (rfl))
                  · exact absurd c96 h0 --stop
              · exact absurd c66 (mIsR_ne hs5) --stop
          · skip
            refine Z_iload C 5 d_M_change_39 rfl ?_
            refine Z_sipush (v := 1000) C d_M_change_41 (by decide) ?_
            refine Z_icmp_gt (tgt := 51) C d_M_change_44 (by decide) (fun c44 => ?_) (fun c44 => ?_)
            · skip
              refine Z_iconst (v := 0) C d_M_change_51 (by decide) ?_
              refine Z_istore C d_M_change_52 (by decide) rfl ?_
              refine Z_aload_n C 2 d_M_change_54 rfl rfl ?_
              refine Z_iload_n C 3 d_M_change_55 rfl rfl ?_
              refine C_csv C ms_M_isRouter ml_M_128 (c_M_isRouter w _ _) rfl (by decide) rfl (Nat.le_of_ble_eq_true rfl) d_M_change_56 ?_
              refine Z_if_eq (tgt := 69) C d_M_change_59 (by decide) (fun c59 => ?_) (fun c59 => ?_)
              · exact absurd c59 (mIsR_ne hr5) --stop
              · skip
                refine Z_iload_n C 4 d_M_change_62 rfl rfl ?_
                refine C_csv C ms_M_isRouter ml_M_128 (c_M_isRouter w _ _) rfl (by decide) rfl (Nat.le_of_ble_eq_true rfl) d_M_change_63 ?_
                refine Z_if_ne (tgt := 73) C d_M_change_66 (by decide) (fun c66 => ?_) (fun c66 => ?_)
                · skip
                  refine Z_aload_n C 2 d_M_change_73 rfl rfl ?_
                  refine R_get C w 11 (by decide) fl_M_37 rfl rfl d_M_change_74 ?_
                  refine Z_iconst (v := 5) C d_M_change_77 (by decide) ?_
                  refine Z_iload_n C 3 d_M_change_78 rfl rfl ?_
                  refine Z_imul C d_M_change_79 ?_
                  refine Z_iload_n C 4 d_M_change_80 rfl rfl ?_
                  refine Z_iadd C d_M_change_81 ?_
                  refine R_zld 11 C w rfl rfl (5 * r + s) (by rw [ix5]; exact nI_clamp (by omega)) (by rw [ix5]; exact vp_in_nI (n := 5 * r + s) (N := 25) (by omega) (by decide)) d_M_change_82 ?_
                  refine Z_if_eq (tgt := 99) C d_M_change_83 (by decide) (fun c83 => ?_) (fun c83 => ?_)
                  · exact absurd c83 h --stop
                  · skip
                    refine Z_aload_n C 2 d_M_change_86 rfl rfl ?_
                    refine R_get C w 12 (by decide) fl_M_41 rfl rfl d_M_change_87 ?_
                    refine Z_iconst (v := 5) C d_M_change_90 (by decide) ?_
                    refine Z_iload_n C 3 d_M_change_91 rfl rfl ?_
                    refine Z_imul C d_M_change_92 ?_
                    refine Z_iload_n C 4 d_M_change_93 rfl rfl ?_
                    refine Z_iadd C d_M_change_94 ?_
                    refine R_ld 12 C w rfl rfl (5 * r + s) (by rw [ix5]; exact nI_clamp (by omega)) (by rw [ix5]; exact vp_in_nI (n := 5 * r + s) (N := 25) (by omega) (by decide)) d_M_change_95 ?_
                    refine Z_if_ne (tgt := 103) C d_M_change_96 (by decide) (fun c96 => ?_) (fun c96 => ?_)
                    · skip
                      refine Z_iload C 0 d_M_change_103 rfl ?_
                      refine Z_if_ne (tgt := 112) C d_M_change_105 (by decide) (fun c105 => ?_) (fun c105 => ?_)
                      · exact absurd rfl c105
                      · skip
                        refine Z_iconst (v := 3) C d_M_change_108 (by decide) ?_
                        refine Z_goto (tgt := 113) C d_M_change_109 (by decide) ?_
                        refine R_put C w 0 (by decide) fl_M_124 rfl rfl rfl rfl rfl d_M_change_113 ?_
                        refine Z_aload_n C 2 d_M_change_116 rfl rfl ?_
                        refine R_get C w 0 (by decide) fl_M_124 rfl rfl d_M_change_117 ?_
                        refine Z_if_eq (tgt := 124) C d_M_change_120 (by decide) (fun c120 => ?_) (fun c120 => ?_)
                        · exact absurd c120 (by simp [u2, upd]) --stop
                        · skip
                          exact Z_vret C hN hr d_M_change_123 rfl (zeq (rfl))
                    · exact absurd c96 h0 --stop
                · exact absurd c66 (mIsR_ne hs5) --stop
            · exact absurd (((hb.resolve_left c23).resolve_left c30).resolve_left c36) c44 --stop
  · skip
    refine Z_iload C 4 d_M_change_4 rfl ?_
    refine Z_if_ne (tgt := 13) C d_M_change_6 (by decide) (fun c6 => ?_) (fun c6 => ?_)
    · skip
      refine Z_iconst (v := 0) C d_M_change_13 (by decide) ?_
      refine Z_istore C d_M_change_14 (by decide) rfl ?_
      refine Z_iload C 0 d_M_change_16 rfl ?_
      refine Z_if_ne (tgt := 47) C d_M_change_18 (by decide) (fun c18 => ?_) (fun c18 => ?_)
      · exact absurd rfl c18
      · skip
        refine Z_iload_n C 4 d_M_change_21 rfl rfl ?_
        refine Z_iconst (v := 1) C d_M_change_22 (by decide) ?_
        refine Z_icmp_lt (tgt := 51) C d_M_change_23 (by decide) (fun c23 => ?_) (fun c23 => ?_)
        · skip
          refine Z_iconst (v := 0) C d_M_change_51 (by decide) ?_
          refine Z_istore C d_M_change_52 (by decide) rfl ?_
          refine Z_aload_n C 2 d_M_change_54 rfl rfl ?_
          refine Z_iload_n C 3 d_M_change_55 rfl rfl ?_
          refine C_csv C ms_M_isRouter ml_M_128 (c_M_isRouter w _ _) rfl (by decide) rfl (Nat.le_of_ble_eq_true rfl) d_M_change_56 ?_
          refine Z_if_eq (tgt := 69) C d_M_change_59 (by decide) (fun c59 => ?_) (fun c59 => ?_)
          · exact absurd c59 (mIsR_ne hr5) --stop
          · skip
            refine Z_iload_n C 4 d_M_change_62 rfl rfl ?_
            refine C_csv C ms_M_isRouter ml_M_128 (c_M_isRouter w _ _) rfl (by decide) rfl (Nat.le_of_ble_eq_true rfl) d_M_change_63 ?_
            refine Z_if_ne (tgt := 73) C d_M_change_66 (by decide) (fun c66 => ?_) (fun c66 => ?_)
            · skip
              refine Z_aload_n C 2 d_M_change_73 rfl rfl ?_
              refine R_get C w 11 (by decide) fl_M_37 rfl rfl d_M_change_74 ?_
              refine Z_iconst (v := 5) C d_M_change_77 (by decide) ?_
              refine Z_iload_n C 3 d_M_change_78 rfl rfl ?_
              refine Z_imul C d_M_change_79 ?_
              refine Z_iload_n C 4 d_M_change_80 rfl rfl ?_
              refine Z_iadd C d_M_change_81 ?_
              refine R_zld 11 C w rfl rfl (5 * r + s) (by rw [ix5]; exact nI_clamp (by omega)) (by rw [ix5]; exact vp_in_nI (n := 5 * r + s) (N := 25) (by omega) (by decide)) d_M_change_82 ?_
              refine Z_if_eq (tgt := 99) C d_M_change_83 (by decide) (fun c83 => ?_) (fun c83 => ?_)
              · exact absurd c83 h --stop
              · skip
                refine Z_aload_n C 2 d_M_change_86 rfl rfl ?_
                refine R_get C w 12 (by decide) fl_M_41 rfl rfl d_M_change_87 ?_
                refine Z_iconst (v := 5) C d_M_change_90 (by decide) ?_
                refine Z_iload_n C 3 d_M_change_91 rfl rfl ?_
                refine Z_imul C d_M_change_92 ?_
                refine Z_iload_n C 4 d_M_change_93 rfl rfl ?_
                refine Z_iadd C d_M_change_94 ?_
                refine R_ld 12 C w rfl rfl (5 * r + s) (by rw [ix5]; exact nI_clamp (by omega)) (by rw [ix5]; exact vp_in_nI (n := 5 * r + s) (N := 25) (by omega) (by decide)) d_M_change_95 ?_
                refine Z_if_ne (tgt := 103) C d_M_change_96 (by decide) (fun c96 => ?_) (fun c96 => ?_)
                · skip
                  refine Z_iload C 0 d_M_change_103 rfl ?_
                  refine Z_if_ne (tgt := 112) C d_M_change_105 (by decide) (fun c105 => ?_) (fun c105 => ?_)
                  · exact absurd rfl c105
                  · skip
                    refine Z_iconst (v := 3) C d_M_change_108 (by decide) ?_
                    refine Z_goto (tgt := 113) C d_M_change_109 (by decide) ?_
                    refine R_put C w 0 (by decide) fl_M_124 rfl rfl rfl rfl rfl d_M_change_113 ?_
                    refine Z_aload_n C 2 d_M_change_116 rfl rfl ?_
                    refine R_get C w 0 (by decide) fl_M_124 rfl rfl d_M_change_117 ?_
                    refine Z_if_eq (tgt := 124) C d_M_change_120 (by decide) (fun c120 => ?_) (fun c120 => ?_)
                    · exact absurd c120 (by simp [u2, upd]) --stop
                    · skip
                      exact Z_vret C hN hr d_M_change_123 rfl (zeq (rfl))
                · exact absurd c96 h0 --stop
            · exact absurd c66 (mIsR_ne hs5) --stop
        · skip
          refine Z_iload_n C 4 d_M_change_26 rfl rfl ?_
          refine Z_sipush (v := 1000) C d_M_change_27 (by decide) ?_
          refine Z_icmp_gt (tgt := 51) C d_M_change_30 (by decide) (fun c30 => ?_) (fun c30 => ?_)
          · skip
            refine Z_iconst (v := 0) C d_M_change_51 (by decide) ?_
            refine Z_istore C d_M_change_52 (by decide) rfl ?_
            refine Z_aload_n C 2 d_M_change_54 rfl rfl ?_
            refine Z_iload_n C 3 d_M_change_55 rfl rfl ?_
            refine C_csv C ms_M_isRouter ml_M_128 (c_M_isRouter w _ _) rfl (by decide) rfl (Nat.le_of_ble_eq_true rfl) d_M_change_56 ?_
            refine Z_if_eq (tgt := 69) C d_M_change_59 (by decide) (fun c59 => ?_) (fun c59 => ?_)
            · exact absurd c59 (mIsR_ne hr5) --stop
            · skip
              refine Z_iload_n C 4 d_M_change_62 rfl rfl ?_
              refine C_csv C ms_M_isRouter ml_M_128 (c_M_isRouter w _ _) rfl (by decide) rfl (Nat.le_of_ble_eq_true rfl) d_M_change_63 ?_
              refine Z_if_ne (tgt := 73) C d_M_change_66 (by decide) (fun c66 => ?_) (fun c66 => ?_)
              · skip
                refine Z_aload_n C 2 d_M_change_73 rfl rfl ?_
                refine R_get C w 11 (by decide) fl_M_37 rfl rfl d_M_change_74 ?_
                refine Z_iconst (v := 5) C d_M_change_77 (by decide) ?_
                refine Z_iload_n C 3 d_M_change_78 rfl rfl ?_
                refine Z_imul C d_M_change_79 ?_
                refine Z_iload_n C 4 d_M_change_80 rfl rfl ?_
                refine Z_iadd C d_M_change_81 ?_
                refine R_zld 11 C w rfl rfl (5 * r + s) (by rw [ix5]; exact nI_clamp (by omega)) (by rw [ix5]; exact vp_in_nI (n := 5 * r + s) (N := 25) (by omega) (by decide)) d_M_change_82 ?_
                refine Z_if_eq (tgt := 99) C d_M_change_83 (by decide) (fun c83 => ?_) (fun c83 => ?_)
                · exact absurd c83 h --stop
                · skip
                  refine Z_aload_n C 2 d_M_change_86 rfl rfl ?_
                  refine R_get C w 12 (by decide) fl_M_41 rfl rfl d_M_change_87 ?_
                  refine Z_iconst (v := 5) C d_M_change_90 (by decide) ?_
                  refine Z_iload_n C 3 d_M_change_91 rfl rfl ?_
                  refine Z_imul C d_M_change_92 ?_
                  refine Z_iload_n C 4 d_M_change_93 rfl rfl ?_
                  refine Z_iadd C d_M_change_94 ?_
                  refine R_ld 12 C w rfl rfl (5 * r + s) (by rw [ix5]; exact nI_clamp (by omega)) (by rw [ix5]; exact vp_in_nI (n := 5 * r + s) (N := 25) (by omega) (by decide)) d_M_change_95 ?_
                  refine Z_if_ne (tgt := 103) C d_M_change_96 (by decide) (fun c96 => ?_) (fun c96 => ?_)
                  · skip
                    refine Z_iload C 0 d_M_change_103 rfl ?_
                    refine Z_if_ne (tgt := 112) C d_M_change_105 (by decide) (fun c105 => ?_) (fun c105 => ?_)
                    · exact absurd rfl c105
                    · skip
                      refine Z_iconst (v := 3) C d_M_change_108 (by decide) ?_
                      refine Z_goto (tgt := 113) C d_M_change_109 (by decide) ?_
                      refine R_put C w 0 (by decide) fl_M_124 rfl rfl rfl rfl rfl d_M_change_113 ?_
                      refine Z_aload_n C 2 d_M_change_116 rfl rfl ?_
                      refine R_get C w 0 (by decide) fl_M_124 rfl rfl d_M_change_117 ?_
                      refine Z_if_eq (tgt := 124) C d_M_change_120 (by decide) (fun c120 => ?_) (fun c120 => ?_)
                      · exact absurd c120 (by simp [u2, upd]) --stop
                      · skip
                        exact Z_vret C hN hr d_M_change_123 rfl (zeq (rfl))
                  · exact absurd c96 h0 --stop
              · exact absurd c66 (mIsR_ne hs5) --stop
          · skip
            refine Z_iload C 5 d_M_change_33 rfl ?_
            refine Z_iconst (v := 1) C d_M_change_35 (by decide) ?_
            refine Z_icmp_lt (tgt := 51) C d_M_change_36 (by decide) (fun c36 => ?_) (fun c36 => ?_)
            · skip
              refine Z_iconst (v := 0) C d_M_change_51 (by decide) ?_
              refine Z_istore C d_M_change_52 (by decide) rfl ?_
              refine Z_aload_n C 2 d_M_change_54 rfl rfl ?_
              refine Z_iload_n C 3 d_M_change_55 rfl rfl ?_
              refine C_csv C ms_M_isRouter ml_M_128 (c_M_isRouter w _ _) rfl (by decide) rfl (Nat.le_of_ble_eq_true rfl) d_M_change_56 ?_
              refine Z_if_eq (tgt := 69) C d_M_change_59 (by decide) (fun c59 => ?_) (fun c59 => ?_)
              · exact absurd c59 (mIsR_ne hr5) --stop
              · skip
                refine Z_iload_n C 4 d_M_change_62 rfl rfl ?_
                refine C_csv C ms_M_isRouter ml_M_128 (c_M_isRouter w _ _) rfl (by decide) rfl (Nat.le_of_ble_eq_true rfl) d_M_change_63 ?_
                refine Z_if_ne (tgt := 73) C d_M_change_66 (by decide) (fun c66 => ?_) (fun c66 => ?_)
                · skip
                  refine Z_aload_n C 2 d_M_change_73 rfl rfl ?_
                  refine R_get C w 11 (by decide) fl_M_37 rfl rfl d_M_change_74 ?_
                  refine Z_iconst (v := 5) C d_M_change_77 (by decide) ?_
                  refine Z_iload_n C 3 d_M_change_78 rfl rfl ?_
                  refine Z_imul C d_M_change_79 ?_
                  refine Z_iload_n C 4 d_M_change_80 rfl rfl ?_
                  refine Z_iadd C d_M_change_81 ?_
                  refine R_zld 11 C w rfl rfl (5 * r + s) (by rw [ix5]; exact nI_clamp (by omega)) (by rw [ix5]; exact vp_in_nI (n := 5 * r + s) (N := 25) (by omega) (by decide)) d_M_change_82 ?_
                  refine Z_if_eq (tgt := 99) C d_M_change_83 (by decide) (fun c83 => ?_) (fun c83 => ?_)
                  · exact absurd c83 h --stop
                  · skip
                    refine Z_aload_n C 2 d_M_change_86 rfl rfl ?_
                    refine R_get C w 12 (by decide) fl_M_41 rfl rfl d_M_change_87 ?_
                    refine Z_iconst (v := 5) C d_M_change_90 (by decide) ?_
                    refine Z_iload_n C 3 d_M_change_91 rfl rfl ?_
                    refine Z_imul C d_M_change_92 ?_
                    refine Z_iload_n C 4 d_M_change_93 rfl rfl ?_
                    refine Z_iadd C d_M_change_94 ?_
                    refine R_ld 12 C w rfl rfl (5 * r + s) (by rw [ix5]; exact nI_clamp (by omega)) (by rw [ix5]; exact vp_in_nI (n := 5 * r + s) (N := 25) (by omega) (by decide)) d_M_change_95 ?_
                    refine Z_if_ne (tgt := 103) C d_M_change_96 (by decide) (fun c96 => ?_) (fun c96 => ?_)
                    · skip
                      refine Z_iload C 0 d_M_change_103 rfl ?_
                      refine Z_if_ne (tgt := 112) C d_M_change_105 (by decide) (fun c105 => ?_) (fun c105 => ?_)
                      · exact absurd rfl c105
                      · skip
                        refine Z_iconst (v := 3) C d_M_change_108 (by decide) ?_
                        refine Z_goto (tgt := 113) C d_M_change_109 (by decide) ?_
                        refine R_put C w 0 (by decide) fl_M_124 rfl rfl rfl rfl rfl d_M_change_113 ?_
                        refine Z_aload_n C 2 d_M_change_116 rfl rfl ?_
                        refine R_get C w 0 (by decide) fl_M_124 rfl rfl d_M_change_117 ?_
                        refine Z_if_eq (tgt := 124) C d_M_change_120 (by decide) (fun c120 => ?_) (fun c120 => ?_)
                        · exact absurd c120 (by simp [u2, upd]) --stop
                        · skip
                          exact Z_vret C hN hr d_M_change_123 rfl (zeq (rfl))
                    · exact absurd c96 h0 --stop
                · exact absurd c66 (mIsR_ne hs5) --stop
            · skip
              refine Z_iload C 5 d_M_change_39 rfl ?_
              refine Z_sipush (v := 1000) C d_M_change_41 (by decide) ?_
              refine Z_icmp_gt (tgt := 51) C d_M_change_44 (by decide) (fun c44 => ?_) (fun c44 => ?_)
              · skip
                refine Z_iconst (v := 0) C d_M_change_51 (by decide) ?_
                refine Z_istore C d_M_change_52 (by decide) rfl ?_
                refine Z_aload_n C 2 d_M_change_54 rfl rfl ?_
                refine Z_iload_n C 3 d_M_change_55 rfl rfl ?_
                refine C_csv C ms_M_isRouter ml_M_128 (c_M_isRouter w _ _) rfl (by decide) rfl (Nat.le_of_ble_eq_true rfl) d_M_change_56 ?_
                refine Z_if_eq (tgt := 69) C d_M_change_59 (by decide) (fun c59 => ?_) (fun c59 => ?_)
                · exact absurd c59 (mIsR_ne hr5) --stop
                · skip
                  refine Z_iload_n C 4 d_M_change_62 rfl rfl ?_
                  refine C_csv C ms_M_isRouter ml_M_128 (c_M_isRouter w _ _) rfl (by decide) rfl (Nat.le_of_ble_eq_true rfl) d_M_change_63 ?_
                  refine Z_if_ne (tgt := 73) C d_M_change_66 (by decide) (fun c66 => ?_) (fun c66 => ?_)
                  · skip
                    refine Z_aload_n C 2 d_M_change_73 rfl rfl ?_
                    refine R_get C w 11 (by decide) fl_M_37 rfl rfl d_M_change_74 ?_
                    refine Z_iconst (v := 5) C d_M_change_77 (by decide) ?_
                    refine Z_iload_n C 3 d_M_change_78 rfl rfl ?_
                    refine Z_imul C d_M_change_79 ?_
                    refine Z_iload_n C 4 d_M_change_80 rfl rfl ?_
                    refine Z_iadd C d_M_change_81 ?_
                    refine R_zld 11 C w rfl rfl (5 * r + s) (by rw [ix5]; exact nI_clamp (by omega)) (by rw [ix5]; exact vp_in_nI (n := 5 * r + s) (N := 25) (by omega) (by decide)) d_M_change_82 ?_
                    refine Z_if_eq (tgt := 99) C d_M_change_83 (by decide) (fun c83 => ?_) (fun c83 => ?_)
                    · exact absurd c83 h --stop
                    · skip
                      refine Z_aload_n C 2 d_M_change_86 rfl rfl ?_
                      refine R_get C w 12 (by decide) fl_M_41 rfl rfl d_M_change_87 ?_
                      refine Z_iconst (v := 5) C d_M_change_90 (by decide) ?_
                      refine Z_iload_n C 3 d_M_change_91 rfl rfl ?_
                      refine Z_imul C d_M_change_92 ?_
                      refine Z_iload_n C 4 d_M_change_93 rfl rfl ?_
                      refine Z_iadd C d_M_change_94 ?_
                      refine R_ld 12 C w rfl rfl (5 * r + s) (by rw [ix5]; exact nI_clamp (by omega)) (by rw [ix5]; exact vp_in_nI (n := 5 * r + s) (N := 25) (by omega) (by decide)) d_M_change_95 ?_
                      refine Z_if_ne (tgt := 103) C d_M_change_96 (by decide) (fun c96 => ?_) (fun c96 => ?_)
                      · skip
                        refine Z_iload C 0 d_M_change_103 rfl ?_
                        refine Z_if_ne (tgt := 112) C d_M_change_105 (by decide) (fun c105 => ?_) (fun c105 => ?_)
                        · exact absurd rfl c105
                        · skip
                          refine Z_iconst (v := 3) C d_M_change_108 (by decide) ?_
                          refine Z_goto (tgt := 113) C d_M_change_109 (by decide) ?_
                          refine R_put C w 0 (by decide) fl_M_124 rfl rfl rfl rfl rfl d_M_change_113 ?_
                          refine Z_aload_n C 2 d_M_change_116 rfl rfl ?_
                          refine R_get C w 0 (by decide) fl_M_124 rfl rfl d_M_change_117 ?_
                          refine Z_if_eq (tgt := 124) C d_M_change_120 (by decide) (fun c120 => ?_) (fun c120 => ?_)
                          · exact absurd c120 (by simp [u2, upd]) --stop
                          · skip
                            exact Z_vret C hN hr d_M_change_123 rfl (zeq (rfl))
                      · exact absurd c96 h0 --stop
                  · exact absurd c66 (mIsR_ne hs5) --stop
              · exact absurd (((hb.resolve_left c23).resolve_left c30).resolve_left c36) c44 --stop
    · exact absurd ⟨c1, c6⟩ hz --stop
set_option maxRecDepth 100000 in
set_option maxHeartbeats 4000000 in
theorem m_change_s {l : Launch} {G : zG} {U : zU} (w : wR G U) (N : zR) (r : Nat) (hr5 : r < 5) (s : Nat) (hs5 : s < 5) (h : ¬ N 11 (5 * r + s) = 0) (h0 : ¬ N 12 (5 * r + s) = 0) : zF l y_M_change b_M_change 9 none 4 84 G [.ref (U.1 43), .int (nI r), .int (nI s), .int 0, .int 0] (eR U N) none (eR U (mChS (t0 N) (5 * r + s))) := by
  refine zF.ofZ (by decide) w.2.2.2.2 (Nat.le_of_ble_eq_true rfl) (fun X hXl hN hr C => ?_)
  subst hXl
  show Z X G (zA G) 9 _ (eR U N) 0 [(0, .ref (U.1 43)), (1, .int (nI r)), (2, .int (nI s)), (3, .int 0), (4, .int 0)] []
  obtain ⟨i, hi⟩ : ∃ i, i = 5 * r + s := ⟨_, rfl⟩
  refine Z_iload_n C 3 d_M_change_0 rfl rfl ?_
  refine Z_if_ne (tgt := 13) C d_M_change_1 (by decide) (fun c1 => ?_) (fun c1 => ?_)
  · exact absurd rfl c1 --stop
  · skip
    refine Z_iload C 4 d_M_change_4 rfl ?_
    refine Z_if_ne (tgt := 13) C d_M_change_6 (by decide) (fun c6 => ?_) (fun c6 => ?_)
    · exact absurd rfl c6 --stop
    · skip
      refine Z_iconst (v := 1) C d_M_change_9 (by decide) ?_
      refine Z_goto (tgt := 14) C d_M_change_10 (by decide) ?_
      refine Z_istore C d_M_change_14 (by decide) rfl ?_
      refine Z_iload C 0 d_M_change_16 rfl ?_
      refine Z_if_ne (tgt := 47) C d_M_change_18 (by decide) (fun c18 => ?_) (fun c18 => ?_)
      · skip
        refine Z_iconst (v := 1) C d_M_change_47 (by decide) ?_
        refine Z_goto (tgt := 52) C d_M_change_48 (by decide) ?_
        refine Z_istore C d_M_change_52 (by decide) rfl ?_
        refine Z_aload_n C 2 d_M_change_54 rfl rfl ?_
        refine Z_iload_n C 3 d_M_change_55 rfl rfl ?_
        refine C_csv C ms_M_isRouter ml_M_128 (c_M_isRouter w _ _) rfl (by decide) rfl (Nat.le_of_ble_eq_true rfl) d_M_change_56 ?_
        refine Z_if_eq (tgt := 69) C d_M_change_59 (by decide) (fun c59 => ?_) (fun c59 => ?_)
        · exact absurd c59 (mIsR_ne hr5) --stop
        · skip
          refine Z_iload_n C 4 d_M_change_62 rfl rfl ?_
          refine C_csv C ms_M_isRouter ml_M_128 (c_M_isRouter w _ _) rfl (by decide) rfl (Nat.le_of_ble_eq_true rfl) d_M_change_63 ?_
          refine Z_if_ne (tgt := 73) C d_M_change_66 (by decide) (fun c66 => ?_) (fun c66 => ?_)
          · skip
            refine Z_aload_n C 2 d_M_change_73 rfl rfl ?_
            refine R_get C w 11 (by decide) fl_M_37 rfl rfl d_M_change_74 ?_
            refine Z_iconst (v := 5) C d_M_change_77 (by decide) ?_
            refine Z_iload_n C 3 d_M_change_78 rfl rfl ?_
            refine Z_imul C d_M_change_79 ?_
            refine Z_iload_n C 4 d_M_change_80 rfl rfl ?_
            refine Z_iadd C d_M_change_81 ?_
            refine R_zld 11 C w rfl rfl (5 * r + s) (by rw [ix5]; exact nI_clamp (by omega)) (by rw [ix5]; exact vp_in_nI (n := 5 * r + s) (N := 25) (by omega) (by decide)) d_M_change_82 ?_
            refine Z_if_eq (tgt := 99) C d_M_change_83 (by decide) (fun c83 => ?_) (fun c83 => ?_)
            · exact absurd c83 h --stop
            · skip
              refine Z_aload_n C 2 d_M_change_86 rfl rfl ?_
              refine R_get C w 12 (by decide) fl_M_41 rfl rfl d_M_change_87 ?_
              refine Z_iconst (v := 5) C d_M_change_90 (by decide) ?_
              refine Z_iload_n C 3 d_M_change_91 rfl rfl ?_
              refine Z_imul C d_M_change_92 ?_
              refine Z_iload_n C 4 d_M_change_93 rfl rfl ?_
              refine Z_iadd C d_M_change_94 ?_
              refine R_ld 12 C w rfl rfl (5 * r + s) (by rw [ix5]; exact nI_clamp (by omega)) (by rw [ix5]; exact vp_in_nI (n := 5 * r + s) (N := 25) (by omega) (by decide)) d_M_change_95 ?_
              refine Z_if_ne (tgt := 103) C d_M_change_96 (by decide) (fun c96 => ?_) (fun c96 => ?_)
              · skip
                refine Z_iload C 0 d_M_change_103 rfl ?_
                refine Z_if_ne (tgt := 112) C d_M_change_105 (by decide) (fun c105 => ?_) (fun c105 => ?_)
                · skip
                  refine Z_iconst (v := 0) C d_M_change_112 (by decide) ?_
                  refine R_put C w 0 (by decide) fl_M_124 rfl rfl rfl rfl rfl d_M_change_113 ?_
                  refine Z_aload_n C 2 d_M_change_116 rfl rfl ?_
                  refine R_get C w 0 (by decide) fl_M_124 rfl rfl d_M_change_117 ?_
                  refine Z_if_eq (tgt := 124) C d_M_change_120 (by decide) (fun c120 => ?_) (fun c120 => ?_)
                  · skip
                    refine Z_iconst (v := 5) C d_M_change_124 (by decide) ?_
                    refine Z_iload_n C 3 d_M_change_125 rfl rfl ?_
                    refine Z_imul C d_M_change_126 ?_
                    refine Z_iload_n C 4 d_M_change_127 rfl rfl ?_
                    refine Z_iadd C d_M_change_128 ?_
                    refine zst (st' := [.int (nI i)]) (by rw [ix5, hi]) ?_
                    refine Z_istore C d_M_change_129 (by decide) rfl ?_
                    refine Z_iload C 2 d_M_change_131 rfl ?_
                    refine Z_if_eq (tgt := 162) C d_M_change_133 (by decide) (fun c133 => ?_) (fun c133 => ?_)
                    · exact absurd c133 (by decide)
                    · skip
                      refine Z_aload_n C 3 d_M_change_136 rfl rfl ?_
                      refine R_get C w 12 (by decide) fl_M_41 rfl rfl d_M_change_137 ?_
                      refine Z_iload C 0 d_M_change_140 rfl ?_
                      refine Z_iconst (v := 0) C d_M_change_142 (by decide) ?_
                      refine R_st 12 C w rfl rfl i (nI_clamp (by omega)) (vp_in_nI (n := i) (N := 25) (by omega) (by decide)) d_M_change_143 ?_
                      refine Z_aload_n C 3 d_M_change_144 rfl rfl ?_
                      refine R_get C w 15 (by decide) fl_M_50 rfl rfl d_M_change_145 ?_
                      refine Z_iload C 0 d_M_change_148 rfl ?_
                      refine Z_bipush (v := 7) C d_M_change_150 (by decide) ?_
                      refine R_st 15 C w rfl rfl i (nI_clamp (by omega)) (vp_in_nI (n := i) (N := 25) (by omega) (by decide)) d_M_change_152 ?_
                      refine Z_aload_n C 3 d_M_change_153 rfl rfl ?_
                      refine R_get C w 24 (by decide) fl_M_77 rfl rfl d_M_change_154 ?_
                      refine Z_iload C 0 d_M_change_157 rfl ?_
                      refine Z_iconst (v := 0) C d_M_change_159 (by decide) ?_
                      refine R_zst 24 C w rfl rfl i (nI_clamp (by omega)) (vp_in_nI (n := i) (N := 25) (by omega) (by decide)) rfl d_M_change_160 ?_
                      exact Z_vret C hN hr d_M_change_161 rfl (zeq (by rw [← hi]; rfl))
                  · exact absurd (by simp [u2, upd]) c120 --stop
                · exact absurd c105 (by decide)
              · exact absurd c96 h0 --stop
          · exact absurd c66 (mIsR_ne hs5) --stop
      · exact absurd c18 (by decide)
set_option maxRecDepth 100000 in
set_option maxHeartbeats 4000000 in
theorem m_change_d {l : Launch} {G : zG} {U : zU} (w : wR G U) (N : zR) (r : Nat) (hr5 : r < 5) (s : Nat) (hs5 : s < 5) (tx rx : Int32) (h : ¬ N 11 (5 * r + s) = 0) (h0 : ¬ N 12 (5 * r + s) = 0) (h1 : ¬ tx < 1) (h2 : ¬ 1000 < tx) (h3 : ¬ rx < 1) (h4 : ¬ 1000 < rx) (hu : ¬ N 12 (5 * r + s) = 3) : zF l y_M_change b_M_change 9 none 4 84 G [.ref (U.1 43), .int (nI r), .int (nI s), .int tx, .int rx] (eR U N) none (eR U (mChg (t0 N) (5 * r + s) tx rx)) := by
  refine zF.ofZ (by decide) w.2.2.2.2 (Nat.le_of_ble_eq_true rfl) (fun X hXl hN hr C => ?_)
  subst hXl
  show Z X G (zA G) 9 _ (eR U N) 0 [(0, .ref (U.1 43)), (1, .int (nI r)), (2, .int (nI s)), (3, .int tx), (4, .int rx)] []
  obtain ⟨i, hi⟩ : ∃ i, i = 5 * r + s := ⟨_, rfl⟩
  refine Z_iload_n C 3 d_M_change_0 rfl rfl ?_
  refine Z_if_ne (tgt := 13) C d_M_change_1 (by decide) (fun c1 => ?_) (fun c1 => ?_)
  · skip
    refine Z_iconst (v := 0) C d_M_change_13 (by decide) ?_
    refine Z_istore C d_M_change_14 (by decide) rfl ?_
    refine Z_iload C 0 d_M_change_16 rfl ?_
    refine Z_if_ne (tgt := 47) C d_M_change_18 (by decide) (fun c18 => ?_) (fun c18 => ?_)
    · exact absurd rfl c18
    · skip
      refine Z_iload_n C 4 d_M_change_21 rfl rfl ?_
      refine Z_iconst (v := 1) C d_M_change_22 (by decide) ?_
      refine Z_icmp_lt (tgt := 51) C d_M_change_23 (by decide) (fun c23 => ?_) (fun c23 => ?_)
      · exact absurd c23 h1 --stop
      · skip
        refine Z_iload_n C 4 d_M_change_26 rfl rfl ?_
        refine Z_sipush (v := 1000) C d_M_change_27 (by decide) ?_
        refine Z_icmp_gt (tgt := 51) C d_M_change_30 (by decide) (fun c30 => ?_) (fun c30 => ?_)
        · exact absurd c30 h2 --stop
        · skip
          refine Z_iload C 5 d_M_change_33 rfl ?_
          refine Z_iconst (v := 1) C d_M_change_35 (by decide) ?_
          refine Z_icmp_lt (tgt := 51) C d_M_change_36 (by decide) (fun c36 => ?_) (fun c36 => ?_)
          · exact absurd c36 h3 --stop
          · skip
            refine Z_iload C 5 d_M_change_39 rfl ?_
            refine Z_sipush (v := 1000) C d_M_change_41 (by decide) ?_
            refine Z_icmp_gt (tgt := 51) C d_M_change_44 (by decide) (fun c44 => ?_) (fun c44 => ?_)
            · exact absurd c44 h4 --stop
            · skip
              refine Z_iconst (v := 1) C d_M_change_47 (by decide) ?_
              refine Z_goto (tgt := 52) C d_M_change_48 (by decide) ?_
              refine Z_istore C d_M_change_52 (by decide) rfl ?_
              refine Z_aload_n C 2 d_M_change_54 rfl rfl ?_
              refine Z_iload_n C 3 d_M_change_55 rfl rfl ?_
              refine C_csv C ms_M_isRouter ml_M_128 (c_M_isRouter w _ _) rfl (by decide) rfl (Nat.le_of_ble_eq_true rfl) d_M_change_56 ?_
              refine Z_if_eq (tgt := 69) C d_M_change_59 (by decide) (fun c59 => ?_) (fun c59 => ?_)
              · exact absurd c59 (mIsR_ne hr5) --stop
              · skip
                refine Z_iload_n C 4 d_M_change_62 rfl rfl ?_
                refine C_csv C ms_M_isRouter ml_M_128 (c_M_isRouter w _ _) rfl (by decide) rfl (Nat.le_of_ble_eq_true rfl) d_M_change_63 ?_
                refine Z_if_ne (tgt := 73) C d_M_change_66 (by decide) (fun c66 => ?_) (fun c66 => ?_)
                · skip
                  refine Z_aload_n C 2 d_M_change_73 rfl rfl ?_
                  refine R_get C w 11 (by decide) fl_M_37 rfl rfl d_M_change_74 ?_
                  refine Z_iconst (v := 5) C d_M_change_77 (by decide) ?_
                  refine Z_iload_n C 3 d_M_change_78 rfl rfl ?_
                  refine Z_imul C d_M_change_79 ?_
                  refine Z_iload_n C 4 d_M_change_80 rfl rfl ?_
                  refine Z_iadd C d_M_change_81 ?_
                  refine R_zld 11 C w rfl rfl (5 * r + s) (by rw [ix5]; exact nI_clamp (by omega)) (by rw [ix5]; exact vp_in_nI (n := 5 * r + s) (N := 25) (by omega) (by decide)) d_M_change_82 ?_
                  refine Z_if_eq (tgt := 99) C d_M_change_83 (by decide) (fun c83 => ?_) (fun c83 => ?_)
                  · exact absurd c83 h --stop
                  · skip
                    refine Z_aload_n C 2 d_M_change_86 rfl rfl ?_
                    refine R_get C w 12 (by decide) fl_M_41 rfl rfl d_M_change_87 ?_
                    refine Z_iconst (v := 5) C d_M_change_90 (by decide) ?_
                    refine Z_iload_n C 3 d_M_change_91 rfl rfl ?_
                    refine Z_imul C d_M_change_92 ?_
                    refine Z_iload_n C 4 d_M_change_93 rfl rfl ?_
                    refine Z_iadd C d_M_change_94 ?_
                    refine R_ld 12 C w rfl rfl (5 * r + s) (by rw [ix5]; exact nI_clamp (by omega)) (by rw [ix5]; exact vp_in_nI (n := 5 * r + s) (N := 25) (by omega) (by decide)) d_M_change_95 ?_
                    refine Z_if_ne (tgt := 103) C d_M_change_96 (by decide) (fun c96 => ?_) (fun c96 => ?_)
                    · skip
                      refine Z_iload C 0 d_M_change_103 rfl ?_
                      refine Z_if_ne (tgt := 112) C d_M_change_105 (by decide) (fun c105 => ?_) (fun c105 => ?_)
                      · skip
                        refine Z_iconst (v := 0) C d_M_change_112 (by decide) ?_
                        refine R_put C w 0 (by decide) fl_M_124 rfl rfl rfl rfl rfl d_M_change_113 ?_
                        refine Z_aload_n C 2 d_M_change_116 rfl rfl ?_
                        refine R_get C w 0 (by decide) fl_M_124 rfl rfl d_M_change_117 ?_
                        refine Z_if_eq (tgt := 124) C d_M_change_120 (by decide) (fun c120 => ?_) (fun c120 => ?_)
                        · skip
                          refine Z_iconst (v := 5) C d_M_change_124 (by decide) ?_
                          refine Z_iload_n C 3 d_M_change_125 rfl rfl ?_
                          refine Z_imul C d_M_change_126 ?_
                          refine Z_iload_n C 4 d_M_change_127 rfl rfl ?_
                          refine Z_iadd C d_M_change_128 ?_
                          refine zst (st' := [.int (nI i)]) (by rw [ix5, hi]) ?_
                          refine Z_istore C d_M_change_129 (by decide) rfl ?_
                          refine Z_iload C 2 d_M_change_131 rfl ?_
                          refine Z_if_eq (tgt := 162) C d_M_change_133 (by decide) (fun c133 => ?_) (fun c133 => ?_)
                          · skip
                            refine Z_aload_n C 3 d_M_change_162 rfl rfl ?_
                            refine R_get C w 16 (by decide) fl_M_53 rfl rfl d_M_change_163 ?_
                            refine Z_iload C 0 d_M_change_166 rfl ?_
                            refine Z_iload_n C 6 d_M_change_168 rfl rfl ?_
                            refine R_st 16 C w rfl rfl i (nI_clamp (by omega)) (vp_in_nI (n := i) (N := 25) (by omega) (by decide)) d_M_change_169 ?_
                            refine Z_aload_n C 3 d_M_change_170 rfl rfl ?_
                            refine R_get C w 17 (by decide) fl_M_56 rfl rfl d_M_change_171 ?_
                            refine Z_iload C 0 d_M_change_174 rfl ?_
                            refine Z_iload C 7 d_M_change_176 rfl ?_
                            refine R_st 17 C w rfl rfl i (nI_clamp (by omega)) (vp_in_nI (n := i) (N := 25) (by omega) (by decide)) d_M_change_178 ?_
                            show Z X G (zA G) 9 _ (eR U (mC1 (t0 N) i tx rx)) 179 _ []
                            obtain ⟨N1, hN1⟩ : ∃ N1, N1 = mC1 (t0 N) i tx rx := ⟨_, rfl⟩
                            rw [← hN1]
                            have hu1 : N1 12 i = N 12 (5 * r + s) := by rw [hN1, ← hi]; rfl
                            refine Z_aload_n C 3 d_M_change_179 rfl rfl ?_
                            refine R_get C w 12 (by decide) fl_M_41 rfl rfl d_M_change_180 ?_
                            refine Z_iload C 0 d_M_change_183 rfl ?_
                            refine R_ld 12 C w rfl rfl i (nI_clamp (by omega)) (vp_in_nI (n := i) (N := 25) (by omega) (by decide)) d_M_change_185 ?_
                            refine Z_iconst (v := 3) C d_M_change_186 (by decide) ?_
                            refine Z_icmp_ne (tgt := 194) C d_M_change_187 (by decide) (fun c187 => ?_) (fun c187 => ?_)
                            · skip
                              refine Z_iconst (v := 0) C d_M_change_194 (by decide) ?_
                              refine Z_istore C d_M_change_195 (by decide) rfl ?_
                              refine Z_aload_n C 4 d_M_change_197 rfl rfl ?_
                              refine R_get C w 24 (by decide) fl_M_77 rfl rfl d_M_change_198 ?_
                              refine Z_iload C 1 d_M_change_201 rfl ?_
                              refine Z_aload_n C 4 d_M_change_203 rfl rfl ?_
                              refine R_get C w 24 (by decide) fl_M_77 rfl rfl d_M_change_204 ?_
                              refine Z_iload C 1 d_M_change_207 rfl ?_
                              refine R_zld 24 C w rfl rfl i (nI_clamp (by omega)) (vp_in_nI (n := i) (N := 25) (by omega) (by decide)) d_M_change_209 ?_
                              refine Z_if_ne (tgt := 218) C d_M_change_210 (by decide) (fun c210 => ?_) (fun c210 => ?_)
                              · skip
                                refine Z_iconst (v := 1) C d_M_change_218 (by decide) ?_
                                refine Z_goto (tgt := 223) C d_M_change_219 (by decide) ?_
                                refine R_zst 24 C w rfl rfl i (nI_clamp (by omega)) (vp_in_nI (n := i) (N := 25) (by omega) (by decide)) rfl d_M_change_223 ?_
                                obtain ⟨N2, hN2⟩ : ∃ N2, N2 = mC2 N1 i := ⟨_, rfl⟩
                                refine Z_imp (zeq (eR_N (show _ = N2 from by rw [hN2]; unfold mC2; first | rw [if_pos c210] | rw [if_neg (fun z => z c210), if_pos (hu1.trans hu)] | rw [if_neg (fun z => z c210), if_neg (fun z => hu (hu1.symm.trans z))]))) ?_
                                have hu2 : N2 12 i = N 12 (5 * r + s) := by rw [hN2]; exact hu1
                                refine Z_iload C 0 d_M_change_224 rfl ?_
                                refine Z_if_eq (tgt := 240) C d_M_change_226 (by decide) (fun c226 => ?_) (fun c226 => ?_)
                                · skip
                                  refine Z_aload_n C 4 d_M_change_240 rfl rfl ?_
                                  refine R_get C w 18 (by decide) fl_M_59 rfl rfl d_M_change_241 ?_
                                  refine Z_iload C 1 d_M_change_244 rfl ?_
                                  refine Z_iload_n C 7 d_M_change_246 rfl rfl ?_
                                  refine R_st 18 C w rfl rfl i (nI_clamp (by omega)) (vp_in_nI (n := i) (N := 25) (by omega) (by decide)) d_M_change_247 ?_
                                  obtain ⟨N3, hN3⟩ : ∃ N3, N3 = mC3 N2 i tx := ⟨_, rfl⟩
                                  refine Z_imp (zeq (eR_N (show _ = N3 from by rw [hN3]; unfold mC3; first | rw [if_pos (fun z => hu (hu2.symm.trans z))] | rw [if_neg (fun z => z (hu2.trans hu)), if_pos c237] | rw [if_neg (fun z => z (hu2.trans hu)), if_neg c237]))) ?_
                                  have hu3 : N3 12 i = N 12 (5 * r + s) := by rw [hN3, mC3_12]; exact hu2
                                  refine Z_iload C 0 d_M_change_248 rfl ?_
                                  refine Z_if_eq (tgt := 265) C d_M_change_250 (by decide) (fun c250 => ?_) (fun c250 => ?_)
                                  · skip
                                    refine Z_aload_n C 4 d_M_change_265 rfl rfl ?_
                                    refine R_get C w 19 (by decide) fl_M_62 rfl rfl d_M_change_266 ?_
                                    refine Z_iload C 1 d_M_change_269 rfl ?_
                                    refine Z_iload C 8 d_M_change_271 rfl ?_
                                    refine R_st 19 C w rfl rfl i (nI_clamp (by omega)) (vp_in_nI (n := i) (N := 25) (by omega) (by decide)) d_M_change_273 ?_
                                    obtain ⟨N4, hN4⟩ : ∃ N4, N4 = mC4 N3 i rx := ⟨_, rfl⟩
                                    refine Z_imp (zeq (eR_N (show _ = N4 from by rw [hN4]; unfold mC4; first | rw [if_pos (fun z => hu (hu3.symm.trans z))] | rw [if_neg (fun z => z (hu3.trans hu)), if_pos c262] | rw [if_neg (fun z => z (hu3.trans hu)), if_neg c262]))) ?_
                                    have hu4 : N4 12 i = N 12 (5 * r + s) := by rw [hN4, mC4_12]; exact hu3
                                    refine Z_aload_n C 4 d_M_change_274 rfl rfl ?_
                                    refine Z_iload C 1 d_M_change_275 rfl ?_
                                    refine C_cMn C w mi_M_hurry ml_M_207 (c_M_hurry w _ i (by omega)) rfl rfl (by decide) rfl (Nat.le_of_ble_eq_true rfl) d_M_change_277 ?_
                                    exact Z_vret C hN hr d_M_change_280 rfl (zeq (by apply eR_N; unfold mChg; rw [← hi, ← hN1, ← hN2, ← hN3, ← hN4]))
                                  · exact absurd rfl c250
                                · exact absurd rfl c226
                              · skip
                                refine Z_iload C 0 d_M_change_213 rfl ?_
                                refine Z_if_eq (tgt := 222) C d_M_change_215 (by decide) (fun c215 => ?_) (fun c215 => ?_)
                                · skip
                                  refine Z_iconst (v := 0) C d_M_change_222 (by decide) ?_
                                  refine R_zst 24 C w rfl rfl i (nI_clamp (by omega)) (vp_in_nI (n := i) (N := 25) (by omega) (by decide)) rfl d_M_change_223 ?_
                                  obtain ⟨N2, hN2⟩ : ∃ N2, N2 = mC2 N1 i := ⟨_, rfl⟩
                                  refine Z_imp (zeq (eR_N (show _ = N2 from by rw [hN2]; unfold mC2; first | rw [if_pos c210] | rw [if_neg (fun z => z c210), if_pos (hu1.trans hu)] | rw [if_neg (fun z => z c210), if_neg (fun z => hu (hu1.symm.trans z))]))) ?_
                                  have hu2 : N2 12 i = N 12 (5 * r + s) := by rw [hN2]; exact hu1
                                  refine Z_iload C 0 d_M_change_224 rfl ?_
                                  refine Z_if_eq (tgt := 240) C d_M_change_226 (by decide) (fun c226 => ?_) (fun c226 => ?_)
                                  · skip
                                    refine Z_aload_n C 4 d_M_change_240 rfl rfl ?_
                                    refine R_get C w 18 (by decide) fl_M_59 rfl rfl d_M_change_241 ?_
                                    refine Z_iload C 1 d_M_change_244 rfl ?_
                                    refine Z_iload_n C 7 d_M_change_246 rfl rfl ?_
                                    refine R_st 18 C w rfl rfl i (nI_clamp (by omega)) (vp_in_nI (n := i) (N := 25) (by omega) (by decide)) d_M_change_247 ?_
                                    obtain ⟨N3, hN3⟩ : ∃ N3, N3 = mC3 N2 i tx := ⟨_, rfl⟩
                                    refine Z_imp (zeq (eR_N (show _ = N3 from by rw [hN3]; unfold mC3; first | rw [if_pos (fun z => hu (hu2.symm.trans z))] | rw [if_neg (fun z => z (hu2.trans hu)), if_pos c237] | rw [if_neg (fun z => z (hu2.trans hu)), if_neg c237]))) ?_
                                    have hu3 : N3 12 i = N 12 (5 * r + s) := by rw [hN3, mC3_12]; exact hu2
                                    refine Z_iload C 0 d_M_change_248 rfl ?_
                                    refine Z_if_eq (tgt := 265) C d_M_change_250 (by decide) (fun c250 => ?_) (fun c250 => ?_)
                                    · skip
                                      refine Z_aload_n C 4 d_M_change_265 rfl rfl ?_
                                      refine R_get C w 19 (by decide) fl_M_62 rfl rfl d_M_change_266 ?_
                                      refine Z_iload C 1 d_M_change_269 rfl ?_
                                      refine Z_iload C 8 d_M_change_271 rfl ?_
                                      refine R_st 19 C w rfl rfl i (nI_clamp (by omega)) (vp_in_nI (n := i) (N := 25) (by omega) (by decide)) d_M_change_273 ?_
                                      obtain ⟨N4, hN4⟩ : ∃ N4, N4 = mC4 N3 i rx := ⟨_, rfl⟩
                                      refine Z_imp (zeq (eR_N (show _ = N4 from by rw [hN4]; unfold mC4; first | rw [if_pos (fun z => hu (hu3.symm.trans z))] | rw [if_neg (fun z => z (hu3.trans hu)), if_pos c262] | rw [if_neg (fun z => z (hu3.trans hu)), if_neg c262]))) ?_
                                      have hu4 : N4 12 i = N 12 (5 * r + s) := by rw [hN4, mC4_12]; exact hu3
                                      refine Z_aload_n C 4 d_M_change_274 rfl rfl ?_
                                      refine Z_iload C 1 d_M_change_275 rfl ?_
                                      refine C_cMn C w mi_M_hurry ml_M_207 (c_M_hurry w _ i (by omega)) rfl rfl (by decide) rfl (Nat.le_of_ble_eq_true rfl) d_M_change_277 ?_
                                      exact Z_vret C hN hr d_M_change_280 rfl (zeq (by apply eR_N; unfold mChg; rw [← hi, ← hN1, ← hN2, ← hN3, ← hN4]))
                                    · exact absurd rfl c250
                                  · exact absurd rfl c226
                                · exact absurd rfl c215
                            · exact absurd (hu1.symm.trans c187) hu --stop
                          · exact absurd rfl c133
                        · exact absurd (by simp [u2, upd]) c120 --stop
                      · exact absurd c105 (by decide)
                    · exact absurd c96 h0 --stop
                · exact absurd c66 (mIsR_ne hs5) --stop
  · skip
    refine Z_iload C 4 d_M_change_4 rfl ?_
    refine Z_if_ne (tgt := 13) C d_M_change_6 (by decide) (fun c6 => ?_) (fun c6 => ?_)
    · skip
      refine Z_iconst (v := 0) C d_M_change_13 (by decide) ?_
      refine Z_istore C d_M_change_14 (by decide) rfl ?_
      refine Z_iload C 0 d_M_change_16 rfl ?_
      refine Z_if_ne (tgt := 47) C d_M_change_18 (by decide) (fun c18 => ?_) (fun c18 => ?_)
      · exact absurd rfl c18
      · skip
        refine Z_iload_n C 4 d_M_change_21 rfl rfl ?_
        refine Z_iconst (v := 1) C d_M_change_22 (by decide) ?_
        refine Z_icmp_lt (tgt := 51) C d_M_change_23 (by decide) (fun c23 => ?_) (fun c23 => ?_)
        · exact absurd c23 h1 --stop
        · skip
          refine Z_iload_n C 4 d_M_change_26 rfl rfl ?_
          refine Z_sipush (v := 1000) C d_M_change_27 (by decide) ?_
          refine Z_icmp_gt (tgt := 51) C d_M_change_30 (by decide) (fun c30 => ?_) (fun c30 => ?_)
          · exact absurd c30 h2 --stop
          · skip
            refine Z_iload C 5 d_M_change_33 rfl ?_
            refine Z_iconst (v := 1) C d_M_change_35 (by decide) ?_
            refine Z_icmp_lt (tgt := 51) C d_M_change_36 (by decide) (fun c36 => ?_) (fun c36 => ?_)
            · exact absurd c36 h3 --stop
            · skip
              refine Z_iload C 5 d_M_change_39 rfl ?_
              refine Z_sipush (v := 1000) C d_M_change_41 (by decide) ?_
              refine Z_icmp_gt (tgt := 51) C d_M_change_44 (by decide) (fun c44 => ?_) (fun c44 => ?_)
              · exact absurd c44 h4 --stop
              · skip
                refine Z_iconst (v := 1) C d_M_change_47 (by decide) ?_
                refine Z_goto (tgt := 52) C d_M_change_48 (by decide) ?_
                refine Z_istore C d_M_change_52 (by decide) rfl ?_
                refine Z_aload_n C 2 d_M_change_54 rfl rfl ?_
                refine Z_iload_n C 3 d_M_change_55 rfl rfl ?_
                refine C_csv C ms_M_isRouter ml_M_128 (c_M_isRouter w _ _) rfl (by decide) rfl (Nat.le_of_ble_eq_true rfl) d_M_change_56 ?_
                refine Z_if_eq (tgt := 69) C d_M_change_59 (by decide) (fun c59 => ?_) (fun c59 => ?_)
                · exact absurd c59 (mIsR_ne hr5) --stop
                · skip
                  refine Z_iload_n C 4 d_M_change_62 rfl rfl ?_
                  refine C_csv C ms_M_isRouter ml_M_128 (c_M_isRouter w _ _) rfl (by decide) rfl (Nat.le_of_ble_eq_true rfl) d_M_change_63 ?_
                  refine Z_if_ne (tgt := 73) C d_M_change_66 (by decide) (fun c66 => ?_) (fun c66 => ?_)
                  · skip
                    refine Z_aload_n C 2 d_M_change_73 rfl rfl ?_
                    refine R_get C w 11 (by decide) fl_M_37 rfl rfl d_M_change_74 ?_
                    refine Z_iconst (v := 5) C d_M_change_77 (by decide) ?_
                    refine Z_iload_n C 3 d_M_change_78 rfl rfl ?_
                    refine Z_imul C d_M_change_79 ?_
                    refine Z_iload_n C 4 d_M_change_80 rfl rfl ?_
                    refine Z_iadd C d_M_change_81 ?_
                    refine R_zld 11 C w rfl rfl (5 * r + s) (by rw [ix5]; exact nI_clamp (by omega)) (by rw [ix5]; exact vp_in_nI (n := 5 * r + s) (N := 25) (by omega) (by decide)) d_M_change_82 ?_
                    refine Z_if_eq (tgt := 99) C d_M_change_83 (by decide) (fun c83 => ?_) (fun c83 => ?_)
                    · exact absurd c83 h --stop
                    · skip
                      refine Z_aload_n C 2 d_M_change_86 rfl rfl ?_
                      refine R_get C w 12 (by decide) fl_M_41 rfl rfl d_M_change_87 ?_
                      refine Z_iconst (v := 5) C d_M_change_90 (by decide) ?_
                      refine Z_iload_n C 3 d_M_change_91 rfl rfl ?_
                      refine Z_imul C d_M_change_92 ?_
                      refine Z_iload_n C 4 d_M_change_93 rfl rfl ?_
                      refine Z_iadd C d_M_change_94 ?_
                      refine R_ld 12 C w rfl rfl (5 * r + s) (by rw [ix5]; exact nI_clamp (by omega)) (by rw [ix5]; exact vp_in_nI (n := 5 * r + s) (N := 25) (by omega) (by decide)) d_M_change_95 ?_
                      refine Z_if_ne (tgt := 103) C d_M_change_96 (by decide) (fun c96 => ?_) (fun c96 => ?_)
                      · skip
                        refine Z_iload C 0 d_M_change_103 rfl ?_
                        refine Z_if_ne (tgt := 112) C d_M_change_105 (by decide) (fun c105 => ?_) (fun c105 => ?_)
                        · skip
                          refine Z_iconst (v := 0) C d_M_change_112 (by decide) ?_
                          refine R_put C w 0 (by decide) fl_M_124 rfl rfl rfl rfl rfl d_M_change_113 ?_
                          refine Z_aload_n C 2 d_M_change_116 rfl rfl ?_
                          refine R_get C w 0 (by decide) fl_M_124 rfl rfl d_M_change_117 ?_
                          refine Z_if_eq (tgt := 124) C d_M_change_120 (by decide) (fun c120 => ?_) (fun c120 => ?_)
                          · skip
                            refine Z_iconst (v := 5) C d_M_change_124 (by decide) ?_
                            refine Z_iload_n C 3 d_M_change_125 rfl rfl ?_
                            refine Z_imul C d_M_change_126 ?_
                            refine Z_iload_n C 4 d_M_change_127 rfl rfl ?_
                            refine Z_iadd C d_M_change_128 ?_
                            refine zst (st' := [.int (nI i)]) (by rw [ix5, hi]) ?_
                            refine Z_istore C d_M_change_129 (by decide) rfl ?_
                            refine Z_iload C 2 d_M_change_131 rfl ?_
                            refine Z_if_eq (tgt := 162) C d_M_change_133 (by decide) (fun c133 => ?_) (fun c133 => ?_)
                            · skip
                              refine Z_aload_n C 3 d_M_change_162 rfl rfl ?_
                              refine R_get C w 16 (by decide) fl_M_53 rfl rfl d_M_change_163 ?_
                              refine Z_iload C 0 d_M_change_166 rfl ?_
                              refine Z_iload_n C 6 d_M_change_168 rfl rfl ?_
                              refine R_st 16 C w rfl rfl i (nI_clamp (by omega)) (vp_in_nI (n := i) (N := 25) (by omega) (by decide)) d_M_change_169 ?_
                              refine Z_aload_n C 3 d_M_change_170 rfl rfl ?_
                              refine R_get C w 17 (by decide) fl_M_56 rfl rfl d_M_change_171 ?_
                              refine Z_iload C 0 d_M_change_174 rfl ?_
                              refine Z_iload C 7 d_M_change_176 rfl ?_
                              refine R_st 17 C w rfl rfl i (nI_clamp (by omega)) (vp_in_nI (n := i) (N := 25) (by omega) (by decide)) d_M_change_178 ?_
                              show Z X G (zA G) 9 _ (eR U (mC1 (t0 N) i tx rx)) 179 _ []
                              obtain ⟨N1, hN1⟩ : ∃ N1, N1 = mC1 (t0 N) i tx rx := ⟨_, rfl⟩
                              rw [← hN1]
                              have hu1 : N1 12 i = N 12 (5 * r + s) := by rw [hN1, ← hi]; rfl
                              refine Z_aload_n C 3 d_M_change_179 rfl rfl ?_
                              refine R_get C w 12 (by decide) fl_M_41 rfl rfl d_M_change_180 ?_
                              refine Z_iload C 0 d_M_change_183 rfl ?_
                              refine R_ld 12 C w rfl rfl i (nI_clamp (by omega)) (vp_in_nI (n := i) (N := 25) (by omega) (by decide)) d_M_change_185 ?_
                              refine Z_iconst (v := 3) C d_M_change_186 (by decide) ?_
                              refine Z_icmp_ne (tgt := 194) C d_M_change_187 (by decide) (fun c187 => ?_) (fun c187 => ?_)
                              · skip
                                refine Z_iconst (v := 0) C d_M_change_194 (by decide) ?_
                                refine Z_istore C d_M_change_195 (by decide) rfl ?_
                                refine Z_aload_n C 4 d_M_change_197 rfl rfl ?_
                                refine R_get C w 24 (by decide) fl_M_77 rfl rfl d_M_change_198 ?_
                                refine Z_iload C 1 d_M_change_201 rfl ?_
                                refine Z_aload_n C 4 d_M_change_203 rfl rfl ?_
                                refine R_get C w 24 (by decide) fl_M_77 rfl rfl d_M_change_204 ?_
                                refine Z_iload C 1 d_M_change_207 rfl ?_
                                refine R_zld 24 C w rfl rfl i (nI_clamp (by omega)) (vp_in_nI (n := i) (N := 25) (by omega) (by decide)) d_M_change_209 ?_
                                refine Z_if_ne (tgt := 218) C d_M_change_210 (by decide) (fun c210 => ?_) (fun c210 => ?_)
                                · skip
                                  refine Z_iconst (v := 1) C d_M_change_218 (by decide) ?_
                                  refine Z_goto (tgt := 223) C d_M_change_219 (by decide) ?_
                                  refine R_zst 24 C w rfl rfl i (nI_clamp (by omega)) (vp_in_nI (n := i) (N := 25) (by omega) (by decide)) rfl d_M_change_223 ?_
                                  obtain ⟨N2, hN2⟩ : ∃ N2, N2 = mC2 N1 i := ⟨_, rfl⟩
                                  refine Z_imp (zeq (eR_N (show _ = N2 from by rw [hN2]; unfold mC2; first | rw [if_pos c210] | rw [if_neg (fun z => z c210), if_pos (hu1.trans hu)] | rw [if_neg (fun z => z c210), if_neg (fun z => hu (hu1.symm.trans z))]))) ?_
                                  have hu2 : N2 12 i = N 12 (5 * r + s) := by rw [hN2]; exact hu1
                                  refine Z_iload C 0 d_M_change_224 rfl ?_
                                  refine Z_if_eq (tgt := 240) C d_M_change_226 (by decide) (fun c226 => ?_) (fun c226 => ?_)
                                  · skip
                                    refine Z_aload_n C 4 d_M_change_240 rfl rfl ?_
                                    refine R_get C w 18 (by decide) fl_M_59 rfl rfl d_M_change_241 ?_
                                    refine Z_iload C 1 d_M_change_244 rfl ?_
                                    refine Z_iload_n C 7 d_M_change_246 rfl rfl ?_
                                    refine R_st 18 C w rfl rfl i (nI_clamp (by omega)) (vp_in_nI (n := i) (N := 25) (by omega) (by decide)) d_M_change_247 ?_
                                    obtain ⟨N3, hN3⟩ : ∃ N3, N3 = mC3 N2 i tx := ⟨_, rfl⟩
                                    refine Z_imp (zeq (eR_N (show _ = N3 from by rw [hN3]; unfold mC3; first | rw [if_pos (fun z => hu (hu2.symm.trans z))] | rw [if_neg (fun z => z (hu2.trans hu)), if_pos c237] | rw [if_neg (fun z => z (hu2.trans hu)), if_neg c237]))) ?_
                                    have hu3 : N3 12 i = N 12 (5 * r + s) := by rw [hN3, mC3_12]; exact hu2
                                    refine Z_iload C 0 d_M_change_248 rfl ?_
                                    refine Z_if_eq (tgt := 265) C d_M_change_250 (by decide) (fun c250 => ?_) (fun c250 => ?_)
                                    · skip
                                      refine Z_aload_n C 4 d_M_change_265 rfl rfl ?_
                                      refine R_get C w 19 (by decide) fl_M_62 rfl rfl d_M_change_266 ?_
                                      refine Z_iload C 1 d_M_change_269 rfl ?_
                                      refine Z_iload C 8 d_M_change_271 rfl ?_
                                      refine R_st 19 C w rfl rfl i (nI_clamp (by omega)) (vp_in_nI (n := i) (N := 25) (by omega) (by decide)) d_M_change_273 ?_
                                      obtain ⟨N4, hN4⟩ : ∃ N4, N4 = mC4 N3 i rx := ⟨_, rfl⟩
                                      refine Z_imp (zeq (eR_N (show _ = N4 from by rw [hN4]; unfold mC4; first | rw [if_pos (fun z => hu (hu3.symm.trans z))] | rw [if_neg (fun z => z (hu3.trans hu)), if_pos c262] | rw [if_neg (fun z => z (hu3.trans hu)), if_neg c262]))) ?_
                                      have hu4 : N4 12 i = N 12 (5 * r + s) := by rw [hN4, mC4_12]; exact hu3
                                      refine Z_aload_n C 4 d_M_change_274 rfl rfl ?_
                                      refine Z_iload C 1 d_M_change_275 rfl ?_
                                      refine C_cMn C w mi_M_hurry ml_M_207 (c_M_hurry w _ i (by omega)) rfl rfl (by decide) rfl (Nat.le_of_ble_eq_true rfl) d_M_change_277 ?_
                                      exact Z_vret C hN hr d_M_change_280 rfl (zeq (by apply eR_N; unfold mChg; rw [← hi, ← hN1, ← hN2, ← hN3, ← hN4]))
                                    · exact absurd rfl c250
                                  · exact absurd rfl c226
                                · skip
                                  refine Z_iload C 0 d_M_change_213 rfl ?_
                                  refine Z_if_eq (tgt := 222) C d_M_change_215 (by decide) (fun c215 => ?_) (fun c215 => ?_)
                                  · skip
                                    refine Z_iconst (v := 0) C d_M_change_222 (by decide) ?_
                                    refine R_zst 24 C w rfl rfl i (nI_clamp (by omega)) (vp_in_nI (n := i) (N := 25) (by omega) (by decide)) rfl d_M_change_223 ?_
                                    obtain ⟨N2, hN2⟩ : ∃ N2, N2 = mC2 N1 i := ⟨_, rfl⟩
                                    refine Z_imp (zeq (eR_N (show _ = N2 from by rw [hN2]; unfold mC2; first | rw [if_pos c210] | rw [if_neg (fun z => z c210), if_pos (hu1.trans hu)] | rw [if_neg (fun z => z c210), if_neg (fun z => hu (hu1.symm.trans z))]))) ?_
                                    have hu2 : N2 12 i = N 12 (5 * r + s) := by rw [hN2]; exact hu1
                                    refine Z_iload C 0 d_M_change_224 rfl ?_
                                    refine Z_if_eq (tgt := 240) C d_M_change_226 (by decide) (fun c226 => ?_) (fun c226 => ?_)
                                    · skip
                                      refine Z_aload_n C 4 d_M_change_240 rfl rfl ?_
                                      refine R_get C w 18 (by decide) fl_M_59 rfl rfl d_M_change_241 ?_
                                      refine Z_iload C 1 d_M_change_244 rfl ?_
                                      refine Z_iload_n C 7 d_M_change_246 rfl rfl ?_
                                      refine R_st 18 C w rfl rfl i (nI_clamp (by omega)) (vp_in_nI (n := i) (N := 25) (by omega) (by decide)) d_M_change_247 ?_
                                      obtain ⟨N3, hN3⟩ : ∃ N3, N3 = mC3 N2 i tx := ⟨_, rfl⟩
                                      refine Z_imp (zeq (eR_N (show _ = N3 from by rw [hN3]; unfold mC3; first | rw [if_pos (fun z => hu (hu2.symm.trans z))] | rw [if_neg (fun z => z (hu2.trans hu)), if_pos c237] | rw [if_neg (fun z => z (hu2.trans hu)), if_neg c237]))) ?_
                                      have hu3 : N3 12 i = N 12 (5 * r + s) := by rw [hN3, mC3_12]; exact hu2
                                      refine Z_iload C 0 d_M_change_248 rfl ?_
                                      refine Z_if_eq (tgt := 265) C d_M_change_250 (by decide) (fun c250 => ?_) (fun c250 => ?_)
                                      · skip
                                        refine Z_aload_n C 4 d_M_change_265 rfl rfl ?_
                                        refine R_get C w 19 (by decide) fl_M_62 rfl rfl d_M_change_266 ?_
                                        refine Z_iload C 1 d_M_change_269 rfl ?_
                                        refine Z_iload C 8 d_M_change_271 rfl ?_
                                        refine R_st 19 C w rfl rfl i (nI_clamp (by omega)) (vp_in_nI (n := i) (N := 25) (by omega) (by decide)) d_M_change_273 ?_
                                        obtain ⟨N4, hN4⟩ : ∃ N4, N4 = mC4 N3 i rx := ⟨_, rfl⟩
                                        refine Z_imp (zeq (eR_N (show _ = N4 from by rw [hN4]; unfold mC4; first | rw [if_pos (fun z => hu (hu3.symm.trans z))] | rw [if_neg (fun z => z (hu3.trans hu)), if_pos c262] | rw [if_neg (fun z => z (hu3.trans hu)), if_neg c262]))) ?_
                                        have hu4 : N4 12 i = N 12 (5 * r + s) := by rw [hN4, mC4_12]; exact hu3
                                        refine Z_aload_n C 4 d_M_change_274 rfl rfl ?_
                                        refine Z_iload C 1 d_M_change_275 rfl ?_
                                        refine C_cMn C w mi_M_hurry ml_M_207 (c_M_hurry w _ i (by omega)) rfl rfl (by decide) rfl (Nat.le_of_ble_eq_true rfl) d_M_change_277 ?_
                                        exact Z_vret C hN hr d_M_change_280 rfl (zeq (by apply eR_N; unfold mChg; rw [← hi, ← hN1, ← hN2, ← hN3, ← hN4]))
                                      · exact absurd rfl c250
                                    · exact absurd rfl c226
                                  · exact absurd rfl c215
                              · exact absurd (hu1.symm.trans c187) hu --stop
                            · exact absurd rfl c133
                          · exact absurd (by simp [u2, upd]) c120 --stop
                        · exact absurd c105 (by decide)
                      · exact absurd c96 h0 --stop
                  · exact absurd c66 (mIsR_ne hs5) --stop
    · exact absurd (by rw [c1]; decide) h1 --stop
set_option maxRecDepth 100000 in
set_option maxHeartbeats 4000000 in
theorem m_change_u {l : Launch} {G : zG} {U : zU} (w : wR G U) (N : zR) (r : Nat) (hr5 : r < 5) (s : Nat) (hs5 : s < 5) (tx rx : Int32) (h : ¬ N 11 (5 * r + s) = 0) (h0 : ¬ N 12 (5 * r + s) = 0) (h1 : ¬ tx < 1) (h2 : ¬ 1000 < tx) (h3 : ¬ rx < 1) (h4 : ¬ 1000 < rx) (hu : N 12 (5 * r + s) = 3) : zF l y_M_change b_M_change 9 none 4 84 G [.ref (U.1 43), .int (nI r), .int (nI s), .int tx, .int rx] (eR U N) none (eR U (mChg (t0 N) (5 * r + s) tx rx)) := by
  refine zF.ofZ (by decide) w.2.2.2.2 (Nat.le_of_ble_eq_true rfl) (fun X hXl hN hr C => ?_)
  subst hXl
  show Z X G (zA G) 9 _ (eR U N) 0 [(0, .ref (U.1 43)), (1, .int (nI r)), (2, .int (nI s)), (3, .int tx), (4, .int rx)] []
  obtain ⟨i, hi⟩ : ∃ i, i = 5 * r + s := ⟨_, rfl⟩
  refine Z_iload_n C 3 d_M_change_0 rfl rfl ?_
  refine Z_if_ne (tgt := 13) C d_M_change_1 (by decide) (fun c1 => ?_) (fun c1 => ?_)
  · skip
    refine Z_iconst (v := 0) C d_M_change_13 (by decide) ?_
    refine Z_istore C d_M_change_14 (by decide) rfl ?_
    refine Z_iload C 0 d_M_change_16 rfl ?_
    refine Z_if_ne (tgt := 47) C d_M_change_18 (by decide) (fun c18 => ?_) (fun c18 => ?_)
    · exact absurd rfl c18
    · skip
      refine Z_iload_n C 4 d_M_change_21 rfl rfl ?_
      refine Z_iconst (v := 1) C d_M_change_22 (by decide) ?_
      refine Z_icmp_lt (tgt := 51) C d_M_change_23 (by decide) (fun c23 => ?_) (fun c23 => ?_)
      · exact absurd c23 h1 --stop
      · skip
        refine Z_iload_n C 4 d_M_change_26 rfl rfl ?_
        refine Z_sipush (v := 1000) C d_M_change_27 (by decide) ?_
        refine Z_icmp_gt (tgt := 51) C d_M_change_30 (by decide) (fun c30 => ?_) (fun c30 => ?_)
        · exact absurd c30 h2 --stop
        · skip
          refine Z_iload C 5 d_M_change_33 rfl ?_
          refine Z_iconst (v := 1) C d_M_change_35 (by decide) ?_
          refine Z_icmp_lt (tgt := 51) C d_M_change_36 (by decide) (fun c36 => ?_) (fun c36 => ?_)
          · exact absurd c36 h3 --stop
          · skip
            refine Z_iload C 5 d_M_change_39 rfl ?_
            refine Z_sipush (v := 1000) C d_M_change_41 (by decide) ?_
            refine Z_icmp_gt (tgt := 51) C d_M_change_44 (by decide) (fun c44 => ?_) (fun c44 => ?_)
            · exact absurd c44 h4 --stop
            · skip
              refine Z_iconst (v := 1) C d_M_change_47 (by decide) ?_
              refine Z_goto (tgt := 52) C d_M_change_48 (by decide) ?_
              refine Z_istore C d_M_change_52 (by decide) rfl ?_
              refine Z_aload_n C 2 d_M_change_54 rfl rfl ?_
              refine Z_iload_n C 3 d_M_change_55 rfl rfl ?_
              refine C_csv C ms_M_isRouter ml_M_128 (c_M_isRouter w _ _) rfl (by decide) rfl (Nat.le_of_ble_eq_true rfl) d_M_change_56 ?_
              refine Z_if_eq (tgt := 69) C d_M_change_59 (by decide) (fun c59 => ?_) (fun c59 => ?_)
              · exact absurd c59 (mIsR_ne hr5) --stop
              · skip
                refine Z_iload_n C 4 d_M_change_62 rfl rfl ?_
                refine C_csv C ms_M_isRouter ml_M_128 (c_M_isRouter w _ _) rfl (by decide) rfl (Nat.le_of_ble_eq_true rfl) d_M_change_63 ?_
                refine Z_if_ne (tgt := 73) C d_M_change_66 (by decide) (fun c66 => ?_) (fun c66 => ?_)
                · skip
                  refine Z_aload_n C 2 d_M_change_73 rfl rfl ?_
                  refine R_get C w 11 (by decide) fl_M_37 rfl rfl d_M_change_74 ?_
                  refine Z_iconst (v := 5) C d_M_change_77 (by decide) ?_
                  refine Z_iload_n C 3 d_M_change_78 rfl rfl ?_
                  refine Z_imul C d_M_change_79 ?_
                  refine Z_iload_n C 4 d_M_change_80 rfl rfl ?_
                  refine Z_iadd C d_M_change_81 ?_
                  refine R_zld 11 C w rfl rfl (5 * r + s) (by rw [ix5]; exact nI_clamp (by omega)) (by rw [ix5]; exact vp_in_nI (n := 5 * r + s) (N := 25) (by omega) (by decide)) d_M_change_82 ?_
                  refine Z_if_eq (tgt := 99) C d_M_change_83 (by decide) (fun c83 => ?_) (fun c83 => ?_)
                  · exact absurd c83 h --stop
                  · skip
                    refine Z_aload_n C 2 d_M_change_86 rfl rfl ?_
                    refine R_get C w 12 (by decide) fl_M_41 rfl rfl d_M_change_87 ?_
                    refine Z_iconst (v := 5) C d_M_change_90 (by decide) ?_
                    refine Z_iload_n C 3 d_M_change_91 rfl rfl ?_
                    refine Z_imul C d_M_change_92 ?_
                    refine Z_iload_n C 4 d_M_change_93 rfl rfl ?_
                    refine Z_iadd C d_M_change_94 ?_
                    refine R_ld 12 C w rfl rfl (5 * r + s) (by rw [ix5]; exact nI_clamp (by omega)) (by rw [ix5]; exact vp_in_nI (n := 5 * r + s) (N := 25) (by omega) (by decide)) d_M_change_95 ?_
                    refine Z_if_ne (tgt := 103) C d_M_change_96 (by decide) (fun c96 => ?_) (fun c96 => ?_)
                    · skip
                      refine Z_iload C 0 d_M_change_103 rfl ?_
                      refine Z_if_ne (tgt := 112) C d_M_change_105 (by decide) (fun c105 => ?_) (fun c105 => ?_)
                      · skip
                        refine Z_iconst (v := 0) C d_M_change_112 (by decide) ?_
                        refine R_put C w 0 (by decide) fl_M_124 rfl rfl rfl rfl rfl d_M_change_113 ?_
                        refine Z_aload_n C 2 d_M_change_116 rfl rfl ?_
                        refine R_get C w 0 (by decide) fl_M_124 rfl rfl d_M_change_117 ?_
                        refine Z_if_eq (tgt := 124) C d_M_change_120 (by decide) (fun c120 => ?_) (fun c120 => ?_)
                        · skip
                          refine Z_iconst (v := 5) C d_M_change_124 (by decide) ?_
                          refine Z_iload_n C 3 d_M_change_125 rfl rfl ?_
                          refine Z_imul C d_M_change_126 ?_
                          refine Z_iload_n C 4 d_M_change_127 rfl rfl ?_
                          refine Z_iadd C d_M_change_128 ?_
                          refine zst (st' := [.int (nI i)]) (by rw [ix5, hi]) ?_
                          refine Z_istore C d_M_change_129 (by decide) rfl ?_
                          refine Z_iload C 2 d_M_change_131 rfl ?_
                          refine Z_if_eq (tgt := 162) C d_M_change_133 (by decide) (fun c133 => ?_) (fun c133 => ?_)
                          · skip
                            refine Z_aload_n C 3 d_M_change_162 rfl rfl ?_
                            refine R_get C w 16 (by decide) fl_M_53 rfl rfl d_M_change_163 ?_
                            refine Z_iload C 0 d_M_change_166 rfl ?_
                            refine Z_iload_n C 6 d_M_change_168 rfl rfl ?_
                            refine R_st 16 C w rfl rfl i (nI_clamp (by omega)) (vp_in_nI (n := i) (N := 25) (by omega) (by decide)) d_M_change_169 ?_
                            refine Z_aload_n C 3 d_M_change_170 rfl rfl ?_
                            refine R_get C w 17 (by decide) fl_M_56 rfl rfl d_M_change_171 ?_
                            refine Z_iload C 0 d_M_change_174 rfl ?_
                            refine Z_iload C 7 d_M_change_176 rfl ?_
                            refine R_st 17 C w rfl rfl i (nI_clamp (by omega)) (vp_in_nI (n := i) (N := 25) (by omega) (by decide)) d_M_change_178 ?_
                            show Z X G (zA G) 9 _ (eR U (mC1 (t0 N) i tx rx)) 179 _ []
                            obtain ⟨N1, hN1⟩ : ∃ N1, N1 = mC1 (t0 N) i tx rx := ⟨_, rfl⟩
                            rw [← hN1]
                            have hu1 : N1 12 i = N 12 (5 * r + s) := by rw [hN1, ← hi]; rfl
                            refine Z_aload_n C 3 d_M_change_179 rfl rfl ?_
                            refine R_get C w 12 (by decide) fl_M_41 rfl rfl d_M_change_180 ?_
                            refine Z_iload C 0 d_M_change_183 rfl ?_
                            refine R_ld 12 C w rfl rfl i (nI_clamp (by omega)) (vp_in_nI (n := i) (N := 25) (by omega) (by decide)) d_M_change_185 ?_
                            refine Z_iconst (v := 3) C d_M_change_186 (by decide) ?_
                            refine Z_icmp_ne (tgt := 194) C d_M_change_187 (by decide) (fun c187 => ?_) (fun c187 => ?_)
                            · exact absurd (hu1.trans hu) c187 --stop
                            · skip
                              refine Z_iconst (v := 1) C d_M_change_190 (by decide) ?_
                              refine Z_goto (tgt := 195) C d_M_change_191 (by decide) ?_
                              refine Z_istore C d_M_change_195 (by decide) rfl ?_
                              refine Z_aload_n C 4 d_M_change_197 rfl rfl ?_
                              refine R_get C w 24 (by decide) fl_M_77 rfl rfl d_M_change_198 ?_
                              refine Z_iload C 1 d_M_change_201 rfl ?_
                              refine Z_aload_n C 4 d_M_change_203 rfl rfl ?_
                              refine R_get C w 24 (by decide) fl_M_77 rfl rfl d_M_change_204 ?_
                              refine Z_iload C 1 d_M_change_207 rfl ?_
                              refine R_zld 24 C w rfl rfl i (nI_clamp (by omega)) (vp_in_nI (n := i) (N := 25) (by omega) (by decide)) d_M_change_209 ?_
                              refine Z_if_ne (tgt := 218) C d_M_change_210 (by decide) (fun c210 => ?_) (fun c210 => ?_)
                              · skip
                                refine Z_iconst (v := 1) C d_M_change_218 (by decide) ?_
                                refine Z_goto (tgt := 223) C d_M_change_219 (by decide) ?_
                                refine R_zst 24 C w rfl rfl i (nI_clamp (by omega)) (vp_in_nI (n := i) (N := 25) (by omega) (by decide)) rfl d_M_change_223 ?_
                                obtain ⟨N2, hN2⟩ : ∃ N2, N2 = mC2 N1 i := ⟨_, rfl⟩
                                refine Z_imp (zeq (eR_N (show _ = N2 from by rw [hN2]; unfold mC2; first | rw [if_pos c210] | rw [if_neg (fun z => z c210), if_pos (hu1.trans hu)] | rw [if_neg (fun z => z c210), if_neg (fun z => hu (hu1.symm.trans z))]))) ?_
                                have hu2 : N2 12 i = N 12 (5 * r + s) := by rw [hN2]; exact hu1
                                refine Z_iload C 0 d_M_change_224 rfl ?_
                                refine Z_if_eq (tgt := 240) C d_M_change_226 (by decide) (fun c226 => ?_) (fun c226 => ?_)
                                · exact absurd c226 (by decide)
                                · skip
                                  refine Z_iload_n C 7 d_M_change_229 rfl rfl ?_
                                  refine Z_aload_n C 4 d_M_change_230 rfl rfl ?_
                                  refine R_get C w 18 (by decide) fl_M_59 rfl rfl d_M_change_231 ?_
                                  refine Z_iload C 1 d_M_change_234 rfl ?_
                                  refine R_ld 18 C w rfl rfl i (nI_clamp (by omega)) (vp_in_nI (n := i) (N := 25) (by omega) (by decide)) d_M_change_236 ?_
                                  refine Z_icmp_gt (tgt := 248) C d_M_change_237 (by decide) (fun c237 => ?_) (fun c237 => ?_)
                                  · skip
                                    obtain ⟨N3, hN3⟩ : ∃ N3, N3 = mC3 N2 i tx := ⟨_, rfl⟩
                                    refine Z_imp (zeq (eR_N (show _ = N3 from by rw [hN3]; unfold mC3; first | rw [if_pos (fun z => hu (hu2.symm.trans z))] | rw [if_neg (fun z => z (hu2.trans hu)), if_pos c237] | rw [if_neg (fun z => z (hu2.trans hu)), if_neg c237]))) ?_
                                    have hu3 : N3 12 i = N 12 (5 * r + s) := by rw [hN3, mC3_12]; exact hu2
                                    refine Z_iload C 0 d_M_change_248 rfl ?_
                                    refine Z_if_eq (tgt := 265) C d_M_change_250 (by decide) (fun c250 => ?_) (fun c250 => ?_)
                                    · exact absurd c250 (by decide)
                                    · skip
                                      refine Z_iload C 8 d_M_change_253 rfl ?_
                                      refine Z_aload_n C 4 d_M_change_255 rfl rfl ?_
                                      refine R_get C w 19 (by decide) fl_M_62 rfl rfl d_M_change_256 ?_
                                      refine Z_iload C 1 d_M_change_259 rfl ?_
                                      refine R_ld 19 C w rfl rfl i (nI_clamp (by omega)) (vp_in_nI (n := i) (N := 25) (by omega) (by decide)) d_M_change_261 ?_
                                      refine Z_icmp_lt (tgt := 274) C d_M_change_262 (by decide) (fun c262 => ?_) (fun c262 => ?_)
                                      · skip
                                        obtain ⟨N4, hN4⟩ : ∃ N4, N4 = mC4 N3 i rx := ⟨_, rfl⟩
                                        refine Z_imp (zeq (eR_N (show _ = N4 from by rw [hN4]; unfold mC4; first | rw [if_pos (fun z => hu (hu3.symm.trans z))] | rw [if_neg (fun z => z (hu3.trans hu)), if_pos c262] | rw [if_neg (fun z => z (hu3.trans hu)), if_neg c262]))) ?_
                                        have hu4 : N4 12 i = N 12 (5 * r + s) := by rw [hN4, mC4_12]; exact hu3
                                        refine Z_aload_n C 4 d_M_change_274 rfl rfl ?_
                                        refine Z_iload C 1 d_M_change_275 rfl ?_
                                        refine C_cMn C w mi_M_hurry ml_M_207 (c_M_hurry w _ i (by omega)) rfl rfl (by decide) rfl (Nat.le_of_ble_eq_true rfl) d_M_change_277 ?_
                                        exact Z_vret C hN hr d_M_change_280 rfl (zeq (by apply eR_N; unfold mChg; rw [← hi, ← hN1, ← hN2, ← hN3, ← hN4]))
                                      · skip
                                        refine Z_aload_n C 4 d_M_change_265 rfl rfl ?_
                                        refine R_get C w 19 (by decide) fl_M_62 rfl rfl d_M_change_266 ?_
                                        refine Z_iload C 1 d_M_change_269 rfl ?_
                                        refine Z_iload C 8 d_M_change_271 rfl ?_
                                        refine R_st 19 C w rfl rfl i (nI_clamp (by omega)) (vp_in_nI (n := i) (N := 25) (by omega) (by decide)) d_M_change_273 ?_
                                        obtain ⟨N4, hN4⟩ : ∃ N4, N4 = mC4 N3 i rx := ⟨_, rfl⟩
                                        refine Z_imp (zeq (eR_N (show _ = N4 from by rw [hN4]; unfold mC4; first | rw [if_pos (fun z => hu (hu3.symm.trans z))] | rw [if_neg (fun z => z (hu3.trans hu)), if_pos c262] | rw [if_neg (fun z => z (hu3.trans hu)), if_neg c262]))) ?_
                                        have hu4 : N4 12 i = N 12 (5 * r + s) := by rw [hN4, mC4_12]; exact hu3
                                        refine Z_aload_n C 4 d_M_change_274 rfl rfl ?_
                                        refine Z_iload C 1 d_M_change_275 rfl ?_
                                        refine C_cMn C w mi_M_hurry ml_M_207 (c_M_hurry w _ i (by omega)) rfl rfl (by decide) rfl (Nat.le_of_ble_eq_true rfl) d_M_change_277 ?_
                                        exact Z_vret C hN hr d_M_change_280 rfl (zeq (by apply eR_N; unfold mChg; rw [← hi, ← hN1, ← hN2, ← hN3, ← hN4]))
                                  · skip
                                    refine Z_aload_n C 4 d_M_change_240 rfl rfl ?_
                                    refine R_get C w 18 (by decide) fl_M_59 rfl rfl d_M_change_241 ?_
                                    refine Z_iload C 1 d_M_change_244 rfl ?_
                                    refine Z_iload_n C 7 d_M_change_246 rfl rfl ?_
                                    refine R_st 18 C w rfl rfl i (nI_clamp (by omega)) (vp_in_nI (n := i) (N := 25) (by omega) (by decide)) d_M_change_247 ?_
                                    obtain ⟨N3, hN3⟩ : ∃ N3, N3 = mC3 N2 i tx := ⟨_, rfl⟩
                                    refine Z_imp (zeq (eR_N (show _ = N3 from by rw [hN3]; unfold mC3; first | rw [if_pos (fun z => hu (hu2.symm.trans z))] | rw [if_neg (fun z => z (hu2.trans hu)), if_pos c237] | rw [if_neg (fun z => z (hu2.trans hu)), if_neg c237]))) ?_
                                    have hu3 : N3 12 i = N 12 (5 * r + s) := by rw [hN3, mC3_12]; exact hu2
                                    refine Z_iload C 0 d_M_change_248 rfl ?_
                                    refine Z_if_eq (tgt := 265) C d_M_change_250 (by decide) (fun c250 => ?_) (fun c250 => ?_)
                                    · exact absurd c250 (by decide)
                                    · skip
                                      refine Z_iload C 8 d_M_change_253 rfl ?_
                                      refine Z_aload_n C 4 d_M_change_255 rfl rfl ?_
                                      refine R_get C w 19 (by decide) fl_M_62 rfl rfl d_M_change_256 ?_
                                      refine Z_iload C 1 d_M_change_259 rfl ?_
                                      refine R_ld 19 C w rfl rfl i (nI_clamp (by omega)) (vp_in_nI (n := i) (N := 25) (by omega) (by decide)) d_M_change_261 ?_
                                      refine Z_icmp_lt (tgt := 274) C d_M_change_262 (by decide) (fun c262 => ?_) (fun c262 => ?_)
                                      · skip
                                        obtain ⟨N4, hN4⟩ : ∃ N4, N4 = mC4 N3 i rx := ⟨_, rfl⟩
                                        refine Z_imp (zeq (eR_N (show _ = N4 from by rw [hN4]; unfold mC4; first | rw [if_pos (fun z => hu (hu3.symm.trans z))] | rw [if_neg (fun z => z (hu3.trans hu)), if_pos c262] | rw [if_neg (fun z => z (hu3.trans hu)), if_neg c262]))) ?_
                                        have hu4 : N4 12 i = N 12 (5 * r + s) := by rw [hN4, mC4_12]; exact hu3
                                        refine Z_aload_n C 4 d_M_change_274 rfl rfl ?_
                                        refine Z_iload C 1 d_M_change_275 rfl ?_
                                        refine C_cMn C w mi_M_hurry ml_M_207 (c_M_hurry w _ i (by omega)) rfl rfl (by decide) rfl (Nat.le_of_ble_eq_true rfl) d_M_change_277 ?_
                                        exact Z_vret C hN hr d_M_change_280 rfl (zeq (by apply eR_N; unfold mChg; rw [← hi, ← hN1, ← hN2, ← hN3, ← hN4]))
                                      · skip
                                        refine Z_aload_n C 4 d_M_change_265 rfl rfl ?_
                                        refine R_get C w 19 (by decide) fl_M_62 rfl rfl d_M_change_266 ?_
                                        refine Z_iload C 1 d_M_change_269 rfl ?_
                                        refine Z_iload C 8 d_M_change_271 rfl ?_
                                        refine R_st 19 C w rfl rfl i (nI_clamp (by omega)) (vp_in_nI (n := i) (N := 25) (by omega) (by decide)) d_M_change_273 ?_
                                        obtain ⟨N4, hN4⟩ : ∃ N4, N4 = mC4 N3 i rx := ⟨_, rfl⟩
                                        refine Z_imp (zeq (eR_N (show _ = N4 from by rw [hN4]; unfold mC4; first | rw [if_pos (fun z => hu (hu3.symm.trans z))] | rw [if_neg (fun z => z (hu3.trans hu)), if_pos c262] | rw [if_neg (fun z => z (hu3.trans hu)), if_neg c262]))) ?_
                                        have hu4 : N4 12 i = N 12 (5 * r + s) := by rw [hN4, mC4_12]; exact hu3
                                        refine Z_aload_n C 4 d_M_change_274 rfl rfl ?_
                                        refine Z_iload C 1 d_M_change_275 rfl ?_
                                        refine C_cMn C w mi_M_hurry ml_M_207 (c_M_hurry w _ i (by omega)) rfl rfl (by decide) rfl (Nat.le_of_ble_eq_true rfl) d_M_change_277 ?_
                                        exact Z_vret C hN hr d_M_change_280 rfl (zeq (by apply eR_N; unfold mChg; rw [← hi, ← hN1, ← hN2, ← hN3, ← hN4]))
                              · skip
                                refine Z_iload C 0 d_M_change_213 rfl ?_
                                refine Z_if_eq (tgt := 222) C d_M_change_215 (by decide) (fun c215 => ?_) (fun c215 => ?_)
                                · exact absurd c215 (by decide)
                                · skip
                                  refine Z_iconst (v := 1) C d_M_change_218 (by decide) ?_
                                  refine Z_goto (tgt := 223) C d_M_change_219 (by decide) ?_
                                  refine R_zst 24 C w rfl rfl i (nI_clamp (by omega)) (vp_in_nI (n := i) (N := 25) (by omega) (by decide)) rfl d_M_change_223 ?_
                                  obtain ⟨N2, hN2⟩ : ∃ N2, N2 = mC2 N1 i := ⟨_, rfl⟩
                                  refine Z_imp (zeq (eR_N (show _ = N2 from by rw [hN2]; unfold mC2; first | rw [if_pos c210] | rw [if_neg (fun z => z c210), if_pos (hu1.trans hu)] | rw [if_neg (fun z => z c210), if_neg (fun z => hu (hu1.symm.trans z))]))) ?_
                                  have hu2 : N2 12 i = N 12 (5 * r + s) := by rw [hN2]; exact hu1
                                  refine Z_iload C 0 d_M_change_224 rfl ?_
                                  refine Z_if_eq (tgt := 240) C d_M_change_226 (by decide) (fun c226 => ?_) (fun c226 => ?_)
                                  · exact absurd c226 (by decide)
                                  · skip
                                    refine Z_iload_n C 7 d_M_change_229 rfl rfl ?_
                                    refine Z_aload_n C 4 d_M_change_230 rfl rfl ?_
                                    refine R_get C w 18 (by decide) fl_M_59 rfl rfl d_M_change_231 ?_
                                    refine Z_iload C 1 d_M_change_234 rfl ?_
                                    refine R_ld 18 C w rfl rfl i (nI_clamp (by omega)) (vp_in_nI (n := i) (N := 25) (by omega) (by decide)) d_M_change_236 ?_
                                    refine Z_icmp_gt (tgt := 248) C d_M_change_237 (by decide) (fun c237 => ?_) (fun c237 => ?_)
                                    · skip
                                      obtain ⟨N3, hN3⟩ : ∃ N3, N3 = mC3 N2 i tx := ⟨_, rfl⟩
                                      refine Z_imp (zeq (eR_N (show _ = N3 from by rw [hN3]; unfold mC3; first | rw [if_pos (fun z => hu (hu2.symm.trans z))] | rw [if_neg (fun z => z (hu2.trans hu)), if_pos c237] | rw [if_neg (fun z => z (hu2.trans hu)), if_neg c237]))) ?_
                                      have hu3 : N3 12 i = N 12 (5 * r + s) := by rw [hN3, mC3_12]; exact hu2
                                      refine Z_iload C 0 d_M_change_248 rfl ?_
                                      refine Z_if_eq (tgt := 265) C d_M_change_250 (by decide) (fun c250 => ?_) (fun c250 => ?_)
                                      · exact absurd c250 (by decide)
                                      · skip
                                        refine Z_iload C 8 d_M_change_253 rfl ?_
                                        refine Z_aload_n C 4 d_M_change_255 rfl rfl ?_
                                        refine R_get C w 19 (by decide) fl_M_62 rfl rfl d_M_change_256 ?_
                                        refine Z_iload C 1 d_M_change_259 rfl ?_
                                        refine R_ld 19 C w rfl rfl i (nI_clamp (by omega)) (vp_in_nI (n := i) (N := 25) (by omega) (by decide)) d_M_change_261 ?_
                                        refine Z_icmp_lt (tgt := 274) C d_M_change_262 (by decide) (fun c262 => ?_) (fun c262 => ?_)
                                        · skip
                                          obtain ⟨N4, hN4⟩ : ∃ N4, N4 = mC4 N3 i rx := ⟨_, rfl⟩
                                          refine Z_imp (zeq (eR_N (show _ = N4 from by rw [hN4]; unfold mC4; first | rw [if_pos (fun z => hu (hu3.symm.trans z))] | rw [if_neg (fun z => z (hu3.trans hu)), if_pos c262] | rw [if_neg (fun z => z (hu3.trans hu)), if_neg c262]))) ?_
                                          have hu4 : N4 12 i = N 12 (5 * r + s) := by rw [hN4, mC4_12]; exact hu3
                                          refine Z_aload_n C 4 d_M_change_274 rfl rfl ?_
                                          refine Z_iload C 1 d_M_change_275 rfl ?_
                                          refine C_cMn C w mi_M_hurry ml_M_207 (c_M_hurry w _ i (by omega)) rfl rfl (by decide) rfl (Nat.le_of_ble_eq_true rfl) d_M_change_277 ?_
                                          exact Z_vret C hN hr d_M_change_280 rfl (zeq (by apply eR_N; unfold mChg; rw [← hi, ← hN1, ← hN2, ← hN3, ← hN4]))
                                        · skip
                                          refine Z_aload_n C 4 d_M_change_265 rfl rfl ?_
                                          refine R_get C w 19 (by decide) fl_M_62 rfl rfl d_M_change_266 ?_
                                          refine Z_iload C 1 d_M_change_269 rfl ?_
                                          refine Z_iload C 8 d_M_change_271 rfl ?_
                                          refine R_st 19 C w rfl rfl i (nI_clamp (by omega)) (vp_in_nI (n := i) (N := 25) (by omega) (by decide)) d_M_change_273 ?_
                                          obtain ⟨N4, hN4⟩ : ∃ N4, N4 = mC4 N3 i rx := ⟨_, rfl⟩
                                          refine Z_imp (zeq (eR_N (show _ = N4 from by rw [hN4]; unfold mC4; first | rw [if_pos (fun z => hu (hu3.symm.trans z))] | rw [if_neg (fun z => z (hu3.trans hu)), if_pos c262] | rw [if_neg (fun z => z (hu3.trans hu)), if_neg c262]))) ?_
                                          have hu4 : N4 12 i = N 12 (5 * r + s) := by rw [hN4, mC4_12]; exact hu3
                                          refine Z_aload_n C 4 d_M_change_274 rfl rfl ?_
                                          refine Z_iload C 1 d_M_change_275 rfl ?_
                                          refine C_cMn C w mi_M_hurry ml_M_207 (c_M_hurry w _ i (by omega)) rfl rfl (by decide) rfl (Nat.le_of_ble_eq_true rfl) d_M_change_277 ?_
                                          exact Z_vret C hN hr d_M_change_280 rfl (zeq (by apply eR_N; unfold mChg; rw [← hi, ← hN1, ← hN2, ← hN3, ← hN4]))
                                    · skip
                                      refine Z_aload_n C 4 d_M_change_240 rfl rfl ?_
                                      refine R_get C w 18 (by decide) fl_M_59 rfl rfl d_M_change_241 ?_
                                      refine Z_iload C 1 d_M_change_244 rfl ?_
                                      refine Z_iload_n C 7 d_M_change_246 rfl rfl ?_
                                      refine R_st 18 C w rfl rfl i (nI_clamp (by omega)) (vp_in_nI (n := i) (N := 25) (by omega) (by decide)) d_M_change_247 ?_
                                      obtain ⟨N3, hN3⟩ : ∃ N3, N3 = mC3 N2 i tx := ⟨_, rfl⟩
                                      refine Z_imp (zeq (eR_N (show _ = N3 from by rw [hN3]; unfold mC3; first | rw [if_pos (fun z => hu (hu2.symm.trans z))] | rw [if_neg (fun z => z (hu2.trans hu)), if_pos c237] | rw [if_neg (fun z => z (hu2.trans hu)), if_neg c237]))) ?_
                                      have hu3 : N3 12 i = N 12 (5 * r + s) := by rw [hN3, mC3_12]; exact hu2
                                      refine Z_iload C 0 d_M_change_248 rfl ?_
                                      refine Z_if_eq (tgt := 265) C d_M_change_250 (by decide) (fun c250 => ?_) (fun c250 => ?_)
                                      · exact absurd c250 (by decide)
                                      · skip
                                        refine Z_iload C 8 d_M_change_253 rfl ?_
                                        refine Z_aload_n C 4 d_M_change_255 rfl rfl ?_
                                        refine R_get C w 19 (by decide) fl_M_62 rfl rfl d_M_change_256 ?_
                                        refine Z_iload C 1 d_M_change_259 rfl ?_
                                        refine R_ld 19 C w rfl rfl i (nI_clamp (by omega)) (vp_in_nI (n := i) (N := 25) (by omega) (by decide)) d_M_change_261 ?_
                                        refine Z_icmp_lt (tgt := 274) C d_M_change_262 (by decide) (fun c262 => ?_) (fun c262 => ?_)
                                        · skip
                                          obtain ⟨N4, hN4⟩ : ∃ N4, N4 = mC4 N3 i rx := ⟨_, rfl⟩
                                          refine Z_imp (zeq (eR_N (show _ = N4 from by rw [hN4]; unfold mC4; first | rw [if_pos (fun z => hu (hu3.symm.trans z))] | rw [if_neg (fun z => z (hu3.trans hu)), if_pos c262] | rw [if_neg (fun z => z (hu3.trans hu)), if_neg c262]))) ?_
                                          have hu4 : N4 12 i = N 12 (5 * r + s) := by rw [hN4, mC4_12]; exact hu3
                                          refine Z_aload_n C 4 d_M_change_274 rfl rfl ?_
                                          refine Z_iload C 1 d_M_change_275 rfl ?_
                                          refine C_cMn C w mi_M_hurry ml_M_207 (c_M_hurry w _ i (by omega)) rfl rfl (by decide) rfl (Nat.le_of_ble_eq_true rfl) d_M_change_277 ?_
                                          exact Z_vret C hN hr d_M_change_280 rfl (zeq (by apply eR_N; unfold mChg; rw [← hi, ← hN1, ← hN2, ← hN3, ← hN4]))
                                        · skip
                                          refine Z_aload_n C 4 d_M_change_265 rfl rfl ?_
                                          refine R_get C w 19 (by decide) fl_M_62 rfl rfl d_M_change_266 ?_
                                          refine Z_iload C 1 d_M_change_269 rfl ?_
                                          refine Z_iload C 8 d_M_change_271 rfl ?_
                                          refine R_st 19 C w rfl rfl i (nI_clamp (by omega)) (vp_in_nI (n := i) (N := 25) (by omega) (by decide)) d_M_change_273 ?_
                                          obtain ⟨N4, hN4⟩ : ∃ N4, N4 = mC4 N3 i rx := ⟨_, rfl⟩
                                          refine Z_imp (zeq (eR_N (show _ = N4 from by rw [hN4]; unfold mC4; first | rw [if_pos (fun z => hu (hu3.symm.trans z))] | rw [if_neg (fun z => z (hu3.trans hu)), if_pos c262] | rw [if_neg (fun z => z (hu3.trans hu)), if_neg c262]))) ?_
                                          have hu4 : N4 12 i = N 12 (5 * r + s) := by rw [hN4, mC4_12]; exact hu3
                                          refine Z_aload_n C 4 d_M_change_274 rfl rfl ?_
                                          refine Z_iload C 1 d_M_change_275 rfl ?_
                                          refine C_cMn C w mi_M_hurry ml_M_207 (c_M_hurry w _ i (by omega)) rfl rfl (by decide) rfl (Nat.le_of_ble_eq_true rfl) d_M_change_277 ?_
                                          exact Z_vret C hN hr d_M_change_280 rfl (zeq (by apply eR_N; unfold mChg; rw [← hi, ← hN1, ← hN2, ← hN3, ← hN4]))
                          · exact absurd rfl c133
                        · exact absurd (by simp [u2, upd]) c120 --stop
                      · exact absurd c105 (by decide)
                    · exact absurd c96 h0 --stop
                · exact absurd c66 (mIsR_ne hs5) --stop
  · skip
    refine Z_iload C 4 d_M_change_4 rfl ?_
    refine Z_if_ne (tgt := 13) C d_M_change_6 (by decide) (fun c6 => ?_) (fun c6 => ?_)
    · skip
      refine Z_iconst (v := 0) C d_M_change_13 (by decide) ?_
      refine Z_istore C d_M_change_14 (by decide) rfl ?_
      refine Z_iload C 0 d_M_change_16 rfl ?_
      refine Z_if_ne (tgt := 47) C d_M_change_18 (by decide) (fun c18 => ?_) (fun c18 => ?_)
      · exact absurd rfl c18
      · skip
        refine Z_iload_n C 4 d_M_change_21 rfl rfl ?_
        refine Z_iconst (v := 1) C d_M_change_22 (by decide) ?_
        refine Z_icmp_lt (tgt := 51) C d_M_change_23 (by decide) (fun c23 => ?_) (fun c23 => ?_)
        · exact absurd c23 h1 --stop
        · skip
          refine Z_iload_n C 4 d_M_change_26 rfl rfl ?_
          refine Z_sipush (v := 1000) C d_M_change_27 (by decide) ?_
          refine Z_icmp_gt (tgt := 51) C d_M_change_30 (by decide) (fun c30 => ?_) (fun c30 => ?_)
          · exact absurd c30 h2 --stop
          · skip
            refine Z_iload C 5 d_M_change_33 rfl ?_
            refine Z_iconst (v := 1) C d_M_change_35 (by decide) ?_
            refine Z_icmp_lt (tgt := 51) C d_M_change_36 (by decide) (fun c36 => ?_) (fun c36 => ?_)
            · exact absurd c36 h3 --stop
            · skip
              refine Z_iload C 5 d_M_change_39 rfl ?_
              refine Z_sipush (v := 1000) C d_M_change_41 (by decide) ?_
              refine Z_icmp_gt (tgt := 51) C d_M_change_44 (by decide) (fun c44 => ?_) (fun c44 => ?_)
              · exact absurd c44 h4 --stop
              · skip
                refine Z_iconst (v := 1) C d_M_change_47 (by decide) ?_
                refine Z_goto (tgt := 52) C d_M_change_48 (by decide) ?_
                refine Z_istore C d_M_change_52 (by decide) rfl ?_
                refine Z_aload_n C 2 d_M_change_54 rfl rfl ?_
                refine Z_iload_n C 3 d_M_change_55 rfl rfl ?_
                refine C_csv C ms_M_isRouter ml_M_128 (c_M_isRouter w _ _) rfl (by decide) rfl (Nat.le_of_ble_eq_true rfl) d_M_change_56 ?_
                refine Z_if_eq (tgt := 69) C d_M_change_59 (by decide) (fun c59 => ?_) (fun c59 => ?_)
                · exact absurd c59 (mIsR_ne hr5) --stop
                · skip
                  refine Z_iload_n C 4 d_M_change_62 rfl rfl ?_
                  refine C_csv C ms_M_isRouter ml_M_128 (c_M_isRouter w _ _) rfl (by decide) rfl (Nat.le_of_ble_eq_true rfl) d_M_change_63 ?_
                  refine Z_if_ne (tgt := 73) C d_M_change_66 (by decide) (fun c66 => ?_) (fun c66 => ?_)
                  · skip
                    refine Z_aload_n C 2 d_M_change_73 rfl rfl ?_
                    refine R_get C w 11 (by decide) fl_M_37 rfl rfl d_M_change_74 ?_
                    refine Z_iconst (v := 5) C d_M_change_77 (by decide) ?_
                    refine Z_iload_n C 3 d_M_change_78 rfl rfl ?_
                    refine Z_imul C d_M_change_79 ?_
                    refine Z_iload_n C 4 d_M_change_80 rfl rfl ?_
                    refine Z_iadd C d_M_change_81 ?_
                    refine R_zld 11 C w rfl rfl (5 * r + s) (by rw [ix5]; exact nI_clamp (by omega)) (by rw [ix5]; exact vp_in_nI (n := 5 * r + s) (N := 25) (by omega) (by decide)) d_M_change_82 ?_
                    refine Z_if_eq (tgt := 99) C d_M_change_83 (by decide) (fun c83 => ?_) (fun c83 => ?_)
                    · exact absurd c83 h --stop
                    · skip
                      refine Z_aload_n C 2 d_M_change_86 rfl rfl ?_
                      refine R_get C w 12 (by decide) fl_M_41 rfl rfl d_M_change_87 ?_
                      refine Z_iconst (v := 5) C d_M_change_90 (by decide) ?_
                      refine Z_iload_n C 3 d_M_change_91 rfl rfl ?_
                      refine Z_imul C d_M_change_92 ?_
                      refine Z_iload_n C 4 d_M_change_93 rfl rfl ?_
                      refine Z_iadd C d_M_change_94 ?_
                      refine R_ld 12 C w rfl rfl (5 * r + s) (by rw [ix5]; exact nI_clamp (by omega)) (by rw [ix5]; exact vp_in_nI (n := 5 * r + s) (N := 25) (by omega) (by decide)) d_M_change_95 ?_
                      refine Z_if_ne (tgt := 103) C d_M_change_96 (by decide) (fun c96 => ?_) (fun c96 => ?_)
                      · skip
                        refine Z_iload C 0 d_M_change_103 rfl ?_
                        refine Z_if_ne (tgt := 112) C d_M_change_105 (by decide) (fun c105 => ?_) (fun c105 => ?_)
                        · skip
                          refine Z_iconst (v := 0) C d_M_change_112 (by decide) ?_
                          refine R_put C w 0 (by decide) fl_M_124 rfl rfl rfl rfl rfl d_M_change_113 ?_
                          refine Z_aload_n C 2 d_M_change_116 rfl rfl ?_
                          refine R_get C w 0 (by decide) fl_M_124 rfl rfl d_M_change_117 ?_
                          refine Z_if_eq (tgt := 124) C d_M_change_120 (by decide) (fun c120 => ?_) (fun c120 => ?_)
                          · skip
                            refine Z_iconst (v := 5) C d_M_change_124 (by decide) ?_
                            refine Z_iload_n C 3 d_M_change_125 rfl rfl ?_
                            refine Z_imul C d_M_change_126 ?_
                            refine Z_iload_n C 4 d_M_change_127 rfl rfl ?_
                            refine Z_iadd C d_M_change_128 ?_
                            refine zst (st' := [.int (nI i)]) (by rw [ix5, hi]) ?_
                            refine Z_istore C d_M_change_129 (by decide) rfl ?_
                            refine Z_iload C 2 d_M_change_131 rfl ?_
                            refine Z_if_eq (tgt := 162) C d_M_change_133 (by decide) (fun c133 => ?_) (fun c133 => ?_)
                            · skip
                              refine Z_aload_n C 3 d_M_change_162 rfl rfl ?_
                              refine R_get C w 16 (by decide) fl_M_53 rfl rfl d_M_change_163 ?_
                              refine Z_iload C 0 d_M_change_166 rfl ?_
                              refine Z_iload_n C 6 d_M_change_168 rfl rfl ?_
                              refine R_st 16 C w rfl rfl i (nI_clamp (by omega)) (vp_in_nI (n := i) (N := 25) (by omega) (by decide)) d_M_change_169 ?_
                              refine Z_aload_n C 3 d_M_change_170 rfl rfl ?_
                              refine R_get C w 17 (by decide) fl_M_56 rfl rfl d_M_change_171 ?_
                              refine Z_iload C 0 d_M_change_174 rfl ?_
                              refine Z_iload C 7 d_M_change_176 rfl ?_
                              refine R_st 17 C w rfl rfl i (nI_clamp (by omega)) (vp_in_nI (n := i) (N := 25) (by omega) (by decide)) d_M_change_178 ?_
                              show Z X G (zA G) 9 _ (eR U (mC1 (t0 N) i tx rx)) 179 _ []
                              obtain ⟨N1, hN1⟩ : ∃ N1, N1 = mC1 (t0 N) i tx rx := ⟨_, rfl⟩
                              rw [← hN1]
                              have hu1 : N1 12 i = N 12 (5 * r + s) := by rw [hN1, ← hi]; rfl
                              refine Z_aload_n C 3 d_M_change_179 rfl rfl ?_
                              refine R_get C w 12 (by decide) fl_M_41 rfl rfl d_M_change_180 ?_
                              refine Z_iload C 0 d_M_change_183 rfl ?_
                              refine R_ld 12 C w rfl rfl i (nI_clamp (by omega)) (vp_in_nI (n := i) (N := 25) (by omega) (by decide)) d_M_change_185 ?_
                              refine Z_iconst (v := 3) C d_M_change_186 (by decide) ?_
                              refine Z_icmp_ne (tgt := 194) C d_M_change_187 (by decide) (fun c187 => ?_) (fun c187 => ?_)
                              · exact absurd (hu1.trans hu) c187 --stop
                              · skip
                                refine Z_iconst (v := 1) C d_M_change_190 (by decide) ?_
                                refine Z_goto (tgt := 195) C d_M_change_191 (by decide) ?_
                                refine Z_istore C d_M_change_195 (by decide) rfl ?_
                                refine Z_aload_n C 4 d_M_change_197 rfl rfl ?_
                                refine R_get C w 24 (by decide) fl_M_77 rfl rfl d_M_change_198 ?_
                                refine Z_iload C 1 d_M_change_201 rfl ?_
                                refine Z_aload_n C 4 d_M_change_203 rfl rfl ?_
                                refine R_get C w 24 (by decide) fl_M_77 rfl rfl d_M_change_204 ?_
                                refine Z_iload C 1 d_M_change_207 rfl ?_
                                refine R_zld 24 C w rfl rfl i (nI_clamp (by omega)) (vp_in_nI (n := i) (N := 25) (by omega) (by decide)) d_M_change_209 ?_
                                refine Z_if_ne (tgt := 218) C d_M_change_210 (by decide) (fun c210 => ?_) (fun c210 => ?_)
                                · skip
                                  refine Z_iconst (v := 1) C d_M_change_218 (by decide) ?_
                                  refine Z_goto (tgt := 223) C d_M_change_219 (by decide) ?_
                                  refine R_zst 24 C w rfl rfl i (nI_clamp (by omega)) (vp_in_nI (n := i) (N := 25) (by omega) (by decide)) rfl d_M_change_223 ?_
                                  obtain ⟨N2, hN2⟩ : ∃ N2, N2 = mC2 N1 i := ⟨_, rfl⟩
                                  refine Z_imp (zeq (eR_N (show _ = N2 from by rw [hN2]; unfold mC2; first | rw [if_pos c210] | rw [if_neg (fun z => z c210), if_pos (hu1.trans hu)] | rw [if_neg (fun z => z c210), if_neg (fun z => hu (hu1.symm.trans z))]))) ?_
                                  have hu2 : N2 12 i = N 12 (5 * r + s) := by rw [hN2]; exact hu1
                                  refine Z_iload C 0 d_M_change_224 rfl ?_
                                  refine Z_if_eq (tgt := 240) C d_M_change_226 (by decide) (fun c226 => ?_) (fun c226 => ?_)
                                  · exact absurd c226 (by decide)
                                  · skip
                                    refine Z_iload_n C 7 d_M_change_229 rfl rfl ?_
                                    refine Z_aload_n C 4 d_M_change_230 rfl rfl ?_
                                    refine R_get C w 18 (by decide) fl_M_59 rfl rfl d_M_change_231 ?_
                                    refine Z_iload C 1 d_M_change_234 rfl ?_
                                    refine R_ld 18 C w rfl rfl i (nI_clamp (by omega)) (vp_in_nI (n := i) (N := 25) (by omega) (by decide)) d_M_change_236 ?_
                                    refine Z_icmp_gt (tgt := 248) C d_M_change_237 (by decide) (fun c237 => ?_) (fun c237 => ?_)
                                    · skip
                                      obtain ⟨N3, hN3⟩ : ∃ N3, N3 = mC3 N2 i tx := ⟨_, rfl⟩
                                      refine Z_imp (zeq (eR_N (show _ = N3 from by rw [hN3]; unfold mC3; first | rw [if_pos (fun z => hu (hu2.symm.trans z))] | rw [if_neg (fun z => z (hu2.trans hu)), if_pos c237] | rw [if_neg (fun z => z (hu2.trans hu)), if_neg c237]))) ?_
                                      have hu3 : N3 12 i = N 12 (5 * r + s) := by rw [hN3, mC3_12]; exact hu2
                                      refine Z_iload C 0 d_M_change_248 rfl ?_
                                      refine Z_if_eq (tgt := 265) C d_M_change_250 (by decide) (fun c250 => ?_) (fun c250 => ?_)
                                      · exact absurd c250 (by decide)
                                      · skip
                                        refine Z_iload C 8 d_M_change_253 rfl ?_
                                        refine Z_aload_n C 4 d_M_change_255 rfl rfl ?_
                                        refine R_get C w 19 (by decide) fl_M_62 rfl rfl d_M_change_256 ?_
                                        refine Z_iload C 1 d_M_change_259 rfl ?_
                                        refine R_ld 19 C w rfl rfl i (nI_clamp (by omega)) (vp_in_nI (n := i) (N := 25) (by omega) (by decide)) d_M_change_261 ?_
                                        refine Z_icmp_lt (tgt := 274) C d_M_change_262 (by decide) (fun c262 => ?_) (fun c262 => ?_)
                                        · skip
                                          obtain ⟨N4, hN4⟩ : ∃ N4, N4 = mC4 N3 i rx := ⟨_, rfl⟩
                                          refine Z_imp (zeq (eR_N (show _ = N4 from by rw [hN4]; unfold mC4; first | rw [if_pos (fun z => hu (hu3.symm.trans z))] | rw [if_neg (fun z => z (hu3.trans hu)), if_pos c262] | rw [if_neg (fun z => z (hu3.trans hu)), if_neg c262]))) ?_
                                          have hu4 : N4 12 i = N 12 (5 * r + s) := by rw [hN4, mC4_12]; exact hu3
                                          refine Z_aload_n C 4 d_M_change_274 rfl rfl ?_
                                          refine Z_iload C 1 d_M_change_275 rfl ?_
                                          refine C_cMn C w mi_M_hurry ml_M_207 (c_M_hurry w _ i (by omega)) rfl rfl (by decide) rfl (Nat.le_of_ble_eq_true rfl) d_M_change_277 ?_
                                          exact Z_vret C hN hr d_M_change_280 rfl (zeq (by apply eR_N; unfold mChg; rw [← hi, ← hN1, ← hN2, ← hN3, ← hN4]))
                                        · skip
                                          refine Z_aload_n C 4 d_M_change_265 rfl rfl ?_
                                          refine R_get C w 19 (by decide) fl_M_62 rfl rfl d_M_change_266 ?_
                                          refine Z_iload C 1 d_M_change_269 rfl ?_
                                          refine Z_iload C 8 d_M_change_271 rfl ?_
                                          refine R_st 19 C w rfl rfl i (nI_clamp (by omega)) (vp_in_nI (n := i) (N := 25) (by omega) (by decide)) d_M_change_273 ?_
                                          obtain ⟨N4, hN4⟩ : ∃ N4, N4 = mC4 N3 i rx := ⟨_, rfl⟩
                                          refine Z_imp (zeq (eR_N (show _ = N4 from by rw [hN4]; unfold mC4; first | rw [if_pos (fun z => hu (hu3.symm.trans z))] | rw [if_neg (fun z => z (hu3.trans hu)), if_pos c262] | rw [if_neg (fun z => z (hu3.trans hu)), if_neg c262]))) ?_
                                          have hu4 : N4 12 i = N 12 (5 * r + s) := by rw [hN4, mC4_12]; exact hu3
                                          refine Z_aload_n C 4 d_M_change_274 rfl rfl ?_
                                          refine Z_iload C 1 d_M_change_275 rfl ?_
                                          refine C_cMn C w mi_M_hurry ml_M_207 (c_M_hurry w _ i (by omega)) rfl rfl (by decide) rfl (Nat.le_of_ble_eq_true rfl) d_M_change_277 ?_
                                          exact Z_vret C hN hr d_M_change_280 rfl (zeq (by apply eR_N; unfold mChg; rw [← hi, ← hN1, ← hN2, ← hN3, ← hN4]))
                                    · skip
                                      refine Z_aload_n C 4 d_M_change_240 rfl rfl ?_
                                      refine R_get C w 18 (by decide) fl_M_59 rfl rfl d_M_change_241 ?_
                                      refine Z_iload C 1 d_M_change_244 rfl ?_
                                      refine Z_iload_n C 7 d_M_change_246 rfl rfl ?_
                                      refine R_st 18 C w rfl rfl i (nI_clamp (by omega)) (vp_in_nI (n := i) (N := 25) (by omega) (by decide)) d_M_change_247 ?_
                                      obtain ⟨N3, hN3⟩ : ∃ N3, N3 = mC3 N2 i tx := ⟨_, rfl⟩
                                      refine Z_imp (zeq (eR_N (show _ = N3 from by rw [hN3]; unfold mC3; first | rw [if_pos (fun z => hu (hu2.symm.trans z))] | rw [if_neg (fun z => z (hu2.trans hu)), if_pos c237] | rw [if_neg (fun z => z (hu2.trans hu)), if_neg c237]))) ?_
                                      have hu3 : N3 12 i = N 12 (5 * r + s) := by rw [hN3, mC3_12]; exact hu2
                                      refine Z_iload C 0 d_M_change_248 rfl ?_
                                      refine Z_if_eq (tgt := 265) C d_M_change_250 (by decide) (fun c250 => ?_) (fun c250 => ?_)
                                      · exact absurd c250 (by decide)
                                      · skip
                                        refine Z_iload C 8 d_M_change_253 rfl ?_
                                        refine Z_aload_n C 4 d_M_change_255 rfl rfl ?_
                                        refine R_get C w 19 (by decide) fl_M_62 rfl rfl d_M_change_256 ?_
                                        refine Z_iload C 1 d_M_change_259 rfl ?_
                                        refine R_ld 19 C w rfl rfl i (nI_clamp (by omega)) (vp_in_nI (n := i) (N := 25) (by omega) (by decide)) d_M_change_261 ?_
                                        refine Z_icmp_lt (tgt := 274) C d_M_change_262 (by decide) (fun c262 => ?_) (fun c262 => ?_)
                                        · skip
                                          obtain ⟨N4, hN4⟩ : ∃ N4, N4 = mC4 N3 i rx := ⟨_, rfl⟩
                                          refine Z_imp (zeq (eR_N (show _ = N4 from by rw [hN4]; unfold mC4; first | rw [if_pos (fun z => hu (hu3.symm.trans z))] | rw [if_neg (fun z => z (hu3.trans hu)), if_pos c262] | rw [if_neg (fun z => z (hu3.trans hu)), if_neg c262]))) ?_
                                          have hu4 : N4 12 i = N 12 (5 * r + s) := by rw [hN4, mC4_12]; exact hu3
                                          refine Z_aload_n C 4 d_M_change_274 rfl rfl ?_
                                          refine Z_iload C 1 d_M_change_275 rfl ?_
                                          refine C_cMn C w mi_M_hurry ml_M_207 (c_M_hurry w _ i (by omega)) rfl rfl (by decide) rfl (Nat.le_of_ble_eq_true rfl) d_M_change_277 ?_
                                          exact Z_vret C hN hr d_M_change_280 rfl (zeq (by apply eR_N; unfold mChg; rw [← hi, ← hN1, ← hN2, ← hN3, ← hN4]))
                                        · skip
                                          refine Z_aload_n C 4 d_M_change_265 rfl rfl ?_
                                          refine R_get C w 19 (by decide) fl_M_62 rfl rfl d_M_change_266 ?_
                                          refine Z_iload C 1 d_M_change_269 rfl ?_
                                          refine Z_iload C 8 d_M_change_271 rfl ?_
                                          refine R_st 19 C w rfl rfl i (nI_clamp (by omega)) (vp_in_nI (n := i) (N := 25) (by omega) (by decide)) d_M_change_273 ?_
                                          obtain ⟨N4, hN4⟩ : ∃ N4, N4 = mC4 N3 i rx := ⟨_, rfl⟩
                                          refine Z_imp (zeq (eR_N (show _ = N4 from by rw [hN4]; unfold mC4; first | rw [if_pos (fun z => hu (hu3.symm.trans z))] | rw [if_neg (fun z => z (hu3.trans hu)), if_pos c262] | rw [if_neg (fun z => z (hu3.trans hu)), if_neg c262]))) ?_
                                          have hu4 : N4 12 i = N 12 (5 * r + s) := by rw [hN4, mC4_12]; exact hu3
                                          refine Z_aload_n C 4 d_M_change_274 rfl rfl ?_
                                          refine Z_iload C 1 d_M_change_275 rfl ?_
                                          refine C_cMn C w mi_M_hurry ml_M_207 (c_M_hurry w _ i (by omega)) rfl rfl (by decide) rfl (Nat.le_of_ble_eq_true rfl) d_M_change_277 ?_
                                          exact Z_vret C hN hr d_M_change_280 rfl (zeq (by apply eR_N; unfold mChg; rw [← hi, ← hN1, ← hN2, ← hN3, ← hN4]))
                                · skip
                                  refine Z_iload C 0 d_M_change_213 rfl ?_
                                  refine Z_if_eq (tgt := 222) C d_M_change_215 (by decide) (fun c215 => ?_) (fun c215 => ?_)
                                  · exact absurd c215 (by decide)
                                  · skip
                                    refine Z_iconst (v := 1) C d_M_change_218 (by decide) ?_
                                    refine Z_goto (tgt := 223) C d_M_change_219 (by decide) ?_
                                    refine R_zst 24 C w rfl rfl i (nI_clamp (by omega)) (vp_in_nI (n := i) (N := 25) (by omega) (by decide)) rfl d_M_change_223 ?_
                                    obtain ⟨N2, hN2⟩ : ∃ N2, N2 = mC2 N1 i := ⟨_, rfl⟩
                                    refine Z_imp (zeq (eR_N (show _ = N2 from by rw [hN2]; unfold mC2; first | rw [if_pos c210] | rw [if_neg (fun z => z c210), if_pos (hu1.trans hu)] | rw [if_neg (fun z => z c210), if_neg (fun z => hu (hu1.symm.trans z))]))) ?_
                                    have hu2 : N2 12 i = N 12 (5 * r + s) := by rw [hN2]; exact hu1
                                    refine Z_iload C 0 d_M_change_224 rfl ?_
                                    refine Z_if_eq (tgt := 240) C d_M_change_226 (by decide) (fun c226 => ?_) (fun c226 => ?_)
                                    · exact absurd c226 (by decide)
                                    · skip
                                      refine Z_iload_n C 7 d_M_change_229 rfl rfl ?_
                                      refine Z_aload_n C 4 d_M_change_230 rfl rfl ?_
                                      refine R_get C w 18 (by decide) fl_M_59 rfl rfl d_M_change_231 ?_
                                      refine Z_iload C 1 d_M_change_234 rfl ?_
                                      refine R_ld 18 C w rfl rfl i (nI_clamp (by omega)) (vp_in_nI (n := i) (N := 25) (by omega) (by decide)) d_M_change_236 ?_
                                      refine Z_icmp_gt (tgt := 248) C d_M_change_237 (by decide) (fun c237 => ?_) (fun c237 => ?_)
                                      · skip
                                        obtain ⟨N3, hN3⟩ : ∃ N3, N3 = mC3 N2 i tx := ⟨_, rfl⟩
                                        refine Z_imp (zeq (eR_N (show _ = N3 from by rw [hN3]; unfold mC3; first | rw [if_pos (fun z => hu (hu2.symm.trans z))] | rw [if_neg (fun z => z (hu2.trans hu)), if_pos c237] | rw [if_neg (fun z => z (hu2.trans hu)), if_neg c237]))) ?_
                                        have hu3 : N3 12 i = N 12 (5 * r + s) := by rw [hN3, mC3_12]; exact hu2
                                        refine Z_iload C 0 d_M_change_248 rfl ?_
                                        refine Z_if_eq (tgt := 265) C d_M_change_250 (by decide) (fun c250 => ?_) (fun c250 => ?_)
                                        · exact absurd c250 (by decide)
                                        · skip
                                          refine Z_iload C 8 d_M_change_253 rfl ?_
                                          refine Z_aload_n C 4 d_M_change_255 rfl rfl ?_
                                          refine R_get C w 19 (by decide) fl_M_62 rfl rfl d_M_change_256 ?_
                                          refine Z_iload C 1 d_M_change_259 rfl ?_
                                          refine R_ld 19 C w rfl rfl i (nI_clamp (by omega)) (vp_in_nI (n := i) (N := 25) (by omega) (by decide)) d_M_change_261 ?_
                                          refine Z_icmp_lt (tgt := 274) C d_M_change_262 (by decide) (fun c262 => ?_) (fun c262 => ?_)
                                          · skip
                                            obtain ⟨N4, hN4⟩ : ∃ N4, N4 = mC4 N3 i rx := ⟨_, rfl⟩
                                            refine Z_imp (zeq (eR_N (show _ = N4 from by rw [hN4]; unfold mC4; first | rw [if_pos (fun z => hu (hu3.symm.trans z))] | rw [if_neg (fun z => z (hu3.trans hu)), if_pos c262] | rw [if_neg (fun z => z (hu3.trans hu)), if_neg c262]))) ?_
                                            have hu4 : N4 12 i = N 12 (5 * r + s) := by rw [hN4, mC4_12]; exact hu3
                                            refine Z_aload_n C 4 d_M_change_274 rfl rfl ?_
                                            refine Z_iload C 1 d_M_change_275 rfl ?_
                                            refine C_cMn C w mi_M_hurry ml_M_207 (c_M_hurry w _ i (by omega)) rfl rfl (by decide) rfl (Nat.le_of_ble_eq_true rfl) d_M_change_277 ?_
                                            exact Z_vret C hN hr d_M_change_280 rfl (zeq (by apply eR_N; unfold mChg; rw [← hi, ← hN1, ← hN2, ← hN3, ← hN4]))
                                          · skip
                                            refine Z_aload_n C 4 d_M_change_265 rfl rfl ?_
                                            refine R_get C w 19 (by decide) fl_M_62 rfl rfl d_M_change_266 ?_
                                            refine Z_iload C 1 d_M_change_269 rfl ?_
                                            refine Z_iload C 8 d_M_change_271 rfl ?_
                                            refine R_st 19 C w rfl rfl i (nI_clamp (by omega)) (vp_in_nI (n := i) (N := 25) (by omega) (by decide)) d_M_change_273 ?_
                                            obtain ⟨N4, hN4⟩ : ∃ N4, N4 = mC4 N3 i rx := ⟨_, rfl⟩
                                            refine Z_imp (zeq (eR_N (show _ = N4 from by rw [hN4]; unfold mC4; first | rw [if_pos (fun z => hu (hu3.symm.trans z))] | rw [if_neg (fun z => z (hu3.trans hu)), if_pos c262] | rw [if_neg (fun z => z (hu3.trans hu)), if_neg c262]))) ?_
                                            have hu4 : N4 12 i = N 12 (5 * r + s) := by rw [hN4, mC4_12]; exact hu3
                                            refine Z_aload_n C 4 d_M_change_274 rfl rfl ?_
                                            refine Z_iload C 1 d_M_change_275 rfl ?_
                                            refine C_cMn C w mi_M_hurry ml_M_207 (c_M_hurry w _ i (by omega)) rfl rfl (by decide) rfl (Nat.le_of_ble_eq_true rfl) d_M_change_277 ?_
                                            exact Z_vret C hN hr d_M_change_280 rfl (zeq (by apply eR_N; unfold mChg; rw [← hi, ← hN1, ← hN2, ← hN3, ← hN4]))
                                      · skip
                                        refine Z_aload_n C 4 d_M_change_240 rfl rfl ?_
                                        refine R_get C w 18 (by decide) fl_M_59 rfl rfl d_M_change_241 ?_
                                        refine Z_iload C 1 d_M_change_244 rfl ?_
                                        refine Z_iload_n C 7 d_M_change_246 rfl rfl ?_
                                        refine R_st 18 C w rfl rfl i (nI_clamp (by omega)) (vp_in_nI (n := i) (N := 25) (by omega) (by decide)) d_M_change_247 ?_
                                        obtain ⟨N3, hN3⟩ : ∃ N3, N3 = mC3 N2 i tx := ⟨_, rfl⟩
                                        refine Z_imp (zeq (eR_N (show _ = N3 from by rw [hN3]; unfold mC3; first | rw [if_pos (fun z => hu (hu2.symm.trans z))] | rw [if_neg (fun z => z (hu2.trans hu)), if_pos c237] | rw [if_neg (fun z => z (hu2.trans hu)), if_neg c237]))) ?_
                                        have hu3 : N3 12 i = N 12 (5 * r + s) := by rw [hN3, mC3_12]; exact hu2
                                        refine Z_iload C 0 d_M_change_248 rfl ?_
                                        refine Z_if_eq (tgt := 265) C d_M_change_250 (by decide) (fun c250 => ?_) (fun c250 => ?_)
                                        · exact absurd c250 (by decide)
                                        · skip
                                          refine Z_iload C 8 d_M_change_253 rfl ?_
                                          refine Z_aload_n C 4 d_M_change_255 rfl rfl ?_
                                          refine R_get C w 19 (by decide) fl_M_62 rfl rfl d_M_change_256 ?_
                                          refine Z_iload C 1 d_M_change_259 rfl ?_
                                          refine R_ld 19 C w rfl rfl i (nI_clamp (by omega)) (vp_in_nI (n := i) (N := 25) (by omega) (by decide)) d_M_change_261 ?_
                                          refine Z_icmp_lt (tgt := 274) C d_M_change_262 (by decide) (fun c262 => ?_) (fun c262 => ?_)
                                          · skip
                                            obtain ⟨N4, hN4⟩ : ∃ N4, N4 = mC4 N3 i rx := ⟨_, rfl⟩
                                            refine Z_imp (zeq (eR_N (show _ = N4 from by rw [hN4]; unfold mC4; first | rw [if_pos (fun z => hu (hu3.symm.trans z))] | rw [if_neg (fun z => z (hu3.trans hu)), if_pos c262] | rw [if_neg (fun z => z (hu3.trans hu)), if_neg c262]))) ?_
                                            have hu4 : N4 12 i = N 12 (5 * r + s) := by rw [hN4, mC4_12]; exact hu3
                                            refine Z_aload_n C 4 d_M_change_274 rfl rfl ?_
                                            refine Z_iload C 1 d_M_change_275 rfl ?_
                                            refine C_cMn C w mi_M_hurry ml_M_207 (c_M_hurry w _ i (by omega)) rfl rfl (by decide) rfl (Nat.le_of_ble_eq_true rfl) d_M_change_277 ?_
                                            exact Z_vret C hN hr d_M_change_280 rfl (zeq (by apply eR_N; unfold mChg; rw [← hi, ← hN1, ← hN2, ← hN3, ← hN4]))
                                          · skip
                                            refine Z_aload_n C 4 d_M_change_265 rfl rfl ?_
                                            refine R_get C w 19 (by decide) fl_M_62 rfl rfl d_M_change_266 ?_
                                            refine Z_iload C 1 d_M_change_269 rfl ?_
                                            refine Z_iload C 8 d_M_change_271 rfl ?_
                                            refine R_st 19 C w rfl rfl i (nI_clamp (by omega)) (vp_in_nI (n := i) (N := 25) (by omega) (by decide)) d_M_change_273 ?_
                                            obtain ⟨N4, hN4⟩ : ∃ N4, N4 = mC4 N3 i rx := ⟨_, rfl⟩
                                            refine Z_imp (zeq (eR_N (show _ = N4 from by rw [hN4]; unfold mC4; first | rw [if_pos (fun z => hu (hu3.symm.trans z))] | rw [if_neg (fun z => z (hu3.trans hu)), if_pos c262] | rw [if_neg (fun z => z (hu3.trans hu)), if_neg c262]))) ?_
                                            have hu4 : N4 12 i = N 12 (5 * r + s) := by rw [hN4, mC4_12]; exact hu3
                                            refine Z_aload_n C 4 d_M_change_274 rfl rfl ?_
                                            refine Z_iload C 1 d_M_change_275 rfl ?_
                                            refine C_cMn C w mi_M_hurry ml_M_207 (c_M_hurry w _ i (by omega)) rfl rfl (by decide) rfl (Nat.le_of_ble_eq_true rfl) d_M_change_277 ?_
                                            exact Z_vret C hN hr d_M_change_280 rfl (zeq (by apply eR_N; unfold mChg; rw [← hi, ← hN1, ← hN2, ← hN3, ← hN4]))
                            · exact absurd rfl c133
                          · exact absurd (by simp [u2, upd]) c120 --stop
                        · exact absurd c105 (by decide)
                      · exact absurd c96 h0 --stop
                  · exact absurd c66 (mIsR_ne hs5) --stop
    · exact absurd (by rw [c1]; decide) h1 --stop
set_option maxRecDepth 100000 in
set_option maxHeartbeats 4000000 in
theorem m_arrive_a {l : Launch} {G : zG} {U : zU} (w : wR G U) (N : zR) (r : Nat) (hr5 : r < 5) (st hp ad : Int32) (hs1 : ¬ st < 0) (hs2 : ¬ 14 < st) (hh1 : ¬ hp < 0) (hh2 : ¬ 255 < hp) (h : ¬ N 3 r = 0) (j : Nat) (hj : N 43 42 = nI j) (hI : InvR (mArv N)) (hB : Byt (mArv N 39) 12) : zF l y_M_arrive b_M_arrive 9 (some .boolean) 5 115 G [.ref (U.1 43), .int (nI r), .int 1, .int st, .int hp, .int ad] (eR U N) (some (.int (mAdR (mArv N) r hp ad))) (eR U (mAdS (mArv N) r hp ad)) := by
  refine zF.ofZ (by decide) w.2.2.2.2 (Nat.le_of_ble_eq_true rfl) (fun X hXl hN hr C => ?_)
  subst hXl
  show Z X G (zA G) 9 _ (eR U N) 0 [(0, .ref (U.1 43)), (1, .int (nI r)), (2, .int 1), (3, .int st), (4, .int hp), (5, .int ad)] []
  refine Z_iload_n C 2 d_M_arrive_0 rfl rfl ?_
  refine Z_iconst (v := 1) C d_M_arrive_1 (by decide) ?_
  refine Z_icmp_eq (tgt := 10) C d_M_arrive_2 (by decide) (fun c2 => ?_) (fun c2 => ?_)
  · skip
    refine Z_iload_n C 3 d_M_arrive_10 rfl rfl ?_
    refine Z_if_lt (tgt := 37) C d_M_arrive_11 (by decide) (fun c11 => ?_) (fun c11 => ?_)
    · exact absurd c11 hs1 --stop
    · skip
      refine Z_iload_n C 3 d_M_arrive_14 rfl rfl ?_
      refine Z_bipush (v := 14) C d_M_arrive_15 (by decide) ?_
      refine Z_icmp_gt (tgt := 37) C d_M_arrive_17 (by decide) (fun c17 => ?_) (fun c17 => ?_)
      · exact absurd c17 hs2 --stop
      · skip
        refine Z_iload C 4 d_M_arrive_20 rfl ?_
        refine Z_if_lt (tgt := 37) C d_M_arrive_22 (by decide) (fun c22 => ?_) (fun c22 => ?_)
        · exact absurd c22 hh1 --stop
        · skip
          refine Z_iload C 4 d_M_arrive_25 rfl ?_
          refine Z_sipush (v := 255) C d_M_arrive_27 (by decide) ?_
          refine Z_icmp_gt (tgt := 37) C d_M_arrive_30 (by decide) (fun c30 => ?_) (fun c30 => ?_)
          · exact absurd c30 hh2 --stop
          · skip
            refine Z_iconst (v := 1) C d_M_arrive_33 (by decide) ?_
            refine Z_goto (tgt := 38) C d_M_arrive_34 (by decide) ?_
            refine Z_istore C d_M_arrive_38 (by decide) rfl ?_
            refine Z_iload_n C 2 d_M_arrive_40 rfl rfl ?_
            refine C_csv C ms_M_isRouter ml_M_128 (c_M_isRouter w _ _) rfl (by decide) rfl (Nat.le_of_ble_eq_true rfl) d_M_arrive_41 ?_
            refine Z_if_ne (tgt := 51) C d_M_arrive_44 (by decide) (fun c44 => ?_) (fun c44 => ?_)
            · skip
              refine Z_iload C 0 d_M_arrive_51 rfl ?_
              refine Z_if_ne (tgt := 60) C d_M_arrive_53 (by decide) (fun c53 => ?_) (fun c53 => ?_)
              · skip
                refine Z_aload_n C 1 d_M_arrive_60 rfl rfl ?_
                refine R_get C w 3 (by decide) fl_M_13 rfl rfl d_M_arrive_61 ?_
                refine Z_iload_n C 2 d_M_arrive_64 rfl rfl ?_
                refine R_ld 3 C w rfl rfl r (nI_clamp (by omega)) (vp_in_nI (n := r) (N := 5) (by omega) (by decide)) d_M_arrive_65 ?_
                refine Z_if_ne (tgt := 73) C d_M_arrive_66 (by decide) (fun c66 => ?_) (fun c66 => ?_)
                · skip
                  refine Z_iconst (v := 0) C d_M_arrive_73 (by decide) ?_
                  refine Z_istore C d_M_arrive_74 (by decide) rfl ?_
                  refine Z_iload C 0 d_M_arrive_76 rfl ?_
                  refine Z_if_eq (tgt := 88) C d_M_arrive_78 (by decide) (fun c78 => ?_) (fun c78 => ?_)
                  · skip
                    refine Z_aload_n C 2 d_M_arrive_88 rfl rfl ?_
                    refine Z_iconst (v := 0) C d_M_arrive_89 (by decide) ?_
                    refine R_put C w 0 (by decide) fl_M_124 rfl rfl rfl rfl rfl d_M_arrive_90 ?_
                    refine Z_aload_n C 2 d_M_arrive_93 rfl rfl ?_
                    refine Z_aload_n C 2 d_M_arrive_94 rfl rfl ?_
                    refine R_get C w 42 (by decide) fl_M_262 rfl rfl d_M_arrive_95 ?_
                    refine R_put C w 40 (by decide) fl_M_192 rfl rfl rfl rfl rfl d_M_arrive_98 ?_
                    refine Z_iconst (v := 0) C d_M_arrive_101 (by decide) ?_
                    refine Z_istore C d_M_arrive_102 (by decide) rfl ?_
                    have hlp : ∀ (n k : Nat) (N1 : zR), k + n = 40 → taL n k N1 = taL 40 0 (u2 (t0 N) 43 40 (t0 N 43 42)) → N1 43 42 = nI j → Z X G (zA G) 9 (zQ X G (some (.int (mAdR (mArv N) r hp ad))) (eR U (mAdS (mArv N) r hp ad))) (eR U N1) 104 [(8, .int (nI k)), (7, .int 0), (6, .int 1), (0, .ref (U.1 43)), (1, .int (nI r)), (2, .int 1), (3, .int st), (4, .int hp), (5, .int ad)] [] := by
                      intro n
                      induction n with
                      | zero =>
                        intro k N1 h1 h2 h3
                        obtain rfl : k = 40 := by omega
                        have h2 : N1 = taL 40 0 (u2 (t0 N) 43 40 (t0 N 43 42)) := h2
                        refine Z_iload C 0 d_M_arrive_104 rfl ?_
                        refine Z_bipush (v := 40) C d_M_arrive_106 (by decide) ?_
                        refine Z_icmp_ge (tgt := 144) C d_M_arrive_108 (by decide) (fun c108 => ?_) (fun c108 => ?_)
                        · skip
                          refine Z_aload_n C 3 d_M_arrive_144 rfl rfl ?_
                          refine Z_iconst (v := 0) C d_M_arrive_145 (by decide) ?_
                          refine R_put C w 42 (by decide) fl_M_262 rfl rfl rfl rfl rfl d_M_arrive_146 ?_
                          rw [h2]
                          show Z X G (zA G) 9 _ (eR U (mArv N)) 149 _ []
                          refine Z_iload_n C 5 d_M_arrive_149 rfl rfl ?_
                          refine Z_iconst (v := 1) C d_M_arrive_150 (by decide) ?_
                          refine Z_icmp_ne (tgt := 166) C d_M_arrive_151 (by decide) (fun c151 => ?_) (fun c151 => ?_)
                          · exact absurd rfl c151 --stop
                          · skip
                            refine Z_aload_n C 3 d_M_arrive_154 rfl rfl ?_
                            refine Z_iload_n C 4 d_M_arrive_155 rfl rfl ?_
                            refine Z_iload C 7 d_M_arrive_156 rfl ?_
                            refine Z_iload C 8 d_M_arrive_158 rfl ?_
                            refine C_cMv C w mi_M_advertised ml_M_236 (c_M_advertised w (mArv N) r hr5 hp ad hI hB) rfl rfl (by decide) rfl (Nat.le_of_ble_eq_true rfl) d_M_arrive_160 ?_
                            refine Z_goto (tgt := 174) C d_M_arrive_163 (by decide) ?_
                            exact Z_zret C hN hr (by unfold mAdR; repeat (first | decide | split)) d_M_arrive_174 (rfl) (zeq (rfl))
                        · exact absurd (by decide) c108 --stop
                      | succ n ih =>
                        intro k N1 h1 h2 h3
                        refine Z_iload C 0 d_M_arrive_104 rfl ?_
                        refine Z_bipush (v := 40) C d_M_arrive_106 (by decide) ?_
                        refine Z_icmp_ge (tgt := 144) C d_M_arrive_108 (by decide) (fun c108 => ?_) (fun c108 => ?_)
                        · exact absurd c108 (nI_ge (a := k) (b := 40) (by omega) (by decide)) --stop
                        · skip
                          refine Z_aload_n C 3 d_M_arrive_111 rfl rfl ?_
                          refine R_get C w 39 (by decide) fl_M_116 rfl rfl d_M_arrive_112 ?_
                          refine Z_iload C 0 d_M_arrive_115 rfl ?_
                          refine Z_iload C 0 d_M_arrive_117 rfl ?_
                          refine Z_aload_n C 3 d_M_arrive_119 rfl rfl ?_
                          refine R_get C w 42 (by decide) fl_M_262 rfl rfl d_M_arrive_120 ?_
                          refine Z_icmp_ge (tgt := 136) C d_M_arrive_123 (by decide) (fun c123 => ?_) (fun c123 => ?_)
                          · skip
                            refine Z_iconst (v := 0) C d_M_arrive_136 (by decide) ?_
                            refine R_st 39 C w rfl rfl k (nI_clamp (by omega)) (vp_in_nI (n := k) (N := 40) (by omega) (by decide)) d_M_arrive_137 ?_
                            refine Z_iinc 0 C d_M_arrive_138 rfl (nI_1 k) (by decide) rfl ?_
                            refine Z_goto (tgt := 104) C d_M_arrive_141 (by decide) ?_
                            exact ih (k + 1) _ (by omega) (by rw [← h2]; show _ = taL n (k + 1) _; first | rw [if_pos c123] | rw [if_neg c123]) h3
                          · skip
                            refine Z_aload_n C 3 d_M_arrive_126 rfl rfl ?_
                            refine R_get C w 41 (by decide) fl_M_119 rfl rfl d_M_arrive_127 ?_
                            refine Z_iload C 0 d_M_arrive_130 rfl ?_
                            refine R_ld 41 C w rfl rfl k (nI_clamp (by omega)) (vp_in_nI (n := k) (N := 40) (by omega) (by decide)) d_M_arrive_132 ?_
                            refine Z_goto (tgt := 137) C d_M_arrive_133 (by decide) ?_
                            refine R_st 39 C w rfl rfl k (nI_clamp (by omega)) (vp_in_nI (n := k) (N := 40) (by omega) (by decide)) d_M_arrive_137 ?_
                            refine Z_iinc 0 C d_M_arrive_138 rfl (nI_1 k) (by decide) rfl ?_
                            refine Z_goto (tgt := 104) C d_M_arrive_141 (by decide) ?_
                            exact ih (k + 1) _ (by omega) (by rw [← h2]; show _ = taL n (k + 1) _; first | rw [if_pos c123] | rw [if_neg c123]) h3
                    exact hlp 40 0 _ rfl rfl (by rw [u2_self, pk_un (by decide)]; exact (t0_43 N (by decide)).trans hj)
                  · exact absurd rfl c78
                · exact absurd c66 h --stop
              · exact absurd c53 (by decide)
            · exact absurd c44 (mIsR_ne hr5) --stop
  · exact absurd rfl c2 --stop
set_option maxRecDepth 100000 in
set_option maxHeartbeats 4000000 in
theorem m_arrive_p {l : Launch} {G : zG} {U : zU} (w : wR G U) (N : zR) (r : Nat) (hr5 : r < 5) (st hp ad : Int32) (hs1 : ¬ st < 0) (hs2 : ¬ 14 < st) (hh1 : ¬ hp < 0) (hh2 : ¬ 255 < hp) (h : ¬ N 3 r = 0) (j : Nat) (hj : N 43 42 = nI j) (hI : InvR (mArv N)) (hB : Byt (mArv N 39) 12) : zF l y_M_arrive b_M_arrive 9 (some .boolean) 5 115 G [.ref (U.1 43), .int (nI r), .int 2, .int st, .int hp, .int ad] (eR U N) (some (.int (mPkR (mArv N) r hp st))) (eR U (mPkS (mArv N) r hp st)) := by
  refine zF.ofZ (by decide) w.2.2.2.2 (Nat.le_of_ble_eq_true rfl) (fun X hXl hN hr C => ?_)
  subst hXl
  show Z X G (zA G) 9 _ (eR U N) 0 [(0, .ref (U.1 43)), (1, .int (nI r)), (2, .int 2), (3, .int st), (4, .int hp), (5, .int ad)] []
  refine Z_iload_n C 2 d_M_arrive_0 rfl rfl ?_
  refine Z_iconst (v := 1) C d_M_arrive_1 (by decide) ?_
  refine Z_icmp_eq (tgt := 10) C d_M_arrive_2 (by decide) (fun c2 => ?_) (fun c2 => ?_)
  · exact absurd c2 (by decide) --stop
  · skip
    refine Z_iload_n C 2 d_M_arrive_5 rfl rfl ?_
    refine Z_iconst (v := 2) C d_M_arrive_6 (by decide) ?_
    refine Z_icmp_ne (tgt := 37) C d_M_arrive_7 (by decide) (fun c7 => ?_) (fun c7 => ?_)
    · exact absurd rfl c7 --stop
    · skip
      refine Z_iload_n C 3 d_M_arrive_10 rfl rfl ?_
      refine Z_if_lt (tgt := 37) C d_M_arrive_11 (by decide) (fun c11 => ?_) (fun c11 => ?_)
      · exact absurd c11 hs1 --stop
      · skip
        refine Z_iload_n C 3 d_M_arrive_14 rfl rfl ?_
        refine Z_bipush (v := 14) C d_M_arrive_15 (by decide) ?_
        refine Z_icmp_gt (tgt := 37) C d_M_arrive_17 (by decide) (fun c17 => ?_) (fun c17 => ?_)
        · exact absurd c17 hs2 --stop
        · skip
          refine Z_iload C 4 d_M_arrive_20 rfl ?_
          refine Z_if_lt (tgt := 37) C d_M_arrive_22 (by decide) (fun c22 => ?_) (fun c22 => ?_)
          · exact absurd c22 hh1 --stop
          · skip
            refine Z_iload C 4 d_M_arrive_25 rfl ?_
            refine Z_sipush (v := 255) C d_M_arrive_27 (by decide) ?_
            refine Z_icmp_gt (tgt := 37) C d_M_arrive_30 (by decide) (fun c30 => ?_) (fun c30 => ?_)
            · exact absurd c30 hh2 --stop
            · skip
              refine Z_iconst (v := 1) C d_M_arrive_33 (by decide) ?_
              refine Z_goto (tgt := 38) C d_M_arrive_34 (by decide) ?_
              refine Z_istore C d_M_arrive_38 (by decide) rfl ?_
              refine Z_iload_n C 2 d_M_arrive_40 rfl rfl ?_
              refine C_csv C ms_M_isRouter ml_M_128 (c_M_isRouter w _ _) rfl (by decide) rfl (Nat.le_of_ble_eq_true rfl) d_M_arrive_41 ?_
              refine Z_if_ne (tgt := 51) C d_M_arrive_44 (by decide) (fun c44 => ?_) (fun c44 => ?_)
              · skip
                refine Z_iload C 0 d_M_arrive_51 rfl ?_
                refine Z_if_ne (tgt := 60) C d_M_arrive_53 (by decide) (fun c53 => ?_) (fun c53 => ?_)
                · skip
                  refine Z_aload_n C 1 d_M_arrive_60 rfl rfl ?_
                  refine R_get C w 3 (by decide) fl_M_13 rfl rfl d_M_arrive_61 ?_
                  refine Z_iload_n C 2 d_M_arrive_64 rfl rfl ?_
                  refine R_ld 3 C w rfl rfl r (nI_clamp (by omega)) (vp_in_nI (n := r) (N := 5) (by omega) (by decide)) d_M_arrive_65 ?_
                  refine Z_if_ne (tgt := 73) C d_M_arrive_66 (by decide) (fun c66 => ?_) (fun c66 => ?_)
                  · skip
                    refine Z_iconst (v := 0) C d_M_arrive_73 (by decide) ?_
                    refine Z_istore C d_M_arrive_74 (by decide) rfl ?_
                    refine Z_iload C 0 d_M_arrive_76 rfl ?_
                    refine Z_if_eq (tgt := 88) C d_M_arrive_78 (by decide) (fun c78 => ?_) (fun c78 => ?_)
                    · skip
                      refine Z_aload_n C 2 d_M_arrive_88 rfl rfl ?_
                      refine Z_iconst (v := 0) C d_M_arrive_89 (by decide) ?_
                      refine R_put C w 0 (by decide) fl_M_124 rfl rfl rfl rfl rfl d_M_arrive_90 ?_
                      refine Z_aload_n C 2 d_M_arrive_93 rfl rfl ?_
                      refine Z_aload_n C 2 d_M_arrive_94 rfl rfl ?_
                      refine R_get C w 42 (by decide) fl_M_262 rfl rfl d_M_arrive_95 ?_
                      refine R_put C w 40 (by decide) fl_M_192 rfl rfl rfl rfl rfl d_M_arrive_98 ?_
                      refine Z_iconst (v := 0) C d_M_arrive_101 (by decide) ?_
                      refine Z_istore C d_M_arrive_102 (by decide) rfl ?_
                      have hlp : ∀ (n k : Nat) (N1 : zR), k + n = 40 → taL n k N1 = taL 40 0 (u2 (t0 N) 43 40 (t0 N 43 42)) → N1 43 42 = nI j → Z X G (zA G) 9 (zQ X G (some (.int (mPkR (mArv N) r hp st))) (eR U (mPkS (mArv N) r hp st))) (eR U N1) 104 [(8, .int (nI k)), (7, .int 0), (6, .int 1), (0, .ref (U.1 43)), (1, .int (nI r)), (2, .int 2), (3, .int st), (4, .int hp), (5, .int ad)] [] := by
                        intro n
                        induction n with
                        | zero =>
                          intro k N1 h1 h2 h3
                          obtain rfl : k = 40 := by omega
                          have h2 : N1 = taL 40 0 (u2 (t0 N) 43 40 (t0 N 43 42)) := h2
                          refine Z_iload C 0 d_M_arrive_104 rfl ?_
                          refine Z_bipush (v := 40) C d_M_arrive_106 (by decide) ?_
                          refine Z_icmp_ge (tgt := 144) C d_M_arrive_108 (by decide) (fun c108 => ?_) (fun c108 => ?_)
                          · skip
                            refine Z_aload_n C 3 d_M_arrive_144 rfl rfl ?_
                            refine Z_iconst (v := 0) C d_M_arrive_145 (by decide) ?_
                            refine R_put C w 42 (by decide) fl_M_262 rfl rfl rfl rfl rfl d_M_arrive_146 ?_
                            rw [h2]
                            show Z X G (zA G) 9 _ (eR U (mArv N)) 149 _ []
                            refine Z_iload_n C 5 d_M_arrive_149 rfl rfl ?_
                            refine Z_iconst (v := 1) C d_M_arrive_150 (by decide) ?_
                            refine Z_icmp_ne (tgt := 166) C d_M_arrive_151 (by decide) (fun c151 => ?_) (fun c151 => ?_)
                            · skip
                              refine Z_aload_n C 3 d_M_arrive_166 rfl rfl ?_
                              refine Z_iload_n C 4 d_M_arrive_167 rfl rfl ?_
                              refine Z_iload C 7 d_M_arrive_168 rfl ?_
                              refine Z_iload_n C 6 d_M_arrive_170 rfl rfl ?_
                              refine C_cMv C w mi_M_packeted ml_M_240 (c_M_packeted w (mArv N) r hr5 hp st hI) rfl rfl (by decide) rfl (Nat.le_of_ble_eq_true rfl) d_M_arrive_171 ?_
                              exact Z_zret C hN hr (by unfold mPkR; repeat (first | decide | split)) d_M_arrive_174 (rfl) (zeq (rfl))
                            · exact absurd c151 (by decide) --stop
                          · exact absurd (by decide) c108 --stop
                        | succ n ih =>
                          intro k N1 h1 h2 h3
                          refine Z_iload C 0 d_M_arrive_104 rfl ?_
                          refine Z_bipush (v := 40) C d_M_arrive_106 (by decide) ?_
                          refine Z_icmp_ge (tgt := 144) C d_M_arrive_108 (by decide) (fun c108 => ?_) (fun c108 => ?_)
                          · exact absurd c108 (nI_ge (a := k) (b := 40) (by omega) (by decide)) --stop
                          · skip
                            refine Z_aload_n C 3 d_M_arrive_111 rfl rfl ?_
                            refine R_get C w 39 (by decide) fl_M_116 rfl rfl d_M_arrive_112 ?_
                            refine Z_iload C 0 d_M_arrive_115 rfl ?_
                            refine Z_iload C 0 d_M_arrive_117 rfl ?_
                            refine Z_aload_n C 3 d_M_arrive_119 rfl rfl ?_
                            refine R_get C w 42 (by decide) fl_M_262 rfl rfl d_M_arrive_120 ?_
                            refine Z_icmp_ge (tgt := 136) C d_M_arrive_123 (by decide) (fun c123 => ?_) (fun c123 => ?_)
                            · skip
                              refine Z_iconst (v := 0) C d_M_arrive_136 (by decide) ?_
                              refine R_st 39 C w rfl rfl k (nI_clamp (by omega)) (vp_in_nI (n := k) (N := 40) (by omega) (by decide)) d_M_arrive_137 ?_
                              refine Z_iinc 0 C d_M_arrive_138 rfl (nI_1 k) (by decide) rfl ?_
                              refine Z_goto (tgt := 104) C d_M_arrive_141 (by decide) ?_
                              exact ih (k + 1) _ (by omega) (by rw [← h2]; show _ = taL n (k + 1) _; first | rw [if_pos c123] | rw [if_neg c123]) h3
                            · skip
                              refine Z_aload_n C 3 d_M_arrive_126 rfl rfl ?_
                              refine R_get C w 41 (by decide) fl_M_119 rfl rfl d_M_arrive_127 ?_
                              refine Z_iload C 0 d_M_arrive_130 rfl ?_
                              refine R_ld 41 C w rfl rfl k (nI_clamp (by omega)) (vp_in_nI (n := k) (N := 40) (by omega) (by decide)) d_M_arrive_132 ?_
                              refine Z_goto (tgt := 137) C d_M_arrive_133 (by decide) ?_
                              refine R_st 39 C w rfl rfl k (nI_clamp (by omega)) (vp_in_nI (n := k) (N := 40) (by omega) (by decide)) d_M_arrive_137 ?_
                              refine Z_iinc 0 C d_M_arrive_138 rfl (nI_1 k) (by decide) rfl ?_
                              refine Z_goto (tgt := 104) C d_M_arrive_141 (by decide) ?_
                              exact ih (k + 1) _ (by omega) (by rw [← h2]; show _ = taL n (k + 1) _; first | rw [if_pos c123] | rw [if_neg c123]) h3
                      exact hlp 40 0 _ rfl rfl (by rw [u2_self, pk_un (by decide)]; exact (t0_43 N (by decide)).trans hj)
                    · exact absurd rfl c78
                  · exact absurd c66 h --stop
                · exact absurd c53 (by decide)
              · exact absurd c44 (mIsR_ne hr5) --stop
set_option maxRecDepth 100000 in
set_option maxHeartbeats 4000000 in
theorem m_router_on {l : Launch} {G : zG} {U : zU} (w : wR G U) (N : zR) (r : Nat) (hr5 : r < 5) (y : Int32) (h : ¬ N 3 r = 0) (h1 : ¬ y < 0) (h2 : y ≤ 7) : zF l y_M_router b_M_router 4 (some .int) 2 46 G [.ref (U.1 43), .int (nI r), .int y] (eR U N) (some (.int (mRon (t0 N) r y))) (eR U (t0 N)) := by
  refine zF.ofZ (by decide) w.2.2.2.2 (Nat.le_of_ble_eq_true rfl) (fun X hXl hN hr C => ?_)
  subst hXl
  show Z X G (zA G) 4 _ (eR U N) 0 [(0, .ref (U.1 43)), (1, .int (nI r)), (2, .int y)] []
  refine Z_aload_n C 0 d_M_router_0 rfl rfl ?_
  refine Z_iconst (v := 0) C d_M_router_1 (by decide) ?_
  refine R_put C w 0 (by decide) fl_M_124 rfl rfl rfl rfl rfl d_M_router_2 ?_
  refine Z_iload_n C 1 d_M_router_5 rfl rfl ?_
  refine C_csv C ms_M_isRouter ml_M_128 (c_M_isRouter w _ _) rfl (by decide) rfl (Nat.le_of_ble_eq_true rfl) d_M_router_6 ?_
  refine Z_if_eq (tgt := 22) C d_M_router_9 (by decide) (fun c9 => ?_) (fun c9 => ?_)
  · exact absurd c9 (mIsR_ne hr5) --stop
  · skip
    refine Z_iload_n C 2 d_M_router_12 rfl rfl ?_
    refine Z_if_lt (tgt := 22) C d_M_router_13 (by decide) (fun c13 => ?_) (fun c13 => ?_)
    · exact absurd c13 h1 --stop
    · skip
      refine Z_iload_n C 2 d_M_router_16 rfl rfl ?_
      refine Z_bipush (v := 7) C d_M_router_17 (by decide) ?_
      refine Z_icmp_le (tgt := 24) C d_M_router_19 (by decide) (fun c19 => ?_) (fun c19 => ?_)
      · skip
        refine Z_aload_n C 0 d_M_router_24 rfl rfl ?_
        refine R_get C w 3 (by decide) fl_M_13 rfl rfl d_M_router_25 ?_
        refine Z_iload_n C 1 d_M_router_28 rfl rfl ?_
        refine R_ld 3 C w rfl rfl r (nI_clamp (by omega)) (vp_in_nI (n := r) (N := 5) (by omega) (by decide)) d_M_router_29 ?_
        refine Z_if_eq (tgt := 37) C d_M_router_30 (by decide) (fun c30 => ?_) (fun c30 => ?_)
        · exact absurd c30 h --stop
        · skip
          refine Z_iconst (v := 1) C d_M_router_33 (by decide) ?_
          refine Z_goto (tgt := 38) C d_M_router_34 (by decide) ?_
          refine Z_istore_n C d_M_router_38 rfl (by decide) rfl ?_
          refine Z_iload_n C 3 d_M_router_39 rfl rfl ?_
          refine Z_tsw C d_M_router_40 [(0, 84), (1, 91), (2, 106), (3, 120), (4, 135), (5, 142), (6, 149)] 156 (by decide +kernel) (by decide +kernel) (by decide) ?_ ?_
          · simp only [List.forall_mem_cons]
            refine ⟨fun c40 => ?_, fun c40 => ?_, fun c40 => ?_, fun c40 => ?_, fun c40 => ?_, fun c40 => ?_, fun c40 => ?_, fun _ h => absurd h List.not_mem_nil⟩
            · skip
              refine Z_aload_n C 1 d_M_router_84 rfl rfl ?_
              refine R_get C w 3 (by decide) fl_M_13 rfl rfl d_M_router_85 ?_
              refine Z_iload_n C 2 d_M_router_88 rfl rfl ?_
              refine R_ld 3 C w rfl rfl r (nI_clamp (by omega)) (vp_in_nI (n := r) (N := 5) (by omega) (by decide)) d_M_router_89 ?_
              exact Z_iret C hN hr d_M_router_90 (by simp [mRon, c9, c13, c19, c30, c40]) (zeq (rfl))
            · skip
              refine Z_iload_n C 0 d_M_router_91 rfl rfl ?_
              refine Z_if_eq (tgt := 104) C d_M_router_92 (by decide) (fun c92 => ?_) (fun c92 => ?_)
              · exact absurd c92 (by decide)
              · skip
                refine Z_aload_n C 1 d_M_router_95 rfl rfl ?_
                refine R_get C w 4 (by decide) fl_M_16 rfl rfl d_M_router_96 ?_
                refine Z_iload_n C 2 d_M_router_99 rfl rfl ?_
                refine R_ld 4 C w rfl rfl r (nI_clamp (by omega)) (vp_in_nI (n := r) (N := 5) (by omega) (by decide)) d_M_router_100 ?_
                refine Z_goto (tgt := 105) C d_M_router_101 (by decide) ?_
                exact Z_iret C hN hr d_M_router_105 (by simp [mRon, c9, c13, c19, c30, c40, c92]) (zeq (rfl))
            · skip
              refine Z_iload_n C 0 d_M_router_106 rfl rfl ?_
              refine Z_if_eq (tgt := 118) C d_M_router_107 (by decide) (fun c107 => ?_) (fun c107 => ?_)
              · exact absurd c107 (by decide)
              · skip
                refine Z_aload_n C 1 d_M_router_110 rfl rfl ?_
                refine Z_iload_n C 2 d_M_router_111 rfl rfl ?_
                refine C_cMv C w mi_M_weighed ml_M_156 (c_M_weighed w _ r hr5) rfl rfl (by decide) rfl (Nat.le_of_ble_eq_true rfl) d_M_router_112 ?_
                refine Z_goto (tgt := 119) C d_M_router_115 (by decide) ?_
                exact Z_iret C hN hr d_M_router_119 (by simp [mRon, c9, c13, c19, c30, c40, c107]) (zeq (rfl))
            · skip
              refine Z_iload_n C 0 d_M_router_120 rfl rfl ?_
              refine Z_if_eq (tgt := 133) C d_M_router_121 (by decide) (fun c121 => ?_) (fun c121 => ?_)
              · exact absurd c121 (by decide)
              · skip
                refine Z_aload_n C 1 d_M_router_124 rfl rfl ?_
                refine R_get C w 5 (by decide) fl_M_19 rfl rfl d_M_router_125 ?_
                refine Z_iload_n C 2 d_M_router_128 rfl rfl ?_
                refine R_ld 5 C w rfl rfl r (nI_clamp (by omega)) (vp_in_nI (n := r) (N := 5) (by omega) (by decide)) d_M_router_129 ?_
                refine Z_goto (tgt := 134) C d_M_router_130 (by decide) ?_
                exact Z_iret C hN hr d_M_router_134 (by simp [mRon, c9, c13, c19, c30, c40, c121]) (zeq (rfl))
            · skip
              refine Z_aload_n C 1 d_M_router_135 rfl rfl ?_
              refine R_get C w 6 (by decide) fl_M_22 rfl rfl d_M_router_136 ?_
              refine Z_iload_n C 2 d_M_router_139 rfl rfl ?_
              refine R_ld 6 C w rfl rfl r (nI_clamp (by omega)) (vp_in_nI (n := r) (N := 5) (by omega) (by decide)) d_M_router_140 ?_
              exact Z_iret C hN hr d_M_router_141 (by simp [mRon, c9, c13, c19, c30, c40]) (zeq (rfl))
            · skip
              refine Z_aload_n C 1 d_M_router_142 rfl rfl ?_
              refine R_get C w 7 (by decide) fl_M_25 rfl rfl d_M_router_143 ?_
              refine Z_iload_n C 2 d_M_router_146 rfl rfl ?_
              refine R_ld 7 C w rfl rfl r (nI_clamp (by omega)) (vp_in_nI (n := r) (N := 5) (by omega) (by decide)) d_M_router_147 ?_
              exact Z_iret C hN hr d_M_router_148 (by simp [mRon, c9, c13, c19, c30, c40]) (zeq (rfl))
            · skip
              refine Z_aload_n C 1 d_M_router_149 rfl rfl ?_
              refine R_get C w 8 (by decide) fl_M_28 rfl rfl d_M_router_150 ?_
              refine Z_iload_n C 2 d_M_router_153 rfl rfl ?_
              refine R_ld 8 C w rfl rfl r (nI_clamp (by omega)) (vp_in_nI (n := r) (N := 5) (by omega) (by decide)) d_M_router_154 ?_
              exact Z_iret C hN hr d_M_router_155 (by simp [mRon, c9, c13, c19, c30, c40]) (zeq (rfl))
          · intro c40
            simp only [List.forall_mem_cons] at c40
            refine Z_aload_n C 1 d_M_router_156 rfl rfl ?_
            refine R_get C w 9 (by decide) fl_M_31 rfl rfl d_M_router_157 ?_
            refine Z_iload_n C 2 d_M_router_160 rfl rfl ?_
            refine R_ld 9 C w rfl rfl r (nI_clamp (by omega)) (vp_in_nI (n := r) (N := 5) (by omega) (by decide)) d_M_router_161 ?_
            exact Z_iret C hN hr d_M_router_162 (by simp [mRon, c9, c13, c19, c30, c40]) (zeq (rfl))
      · exact absurd h2 c19 --stop
set_option maxRecDepth 100000 in
set_option maxHeartbeats 4000000 in
theorem m_session_on {l : Launch} {G : zG} {U : zU} (w : wR G U) (N : zR) (r : Nat) (hr5 : r < 5) (s : Nat) (hs5 : s < 5) (z : Int32) (h : ¬ N 11 (5 * r + s) = 0) : zF l y_M_session b_M_session 5 (some .int) 1 20 G [.ref (U.1 43), .int (nI r), .int (nI s), .int z] (eR U N) (some (.int (mSes (t0 N) (5 * r + s) z))) (eR U (t0 N)) := by
  refine zF.ofZ (by decide) w.2.2.2.2 (Nat.le_of_ble_eq_true rfl) (fun X hXl hN hr C => ?_)
  subst hXl
  show Z X G (zA G) 5 _ (eR U N) 0 [(0, .ref (U.1 43)), (1, .int (nI r)), (2, .int (nI s)), (3, .int z)] []
  obtain ⟨i, hi⟩ : ∃ i, i = 5 * r + s := ⟨_, rfl⟩
  refine Z_aload_n C 0 d_M_session_0 rfl rfl ?_
  refine Z_iconst (v := 0) C d_M_session_1 (by decide) ?_
  refine R_put C w 0 (by decide) fl_M_124 rfl rfl rfl rfl rfl d_M_session_2 ?_
  refine Z_iload_n C 1 d_M_session_5 rfl rfl ?_
  refine C_csv C ms_M_isRouter ml_M_128 (c_M_isRouter w _ _) rfl (by decide) rfl (Nat.le_of_ble_eq_true rfl) d_M_session_6 ?_
  refine Z_if_eq (tgt := 42) C d_M_session_9 (by decide) (fun c9 => ?_) (fun c9 => ?_)
  · exact absurd c9 (mIsR_ne hr5) --stop
  · skip
    refine Z_iload_n C 2 d_M_session_12 rfl rfl ?_
    refine C_csv C ms_M_isRouter ml_M_128 (c_M_isRouter w _ _) rfl (by decide) rfl (Nat.le_of_ble_eq_true rfl) d_M_session_13 ?_
    refine Z_if_eq (tgt := 42) C d_M_session_16 (by decide) (fun c16 => ?_) (fun c16 => ?_)
    · exact absurd c16 (mIsR_ne hs5) --stop
    · skip
      refine Z_aload_n C 0 d_M_session_19 rfl rfl ?_
      refine R_get C w 11 (by decide) fl_M_37 rfl rfl d_M_session_20 ?_
      refine Z_iconst (v := 5) C d_M_session_23 (by decide) ?_
      refine Z_iload_n C 1 d_M_session_24 rfl rfl ?_
      refine Z_imul C d_M_session_25 ?_
      refine Z_iload_n C 2 d_M_session_26 rfl rfl ?_
      refine Z_iadd C d_M_session_27 ?_
      refine R_zld 11 C w rfl rfl (5 * r + s) (by rw [ix5]; exact nI_clamp (by omega)) (by rw [ix5]; exact vp_in_nI (n := 5 * r + s) (N := 25) (by omega) (by decide)) d_M_session_28 ?_
      refine Z_if_eq (tgt := 42) C d_M_session_29 (by decide) (fun c29 => ?_) (fun c29 => ?_)
      · exact absurd c29 h --stop
      · skip
        refine Z_iload_n C 3 d_M_session_32 rfl rfl ?_
        refine Z_if_lt (tgt := 42) C d_M_session_33 (by decide) (fun c33 => ?_) (fun c33 => ?_)
        · skip
          refine Z_iconst (v := (-1)) C d_M_session_42 (by decide) ?_
          exact Z_iret C hN hr d_M_session_43 (by rw [← hi]; simp [mSes, c9, c16, c29, c33]) (zeq (rfl))
        · skip
          refine Z_iload_n C 3 d_M_session_36 rfl rfl ?_
          refine Z_bipush (v := 11) C d_M_session_37 (by decide) ?_
          refine Z_icmp_le (tgt := 44) C d_M_session_39 (by decide) (fun c39 => ?_) (fun c39 => ?_)
          · skip
            refine Z_iconst (v := 5) C d_M_session_44 (by decide) ?_
            refine Z_iload_n C 1 d_M_session_45 rfl rfl ?_
            refine Z_imul C d_M_session_46 ?_
            refine Z_iload_n C 2 d_M_session_47 rfl rfl ?_
            refine Z_iadd C d_M_session_48 ?_
            refine zst (st' := [.int (nI i)]) (by rw [ix5, hi]) ?_
            refine Z_istore C d_M_session_49 (by decide) rfl ?_
            refine Z_iload_n C 4 d_M_session_51 rfl rfl ?_
            refine Z_tsw C d_M_session_52 [(0, 112), (1, 120), (2, 128), (3, 136), (4, 144), (5, 152), (6, 160), (7, 168), (8, 176), (9, 192), (10, 200)] 208 (by decide +kernel) (by decide +kernel) (by decide) ?_ ?_
            · simp only [List.forall_mem_cons]
              refine ⟨fun c52 => ?_, fun c52 => ?_, fun c52 => ?_, fun c52 => ?_, fun c52 => ?_, fun c52 => ?_, fun c52 => ?_, fun c52 => ?_, fun c52 => ?_, fun c52 => ?_, fun c52 => ?_, fun _ h => absurd h List.not_mem_nil⟩
              · skip
                refine Z_aload_n C 1 d_M_session_112 rfl rfl ?_
                refine R_get C w 12 (by decide) fl_M_41 rfl rfl d_M_session_113 ?_
                refine Z_iload C 0 d_M_session_116 rfl ?_
                refine R_ld 12 C w rfl rfl i (nI_clamp (by omega)) (vp_in_nI (n := i) (N := 25) (by omega) (by decide)) d_M_session_118 ?_
                exact Z_iret C hN hr d_M_session_119 (by rw [← hi]; simp [mSes, c9, c16, c29, c33, c39, c52]) (zeq (rfl))
              · skip
                refine Z_aload_n C 1 d_M_session_120 rfl rfl ?_
                refine R_get C w 13 (by decide) fl_M_44 rfl rfl d_M_session_121 ?_
                refine Z_iload C 0 d_M_session_124 rfl ?_
                refine R_ld 13 C w rfl rfl i (nI_clamp (by omega)) (vp_in_nI (n := i) (N := 25) (by omega) (by decide)) d_M_session_126 ?_
                exact Z_iret C hN hr d_M_session_127 (by rw [← hi]; simp [mSes, c9, c16, c29, c33, c39, c52]) (zeq (rfl))
              · skip
                refine Z_aload_n C 1 d_M_session_128 rfl rfl ?_
                refine R_get C w 14 (by decide) fl_M_47 rfl rfl d_M_session_129 ?_
                refine Z_iload C 0 d_M_session_132 rfl ?_
                refine R_ld 14 C w rfl rfl i (nI_clamp (by omega)) (vp_in_nI (n := i) (N := 25) (by omega) (by decide)) d_M_session_134 ?_
                exact Z_iret C hN hr d_M_session_135 (by rw [← hi]; simp [mSes, c9, c16, c29, c33, c39, c52]) (zeq (rfl))
              · skip
                refine Z_aload_n C 1 d_M_session_136 rfl rfl ?_
                refine R_get C w 15 (by decide) fl_M_50 rfl rfl d_M_session_137 ?_
                refine Z_iload C 0 d_M_session_140 rfl ?_
                refine R_ld 15 C w rfl rfl i (nI_clamp (by omega)) (vp_in_nI (n := i) (N := 25) (by omega) (by decide)) d_M_session_142 ?_
                exact Z_iret C hN hr d_M_session_143 (by rw [← hi]; simp [mSes, c9, c16, c29, c33, c39, c52]) (zeq (rfl))
              · skip
                refine Z_aload_n C 1 d_M_session_144 rfl rfl ?_
                refine R_get C w 25 (by decide) fl_M_80 rfl rfl d_M_session_145 ?_
                refine Z_iload C 0 d_M_session_148 rfl ?_
                refine R_ld 25 C w rfl rfl i (nI_clamp (by omega)) (vp_in_nI (n := i) (N := 25) (by omega) (by decide)) d_M_session_150 ?_
                exact Z_iret C hN hr d_M_session_151 (by rw [← hi]; simp [mSes, c9, c16, c29, c33, c39, c52]) (zeq (rfl))
              · skip
                refine Z_aload_n C 1 d_M_session_152 rfl rfl ?_
                refine R_get C w 26 (by decide) fl_M_83 rfl rfl d_M_session_153 ?_
                refine Z_iload C 0 d_M_session_156 rfl ?_
                refine R_ld 26 C w rfl rfl i (nI_clamp (by omega)) (vp_in_nI (n := i) (N := 25) (by omega) (by decide)) d_M_session_158 ?_
                exact Z_iret C hN hr d_M_session_159 (by rw [← hi]; simp [mSes, c9, c16, c29, c33, c39, c52]) (zeq (rfl))
              · skip
                refine Z_aload_n C 1 d_M_session_160 rfl rfl ?_
                refine R_get C w 18 (by decide) fl_M_59 rfl rfl d_M_session_161 ?_
                refine Z_iload C 0 d_M_session_164 rfl ?_
                refine R_ld 18 C w rfl rfl i (nI_clamp (by omega)) (vp_in_nI (n := i) (N := 25) (by omega) (by decide)) d_M_session_166 ?_
                exact Z_iret C hN hr d_M_session_167 (by rw [← hi]; simp [mSes, c9, c16, c29, c33, c39, c52]) (zeq (rfl))
              · skip
                refine Z_aload_n C 1 d_M_session_168 rfl rfl ?_
                refine R_get C w 19 (by decide) fl_M_62 rfl rfl d_M_session_169 ?_
                refine Z_iload C 0 d_M_session_172 rfl ?_
                refine R_ld 19 C w rfl rfl i (nI_clamp (by omega)) (vp_in_nI (n := i) (N := 25) (by omega) (by decide)) d_M_session_174 ?_
                exact Z_iret C hN hr d_M_session_175 (by rw [← hi]; simp [mSes, c9, c16, c29, c33, c39, c52]) (zeq (rfl))
              · skip
                refine Z_aload_n C 1 d_M_session_176 rfl rfl ?_
                refine R_get C w 24 (by decide) fl_M_77 rfl rfl d_M_session_177 ?_
                refine Z_iload C 0 d_M_session_180 rfl ?_
                refine R_zld 24 C w rfl rfl i (nI_clamp (by omega)) (vp_in_nI (n := i) (N := 25) (by omega) (by decide)) d_M_session_182 ?_
                refine Z_if_eq (tgt := 190) C d_M_session_183 (by decide) (fun c183 => ?_) (fun c183 => ?_)
                · skip
                  refine Z_iconst (v := 0) C d_M_session_190 (by decide) ?_
                  exact Z_iret C hN hr d_M_session_191 (by rw [← hi]; simp [mSes, c9, c16, c29, c33, c39, c52, c183]) (zeq (rfl))
                · skip
                  refine Z_iconst (v := 1) C d_M_session_186 (by decide) ?_
                  refine Z_goto (tgt := 191) C d_M_session_187 (by decide) ?_
                  exact Z_iret C hN hr d_M_session_191 (by rw [← hi]; simp [mSes, c9, c16, c29, c33, c39, c52, c183]) (zeq (rfl))
              · skip
                refine Z_aload_n C 1 d_M_session_192 rfl rfl ?_
                refine R_get C w 21 (by decide) fl_M_68 rfl rfl d_M_session_193 ?_
                refine Z_iload C 0 d_M_session_196 rfl ?_
                refine R_ld 21 C w rfl rfl i (nI_clamp (by omega)) (vp_in_nI (n := i) (N := 25) (by omega) (by decide)) d_M_session_198 ?_
                exact Z_iret C hN hr d_M_session_199 (by rw [← hi]; simp [mSes, c9, c16, c29, c33, c39, c52]) (zeq (rfl))
              · skip
                refine Z_aload_n C 1 d_M_session_200 rfl rfl ?_
                refine R_get C w 22 (by decide) fl_M_71 rfl rfl d_M_session_201 ?_
                refine Z_iload C 0 d_M_session_204 rfl ?_
                refine R_ld 22 C w rfl rfl i (nI_clamp (by omega)) (vp_in_nI (n := i) (N := 25) (by omega) (by decide)) d_M_session_206 ?_
                exact Z_iret C hN hr d_M_session_207 (by rw [← hi]; simp [mSes, c9, c16, c29, c33, c39, c52]) (zeq (rfl))
            · intro c52
              simp only [List.forall_mem_cons] at c52
              refine Z_aload_n C 1 d_M_session_208 rfl rfl ?_
              refine R_get C w 27 (by decide) fl_M_86 rfl rfl d_M_session_209 ?_
              refine Z_iload C 0 d_M_session_212 rfl ?_
              refine R_ld 27 C w rfl rfl i (nI_clamp (by omega)) (vp_in_nI (n := i) (N := 25) (by omega) (by decide)) d_M_session_214 ?_
              exact Z_iret C hN hr d_M_session_215 (by rw [← hi]; simp [mSes, c9, c16, c29, c33, c39, c52]) (zeq (rfl))
          · skip
            refine Z_iconst (v := (-1)) C d_M_session_42 (by decide) ?_
            exact Z_iret C hN hr d_M_session_43 (by rw [← hi]; simp [mSes, c9, c16, c29, c33, c39]) (zeq (rfl))
set_option maxRecDepth 100000 in
set_option maxHeartbeats 4000000 in
theorem m_frame {l : Launch} {G : zG} {U : zU} (w : wR G U) (N : zR) (x y : Int32) (hI : InvR N) (hF : FrG N) : zF l y_M_frame b_M_frame 3 (some .int) 0 0 G [.ref (U.1 43), .int x, .int y] (eR U N) (some (.int (mFrm (t0 N) x y))) (eR U (t0 N)) := by
  refine zF.ofZ (by decide) w.2.2.2.2 (Nat.le_of_ble_eq_true rfl) (fun X hXl hN hr C => ?_)
  subst hXl
  show Z X G (zA G) 3 _ (eR U N) 0 [(0, .ref (U.1 43)), (1, .int x), (2, .int y)] []
  refine Z_aload_n C 0 d_M_frame_0 rfl rfl ?_
  refine Z_iconst (v := 0) C d_M_frame_1 (by decide) ?_
  refine R_put C w 0 (by decide) fl_M_124 rfl rfl rfl rfl rfl d_M_frame_2 ?_
  refine Z_iload_n C 1 d_M_frame_5 rfl rfl ?_
  refine Z_if_lt (tgt := 33) C d_M_frame_6 (by decide) (fun c6 => ?_) (fun c6 => ?_)
  · skip
    refine Z_iconst (v := (-1)) C d_M_frame_33 (by decide) ?_
    exact Z_iret C hN hr d_M_frame_34 (by unfold mFrm; first | rw [if_pos c6] | rw [if_neg c6, if_pos c14] | rw [if_neg c6, if_neg c14, if_pos c20] | rw [if_neg c6, if_neg c14, if_neg c20, if_pos c30] | (rw [if_neg c6, if_neg c14, if_neg c20, if_neg (fun z => z c30)]; simp [c36])) (zeq (rfl))
  · skip
    refine Z_iload_n C 1 d_M_frame_9 rfl rfl ?_
    refine Z_aload_n C 0 d_M_frame_10 rfl rfl ?_
    refine R_get C w 28 (by decide) fl_M_147 rfl rfl d_M_frame_11 ?_
    refine Z_icmp_ge (tgt := 33) C d_M_frame_14 (by decide) (fun c14 => ?_) (fun c14 => ?_)
    · skip
      refine Z_iconst (v := (-1)) C d_M_frame_33 (by decide) ?_
      exact Z_iret C hN hr d_M_frame_34 (by unfold mFrm; first | rw [if_pos c6] | rw [if_neg c6, if_pos c14] | rw [if_neg c6, if_neg c14, if_pos c20] | rw [if_neg c6, if_neg c14, if_neg c20, if_pos c30] | (rw [if_neg c6, if_neg c14, if_neg c20, if_neg (fun z => z c30)]; simp [c36])) (zeq (rfl))
    · skip
      refine Z_iload_n C 2 d_M_frame_17 rfl rfl ?_
      refine Z_bipush (v := -6) C d_M_frame_18 (by decide) ?_
      refine Z_icmp_lt (tgt := 33) C d_M_frame_20 (by decide) (fun c20 => ?_) (fun c20 => ?_)
      · skip
        refine Z_iconst (v := (-1)) C d_M_frame_33 (by decide) ?_
        exact Z_iret C hN hr d_M_frame_34 (by unfold mFrm; first | rw [if_pos c6] | rw [if_neg c6, if_pos c14] | rw [if_neg c6, if_neg c14, if_pos c20] | rw [if_neg c6, if_neg c14, if_neg c20, if_pos c30] | (rw [if_neg c6, if_neg c14, if_neg c20, if_neg (fun z => z c30)]; simp [c36])) (zeq (rfl))
      · skip
        refine Z_iload_n C 2 d_M_frame_23 rfl rfl ?_
        refine Z_aload_n C 0 d_M_frame_24 rfl rfl ?_
        refine R_get C w 35 (by decide) fl_M_107 rfl rfl d_M_frame_25 ?_
        refine Z_iload_n C 1 d_M_frame_28 rfl rfl ?_
        refine R_ld 35 C w rfl rfl x.toNatClampNeg rfl (by rw [(fr_ix (inv_t0 hI) c6 c14).2]; exact vp_in_nI (n := x.toNatClampNeg) (N := 60) (fr_ix (inv_t0 hI) c6 c14).1 (by decide)) d_M_frame_29 ?_
        refine Z_icmp_lt (tgt := 35) C d_M_frame_30 (by decide) (fun c30 => ?_) (fun c30 => ?_)
        · skip
          refine Z_iload_n C 2 d_M_frame_35 rfl rfl ?_
          refine Z_tsw C d_M_frame_36 [((-6), 116), ((-5), 109), ((-4), 102), ((-3), 95), ((-2), 88), ((-1), 76)] 123 (by decide +kernel) (by decide +kernel) (by decide) ?_ ?_
          · simp only [List.forall_mem_cons]
            refine ⟨fun c36 => ?_, fun c36 => ?_, fun c36 => ?_, fun c36 => ?_, fun c36 => ?_, fun c36 => ?_, fun _ h => absurd h List.not_mem_nil⟩
            · skip
              refine Z_aload_n C 0 d_M_frame_116 rfl rfl ?_
              refine R_get C w 34 (by decide) fl_M_104 rfl rfl d_M_frame_117 ?_
              refine Z_iload_n C 1 d_M_frame_120 rfl rfl ?_
              refine R_ld 34 C w rfl rfl x.toNatClampNeg rfl (by rw [(fr_ix (inv_t0 hI) c6 c14).2]; exact vp_in_nI (n := x.toNatClampNeg) (N := 60) (fr_ix (inv_t0 hI) c6 c14).1 (by decide)) d_M_frame_121 ?_
              exact Z_iret C hN hr d_M_frame_122 (by unfold mFrm; first | rw [if_pos c6] | rw [if_neg c6, if_pos c14] | rw [if_neg c6, if_neg c14, if_pos c20] | rw [if_neg c6, if_neg c14, if_neg c20, if_pos c30] | (rw [if_neg c6, if_neg c14, if_neg c20, if_neg (fun z => z c30)]; simp [c36])) (zeq (rfl))
            · skip
              refine Z_aload_n C 0 d_M_frame_109 rfl rfl ?_
              refine R_get C w 35 (by decide) fl_M_107 rfl rfl d_M_frame_110 ?_
              refine Z_iload_n C 1 d_M_frame_113 rfl rfl ?_
              refine R_ld 35 C w rfl rfl x.toNatClampNeg rfl (by rw [(fr_ix (inv_t0 hI) c6 c14).2]; exact vp_in_nI (n := x.toNatClampNeg) (N := 60) (fr_ix (inv_t0 hI) c6 c14).1 (by decide)) d_M_frame_114 ?_
              exact Z_iret C hN hr d_M_frame_115 (by unfold mFrm; first | rw [if_pos c6] | rw [if_neg c6, if_pos c14] | rw [if_neg c6, if_neg c14, if_pos c20] | rw [if_neg c6, if_neg c14, if_neg c20, if_pos c30] | (rw [if_neg c6, if_neg c14, if_neg c20, if_neg (fun z => z c30)]; simp [c36])) (zeq (rfl))
            · skip
              refine Z_aload_n C 0 d_M_frame_102 rfl rfl ?_
              refine R_get C w 32 (by decide) fl_M_98 rfl rfl d_M_frame_103 ?_
              refine Z_iload_n C 1 d_M_frame_106 rfl rfl ?_
              refine R_ld 32 C w rfl rfl x.toNatClampNeg rfl (by rw [(fr_ix (inv_t0 hI) c6 c14).2]; exact vp_in_nI (n := x.toNatClampNeg) (N := 60) (fr_ix (inv_t0 hI) c6 c14).1 (by decide)) d_M_frame_107 ?_
              exact Z_iret C hN hr d_M_frame_108 (by unfold mFrm; first | rw [if_pos c6] | rw [if_neg c6, if_pos c14] | rw [if_neg c6, if_neg c14, if_pos c20] | rw [if_neg c6, if_neg c14, if_neg c20, if_pos c30] | (rw [if_neg c6, if_neg c14, if_neg c20, if_neg (fun z => z c30)]; simp [c36])) (zeq (rfl))
            · skip
              refine Z_aload_n C 0 d_M_frame_95 rfl rfl ?_
              refine R_get C w 31 (by decide) fl_M_95 rfl rfl d_M_frame_96 ?_
              refine Z_iload_n C 1 d_M_frame_99 rfl rfl ?_
              refine R_ld 31 C w rfl rfl x.toNatClampNeg rfl (by rw [(fr_ix (inv_t0 hI) c6 c14).2]; exact vp_in_nI (n := x.toNatClampNeg) (N := 60) (fr_ix (inv_t0 hI) c6 c14).1 (by decide)) d_M_frame_100 ?_
              exact Z_iret C hN hr d_M_frame_101 (by unfold mFrm; first | rw [if_pos c6] | rw [if_neg c6, if_pos c14] | rw [if_neg c6, if_neg c14, if_pos c20] | rw [if_neg c6, if_neg c14, if_neg c20, if_pos c30] | (rw [if_neg c6, if_neg c14, if_neg c20, if_neg (fun z => z c30)]; simp [c36])) (zeq (rfl))
            · skip
              refine Z_aload_n C 0 d_M_frame_88 rfl rfl ?_
              refine R_get C w 30 (by decide) fl_M_92 rfl rfl d_M_frame_89 ?_
              refine Z_iload_n C 1 d_M_frame_92 rfl rfl ?_
              refine R_ld 30 C w rfl rfl x.toNatClampNeg rfl (by rw [(fr_ix (inv_t0 hI) c6 c14).2]; exact vp_in_nI (n := x.toNatClampNeg) (N := 60) (fr_ix (inv_t0 hI) c6 c14).1 (by decide)) d_M_frame_93 ?_
              exact Z_iret C hN hr d_M_frame_94 (by unfold mFrm; first | rw [if_pos c6] | rw [if_neg c6, if_pos c14] | rw [if_neg c6, if_neg c14, if_pos c20] | rw [if_neg c6, if_neg c14, if_neg c20, if_pos c30] | (rw [if_neg c6, if_neg c14, if_neg c20, if_neg (fun z => z c30)]; simp [c36])) (zeq (rfl))
            · skip
              refine Z_aload_n C 0 d_M_frame_76 rfl rfl ?_
              refine R_get C w 29 (by decide) fl_M_89 rfl rfl d_M_frame_77 ?_
              refine Z_iload_n C 1 d_M_frame_80 rfl rfl ?_
              refine R_ld 29 C w rfl rfl x.toNatClampNeg rfl (by rw [(fr_ix (inv_t0 hI) c6 c14).2]; exact vp_in_nI (n := x.toNatClampNeg) (N := 60) (fr_ix (inv_t0 hI) c6 c14).1 (by decide)) d_M_frame_81 ?_
              refine Z_aload_n C 0 d_M_frame_82 rfl rfl ?_
              refine R_get C w 1 (by decide) fl_M_150 rfl rfl d_M_frame_83 ?_
              refine Z_isub C d_M_frame_86 ?_
              exact Z_iret C hN hr d_M_frame_87 (by unfold mFrm; first | rw [if_pos c6] | rw [if_neg c6, if_pos c14] | rw [if_neg c6, if_neg c14, if_pos c20] | rw [if_neg c6, if_neg c14, if_neg c20, if_pos c30] | (rw [if_neg c6, if_neg c14, if_neg c20, if_neg (fun z => z c30)]; simp [c36])) (zeq (rfl))
          · intro c36
            simp only [List.forall_mem_cons] at c36
            obtain ⟨hx60, hxe⟩ := fr_ix (inv_t0 hI) c6 c14
            obtain ⟨-, z, hz, ez⟩ := hF x.toNatClampNeg hx60
            obtain ⟨hy40, hye⟩ := fr_iy hz ez c20 c30 ⟨c36.2.2.2.2.2.1, c36.2.2.2.2.1, c36.2.2.2.1, c36.2.2.1, c36.2.1, c36.1⟩
            have hxy : (40 : Int32) * x + y = nI (40 * x.toNatClampNeg + y.toNatClampNeg) := (congrArg (fun q => (40 : Int32) * q + y) hxe).trans ((congrArg (fun q => (40 : Int32) * nI x.toNatClampNeg + q) hye).trans (ix40 _ _))
            refine Z_aload_n C 0 d_M_frame_123 rfl rfl ?_
            refine R_get C w 36 (by decide) fl_M_110 rfl rfl d_M_frame_124 ?_
            refine Z_bipush (v := 40) C d_M_frame_127 (by decide) ?_
            refine Z_iload_n C 1 d_M_frame_129 rfl rfl ?_
            refine Z_imul C d_M_frame_130 ?_
            refine Z_iload_n C 2 d_M_frame_131 rfl rfl ?_
            refine Z_iadd C d_M_frame_132 ?_
            refine R_ld 36 C w rfl rfl (40 * x.toNatClampNeg + y.toNatClampNeg) (by rw [hxy]; exact nI_clamp (by omega)) (by rw [hxy]; exact vp_in_nI (n := 40 * x.toNatClampNeg + y.toNatClampNeg) (N := 2400) (by omega) (by decide)) d_M_frame_133 ?_
            exact Z_iret C hN hr d_M_frame_134 (by unfold mFrm; first | rw [if_pos c6] | rw [if_neg c6, if_pos c14] | rw [if_neg c6, if_neg c14, if_pos c20] | rw [if_neg c6, if_neg c14, if_neg c20, if_pos c30] | (rw [if_neg c6, if_neg c14, if_neg c20, if_neg (fun z => z c30)]; simp [c36])) (zeq (rfl))
        · skip
          refine Z_iconst (v := (-1)) C d_M_frame_33 (by decide) ?_
          exact Z_iret C hN hr d_M_frame_34 (by unfold mFrm; first | rw [if_pos c6] | rw [if_neg c6, if_pos c14] | rw [if_neg c6, if_neg c14, if_pos c20] | rw [if_neg c6, if_neg c14, if_neg c20, if_pos c30] | (rw [if_neg c6, if_neg c14, if_neg c20, if_neg (fun z => z c30)]; simp [c36])) (zeq (rfl))

