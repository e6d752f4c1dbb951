theorem Z_lret {X : zX} {G : zG} {nL : Nat} {K K' : zK} {w : Option Value} {pc : Nat} {lv : List (Nat × Value)} {cc : ByteArray} {own : String} {fr lo : Nat} {v : Int64} (C : zC X G (zA G) cc nL own fr lo) (hN : zN X) (hr : X.meth.sig.returnType = some .long) (hd : decode cc pc = .ok (.lreturn, 1)) (hw : w = some (.long v)) (hK : ∀ f, K f → K' f) : Z X G (zA G) nL (zQ X G w K') K pc lv [.long v] := by
  subst hw
  intro f H locs ls hf hP hS hl
  obtain ⟨p, l, e, R, s, m, args, below, meth, c, n1, n2⟩ := X
  obtain ⟨h1, h2⟩ := hN
  dsimp only at h1 h2
  subst h1; subst h2
  exact W.lret C.1.1 C.1.2.1 hr (fun t ht hW => ⟨⟨rfl, ⟨f, hK f hf, by rw [ht]; exact hP⟩, va_K.moved hW.alike C.2.1⟩, hS.F ht⟩) hS.2.2 hd C.2.2.2.2.1
theorem ix10 (r k : Nat) : (10 : Int32) * nI r + nI k = nI (10 * r + k) := by show nI 10 * nI r + nI k = _; rw [pk_mul, nI_add]
theorem ix5 (r k : Nat) : (5 : Int32) * nI r + nI k = nI (5 * r + k) := by show nI 5 * nI r + nI k = _; rw [pk_mul, nI_add]
/-! THE REFERENCE's leaves -/
def mIsR (x : Int32) : Int32 := if x < 0 then 0 else if 5 ≤ x then 0 else 1
def mMax (a b : Int32) : Int32 := if a ≤ b then b else a
def mCap (v : Int64) : Int32 := if lg_cmp v 100000 ≤ 0 then v.toInt32 else 100000
def mDown (N : zR) (i : Nat) (why : Int32) : zR := u2 (u2 N 15 i why) 12 i 1
def mUp (N : zR) (i : Nat) : zR := u2 (u2 N 12 i 3) 27 i (u2 N 12 i 3 27 i + 1)
def mTime (N : zR) (i : Nat) : Int32 := mMax (if N 12 i = 3 then N 18 i else mMax 100 (N 18 i)) (N 21 i)
def mSet (N : zR) (i : Nat) : zR := u2 N 25 i (if N 21 i = 0 then 0 else mTime N i)
def mHurry (N : zR) (i : Nat) : zR := if N 21 i = 0 then mSet N i else if N 25 i = 0 then mSet N i else if mTime N i < N 25 i then mSet N i else N
def mFires (N : zR) (i : Nat) : zR := if u2 N 14 i 0 12 i < 2 then u2 N 14 i 0 else mDown (u2 N 14 i 0) i 1
def mPut (N : zR) (b : Int32) : zR := u2 (u2 N 37 (N 43 38).toNatClampNeg (b &&& 255)) 43 38 (u2 N 37 (N 43 38).toNatClampNeg (b &&& 255) 43 38 + 1)
def mTurn (N : zR) (i : Nat) (said : Int32) : zR := if said = 0 then (if N 12 i < 2 then N else mDown N i 3) else if N 12 i = 1 then (if said = 2 then mUp (if said = 1 then u2 N 12 i 2 else N) i else (if said = 1 then u2 N 12 i 2 else N)) else if N 12 i = 2 then (if said < 2 then N else mUp N i) else if said = 1 then mDown N i 3 else N

set_option maxRecDepth 100000 in
set_option maxHeartbeats 4000000 in
theorem c_M_isRouter {l : Launch} {G : zG} {U : zU} (w : wR G U) (N : zR) (x : Int32) : zF l y_M_isRouter b_M_isRouter 1 (some .boolean) 0 0 G [.int x] (eR U N) (some (.int (mIsR x))) (eR U N) := by
  refine zF.ofZ (by decide) w.2.2.2.2 (Nat.le_of_ble_eq_true rfl) (fun X hXl hN hr C => ?_)
  subst hXl
  show Z X G (zA G) 1 _ (eR U N) 0 [(0, .int x)] []
  refine Z_iload_n C 0 d_M_isRouter_0 rfl rfl ?_
  refine Z_if_lt (tgt := 13) C d_M_isRouter_1 (by decide) (fun c1 => ?_) (fun c1 => ?_)
  · skip
    refine Z_iconst (v := 0) C d_M_isRouter_13 (by decide) ?_
    exact Z_zret C hN hr (by decide) d_M_isRouter_14 (by simp [mIsR, c1]) (zeq (rfl))
  · skip
    refine Z_iload_n C 0 d_M_isRouter_4 rfl rfl ?_
    refine Z_iconst (v := 5) C d_M_isRouter_5 (by decide) ?_
    refine Z_icmp_ge (tgt := 13) C d_M_isRouter_6 (by decide) (fun c6 => ?_) (fun c6 => ?_)
    · skip
      refine Z_iconst (v := 0) C d_M_isRouter_13 (by decide) ?_
      exact Z_zret C hN hr (by decide) d_M_isRouter_14 (by simp [mIsR, c1, c6]) (zeq (rfl))
    · skip
      refine Z_iconst (v := 1) C d_M_isRouter_9 (by decide) ?_
      refine Z_goto (tgt := 14) C d_M_isRouter_10 (by decide) ?_
      exact Z_zret C hN hr (by decide) d_M_isRouter_14 (by simp [mIsR, c1, c6]) (zeq (rfl))
set_option maxRecDepth 100000 in
set_option maxHeartbeats 4000000 in
theorem c_M_is {l : Launch} {G : zG} {U : zU} (w : wR G U) (N : zR) (r k : Nat) (hr5 : r < 5) (hk : k < 10) : zF l y_M_is b_M_is 3 (some .int) 0 0 G [.ref (U.1 43), .int (nI r), .int (nI k)] (eR U N) (some (.int (N 2 (10 * r + k)))) (eR U N) := by
  refine zF.ofZ (by decide) w.2.2.2.2 (Nat.le_of_ble_eq_true rfl) (fun X hXl hN hr C => ?_)
  subst hXl
  show Z X G (zA G) 3 _ (eR U N) 0 [(0, .ref (U.1 43)), (1, .int (nI r)), (2, .int (nI k))] []
  refine Z_aload_n C 0 d_M_is_0 rfl rfl ?_
  refine R_get C w 2 (by decide) fl_M_7 rfl rfl d_M_is_1 ?_
  refine Z_bipush (v := 10) C d_M_is_4 (by decide) ?_
  refine Z_iload_n C 1 d_M_is_6 rfl rfl ?_
  refine Z_imul C d_M_is_7 ?_
  refine Z_iload_n C 2 d_M_is_8 rfl rfl ?_
  refine Z_iadd C d_M_is_9 ?_
  refine R_ld 2 C w rfl rfl (10 * r + k) (by rw [ix10]; exact nI_clamp (by omega)) (by rw [ix10]; exact vp_in_nI (n := 10 * r + k) (N := 50) (by omega) (by decide)) d_M_is_10 ?_
  exact Z_iret C hN hr d_M_is_11 (rfl) (zeq (rfl))
set_option maxRecDepth 100000 in
set_option maxHeartbeats 4000000 in
theorem c_M_max {l : Launch} {G : zG} {U : zU} (w : wR G U) (N : zR) (a b : Int32) : zF l y_M_max b_M_max 2 (some .int) 0 0 G [.int a, .int b] (eR U N) (some (.int (mMax a b))) (eR U N) := by
  refine zF.ofZ (by decide) w.2.2.2.2 (Nat.le_of_ble_eq_true rfl) (fun X hXl hN hr C => ?_)
  subst hXl
  show Z X G (zA G) 2 _ (eR U N) 0 [(0, .int a), (1, .int b)] []
  refine Z_iload_n C 0 d_M_max_0 rfl rfl ?_
  refine Z_iload_n C 1 d_M_max_1 rfl rfl ?_
  refine Z_icmp_le (tgt := 9) C d_M_max_2 (by decide) (fun c2 => ?_) (fun c2 => ?_)
  · skip
    refine Z_iload_n C 1 d_M_max_9 rfl rfl ?_
    exact Z_iret C hN hr d_M_max_10 (by simp [mMax, c2]) (zeq (rfl))
  · skip
    refine Z_iload_n C 0 d_M_max_5 rfl rfl ?_
    refine Z_goto (tgt := 10) C d_M_max_6 (by decide) ?_
    exact Z_iret C hN hr d_M_max_10 (by simp [mMax, c2]) (zeq (rfl))
set_option maxRecDepth 100000 in
set_option maxHeartbeats 4000000 in
theorem c_M_atLeastOne {l : Launch} {G : zG} {U : zU} (w : wR G U) (N : zR) (t : Int32) : zF l y_M_atLeastOne b_M_atLeastOne 1 (some .int) 1 21 G [.int t] (eR U N) (some (.int (mMax 1 t))) (eR U N) := by
  refine zF.ofZ (by decide) w.2.2.2.2 (Nat.le_of_ble_eq_true rfl) (fun X hXl hN hr C => ?_)
  subst hXl
  show Z X G (zA G) 1 _ (eR U N) 0 [(0, .int t)] []
  refine Z_iconst (v := 1) C d_M_atLeastOne_0 (by decide) ?_
  refine Z_iload_n C 0 d_M_atLeastOne_1 rfl rfl ?_
  refine C_csv C ms_M_max ml_M_153 (c_M_max w _ _ _) rfl (by decide) rfl (Nat.le_of_ble_eq_true rfl) d_M_atLeastOne_2 ?_
  exact Z_iret C hN hr d_M_atLeastOne_5 (rfl) (zeq (rfl))
set_option maxRecDepth 100000 in
set_option maxHeartbeats 4000000 in
theorem c_M_capped {l : Launch} {G : zG} {U : zU} (w : wR G U) (N : zR) (v : Int64) : zF l y_M_capped b_M_capped 2 (some .int) 0 0 G [.long v] (eR U N) (some (.int (mCap v))) (eR U N) := by
  refine zF.ofZ (by decide) w.2.2.2.2 (Nat.le_of_ble_eq_true rfl) (fun X hXl hN hr C => ?_)
  subst hXl
  show Z X G (zA G) 2 _ (eR U N) 0 [(0, .long v)] []
  refine Z_lload_n C 0 d_M_capped_0 rfl rfl ?_
  refine Z_ldc2 C cl_M_210 d_M_capped_1 ?_
  refine Z_lcmp C d_M_capped_4 ?_
  refine Z_if_le (tgt := 13) C d_M_capped_5 (by decide) (fun c5 => ?_) (fun c5 => ?_)
  · skip
    refine Z_lload_n C 0 d_M_capped_13 rfl rfl ?_
    refine Z_l2i C d_M_capped_14 ?_
    exact Z_iret C hN hr d_M_capped_15 (by simp only [mCap]; first | rw [if_pos c5] | rw [if_neg c5]) (zeq (rfl))
  · skip
    refine Z_ldc C co_M_212 d_M_capped_8 ?_
    refine Z_goto (tgt := 15) C d_M_capped_10 (by decide) ?_
    exact Z_iret C hN hr d_M_capped_15 (by simp only [mCap]; first | rw [if_pos c5] | rw [if_neg c5]) (zeq (rfl))
set_option maxRecDepth 100000 in
set_option maxHeartbeats 4000000 in
theorem c_M_goDown {l : Launch} {G : zG} {U : zU} (w : wR G U) (N : zR) (i : Nat) (hi : i < 25) (why : Int32) : zF l y_M_goDown b_M_goDown 3 none 0 0 G [.ref (U.1 43), .int (nI i), .int why] (eR U N) none (eR U (mDown N i why)) := by
  refine zF.ofZ (by decide) w.2.2.2.2 (Nat.le_of_ble_eq_true rfl) (fun X hXl hN hr C => ?_)
  subst hXl
  show Z X G (zA G) 3 _ (eR U N) 0 [(0, .ref (U.1 43)), (1, .int (nI i)), (2, .int why)] []
  refine Z_aload_n C 0 d_M_goDown_0 rfl rfl ?_
  refine R_get C w 15 (by decide) fl_M_50 rfl rfl d_M_goDown_1 ?_
  refine Z_iload_n C 1 d_M_goDown_4 rfl rfl ?_
  refine Z_iload_n C 2 d_M_goDown_5 rfl rfl ?_
  refine R_st 15 C w rfl rfl i (nI_clamp (by omega)) (vp_in_nI (n := i) (N := 25) hi (by decide)) d_M_goDown_6 ?_
  refine Z_aload_n C 0 d_M_goDown_7 rfl rfl ?_
  refine R_get C w 12 (by decide) fl_M_41 rfl rfl d_M_goDown_8 ?_
  refine Z_iload_n C 1 d_M_goDown_11 rfl rfl ?_
  refine Z_iconst (v := 1) C d_M_goDown_12 (by decide) ?_
  refine R_st 12 C w rfl rfl i (nI_clamp (by omega)) (vp_in_nI (n := i) (N := 25) hi (by decide)) d_M_goDown_13 ?_
  exact Z_vret C hN hr d_M_goDown_14 rfl (zeq (rfl))
set_option maxRecDepth 100000 in
set_option maxHeartbeats 4000000 in
theorem c_M_goUp {l : Launch} {G : zG} {U : zU} (w : wR G U) (N : zR) (i : Nat) (hi : i < 25) : zF l y_M_goUp b_M_goUp 2 none 0 0 G [.ref (U.1 43), .int (nI i)] (eR U N) none (eR U (mUp N i)) := by
  refine zF.ofZ (by decide) w.2.2.2.2 (Nat.le_of_ble_eq_true rfl) (fun X hXl hN hr C => ?_)
  subst hXl
  show Z X G (zA G) 2 _ (eR U N) 0 [(0, .ref (U.1 43)), (1, .int (nI i))] []
  refine Z_aload_n C 0 d_M_goUp_0 rfl rfl ?_
  refine R_get C w 12 (by decide) fl_M_41 rfl rfl d_M_goUp_1 ?_
  refine Z_iload_n C 1 d_M_goUp_4 rfl rfl ?_
  refine Z_iconst (v := 3) C d_M_goUp_5 (by decide) ?_
  refine R_st 12 C w rfl rfl i (nI_clamp (by omega)) (vp_in_nI (n := i) (N := 25) hi (by decide)) d_M_goUp_6 ?_
  refine Z_aload_n C 0 d_M_goUp_7 rfl rfl ?_
  refine R_get C w 27 (by decide) fl_M_86 rfl rfl d_M_goUp_8 ?_
  refine Z_iload_n C 1 d_M_goUp_11 rfl rfl ?_
  refine Z_dup2_11 C d_M_goUp_12 rfl rfl ?_
  refine R_ld 27 C w rfl rfl i (nI_clamp (by omega)) (vp_in_nI (n := i) (N := 25) hi (by decide)) d_M_goUp_13 ?_
  refine Z_iconst (v := 1) C d_M_goUp_14 (by decide) ?_
  refine Z_iadd C d_M_goUp_15 ?_
  refine R_st 27 C w rfl rfl i (nI_clamp (by omega)) (vp_in_nI (n := i) (N := 25) hi (by decide)) d_M_goUp_16 ?_
  exact Z_vret C hN hr d_M_goUp_17 rfl (zeq (rfl))
set_option maxRecDepth 100000 in
set_option maxHeartbeats 4000000 in
theorem c_M_sendTime {l : Launch} {G : zG} {U : zU} (w : wR G U) (N : zR) (i : Nat) (hi : i < 25) : zF l y_M_sendTime b_M_sendTime 2 (some .int) 1 21 G [.ref (U.1 43), .int (nI i)] (eR U N) (some (.int (mTime N i))) (eR U N) := by
  refine zF.ofZ (by decide) w.2.2.2.2 (Nat.le_of_ble_eq_true rfl) (fun X hXl hN hr C => ?_)
  subst hXl
  show Z X G (zA G) 2 _ (eR U N) 0 [(0, .ref (U.1 43)), (1, .int (nI i))] []
  refine Z_aload_n C 0 d_M_sendTime_0 rfl rfl ?_
  refine R_get C w 12 (by decide) fl_M_41 rfl rfl d_M_sendTime_1 ?_
  refine Z_iload_n C 1 d_M_sendTime_4 rfl rfl ?_
  refine R_ld 12 C w rfl rfl i (nI_clamp (by omega)) (vp_in_nI (n := i) (N := 25) hi (by decide)) d_M_sendTime_5 ?_
  refine Z_iconst (v := 3) C d_M_sendTime_6 (by decide) ?_
  refine Z_icmp_ne (tgt := 19) C d_M_sendTime_7 (by decide) (fun c7 => ?_) (fun c7 => ?_)
  · skip
    refine Z_bipush (v := 100) C d_M_sendTime_19 (by decide) ?_
    refine Z_aload_n C 0 d_M_sendTime_21 rfl rfl ?_
    refine R_get C w 18 (by decide) fl_M_59 rfl rfl d_M_sendTime_22 ?_
    refine Z_iload_n C 1 d_M_sendTime_25 rfl rfl ?_
    refine R_ld 18 C w rfl rfl i (nI_clamp (by omega)) (vp_in_nI (n := i) (N := 25) hi (by decide)) d_M_sendTime_26 ?_
    refine C_csv C ms_M_max ml_M_153 (c_M_max w _ _ _) rfl (by decide) rfl (Nat.le_of_ble_eq_true rfl) d_M_sendTime_27 ?_
    refine Z_aload_n C 0 d_M_sendTime_30 rfl rfl ?_
    refine R_get C w 21 (by decide) fl_M_68 rfl rfl d_M_sendTime_31 ?_
    refine Z_iload_n C 1 d_M_sendTime_34 rfl rfl ?_
    refine R_ld 21 C w rfl rfl i (nI_clamp (by omega)) (vp_in_nI (n := i) (N := 25) hi (by decide)) d_M_sendTime_35 ?_
    refine C_csv C ms_M_max ml_M_153 (c_M_max w _ _ _) rfl (by decide) rfl (Nat.le_of_ble_eq_true rfl) d_M_sendTime_36 ?_
    exact Z_iret C hN hr d_M_sendTime_39 (by simp [mTime, c7]) (zeq (rfl))
  · skip
    refine Z_aload_n C 0 d_M_sendTime_10 rfl rfl ?_
    refine R_get C w 18 (by decide) fl_M_59 rfl rfl d_M_sendTime_11 ?_
    refine Z_iload_n C 1 d_M_sendTime_14 rfl rfl ?_
    refine R_ld 18 C w rfl rfl i (nI_clamp (by omega)) (vp_in_nI (n := i) (N := 25) hi (by decide)) d_M_sendTime_15 ?_
    refine Z_goto (tgt := 30) C d_M_sendTime_16 (by decide) ?_
    refine Z_aload_n C 0 d_M_sendTime_30 rfl rfl ?_
    refine R_get C w 21 (by decide) fl_M_68 rfl rfl d_M_sendTime_31 ?_
    refine Z_iload_n C 1 d_M_sendTime_34 rfl rfl ?_
    refine R_ld 21 C w rfl rfl i (nI_clamp (by omega)) (vp_in_nI (n := i) (N := 25) hi (by decide)) d_M_sendTime_35 ?_
    refine C_csv C ms_M_max ml_M_153 (c_M_max w _ _ _) rfl (by decide) rfl (Nat.le_of_ble_eq_true rfl) d_M_sendTime_36 ?_
    exact Z_iret C hN hr d_M_sendTime_39 (by simp [mTime, c7]) (zeq (rfl))
set_option maxRecDepth 100000 in
set_option maxHeartbeats 4000000 in
theorem c_M_setSend {l : Launch} {G : zG} {U : zU} (w : wR G U) (N : zR) (i : Nat) (hi : i < 25) : zF l y_M_setSend b_M_setSend 2 none 2 42 G [.ref (U.1 43), .int (nI i)] (eR U N) none (eR U (mSet N i)) := by
  refine zF.ofZ (by decide) w.2.2.2.2 (Nat.le_of_ble_eq_true rfl) (fun X hXl hN hr C => ?_)
  subst hXl
  show Z X G (zA G) 2 _ (eR U N) 0 [(0, .ref (U.1 43)), (1, .int (nI i))] []
  refine Z_aload_n C 0 d_M_setSend_0 rfl rfl ?_
  refine R_get C w 25 (by decide) fl_M_80 rfl rfl d_M_setSend_1 ?_
  refine Z_iload_n C 1 d_M_setSend_4 rfl rfl ?_
  refine Z_aload_n C 0 d_M_setSend_5 rfl rfl ?_
  refine R_get C w 21 (by decide) fl_M_68 rfl rfl d_M_setSend_6 ?_
  refine Z_iload_n C 1 d_M_setSend_9 rfl rfl ?_
  refine R_ld 21 C w rfl rfl i (nI_clamp (by omega)) (vp_in_nI (n := i) (N := 25) hi (by decide)) d_M_setSend_10 ?_
  refine Z_if_ne (tgt := 18) C d_M_setSend_11 (by decide) (fun c11 => ?_) (fun c11 => ?_)
  · skip
    refine Z_aload_n C 0 d_M_setSend_18 rfl rfl ?_
    refine Z_iload_n C 1 d_M_setSend_19 rfl rfl ?_
    refine C_cMv C w mi_M_sendTime ml_M_201 (c_M_sendTime w _ _ (by assumption)) rfl rfl (by decide) rfl (Nat.le_of_ble_eq_true rfl) d_M_setSend_20 ?_
    refine R_st 25 C w rfl rfl i (nI_clamp (by omega)) (vp_in_nI (n := i) (N := 25) hi (by decide)) d_M_setSend_23 ?_
    exact Z_vret C hN hr d_M_setSend_24 rfl (zeq (by apply eR_N; simp [mSet, c11]))
  · skip
    refine Z_iconst (v := 0) C d_M_setSend_14 (by decide) ?_
    refine Z_goto (tgt := 23) C d_M_setSend_15 (by decide) ?_
    refine R_st 25 C w rfl rfl i (nI_clamp (by omega)) (vp_in_nI (n := i) (N := 25) hi (by decide)) d_M_setSend_23 ?_
    exact Z_vret C hN hr d_M_setSend_24 rfl (zeq (by apply eR_N; simp [mSet, c11]))
set_option maxRecDepth 100000 in
set_option maxHeartbeats 4000000 in
theorem c_M_hurry {l : Launch} {G : zG} {U : zU} (w : wR G U) (N : zR) (i : Nat) (hi : i < 25) : zF l y_M_hurry b_M_hurry 2 none 3 63 G [.ref (U.1 43), .int (nI i)] (eR U N) none (eR U (mHurry N i)) := by
  refine zF.ofZ (by decide) w.2.2.2.2 (Nat.le_of_ble_eq_true rfl) (fun X hXl hN hr C => ?_)
  subst hXl
  show Z X G (zA G) 2 _ (eR U N) 0 [(0, .ref (U.1 43)), (1, .int (nI i))] []
  refine Z_aload_n C 0 d_M_hurry_0 rfl rfl ?_
  refine R_get C w 21 (by decide) fl_M_68 rfl rfl d_M_hurry_1 ?_
  refine Z_iload_n C 1 d_M_hurry_4 rfl rfl ?_
  refine R_ld 21 C w rfl rfl i (nI_clamp (by omega)) (vp_in_nI (n := i) (N := 25) hi (by decide)) d_M_hurry_5 ?_
  refine Z_if_eq (tgt := 32) C d_M_hurry_6 (by decide) (fun c6 => ?_) (fun c6 => ?_)
  · skip
    refine Z_aload_n C 0 d_M_hurry_32 rfl rfl ?_
    refine Z_iload_n C 1 d_M_hurry_33 rfl rfl ?_
    refine C_cMn C w mi_M_setSend ml_M_204 (c_M_setSend w _ _ (by assumption)) rfl rfl (by decide) rfl (Nat.le_of_ble_eq_true rfl) d_M_hurry_34 ?_
    exact Z_vret C hN hr d_M_hurry_37 rfl (zeq (by apply eR_N; simp [mHurry, ← Int32.not_le, c6]))
  · skip
    refine Z_aload_n C 0 d_M_hurry_9 rfl rfl ?_
    refine R_get C w 25 (by decide) fl_M_80 rfl rfl d_M_hurry_10 ?_
    refine Z_iload_n C 1 d_M_hurry_13 rfl rfl ?_
    refine R_ld 25 C w rfl rfl i (nI_clamp (by omega)) (vp_in_nI (n := i) (N := 25) hi (by decide)) d_M_hurry_14 ?_
    refine Z_if_eq (tgt := 32) C d_M_hurry_15 (by decide) (fun c15 => ?_) (fun c15 => ?_)
    · skip
      refine Z_aload_n C 0 d_M_hurry_32 rfl rfl ?_
      refine Z_iload_n C 1 d_M_hurry_33 rfl rfl ?_
      refine C_cMn C w mi_M_setSend ml_M_204 (c_M_setSend w _ _ (by assumption)) rfl rfl (by decide) rfl (Nat.le_of_ble_eq_true rfl) d_M_hurry_34 ?_
      exact Z_vret C hN hr d_M_hurry_37 rfl (zeq (by apply eR_N; simp [mHurry, ← Int32.not_le, c6, c15]))
    · skip
      refine Z_aload_n C 0 d_M_hurry_18 rfl rfl ?_
      refine R_get C w 25 (by decide) fl_M_80 rfl rfl d_M_hurry_19 ?_
      refine Z_iload_n C 1 d_M_hurry_22 rfl rfl ?_
      refine R_ld 25 C w rfl rfl i (nI_clamp (by omega)) (vp_in_nI (n := i) (N := 25) hi (by decide)) d_M_hurry_23 ?_
      refine Z_aload_n C 0 d_M_hurry_24 rfl rfl ?_
      refine Z_iload_n C 1 d_M_hurry_25 rfl rfl ?_
      refine C_cMv C w mi_M_sendTime ml_M_201 (c_M_sendTime w _ _ (by assumption)) rfl rfl (by decide) rfl (Nat.le_of_ble_eq_true rfl) d_M_hurry_26 ?_
      refine Z_icmp_le (tgt := 37) C d_M_hurry_29 (by decide) (fun c29 => ?_) (fun c29 => ?_)
      · skip
        exact Z_vret C hN hr d_M_hurry_37 rfl (zeq (by apply eR_N; simp [mHurry, ← Int32.not_le, c6, c15, c29]))
      · skip
        refine Z_aload_n C 0 d_M_hurry_32 rfl rfl ?_
        refine Z_iload_n C 1 d_M_hurry_33 rfl rfl ?_
        refine C_cMn C w mi_M_setSend ml_M_204 (c_M_setSend w _ _ (by assumption)) rfl rfl (by decide) rfl (Nat.le_of_ble_eq_true rfl) d_M_hurry_34 ?_
        exact Z_vret C hN hr d_M_hurry_37 rfl (zeq (by apply eR_N; simp [mHurry, ← Int32.not_le, c6, c15, c29]))
set_option maxRecDepth 100000 in
set_option maxHeartbeats 4000000 in
theorem c_M_detectFires {l : Launch} {G : zG} {U : zU} (w : wR G U) (N : zR) (i : Nat) (hi : i < 25) : zF l y_M_detectFires b_M_detectFires 2 none 1 22 G [.ref (U.1 43), .int (nI i)] (eR U N) none (eR U (mFires N i)) := by
  refine zF.ofZ (by decide) w.2.2.2.2 (Nat.le_of_ble_eq_true rfl) (fun X hXl hN hr C => ?_)
  subst hXl
  show Z X G (zA G) 2 _ (eR U N) 0 [(0, .ref (U.1 43)), (1, .int (nI i))] []
  refine Z_aload_n C 0 d_M_detectFires_0 rfl rfl ?_
  refine R_get C w 14 (by decide) fl_M_47 rfl rfl d_M_detectFires_1 ?_
  refine Z_iload_n C 1 d_M_detectFires_4 rfl rfl ?_
  refine Z_iconst (v := 0) C d_M_detectFires_5 (by decide) ?_
  refine R_st 14 C w rfl rfl i (nI_clamp (by omega)) (vp_in_nI (n := i) (N := 25) hi (by decide)) d_M_detectFires_6 ?_
  refine Z_aload_n C 0 d_M_detectFires_7 rfl rfl ?_
  refine R_get C w 12 (by decide) fl_M_41 rfl rfl d_M_detectFires_8 ?_
  refine Z_iload_n C 1 d_M_detectFires_11 rfl rfl ?_
  refine R_ld 12 C w rfl rfl i (nI_clamp (by omega)) (vp_in_nI (n := i) (N := 25) hi (by decide)) d_M_detectFires_12 ?_
  refine Z_iconst (v := 2) C d_M_detectFires_13 (by decide) ?_
  refine Z_icmp_lt (tgt := 23) C d_M_detectFires_14 (by decide) (fun c14 => ?_) (fun c14 => ?_)
  · skip
    exact Z_vret C hN hr d_M_detectFires_23 rfl (zeq (by apply eR_N; simp [mFires, c14]))
  · skip
    refine Z_aload_n C 0 d_M_detectFires_17 rfl rfl ?_
    refine Z_iload_n C 1 d_M_detectFires_18 rfl rfl ?_
    refine Z_iconst (v := 1) C d_M_detectFires_19 (by decide) ?_
    refine C_cMn C w mi_M_goDown ml_M_213 (c_M_goDown w _ _ (by assumption) _) rfl rfl (by decide) rfl (Nat.le_of_ble_eq_true rfl) d_M_detectFires_20 ?_
    exact Z_vret C hN hr d_M_detectFires_23 rfl (zeq (by apply eR_N; simp [mFires, c14]))
set_option maxRecDepth 100000 in
set_option maxHeartbeats 4000000 in
theorem c_M_put {l : Launch} {G : zG} {U : zU} (w : wR G U) (N : zR) (b : Int32) (hz : vp_in (N 43 38) 40) : zF l y_M_put b_M_put 2 none 0 0 G [.ref (U.1 43), .int b] (eR U N) none (eR U (mPut N b)) := by
  refine zF.ofZ (by decide) w.2.2.2.2 (Nat.le_of_ble_eq_true rfl) (fun X hXl hN hr C => ?_)
  subst hXl
  show Z X G (zA G) 2 _ (eR U N) 0 [(0, .ref (U.1 43)), (1, .int b)] []
  refine Z_aload_n C 0 d_M_put_0 rfl rfl ?_
  refine R_get C w 37 (by decide) fl_M_113 rfl rfl d_M_put_1 ?_
  refine Z_aload_n C 0 d_M_put_4 rfl rfl ?_
  refine R_get C w 38 (by decide) fl_M_136 rfl rfl d_M_put_5 ?_
  refine Z_iload_n C 1 d_M_put_8 rfl rfl ?_
  refine Z_sipush (v := 255) C d_M_put_9 (by decide) ?_
  refine Z_iand C d_M_put_12 ?_
  refine R_st 37 C w rfl rfl _ rfl hz d_M_put_13 ?_
  refine Z_aload_n C 0 d_M_put_14 rfl rfl ?_
  refine Z_dup C d_M_put_15 rfl ?_
  refine R_get C w 38 (by decide) fl_M_136 rfl rfl d_M_put_16 ?_
  refine Z_iconst (v := 1) C d_M_put_19 (by decide) ?_
  refine Z_iadd C d_M_put_20 ?_
  refine R_put C w 38 (by decide) fl_M_136 rfl rfl rfl rfl rfl d_M_put_21 ?_
  exact Z_vret C hN hr d_M_put_24 rfl (zeq (rfl))
set_option maxRecDepth 100000 in
set_option maxHeartbeats 4000000 in
theorem c_M_turn {l : Launch} {G : zG} {U : zU} (w : wR G U) (N : zR) (i : Nat) (hi : i < 25) (said : Int32) : zF l y_M_turn b_M_turn 4 none 1 22 G [.ref (U.1 43), .int (nI i), .int said] (eR U N) none (eR U (mTurn N i said)) := by
  refine zF.ofZ (by decide) w.2.2.2.2 (Nat.le_of_ble_eq_true rfl) (fun X hXl hN hr C => ?_)
  subst hXl
  show Z X G (zA G) 4 _ (eR U N) 0 [(0, .ref (U.1 43)), (1, .int (nI i)), (2, .int said)] []
  refine Z_aload_n C 0 d_M_turn_0 rfl rfl ?_
  refine R_get C w 12 (by decide) fl_M_41 rfl rfl d_M_turn_1 ?_
  refine Z_iload_n C 1 d_M_turn_4 rfl rfl ?_
  refine R_ld 12 C w rfl rfl i (nI_clamp (by omega)) (vp_in_nI (n := i) (N := 25) hi (by decide)) d_M_turn_5 ?_
  refine Z_istore_n C d_M_turn_6 rfl (by decide) rfl ?_
  refine Z_iload_n C 3 d_M_turn_7 rfl rfl ?_
  refine Z_if_ne (tgt := 25) C d_M_turn_8 (by decide) (fun c8 => ?_) (fun c8 => ?_)
  · skip
    refine Z_iload_n C 0 d_M_turn_25 rfl rfl ?_
    refine Z_iconst (v := 1) C d_M_turn_26 (by decide) ?_
    refine Z_icmp_ne (tgt := 55) C d_M_turn_27 (by decide) (fun c27 => ?_) (fun c27 => ?_)
    · skip
      refine Z_iload_n C 0 d_M_turn_55 rfl rfl ?_
      refine Z_iconst (v := 2) C d_M_turn_56 (by decide) ?_
      refine Z_icmp_ne (tgt := 73) C d_M_turn_57 (by decide) (fun c57 => ?_) (fun c57 => ?_)
      · skip
        refine Z_iload_n C 3 d_M_turn_73 rfl rfl ?_
        refine Z_iconst (v := 1) C d_M_turn_74 (by decide) ?_
        refine Z_icmp_ne (tgt := 84) C d_M_turn_75 (by decide) (fun c75 => ?_) (fun c75 => ?_)
        · skip
          exact Z_vret C hN hr d_M_turn_84 rfl (zeq (by apply eR_N; first | (simp [mTurn, c8, c27, c57, c75]; done) | exact absurd (c32.symm.trans c44) (by decide)))
        · skip
          refine Z_aload_n C 1 d_M_turn_78 rfl rfl ?_
          refine Z_iload_n C 2 d_M_turn_79 rfl rfl ?_
          refine Z_iconst (v := 3) C d_M_turn_80 (by decide) ?_
          refine C_cMn C w mi_M_goDown ml_M_213 (c_M_goDown w _ _ (by assumption) _) rfl rfl (by decide) rfl (Nat.le_of_ble_eq_true rfl) d_M_turn_81 ?_
          exact Z_vret C hN hr d_M_turn_84 rfl (zeq (by apply eR_N; first | (simp [mTurn, c8, c27, c57, c75]; done) | exact absurd (c32.symm.trans c44) (by decide)))
      · skip
        refine Z_iload_n C 3 d_M_turn_60 rfl rfl ?_
        refine Z_iconst (v := 2) C d_M_turn_61 (by decide) ?_
        refine Z_icmp_lt (tgt := 84) C d_M_turn_62 (by decide) (fun c62 => ?_) (fun c62 => ?_)
        · skip
          exact Z_vret C hN hr d_M_turn_84 rfl (zeq (by apply eR_N; first | (simp [mTurn, c8, c27, c57, c62]; done) | exact absurd (c32.symm.trans c44) (by decide)))
        · skip
          refine Z_aload_n C 1 d_M_turn_65 rfl rfl ?_
          refine Z_iload_n C 2 d_M_turn_66 rfl rfl ?_
          refine C_cMn C w mi_M_goUp ml_M_216 (c_M_goUp w _ _ (by assumption)) rfl rfl (by decide) rfl (Nat.le_of_ble_eq_true rfl) d_M_turn_67 ?_
          refine Z_goto (tgt := 84) C d_M_turn_70 (by decide) ?_
          exact Z_vret C hN hr d_M_turn_84 rfl (zeq (by apply eR_N; first | (simp [mTurn, c8, c27, c57, c62]; done) | exact absurd (c32.symm.trans c44) (by decide)))
    · skip
      refine Z_iload_n C 3 d_M_turn_30 rfl rfl ?_
      refine Z_iconst (v := 1) C d_M_turn_31 (by decide) ?_
      refine Z_icmp_ne (tgt := 42) C d_M_turn_32 (by decide) (fun c32 => ?_) (fun c32 => ?_)
      · skip
        refine Z_iload_n C 3 d_M_turn_42 rfl rfl ?_
        refine Z_iconst (v := 2) C d_M_turn_43 (by decide) ?_
        refine Z_icmp_ne (tgt := 84) C d_M_turn_44 (by decide) (fun c44 => ?_) (fun c44 => ?_)
        · skip
          exact Z_vret C hN hr d_M_turn_84 rfl (zeq (by apply eR_N; first | (simp [mTurn, c8, c27, c32, c44]; done) | exact absurd (c32.symm.trans c44) (by decide)))
        · skip
          refine Z_aload_n C 1 d_M_turn_47 rfl rfl ?_
          refine Z_iload_n C 2 d_M_turn_48 rfl rfl ?_
          refine C_cMn C w mi_M_goUp ml_M_216 (c_M_goUp w _ _ (by assumption)) rfl rfl (by decide) rfl (Nat.le_of_ble_eq_true rfl) d_M_turn_49 ?_
          refine Z_goto (tgt := 84) C d_M_turn_52 (by decide) ?_
          exact Z_vret C hN hr d_M_turn_84 rfl (zeq (by apply eR_N; first | (simp [mTurn, c8, c27, c32, c44]; done) | exact absurd (c32.symm.trans c44) (by decide)))
      · skip
        refine Z_aload_n C 1 d_M_turn_35 rfl rfl ?_
        refine R_get C w 12 (by decide) fl_M_41 rfl rfl d_M_turn_36 ?_
        refine Z_iload_n C 2 d_M_turn_39 rfl rfl ?_
        refine Z_iconst (v := 2) C d_M_turn_40 (by decide) ?_
        refine R_st 12 C w rfl rfl i (nI_clamp (by omega)) (vp_in_nI (n := i) (N := 25) hi (by decide)) d_M_turn_41 ?_
        refine Z_iload_n C 3 d_M_turn_42 rfl rfl ?_
        refine Z_iconst (v := 2) C d_M_turn_43 (by decide) ?_
        refine Z_icmp_ne (tgt := 84) C d_M_turn_44 (by decide) (fun c44 => ?_) (fun c44 => ?_)
        · skip
          exact Z_vret C hN hr d_M_turn_84 rfl (zeq (by apply eR_N; first | (simp [mTurn, c8, c27, c32, c44]; done) | exact absurd (c32.symm.trans c44) (by decide)))
        · skip
          refine Z_aload_n C 1 d_M_turn_47 rfl rfl ?_
          refine Z_iload_n C 2 d_M_turn_48 rfl rfl ?_
          refine C_cMn C w mi_M_goUp ml_M_216 (c_M_goUp w _ _ (by assumption)) rfl rfl (by decide) rfl (Nat.le_of_ble_eq_true rfl) d_M_turn_49 ?_
          refine Z_goto (tgt := 84) C d_M_turn_52 (by decide) ?_
          exact Z_vret C hN hr d_M_turn_84 rfl (zeq (by apply eR_N; first | (simp [mTurn, c8, c27, c32, c44]; done) | exact absurd (c32.symm.trans c44) (by decide)))
  · skip
    refine Z_iload_n C 0 d_M_turn_11 rfl rfl ?_
    refine Z_iconst (v := 2) C d_M_turn_12 (by decide) ?_
    refine Z_icmp_lt (tgt := 84) C d_M_turn_13 (by decide) (fun c13 => ?_) (fun c13 => ?_)
    · skip
      exact Z_vret C hN hr d_M_turn_84 rfl (zeq (by apply eR_N; first | (simp [mTurn, c8, c13]; done) | exact absurd (c32.symm.trans c44) (by decide)))
    · skip
      refine Z_aload_n C 1 d_M_turn_16 rfl rfl ?_
      refine Z_iload_n C 2 d_M_turn_17 rfl rfl ?_
      refine Z_iconst (v := 3) C d_M_turn_18 (by decide) ?_
      refine C_cMn C w mi_M_goDown ml_M_213 (c_M_goDown w _ _ (by assumption) _) rfl rfl (by decide) rfl (Nat.le_of_ble_eq_true rfl) d_M_turn_19 ?_
      refine Z_goto (tgt := 84) C d_M_turn_22 (by decide) ?_
      exact Z_vret C hN hr d_M_turn_84 rfl (zeq (by apply eR_N; first | (simp [mTurn, c8, c13]; done) | exact absurd (c32.symm.trans c44) (by decide)))

