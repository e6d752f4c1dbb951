/-! THE SESSION's METHODS: what they answer and write, over its row q of ints -/
def sSlowed (q : Nat → Int32) (p : Int32) : Int32 := if q 3 = 3 then p else imx p 100
def sPause (q : Nat → Int32) : Int32 := if q 10 = 0 then 0 else imx (sSlowed q (q 14)) (q 10)
def sTold (x : Int32) : Int32 := if x < 0 then 100000 else if x ≤ 100000 then x else 100000
set_option maxRecDepth 100000 in
set_option maxHeartbeats 4000000 in
theorem c_S_useRates {l : Launch} {G : zG} {V : zV} (w : wC G V) (M : zM) (P : Nat → Nat) (D : Nat × Nat) (i j : Nat) (hi : i < 5) (hj : j < 5) : zF l y_S_useRates b_S_useRates 1 none 0 0 G [.ref (V.1 5 i j)] (eC V M P D) none (eC V (up (up M 5 i j 14 (M 5 i j 7)) 5 i j 15 (M 5 i j 8)) P D) := by
  refine zF.ofZ (by decide) w.2.2.2.2 (Nat.le_of_ble_eq_true rfl) (fun X hXl hN hr C => ?_)
  subst hXl
  show Z X G (zA G) 1 _ (eC V M P D) 0 [(0, .ref (V.1 5 i j))] []
  refine Z_aload_n C 0 d_S_useRates_0 rfl rfl ?_
  refine Z_aload_n C 0 d_S_useRates_1 rfl rfl ?_
  refine C_gS C w (by assumption) (by assumption) 7 (by decide) fl_S_34 rfl rfl d_S_useRates_2 ?_
  refine C_pS C w (by assumption) (by assumption) 14 (by decide) fl_S_71 rfl rfl rfl rfl rfl d_S_useRates_5 ?_
  refine Z_aload_n C 0 d_S_useRates_8 rfl rfl ?_
  refine Z_aload_n C 0 d_S_useRates_9 rfl rfl ?_
  refine C_gS C w (by assumption) (by assumption) 8 (by decide) fl_S_37 rfl rfl d_S_useRates_10 ?_
  refine C_pS C w (by assumption) (by assumption) 15 (by decide) fl_S_80 rfl rfl rfl rfl rfl d_S_useRates_13 ?_
  exact Z_vret C hN hr d_S_useRates_16 rfl (zeq (by simp only [up_self]; rfl))
set_option maxRecDepth 100000 in
set_option maxHeartbeats 4000000 in
theorem c_S_slowed {l : Launch} {G : zG} {V : zV} (w : wC G V) (M : zM) (P : Nat → Nat) (D : Nat × Nat) (i j : Nat) (hi : i < 5) (hj : j < 5) (p : Int32) : zF l y_S_slowed b_S_slowed 2 (some .int) 1 21 G [.ref (V.1 5 i j), .int p] (eC V M P D) (some (.int (sSlowed (M 5 i j) p))) (eC V M P D) := by
  refine zF.ofZ (by decide) w.2.2.2.2 (Nat.le_of_ble_eq_true rfl) (fun X hXl hN hr C => ?_)
  subst hXl
  show Z X G (zA G) 2 _ (eC V M P D) 0 [(0, .ref (V.1 5 i j)), (1, .int p)] []
  refine Z_aload_n C 0 d_S_slowed_0 rfl rfl ?_
  refine C_gS C w (by assumption) (by assumption) 3 (by decide) fl_S_22 rfl rfl d_S_slowed_1 ?_
  refine Z_iconst (v := 3) C d_S_slowed_4 (by decide) ?_
  refine Z_icmp_ne (tgt := 12) C d_S_slowed_5 (by decide) (fun c5 => ?_) (fun c5 => ?_)
  · skip
    refine Z_iload_n C 1 d_S_slowed_12 rfl rfl ?_
    refine Z_bipush (v := 100) C d_S_slowed_13 (by decide) ?_
    refine Z_mmax C ml_S_83 mx_s ma_i mx_c (by decide) d_S_slowed_15 ?_
    exact Z_iret C hN hr d_S_slowed_18 (by simp [sSlowed, imx, c5]) (zeq (rfl))
  · skip
    refine Z_iload_n C 1 d_S_slowed_8 rfl rfl ?_
    refine Z_goto (tgt := 18) C d_S_slowed_9 (by decide) ?_
    exact Z_iret C hN hr d_S_slowed_18 (by simp [sSlowed, imx, c5]) (zeq (rfl))
set_option maxRecDepth 100000 in
set_option maxHeartbeats 4000000 in
theorem c_S_sendPause {l : Launch} {G : zG} {V : zV} (w : wC G V) (M : zM) (P : Nat → Nat) (D : Nat × Nat) (i j : Nat) (hi : i < 5) (hj : j < 5) : zF l y_S_sendPause b_S_sendPause 1 (some .int) 2 42 G [.ref (V.1 5 i j)] (eC V M P D) (some (.int (sPause (M 5 i j)))) (eC V M P D) := by
  refine zF.ofZ (by decide) w.2.2.2.2 (Nat.le_of_ble_eq_true rfl) (fun X hXl hN hr C => ?_)
  subst hXl
  show Z X G (zA G) 1 _ (eC V M P D) 0 [(0, .ref (V.1 5 i j))] []
  refine Z_aload_n C 0 d_S_sendPause_0 rfl rfl ?_
  refine C_gS C w (by assumption) (by assumption) 10 (by decide) fl_S_43 rfl rfl d_S_sendPause_1 ?_
  refine Z_if_ne (tgt := 11) C d_S_sendPause_4 (by decide) (fun c4 => ?_) (fun c4 => ?_)
  · skip
    refine Z_aload_n C 0 d_S_sendPause_11 rfl rfl ?_
    refine Z_aload_n C 0 d_S_sendPause_12 rfl rfl ?_
    refine C_gS C w (by assumption) (by assumption) 14 (by decide) fl_S_71 rfl rfl d_S_sendPause_13 ?_
    refine C_cSv C w (by assumption) (by assumption) mi_S_slowed ml_S_89 (c_S_slowed w _ _ _ _ _ (by assumption) (by assumption) _) rfl rfl (by decide) rfl (by decide) d_S_sendPause_16 ?_
    refine Z_aload_n C 0 d_S_sendPause_19 rfl rfl ?_
    refine C_gS C w (by assumption) (by assumption) 10 (by decide) fl_S_43 rfl rfl d_S_sendPause_20 ?_
    refine Z_mmax C ml_S_83 mx_s ma_i mx_c (by decide) d_S_sendPause_23 ?_
    exact Z_iret C hN hr d_S_sendPause_26 (by simp [sPause, imx, c4]) (zeq (rfl))
  · skip
    refine Z_iconst (v := 0) C d_S_sendPause_7 (by decide) ?_
    refine Z_goto (tgt := 26) C d_S_sendPause_8 (by decide) ?_
    exact Z_iret C hN hr d_S_sendPause_26 (by simp [sPause, imx, c4]) (zeq (rfl))
set_option maxRecDepth 100000 in
set_option maxHeartbeats 4000000 in
theorem c_S_told {l : Launch} {G : zG} {V : zV} (w : wC G V) (M : zM) (P : Nat → Nat) (D : Nat × Nat) (x : Int32) : zF l y_S_told b_S_told 1 (some .int) 0 0 G [.int x] (eC V M P D) (some (.int (sTold x))) (eC V M P D) := by
  refine zF.ofZ (by decide) w.2.2.2.2 (Nat.le_of_ble_eq_true rfl) (fun X hXl hN hr C => ?_)
  subst hXl
  show Z X G (zA G) 1 _ (eC V M P D) 0 [(0, .int x)] []
  refine Z_iload_n C 0 d_S_told_0 rfl rfl ?_
  refine Z_if_lt (tgt := 10) C d_S_told_1 (by decide) (fun c1 => ?_) (fun c1 => ?_)
  · skip
    refine Z_ldc C co_S_108 d_S_told_10 ?_
    refine Z_goto (tgt := 16) C d_S_told_12 (by decide) ?_
    exact Z_iret C hN hr d_S_told_16 (by simp [sTold, c1]) (zeq (rfl))
  · skip
    refine Z_iload_n C 0 d_S_told_4 rfl rfl ?_
    refine Z_ldc C co_S_108 d_S_told_5 ?_
    refine Z_icmp_le (tgt := 15) C d_S_told_7 (by decide) (fun c7 => ?_) (fun c7 => ?_)
    · skip
      refine Z_iload_n C 0 d_S_told_15 rfl rfl ?_
      exact Z_iret C hN hr d_S_told_16 (by simp [sTold, c1, c7]) (zeq (rfl))
    · skip
      refine Z_ldc C co_S_108 d_S_told_10 ?_
      refine Z_goto (tgt := 16) C d_S_told_12 (by decide) ?_
      exact Z_iret C hN hr d_S_told_16 (by simp [sTold, c1, c7]) (zeq (rfl))

