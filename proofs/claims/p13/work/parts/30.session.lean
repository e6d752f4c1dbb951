/-! THE SESSION's METHODS: what they answer and write, over its row q of ints -/
def sSlowed (q : Nat → Int32) (p : Int32) : Int32 := if q 3 = 3 then p else imx p 100
def sPause (q : Nat → Int32) : Int32 := if q 10 = 0 then 0 else imx (sSlowed q (q 14)) (q 10)
def sTold (x : Int32) : Int32 := if x < 0 then 100000 else if x ≤ 100000 then x else 100000
def sUse (q : Nat → Int32) : Nat → Int32 := upd (upd q 14 (q 7)) 15 (q 8)
def sHurry (q : Nat → Int32) : Nat → Int32 := if sPause q = 0 ∨ q 16 = 0 ∨ sPause q < q 16 then upd q 16 (sPause q) else q
def sBegin0 (q : Nat → Int32) (tx rx m : Int32) : Nat → Int32 := upd (upd (sUse (upd (upd (upd (upd (upd (upd (upd (upd (upd (upd (upd (upd q 2 1) 3 1) 4 1) 5 0) 6 0) 7 tx) 8 rx) 9 m) 10 1) 11 0) 12 0) 13 0)) 17 0) 18 0
def sBegin (q : Nat → Int32) (tx rx m : Int32) : Nat → Int32 := upd (sBegin0 q tx rx m) 16 (sPause (sBegin0 q tx rx m))
def sWant1 (q : Nat → Int32) (tx rx : Int32) : Nat → Int32 := upd (upd q 7 tx) 8 rx
def sWant2 (q : Nat → Int32) : Nat → Int32 := if q 3 = 3 then upd (upd (upd q 13 1) 14 (imn (q 14) (q 7))) 15 (imx (q 15) (q 8)) else sUse q
def sWant (q : Nat → Int32) (tx rx : Int32) : Nat → Int32 := sHurry (sWant2 (sWant1 q tx rx))
def sShut (q : Nat → Int32) : Nat → Int32 := upd (upd (upd q 3 0) 6 7) 13 0
def sComeUp (q : Nat → Int32) : Nat → Int32 := upd (upd q 3 3) 18 (q 18 + 1)
def sFall (q : Nat → Int32) (why : Int32) : Nat → Int32 := if q 3 = 2 ∨ q 3 = 3 then upd (upd q 6 why) 3 1 else q
def sFollow (q : Nat → Int32) : Nat → Int32 := if q 3 = 0 then q else if q 4 = 0 then sFall q 3 else if q 3 = 1 then (if q 4 = 1 then upd q 3 2 else if q 4 = 2 then sComeUp q else q) else if q 3 = 2 then (if q 4 = 1 then q else sComeUp q) else if q 4 = 1 then sFall q 3 else q
def sDetect (q : Nat → Int32) : Nat → Int32 := if 0 < q 17 then (if q 17 - 1 = 0 then sFall (upd (upd q 17 (q 17 - 1)) 5 0) 1 else upd q 17 (q 17 - 1)) else q
def sFires (q : Nat → Int32) : Nat → Int32 := if 0 < q 16 then upd q 16 (q 16 - 1) else q
def sFired (q : Nat → Int32) : Int32 := if 0 < q 16 then (if q 16 - 1 = 0 then 1 else 0) else 0
def sTell (q : Nat → Int32) (x : Int32) : Int32 := if x = 0 then q 3 else if x = 1 then q 4 else if x = 2 then q 5 else if x = 3 then q 6 else if x = 4 then q 16 else if x = 5 then q 17 else if x = 6 then q 14 else if x = 7 then q 15 else if x = 8 then (if q 13 = 0 then 0 else 1) else if x = 9 then q 10 else if x = 10 then q 11 else if x = 11 then q 18 else -1
set_option maxRecDepth 100000 in
set_option maxHeartbeats 4000000 in
theorem c_S_useRates {l : Launch} {G : zG} {V : zV} (w : wC G V) (M : zM) (P : Nat → Nat) (D : Nat × Nat) (i j : Nat) (hi : i < 5) (hj : j < 5) : zF l y_S_useRates b_S_useRates 1 none 0 0 G [.ref (V.1 5 i j)] (eC V M P D) none (eC V (rw4 M 5 i j (sUse (M 5 i j))) P D) := by
  refine zF.ofZ (by decide) w.2.2.2.2 (Nat.le_of_ble_eq_true rfl) (fun X hXl hN hr C => ?_)
  subst hXl
  show Z X G (zA G) 1 _ (eC V M P D) 0 [(0, .ref (V.1 5 i j))] []
  refine Z_aload_n C 0 d_S_useRates_0 rfl rfl ?_
  refine Z_aload_n C 0 d_S_useRates_1 rfl rfl ?_
  refine C_gS C w (by assumption) (by assumption) 7 (by decide) fl_S_34 rfl rfl d_S_useRates_2 ?_
  refine C_pS C w (by assumption) (by assumption) 14 (by decide) fl_S_71 rfl rfl rfl rfl rfl d_S_useRates_5 ?_
  refine Z_aload_n C 0 d_S_useRates_8 rfl rfl ?_
  refine Z_aload_n C 0 d_S_useRates_9 rfl rfl ?_
  refine C_gS C w (by assumption) (by assumption) 8 (by decide) fl_S_37 rfl rfl d_S_useRates_10 ?_
  refine C_pS C w (by assumption) (by assumption) 15 (by decide) fl_S_80 rfl rfl rfl rfl rfl d_S_useRates_13 ?_
  exact Z_vret C hN hr d_S_useRates_16 rfl (zeq (by apply eC_M; simp only [up_eq, rw4_rw4, rw4_self, rw4_id, sUse]; rfl))
set_option maxRecDepth 100000 in
set_option maxHeartbeats 4000000 in
theorem c_S_slowed {l : Launch} {G : zG} {V : zV} (w : wC G V) (M : zM) (P : Nat → Nat) (D : Nat × Nat) (i j : Nat) (hi : i < 5) (hj : j < 5) (p : Int32) : zF l y_S_slowed b_S_slowed 2 (some .int) 1 21 G [.ref (V.1 5 i j), .int p] (eC V M P D) (some (.int (sSlowed (M 5 i j) p))) (eC V M P D) := by
  refine zF.ofZ (by decide) w.2.2.2.2 (Nat.le_of_ble_eq_true rfl) (fun X hXl hN hr C => ?_)
  subst hXl
  show Z X G (zA G) 2 _ (eC V M P D) 0 [(0, .ref (V.1 5 i j)), (1, .int p)] []
  refine Z_aload_n C 0 d_S_slowed_0 rfl rfl ?_
  refine C_gS C w (by assumption) (by assumption) 3 (by decide) fl_S_22 rfl rfl d_S_slowed_1 ?_
  refine Z_iconst (v := 3) C d_S_slowed_4 (by decide) ?_
  refine Z_icmp_ne (tgt := 12) C d_S_slowed_5 (by decide) (fun c5 => ?_) (fun c5 => ?_)
  · skip
    refine Z_iload_n C 1 d_S_slowed_12 rfl rfl ?_
    refine Z_bipush (v := 100) C d_S_slowed_13 (by decide) ?_
    refine Z_mmax C ml_S_83 mx_s ma_i mx_c ⟨Nat.le_of_ble_eq_true rfl, Nat.le_of_ble_eq_true rfl⟩ d_S_slowed_15 ?_
    exact Z_iret C hN hr d_S_slowed_18 (by simp [sSlowed, imx, c5]) (zeq (rfl))
  · skip
    refine Z_iload_n C 1 d_S_slowed_8 rfl rfl ?_
    refine Z_goto (tgt := 18) C d_S_slowed_9 (by decide) ?_
    exact Z_iret C hN hr d_S_slowed_18 (by simp [sSlowed, imx, c5]) (zeq (rfl))
set_option maxRecDepth 100000 in
set_option maxHeartbeats 4000000 in
theorem c_S_sendPause {l : Launch} {G : zG} {V : zV} (w : wC G V) (M : zM) (P : Nat → Nat) (D : Nat × Nat) (i j : Nat) (hi : i < 5) (hj : j < 5) : zF l y_S_sendPause b_S_sendPause 1 (some .int) 2 42 G [.ref (V.1 5 i j)] (eC V M P D) (some (.int (sPause (M 5 i j)))) (eC V M P D) := by
  refine zF.ofZ (by decide) w.2.2.2.2 (Nat.le_of_ble_eq_true rfl) (fun X hXl hN hr C => ?_)
  subst hXl
  show Z X G (zA G) 1 _ (eC V M P D) 0 [(0, .ref (V.1 5 i j))] []
  refine Z_aload_n C 0 d_S_sendPause_0 rfl rfl ?_
  refine C_gS C w (by assumption) (by assumption) 10 (by decide) fl_S_43 rfl rfl d_S_sendPause_1 ?_
  refine Z_if_ne (tgt := 11) C d_S_sendPause_4 (by decide) (fun c4 => ?_) (fun c4 => ?_)
  · skip
    refine Z_aload_n C 0 d_S_sendPause_11 rfl rfl ?_
    refine Z_aload_n C 0 d_S_sendPause_12 rfl rfl ?_
    refine C_gS C w (by assumption) (by assumption) 14 (by decide) fl_S_71 rfl rfl d_S_sendPause_13 ?_
    refine C_cSv C w (by assumption) (by assumption) mi_S_slowed ml_S_89 (c_S_slowed w _ _ _ _ _ (by assumption) (by assumption) _) rfl rfl (by decide) rfl (Nat.le_of_ble_eq_true rfl) d_S_sendPause_16 ?_
    refine Z_aload_n C 0 d_S_sendPause_19 rfl rfl ?_
    refine C_gS C w (by assumption) (by assumption) 10 (by decide) fl_S_43 rfl rfl d_S_sendPause_20 ?_
    refine Z_mmax C ml_S_83 mx_s ma_i mx_c ⟨Nat.le_of_ble_eq_true rfl, Nat.le_of_ble_eq_true rfl⟩ d_S_sendPause_23 ?_
    exact Z_iret C hN hr d_S_sendPause_26 (by simp [sPause, imx, c4]) (zeq (rfl))
  · skip
    refine Z_iconst (v := 0) C d_S_sendPause_7 (by decide) ?_
    refine Z_goto (tgt := 26) C d_S_sendPause_8 (by decide) ?_
    exact Z_iret C hN hr d_S_sendPause_26 (by simp [sPause, imx, c4]) (zeq (rfl))
set_option maxRecDepth 100000 in
set_option maxHeartbeats 4000000 in
theorem c_S_told {l : Launch} {G : zG} {V : zV} (w : wC G V) (M : zM) (P : Nat → Nat) (D : Nat × Nat) (x : Int32) : zF l y_S_told b_S_told 1 (some .int) 0 0 G [.int x] (eC V M P D) (some (.int (sTold x))) (eC V M P D) := by
  refine zF.ofZ (by decide) w.2.2.2.2 (Nat.le_of_ble_eq_true rfl) (fun X hXl hN hr C => ?_)
  subst hXl
  show Z X G (zA G) 1 _ (eC V M P D) 0 [(0, .int x)] []
  refine Z_iload_n C 0 d_S_told_0 rfl rfl ?_
  refine Z_if_lt (tgt := 10) C d_S_told_1 (by decide) (fun c1 => ?_) (fun c1 => ?_)
  · skip
    refine Z_ldc C co_S_108 d_S_told_10 ?_
    refine Z_goto (tgt := 16) C d_S_told_12 (by decide) ?_
    exact Z_iret C hN hr d_S_told_16 (by simp [sTold, c1]) (zeq (rfl))
  · skip
    refine Z_iload_n C 0 d_S_told_4 rfl rfl ?_
    refine Z_ldc C co_S_108 d_S_told_5 ?_
    refine Z_icmp_le (tgt := 15) C d_S_told_7 (by decide) (fun c7 => ?_) (fun c7 => ?_)
    · skip
      refine Z_iload_n C 0 d_S_told_15 rfl rfl ?_
      exact Z_iret C hN hr d_S_told_16 (by simp [sTold, c1, c7]) (zeq (rfl))
    · skip
      refine Z_ldc C co_S_108 d_S_told_10 ?_
      refine Z_goto (tgt := 16) C d_S_told_12 (by decide) ?_
      exact Z_iret C hN hr d_S_told_16 (by simp [sTold, c1, c7]) (zeq (rfl))
set_option maxRecDepth 100000 in
set_option maxHeartbeats 4000000 in
theorem c_S_hurrySend {l : Launch} {G : zG} {V : zV} (w : wC G V) (M : zM) (P : Nat → Nat) (D : Nat × Nat) (i j : Nat) (hi : i < 5) (hj : j < 5) : zF l y_S_hurrySend b_S_hurrySend 2 none 3 62 G [.ref (V.1 5 i j)] (eC V M P D) none (eC V (rw4 M 5 i j (sHurry (M 5 i j))) P D) := by
  refine zF.ofZ (by decide) w.2.2.2.2 (Nat.le_of_ble_eq_true rfl) (fun X hXl hN hr C => ?_)
  subst hXl
  show Z X G (zA G) 2 _ (eC V M P D) 0 [(0, .ref (V.1 5 i j))] []
  refine Z_aload_n C 0 d_S_hurrySend_0 rfl rfl ?_
  refine C_cSv C w (by assumption) (by assumption) mi_S_sendPause ml_S_64 (c_S_sendPause w _ _ _ _ _ (by assumption) (by assumption)) rfl rfl (by decide) rfl (Nat.le_of_ble_eq_true rfl) d_S_hurrySend_1 ?_
  refine Z_istore_n C d_S_hurrySend_4 rfl (by decide) rfl ?_
  refine Z_iload_n C 0 d_S_hurrySend_5 rfl rfl ?_
  refine Z_if_eq (tgt := 24) C d_S_hurrySend_6 (by decide) (fun c6 => ?_) (fun c6 => ?_)
  · skip
    refine Z_aload_n C 1 d_S_hurrySend_24 rfl rfl ?_
    refine Z_iload_n C 0 d_S_hurrySend_25 rfl rfl ?_
    refine C_pS C w (by assumption) (by assumption) 16 (by decide) fl_S_68 rfl rfl rfl rfl rfl d_S_hurrySend_26 ?_
    exact Z_vret C hN hr d_S_hurrySend_29 rfl (zeq (by apply eC_M; simp [up_eq, rw4_rw4, rw4_self, rw4_id, sHurry, ← Int32.not_le, c6]))
  · skip
    refine Z_aload_n C 1 d_S_hurrySend_9 rfl rfl ?_
    refine C_gS C w (by assumption) (by assumption) 16 (by decide) fl_S_68 rfl rfl d_S_hurrySend_10 ?_
    refine Z_if_eq (tgt := 24) C d_S_hurrySend_13 (by decide) (fun c13 => ?_) (fun c13 => ?_)
    · skip
      refine Z_aload_n C 1 d_S_hurrySend_24 rfl rfl ?_
      refine Z_iload_n C 0 d_S_hurrySend_25 rfl rfl ?_
      refine C_pS C w (by assumption) (by assumption) 16 (by decide) fl_S_68 rfl rfl rfl rfl rfl d_S_hurrySend_26 ?_
      exact Z_vret C hN hr d_S_hurrySend_29 rfl (zeq (by apply eC_M; simp [up_eq, rw4_rw4, rw4_self, rw4_id, sHurry, ← Int32.not_le, c6, c13]))
    · skip
      refine Z_aload_n C 1 d_S_hurrySend_16 rfl rfl ?_
      refine C_gS C w (by assumption) (by assumption) 16 (by decide) fl_S_68 rfl rfl d_S_hurrySend_17 ?_
      refine Z_iload_n C 0 d_S_hurrySend_20 rfl rfl ?_
      refine Z_icmp_le (tgt := 29) C d_S_hurrySend_21 (by decide) (fun c21 => ?_) (fun c21 => ?_)
      · skip
        exact Z_vret C hN hr d_S_hurrySend_29 rfl (zeq (by apply eC_M; simp [up_eq, rw4_rw4, rw4_self, rw4_id, sHurry, ← Int32.not_le, c6, c13, c21]))
      · skip
        refine Z_aload_n C 1 d_S_hurrySend_24 rfl rfl ?_
        refine Z_iload_n C 0 d_S_hurrySend_25 rfl rfl ?_
        refine C_pS C w (by assumption) (by assumption) 16 (by decide) fl_S_68 rfl rfl rfl rfl rfl d_S_hurrySend_26 ?_
        exact Z_vret C hN hr d_S_hurrySend_29 rfl (zeq (by apply eC_M; simp [up_eq, rw4_rw4, rw4_self, rw4_id, sHurry, ← Int32.not_le, c6, c13, c21]))
set_option maxRecDepth 100000 in
set_option maxHeartbeats 4000000 in
theorem c_S_begin {l : Launch} {G : zG} {V : zV} (w : wC G V) (M : zM) (P : Nat → Nat) (D : Nat × Nat) (i j : Nat) (hi : i < 5) (hj : j < 5) (tx rx m : Int32) : zF l y_S_begin b_S_begin 4 none 3 62 G [.ref (V.1 5 i j), .int tx, .int rx, .int m] (eC V M P D) none (eC V (rw4 M 5 i j (sBegin (M 5 i j) tx rx m)) P D) := by
  refine zF.ofZ (by decide) w.2.2.2.2 (Nat.le_of_ble_eq_true rfl) (fun X hXl hN hr C => ?_)
  subst hXl
  show Z X G (zA G) 4 _ (eC V M P D) 0 [(0, .ref (V.1 5 i j)), (1, .int tx), (2, .int rx), (3, .int m)] []
  refine Z_aload_n C 0 d_S_begin_0 rfl rfl ?_
  refine Z_iconst (v := 1) C d_S_begin_1 (by decide) ?_
  refine C_pS C w (by assumption) (by assumption) 2 (by decide) fl_S_18 rfl rfl rfl rfl rfl d_S_begin_2 ?_
  refine Z_aload_n C 0 d_S_begin_5 rfl rfl ?_
  refine Z_iconst (v := 1) C d_S_begin_6 (by decide) ?_
  refine C_pS C w (by assumption) (by assumption) 3 (by decide) fl_S_22 rfl rfl rfl rfl rfl d_S_begin_7 ?_
  refine Z_aload_n C 0 d_S_begin_10 rfl rfl ?_
  refine Z_iconst (v := 1) C d_S_begin_11 (by decide) ?_
  refine C_pS C w (by assumption) (by assumption) 4 (by decide) fl_S_25 rfl rfl rfl rfl rfl d_S_begin_12 ?_
  refine Z_aload_n C 0 d_S_begin_15 rfl rfl ?_
  refine Z_iconst (v := 0) C d_S_begin_16 (by decide) ?_
  refine C_pS C w (by assumption) (by assumption) 5 (by decide) fl_S_28 rfl rfl rfl rfl rfl d_S_begin_17 ?_
  refine Z_aload_n C 0 d_S_begin_20 rfl rfl ?_
  refine Z_iconst (v := 0) C d_S_begin_21 (by decide) ?_
  refine C_pS C w (by assumption) (by assumption) 6 (by decide) fl_S_31 rfl rfl rfl rfl rfl d_S_begin_22 ?_
  refine Z_aload_n C 0 d_S_begin_25 rfl rfl ?_
  refine Z_iload_n C 1 d_S_begin_26 rfl rfl ?_
  refine C_pS C w (by assumption) (by assumption) 7 (by decide) fl_S_34 rfl rfl rfl rfl rfl d_S_begin_27 ?_
  refine Z_aload_n C 0 d_S_begin_30 rfl rfl ?_
  refine Z_iload_n C 2 d_S_begin_31 rfl rfl ?_
  refine C_pS C w (by assumption) (by assumption) 8 (by decide) fl_S_37 rfl rfl rfl rfl rfl d_S_begin_32 ?_
  refine Z_aload_n C 0 d_S_begin_35 rfl rfl ?_
  refine Z_iload_n C 3 d_S_begin_36 rfl rfl ?_
  refine C_pS C w (by assumption) (by assumption) 9 (by decide) fl_S_40 rfl rfl rfl rfl rfl d_S_begin_37 ?_
  refine Z_aload_n C 0 d_S_begin_40 rfl rfl ?_
  refine Z_iconst (v := 1) C d_S_begin_41 (by decide) ?_
  refine C_pS C w (by assumption) (by assumption) 10 (by decide) fl_S_43 rfl rfl rfl rfl rfl d_S_begin_42 ?_
  refine Z_aload_n C 0 d_S_begin_45 rfl rfl ?_
  refine Z_iconst (v := 0) C d_S_begin_46 (by decide) ?_
  refine C_pS C w (by assumption) (by assumption) 11 (by decide) fl_S_46 rfl rfl rfl rfl rfl d_S_begin_47 ?_
  refine Z_aload_n C 0 d_S_begin_50 rfl rfl ?_
  refine Z_iconst (v := 0) C d_S_begin_51 (by decide) ?_
  refine C_pS C w (by assumption) (by assumption) 12 (by decide) fl_S_49 rfl rfl rfl rfl rfl d_S_begin_52 ?_
  refine Z_aload_n C 0 d_S_begin_55 rfl rfl ?_
  refine Z_iconst (v := 0) C d_S_begin_56 (by decide) ?_
  refine C_pS C w (by assumption) (by assumption) 13 (by decide) fl_S_52 rfl rfl rfl rfl rfl d_S_begin_57 ?_
  refine Z_aload_n C 0 d_S_begin_60 rfl rfl ?_
  refine C_cSn C w (by assumption) (by assumption) mi_S_useRates ml_S_55 (c_S_useRates w _ _ _ _ _ (by assumption) (by assumption)) rfl rfl (by decide) rfl (Nat.le_of_ble_eq_true rfl) d_S_begin_61 ?_
  refine Z_aload_n C 0 d_S_begin_64 rfl rfl ?_
  refine Z_iconst (v := 0) C d_S_begin_65 (by decide) ?_
  refine C_pS C w (by assumption) (by assumption) 17 (by decide) fl_S_58 rfl rfl rfl rfl rfl d_S_begin_66 ?_
  refine Z_aload_n C 0 d_S_begin_69 rfl rfl ?_
  refine Z_iconst (v := 0) C d_S_begin_70 (by decide) ?_
  refine C_pS C w (by assumption) (by assumption) 18 (by decide) fl_S_61 rfl rfl rfl rfl rfl d_S_begin_71 ?_
  refine Z_aload_n C 0 d_S_begin_74 rfl rfl ?_
  refine Z_aload_n C 0 d_S_begin_75 rfl rfl ?_
  refine C_cSv C w (by assumption) (by assumption) mi_S_sendPause ml_S_64 (c_S_sendPause w _ _ _ _ _ (by assumption) (by assumption)) rfl rfl (by decide) rfl (Nat.le_of_ble_eq_true rfl) d_S_begin_76 ?_
  refine C_pS C w (by assumption) (by assumption) 16 (by decide) fl_S_68 rfl rfl rfl rfl rfl d_S_begin_79 ?_
  exact Z_vret C hN hr d_S_begin_82 rfl (zeq (by apply eC_M; simp only [up_eq, rw4_rw4, rw4_self, rw4_id, sBegin, sBegin0]))
set_option maxRecDepth 100000 in
set_option maxHeartbeats 4000000 in
theorem c_S_wantRates {l : Launch} {G : zG} {V : zV} (w : wC G V) (M : zM) (P : Nat → Nat) (D : Nat × Nat) (i j : Nat) (hi : i < 5) (hj : j < 5) (tx rx : Int32) : zF l y_S_wantRates b_S_wantRates 3 none 4 83 G [.ref (V.1 5 i j), .int tx, .int rx] (eC V M P D) none (eC V (rw4 M 5 i j (sWant (M 5 i j) tx rx)) P D) := by
  refine zF.ofZ (by decide) w.2.2.2.2 (Nat.le_of_ble_eq_true rfl) (fun X hXl hN hr C => ?_)
  subst hXl
  show Z X G (zA G) 3 _ (eC V M P D) 0 [(0, .ref (V.1 5 i j)), (1, .int tx), (2, .int rx)] []
  refine Z_aload_n C 0 d_S_wantRates_0 rfl rfl ?_
  refine Z_iload_n C 1 d_S_wantRates_1 rfl rfl ?_
  refine C_pS C w (by assumption) (by assumption) 7 (by decide) fl_S_34 rfl rfl rfl rfl rfl d_S_wantRates_2 ?_
  refine Z_aload_n C 0 d_S_wantRates_5 rfl rfl ?_
  refine Z_iload_n C 2 d_S_wantRates_6 rfl rfl ?_
  refine C_pS C w (by assumption) (by assumption) 8 (by decide) fl_S_37 rfl rfl rfl rfl rfl d_S_wantRates_7 ?_
  refine Z_aload_n C 0 d_S_wantRates_10 rfl rfl ?_
  refine C_gS C w (by assumption) (by assumption) 3 (by decide) fl_S_22 rfl rfl d_S_wantRates_11 ?_
  refine Z_iconst (v := 3) C d_S_wantRates_14 (by decide) ?_
  refine Z_icmp_eq (tgt := 25) C d_S_wantRates_15 (by decide) (fun c15 => ?_) (fun c15 => ?_)
  · simp [up_eq, rw4_rw4, rw4_self, rw4_id, upd] at c15
    refine Z_aload_n C 0 d_S_wantRates_25 rfl rfl ?_
    refine Z_iconst (v := 1) C d_S_wantRates_26 (by decide) ?_
    refine C_pS C w (by assumption) (by assumption) 13 (by decide) fl_S_52 rfl rfl rfl rfl rfl d_S_wantRates_27 ?_
    refine Z_aload_n C 0 d_S_wantRates_30 rfl rfl ?_
    refine Z_aload_n C 0 d_S_wantRates_31 rfl rfl ?_
    refine C_gS C w (by assumption) (by assumption) 14 (by decide) fl_S_71 rfl rfl d_S_wantRates_32 ?_
    refine Z_aload_n C 0 d_S_wantRates_35 rfl rfl ?_
    refine C_gS C w (by assumption) (by assumption) 7 (by decide) fl_S_34 rfl rfl d_S_wantRates_36 ?_
    refine Z_mmin C ml_S_74 mn_s ma_i mn_c ⟨Nat.le_of_ble_eq_true rfl, Nat.le_of_ble_eq_true rfl⟩ d_S_wantRates_39 ?_
    refine C_pS C w (by assumption) (by assumption) 14 (by decide) fl_S_71 rfl rfl rfl rfl rfl d_S_wantRates_42 ?_
    refine Z_aload_n C 0 d_S_wantRates_45 rfl rfl ?_
    refine Z_aload_n C 0 d_S_wantRates_46 rfl rfl ?_
    refine C_gS C w (by assumption) (by assumption) 15 (by decide) fl_S_80 rfl rfl d_S_wantRates_47 ?_
    refine Z_aload_n C 0 d_S_wantRates_50 rfl rfl ?_
    refine C_gS C w (by assumption) (by assumption) 8 (by decide) fl_S_37 rfl rfl d_S_wantRates_51 ?_
    refine Z_mmax C ml_S_83 mx_s ma_i mx_c ⟨Nat.le_of_ble_eq_true rfl, Nat.le_of_ble_eq_true rfl⟩ d_S_wantRates_54 ?_
    refine C_pS C w (by assumption) (by assumption) 15 (by decide) fl_S_80 rfl rfl rfl rfl rfl d_S_wantRates_57 ?_
    refine Z_aload_n C 0 d_S_wantRates_60 rfl rfl ?_
    refine C_cSn C w (by assumption) (by assumption) mi_S_hurrySend ml_S_86 (c_S_hurrySend w _ _ _ _ _ (by assumption) (by assumption)) rfl rfl (by decide) rfl (Nat.le_of_ble_eq_true rfl) d_S_wantRates_61 ?_
    exact Z_vret C hN hr d_S_wantRates_64 rfl (zeq (by apply eC_M; simp only [up_eq, rw4_rw4, rw4_self, rw4_id, sWant]; congr 1; unfold sWant2 sWant1; simp [c15, imn, imx, sUse, upd]))
  · simp [up_eq, rw4_rw4, rw4_self, rw4_id, upd] at c15
    refine Z_aload_n C 0 d_S_wantRates_18 rfl rfl ?_
    refine C_cSn C w (by assumption) (by assumption) mi_S_useRates ml_S_55 (c_S_useRates w _ _ _ _ _ (by assumption) (by assumption)) rfl rfl (by decide) rfl (Nat.le_of_ble_eq_true rfl) d_S_wantRates_19 ?_
    refine Z_goto (tgt := 60) C d_S_wantRates_22 (by decide) ?_
    refine Z_aload_n C 0 d_S_wantRates_60 rfl rfl ?_
    refine C_cSn C w (by assumption) (by assumption) mi_S_hurrySend ml_S_86 (c_S_hurrySend w _ _ _ _ _ (by assumption) (by assumption)) rfl rfl (by decide) rfl (Nat.le_of_ble_eq_true rfl) d_S_wantRates_61 ?_
    exact Z_vret C hN hr d_S_wantRates_64 rfl (zeq (by apply eC_M; simp only [up_eq, rw4_rw4, rw4_self, rw4_id, sWant]; congr 1; unfold sWant2 sWant1; simp [c15, imn, imx, sUse, upd]))
set_option maxRecDepth 100000 in
set_option maxHeartbeats 4000000 in
theorem c_S_shut {l : Launch} {G : zG} {V : zV} (w : wC G V) (M : zM) (P : Nat → Nat) (D : Nat × Nat) (i j : Nat) (hi : i < 5) (hj : j < 5) : zF l y_S_shut b_S_shut 1 none 0 0 G [.ref (V.1 5 i j)] (eC V M P D) none (eC V (rw4 M 5 i j (sShut (M 5 i j))) P D) := by
  refine zF.ofZ (by decide) w.2.2.2.2 (Nat.le_of_ble_eq_true rfl) (fun X hXl hN hr C => ?_)
  subst hXl
  show Z X G (zA G) 1 _ (eC V M P D) 0 [(0, .ref (V.1 5 i j))] []
  refine Z_aload_n C 0 d_S_shut_0 rfl rfl ?_
  refine Z_iconst (v := 0) C d_S_shut_1 (by decide) ?_
  refine C_pS C w (by assumption) (by assumption) 3 (by decide) fl_S_22 rfl rfl rfl rfl rfl d_S_shut_2 ?_
  refine Z_aload_n C 0 d_S_shut_5 rfl rfl ?_
  refine Z_bipush (v := 7) C d_S_shut_6 (by decide) ?_
  refine C_pS C w (by assumption) (by assumption) 6 (by decide) fl_S_31 rfl rfl rfl rfl rfl d_S_shut_8 ?_
  refine Z_aload_n C 0 d_S_shut_11 rfl rfl ?_
  refine Z_iconst (v := 0) C d_S_shut_12 (by decide) ?_
  refine C_pS C w (by assumption) (by assumption) 13 (by decide) fl_S_52 rfl rfl rfl rfl rfl d_S_shut_13 ?_
  exact Z_vret C hN hr d_S_shut_16 rfl (zeq (by apply eC_M; simp only [up_eq, rw4_rw4, rw4_self, rw4_id, sShut]))
set_option maxRecDepth 100000 in
set_option maxHeartbeats 4000000 in
theorem c_S_comeUp {l : Launch} {G : zG} {V : zV} (w : wC G V) (M : zM) (P : Nat → Nat) (D : Nat × Nat) (i j : Nat) (hi : i < 5) (hj : j < 5) : zF l y_S_comeUp b_S_comeUp 1 none 0 0 G [.ref (V.1 5 i j)] (eC V M P D) none (eC V (rw4 M 5 i j (sComeUp (M 5 i j))) P D) := by
  refine zF.ofZ (by decide) w.2.2.2.2 (Nat.le_of_ble_eq_true rfl) (fun X hXl hN hr C => ?_)
  subst hXl
  show Z X G (zA G) 1 _ (eC V M P D) 0 [(0, .ref (V.1 5 i j))] []
  refine Z_aload_n C 0 d_S_comeUp_0 rfl rfl ?_
  refine Z_iconst (v := 3) C d_S_comeUp_1 (by decide) ?_
  refine C_pS C w (by assumption) (by assumption) 3 (by decide) fl_S_22 rfl rfl rfl rfl rfl d_S_comeUp_2 ?_
  refine Z_aload_n C 0 d_S_comeUp_5 rfl rfl ?_
  refine Z_dup C d_S_comeUp_6 rfl ?_
  refine C_gS C w (by assumption) (by assumption) 18 (by decide) fl_S_61 rfl rfl d_S_comeUp_7 ?_
  refine Z_iconst (v := 1) C d_S_comeUp_10 (by decide) ?_
  refine Z_iadd C d_S_comeUp_11 ?_
  refine C_pS C w (by assumption) (by assumption) 18 (by decide) fl_S_61 rfl rfl rfl rfl rfl d_S_comeUp_12 ?_
  exact Z_vret C hN hr d_S_comeUp_15 rfl (zeq (by apply eC_M; simp only [up_eq, rw4_rw4, rw4_self, rw4_id, sComeUp]; rfl))
set_option maxRecDepth 100000 in
set_option maxHeartbeats 4000000 in
theorem c_S_fall {l : Launch} {G : zG} {V : zV} (w : wC G V) (M : zM) (P : Nat → Nat) (D : Nat × Nat) (i j : Nat) (hi : i < 5) (hj : j < 5) (why : Int32) : zF l y_S_fall b_S_fall 2 none 0 0 G [.ref (V.1 5 i j), .int why] (eC V M P D) none (eC V (rw4 M 5 i j (sFall (M 5 i j) why)) P D) := by
  refine zF.ofZ (by decide) w.2.2.2.2 (Nat.le_of_ble_eq_true rfl) (fun X hXl hN hr C => ?_)
  subst hXl
  show Z X G (zA G) 2 _ (eC V M P D) 0 [(0, .ref (V.1 5 i j)), (1, .int why)] []
  refine Z_aload_n C 0 d_S_fall_0 rfl rfl ?_
  refine C_gS C w (by assumption) (by assumption) 3 (by decide) fl_S_22 rfl rfl d_S_fall_1 ?_
  refine Z_iconst (v := 2) C d_S_fall_4 (by decide) ?_
  refine Z_icmp_eq (tgt := 16) C d_S_fall_5 (by decide) (fun c5 => ?_) (fun c5 => ?_)
  · skip
    refine Z_aload_n C 0 d_S_fall_16 rfl rfl ?_
    refine Z_iload_n C 1 d_S_fall_17 rfl rfl ?_
    refine C_pS C w (by assumption) (by assumption) 6 (by decide) fl_S_31 rfl rfl rfl rfl rfl d_S_fall_18 ?_
    refine Z_aload_n C 0 d_S_fall_21 rfl rfl ?_
    refine Z_iconst (v := 1) C d_S_fall_22 (by decide) ?_
    refine C_pS C w (by assumption) (by assumption) 3 (by decide) fl_S_22 rfl rfl rfl rfl rfl d_S_fall_23 ?_
    exact Z_vret C hN hr d_S_fall_26 rfl (zeq (by apply eC_M; simp [up_eq, rw4_rw4, rw4_self, rw4_id, sFall, c5]))
  · skip
    refine Z_aload_n C 0 d_S_fall_8 rfl rfl ?_
    refine C_gS C w (by assumption) (by assumption) 3 (by decide) fl_S_22 rfl rfl d_S_fall_9 ?_
    refine Z_iconst (v := 3) C d_S_fall_12 (by decide) ?_
    refine Z_icmp_ne (tgt := 26) C d_S_fall_13 (by decide) (fun c13 => ?_) (fun c13 => ?_)
    · skip
      exact Z_vret C hN hr d_S_fall_26 rfl (zeq (by apply eC_M; simp [up_eq, rw4_rw4, rw4_self, rw4_id, sFall, c5, c13]))
    · skip
      refine Z_aload_n C 0 d_S_fall_16 rfl rfl ?_
      refine Z_iload_n C 1 d_S_fall_17 rfl rfl ?_
      refine C_pS C w (by assumption) (by assumption) 6 (by decide) fl_S_31 rfl rfl rfl rfl rfl d_S_fall_18 ?_
      refine Z_aload_n C 0 d_S_fall_21 rfl rfl ?_
      refine Z_iconst (v := 1) C d_S_fall_22 (by decide) ?_
      refine C_pS C w (by assumption) (by assumption) 3 (by decide) fl_S_22 rfl rfl rfl rfl rfl d_S_fall_23 ?_
      exact Z_vret C hN hr d_S_fall_26 rfl (zeq (by apply eC_M; simp [up_eq, rw4_rw4, rw4_self, rw4_id, sFall, c5, c13]))
set_option maxRecDepth 100000 in
set_option maxHeartbeats 4000000 in
theorem c_S_follow {l : Launch} {G : zG} {V : zV} (w : wC G V) (M : zM) (P : Nat → Nat) (D : Nat × Nat) (i j : Nat) (hi : i < 5) (hj : j < 5) : zF l y_S_follow b_S_follow 1 none 1 21 G [.ref (V.1 5 i j)] (eC V M P D) none (eC V (rw4 M 5 i j (sFollow (M 5 i j))) P D) := by
  refine zF.ofZ (by decide) w.2.2.2.2 (Nat.le_of_ble_eq_true rfl) (fun X hXl hN hr C => ?_)
  subst hXl
  show Z X G (zA G) 1 _ (eC V M P D) 0 [(0, .ref (V.1 5 i j))] []
  refine Z_aload_n C 0 d_S_follow_0 rfl rfl ?_
  refine C_gS C w (by assumption) (by assumption) 3 (by decide) fl_S_22 rfl rfl d_S_follow_1 ?_
  refine Z_if_ne (tgt := 8) C d_S_follow_4 (by decide) (fun c4 => ?_) (fun c4 => ?_)
  · skip
    refine Z_aload_n C 0 d_S_follow_8 rfl rfl ?_
    refine C_gS C w (by assumption) (by assumption) 4 (by decide) fl_S_25 rfl rfl d_S_follow_9 ?_
    refine Z_if_ne (tgt := 23) C d_S_follow_12 (by decide) (fun c12 => ?_) (fun c12 => ?_)
    · skip
      refine Z_aload_n C 0 d_S_follow_23 rfl rfl ?_
      refine C_gS C w (by assumption) (by assumption) 3 (by decide) fl_S_22 rfl rfl d_S_follow_24 ?_
      refine Z_iconst (v := 1) C d_S_follow_27 (by decide) ?_
      refine Z_icmp_ne (tgt := 62) C d_S_follow_28 (by decide) (fun c28 => ?_) (fun c28 => ?_)
      · skip
        refine Z_aload_n C 0 d_S_follow_62 rfl rfl ?_
        refine C_gS C w (by assumption) (by assumption) 3 (by decide) fl_S_22 rfl rfl d_S_follow_63 ?_
        refine Z_iconst (v := 2) C d_S_follow_66 (by decide) ?_
        refine Z_icmp_ne (tgt := 85) C d_S_follow_67 (by decide) (fun c67 => ?_) (fun c67 => ?_)
        · skip
          refine Z_aload_n C 0 d_S_follow_85 rfl rfl ?_
          refine C_gS C w (by assumption) (by assumption) 4 (by decide) fl_S_25 rfl rfl d_S_follow_86 ?_
          refine Z_iconst (v := 1) C d_S_follow_89 (by decide) ?_
          refine Z_icmp_ne (tgt := 98) C d_S_follow_90 (by decide) (fun c90 => ?_) (fun c90 => ?_)
          · skip
            exact Z_vret C hN hr d_S_follow_98 rfl (zeq (by apply eC_M; simp [up_eq, rw4_rw4, rw4_self, rw4_id, sFollow, c4, c12, c28, c67, c90]))
          · skip
            refine Z_aload_n C 0 d_S_follow_93 rfl rfl ?_
            refine Z_iconst (v := 3) C d_S_follow_94 (by decide) ?_
            refine C_cSn C w (by assumption) (by assumption) mi_S_fall ml_S_109 (c_S_fall w _ _ _ _ _ (by assumption) (by assumption) _) rfl rfl (by decide) rfl (Nat.le_of_ble_eq_true rfl) d_S_follow_95 ?_
            exact Z_vret C hN hr d_S_follow_98 rfl (zeq (by apply eC_M; simp [up_eq, rw4_rw4, rw4_self, rw4_id, sFollow, c4, c12, c28, c67, c90]))
        · skip
          refine Z_aload_n C 0 d_S_follow_70 rfl rfl ?_
          refine C_gS C w (by assumption) (by assumption) 4 (by decide) fl_S_25 rfl rfl d_S_follow_71 ?_
          refine Z_iconst (v := 1) C d_S_follow_74 (by decide) ?_
          refine Z_icmp_eq (tgt := 98) C d_S_follow_75 (by decide) (fun c75 => ?_) (fun c75 => ?_)
          · skip
            exact Z_vret C hN hr d_S_follow_98 rfl (zeq (by apply eC_M; simp [up_eq, rw4_rw4, rw4_self, rw4_id, sFollow, c4, c12, c28, c67, c75]))
          · skip
            refine Z_aload_n C 0 d_S_follow_78 rfl rfl ?_
            refine C_cSn C w (by assumption) (by assumption) mi_S_comeUp ml_S_113 (c_S_comeUp w _ _ _ _ _ (by assumption) (by assumption)) rfl rfl (by decide) rfl (Nat.le_of_ble_eq_true rfl) d_S_follow_79 ?_
            refine Z_goto (tgt := 98) C d_S_follow_82 (by decide) ?_
            exact Z_vret C hN hr d_S_follow_98 rfl (zeq (by apply eC_M; simp [up_eq, rw4_rw4, rw4_self, rw4_id, sFollow, c4, c12, c28, c67, c75]))
      · skip
        refine Z_aload_n C 0 d_S_follow_31 rfl rfl ?_
        refine C_gS C w (by assumption) (by assumption) 4 (by decide) fl_S_25 rfl rfl d_S_follow_32 ?_
        refine Z_iconst (v := 1) C d_S_follow_35 (by decide) ?_
        refine Z_icmp_ne (tgt := 47) C d_S_follow_36 (by decide) (fun c36 => ?_) (fun c36 => ?_)
        · skip
          refine Z_aload_n C 0 d_S_follow_47 rfl rfl ?_
          refine C_gS C w (by assumption) (by assumption) 4 (by decide) fl_S_25 rfl rfl d_S_follow_48 ?_
          refine Z_iconst (v := 2) C d_S_follow_51 (by decide) ?_
          refine Z_icmp_ne (tgt := 98) C d_S_follow_52 (by decide) (fun c52 => ?_) (fun c52 => ?_)
          · skip
            exact Z_vret C hN hr d_S_follow_98 rfl (zeq (by apply eC_M; simp [up_eq, rw4_rw4, rw4_self, rw4_id, sFollow, c4, c12, c28, c36, c52]))
          · skip
            refine Z_aload_n C 0 d_S_follow_55 rfl rfl ?_
            refine C_cSn C w (by assumption) (by assumption) mi_S_comeUp ml_S_113 (c_S_comeUp w _ _ _ _ _ (by assumption) (by assumption)) rfl rfl (by decide) rfl (Nat.le_of_ble_eq_true rfl) d_S_follow_56 ?_
            refine Z_goto (tgt := 98) C d_S_follow_59 (by decide) ?_
            exact Z_vret C hN hr d_S_follow_98 rfl (zeq (by apply eC_M; simp [up_eq, rw4_rw4, rw4_self, rw4_id, sFollow, c4, c12, c28, c36, c52]))
        · skip
          refine Z_aload_n C 0 d_S_follow_39 rfl rfl ?_
          refine Z_iconst (v := 2) C d_S_follow_40 (by decide) ?_
          refine C_pS C w (by assumption) (by assumption) 3 (by decide) fl_S_22 rfl rfl rfl rfl rfl d_S_follow_41 ?_
          refine Z_goto (tgt := 98) C d_S_follow_44 (by decide) ?_
          exact Z_vret C hN hr d_S_follow_98 rfl (zeq (by apply eC_M; simp [up_eq, rw4_rw4, rw4_self, rw4_id, sFollow, c4, c12, c28, c36]))
    · skip
      refine Z_aload_n C 0 d_S_follow_15 rfl rfl ?_
      refine Z_iconst (v := 3) C d_S_follow_16 (by decide) ?_
      refine C_cSn C w (by assumption) (by assumption) mi_S_fall ml_S_109 (c_S_fall w _ _ _ _ _ (by assumption) (by assumption) _) rfl rfl (by decide) rfl (Nat.le_of_ble_eq_true rfl) d_S_follow_17 ?_
      refine Z_goto (tgt := 98) C d_S_follow_20 (by decide) ?_
      exact Z_vret C hN hr d_S_follow_98 rfl (zeq (by apply eC_M; simp [up_eq, rw4_rw4, rw4_self, rw4_id, sFollow, c4, c12]))
  · skip
    exact Z_vret C hN hr d_S_follow_7 rfl (zeq (by apply eC_M; simp [up_eq, rw4_rw4, rw4_self, rw4_id, sFollow, c4]))
set_option maxRecDepth 100000 in
set_option maxHeartbeats 4000000 in
theorem c_S_runDetect {l : Launch} {G : zG} {V : zV} (w : wC G V) (M : zM) (P : Nat → Nat) (D : Nat × Nat) (i j : Nat) (hi : i < 5) (hj : j < 5) : zF l y_S_runDetect b_S_runDetect 1 none 1 21 G [.ref (V.1 5 i j)] (eC V M P D) none (eC V (rw4 M 5 i j (sDetect (M 5 i j))) P D) := by
  refine zF.ofZ (by decide) w.2.2.2.2 (Nat.le_of_ble_eq_true rfl) (fun X hXl hN hr C => ?_)
  subst hXl
  show Z X G (zA G) 1 _ (eC V M P D) 0 [(0, .ref (V.1 5 i j))] []
  refine Z_aload_n C 0 d_S_runDetect_0 rfl rfl ?_
  refine C_gS C w (by assumption) (by assumption) 17 (by decide) fl_S_58 rfl rfl d_S_runDetect_1 ?_
  refine Z_if_le (tgt := 34) C d_S_runDetect_4 (by decide) (fun c4 => ?_) (fun c4 => ?_)
  · try simp [up_eq, rw4_rw4, rw4_self, rw4_id, upd] at c4
    exact Z_vret C hN hr d_S_runDetect_34 rfl (zeq (by apply eC_M; simp [up_eq, rw4_rw4, rw4_self, rw4_id, sDetect, ← Int32.not_le, c4]))
  · try simp [up_eq, rw4_rw4, rw4_self, rw4_id, upd] at c4
    refine Z_aload_n C 0 d_S_runDetect_7 rfl rfl ?_
    refine Z_dup C d_S_runDetect_8 rfl ?_
    refine C_gS C w (by assumption) (by assumption) 17 (by decide) fl_S_58 rfl rfl d_S_runDetect_9 ?_
    refine Z_iconst (v := 1) C d_S_runDetect_12 (by decide) ?_
    refine Z_isub C d_S_runDetect_13 ?_
    refine C_pS C w (by assumption) (by assumption) 17 (by decide) fl_S_58 rfl rfl rfl rfl rfl d_S_runDetect_14 ?_
    refine Z_aload_n C 0 d_S_runDetect_17 rfl rfl ?_
    refine C_gS C w (by assumption) (by assumption) 17 (by decide) fl_S_58 rfl rfl d_S_runDetect_18 ?_
    refine Z_if_ne (tgt := 34) C d_S_runDetect_21 (by decide) (fun c21 => ?_) (fun c21 => ?_)
    · try simp [up_eq, rw4_rw4, rw4_self, rw4_id, upd] at c21
      exact Z_vret C hN hr d_S_runDetect_34 rfl (zeq (by apply eC_M; simp [up_eq, rw4_rw4, rw4_self, rw4_id, sDetect, ← Int32.not_le, c4, c21]))
    · try simp [up_eq, rw4_rw4, rw4_self, rw4_id, upd] at c21
      refine Z_aload_n C 0 d_S_runDetect_24 rfl rfl ?_
      refine Z_iconst (v := 0) C d_S_runDetect_25 (by decide) ?_
      refine C_pS C w (by assumption) (by assumption) 5 (by decide) fl_S_28 rfl rfl rfl rfl rfl d_S_runDetect_26 ?_
      refine Z_aload_n C 0 d_S_runDetect_29 rfl rfl ?_
      refine Z_iconst (v := 1) C d_S_runDetect_30 (by decide) ?_
      refine C_cSn C w (by assumption) (by assumption) mi_S_fall ml_S_109 (c_S_fall w _ _ _ _ _ (by assumption) (by assumption) _) rfl rfl (by decide) rfl (Nat.le_of_ble_eq_true rfl) d_S_runDetect_31 ?_
      exact Z_vret C hN hr d_S_runDetect_34 rfl (zeq (by apply eC_M; simp [up_eq, rw4_rw4, rw4_self, rw4_id, sDetect, ← Int32.not_le, c4, c21]))
set_option maxRecDepth 100000 in
set_option maxHeartbeats 4000000 in
theorem c_S_sendFires {l : Launch} {G : zG} {V : zV} (w : wC G V) (M : zM) (P : Nat → Nat) (D : Nat × Nat) (i j : Nat) (hi : i < 5) (hj : j < 5) : zF l y_S_sendFires b_S_sendFires 1 (some .boolean) 0 0 G [.ref (V.1 5 i j)] (eC V M P D) (some (.int (sFired (M 5 i j)))) (eC V (rw4 M 5 i j (sFires (M 5 i j))) P D) := by
  refine zF.ofZ (by decide) w.2.2.2.2 (Nat.le_of_ble_eq_true rfl) (fun X hXl hN hr C => ?_)
  subst hXl
  show Z X G (zA G) 1 _ (eC V M P D) 0 [(0, .ref (V.1 5 i j))] []
  refine Z_aload_n C 0 d_S_sendFires_0 rfl rfl ?_
  refine C_gS C w (by assumption) (by assumption) 16 (by decide) fl_S_68 rfl rfl d_S_sendFires_1 ?_
  refine Z_if_le (tgt := 30) C d_S_sendFires_4 (by decide) (fun c4 => ?_) (fun c4 => ?_)
  · try simp [up_eq, rw4_rw4, rw4_self, rw4_id, upd] at c4
    refine Z_iconst (v := 0) C d_S_sendFires_30 (by decide) ?_
    exact Z_zret C hN hr (by decide) d_S_sendFires_31 (by simp [sFired, ← Int32.not_le, c4]) (zeq (by apply eC_M; simp [up_eq, rw4_rw4, rw4_self, rw4_id, sFires, ← Int32.not_le, c4]))
  · try simp [up_eq, rw4_rw4, rw4_self, rw4_id, upd] at c4
    refine Z_aload_n C 0 d_S_sendFires_7 rfl rfl ?_
    refine Z_dup C d_S_sendFires_8 rfl ?_
    refine C_gS C w (by assumption) (by assumption) 16 (by decide) fl_S_68 rfl rfl d_S_sendFires_9 ?_
    refine Z_iconst (v := 1) C d_S_sendFires_12 (by decide) ?_
    refine Z_isub C d_S_sendFires_13 ?_
    refine C_pS C w (by assumption) (by assumption) 16 (by decide) fl_S_68 rfl rfl rfl rfl rfl d_S_sendFires_14 ?_
    refine Z_aload_n C 0 d_S_sendFires_17 rfl rfl ?_
    refine C_gS C w (by assumption) (by assumption) 16 (by decide) fl_S_68 rfl rfl d_S_sendFires_18 ?_
    refine Z_if_ne (tgt := 28) C d_S_sendFires_21 (by decide) (fun c21 => ?_) (fun c21 => ?_)
    · try simp [up_eq, rw4_rw4, rw4_self, rw4_id, upd] at c21
      refine Z_iconst (v := 0) C d_S_sendFires_28 (by decide) ?_
      exact Z_zret C hN hr (by decide) d_S_sendFires_29 (by simp [sFired, ← Int32.not_le, c4, c21]) (zeq (by apply eC_M; simp [up_eq, rw4_rw4, rw4_self, rw4_id, sFires, ← Int32.not_le, c4, c21]))
    · try simp [up_eq, rw4_rw4, rw4_self, rw4_id, upd] at c21
      refine Z_iconst (v := 1) C d_S_sendFires_24 (by decide) ?_
      refine Z_goto (tgt := 29) C d_S_sendFires_25 (by decide) ?_
      exact Z_zret C hN hr (by decide) d_S_sendFires_29 (by simp [sFired, ← Int32.not_le, c4, c21]) (zeq (by apply eC_M; simp [up_eq, rw4_rw4, rw4_self, rw4_id, sFires, ← Int32.not_le, c4, c21]))

