/-! frames: their bytes -/
def fByte (q b : Nat → Int32) (x : Int32) : Int32 := if x < 0 then -1 else if q 1 ≤ x then -1 else if 40 ≤ x then -1 else b x.toNatClampNeg
def fTwo (q b : Nat → Int32) (x : Int32) : Int32 := fByte q b x <<< ((8 : Int32) &&& 31) ||| fByte q b (x + 1)
def fFour (q b : Nat → Int32) (x : Int32) : Int32 := fByte q b x <<< ((24 : Int32) &&& 31) ||| fByte q b (x + 1) <<< ((16 : Int32) &&& 31) ||| fByte q b (x + 2) <<< ((8 : Int32) &&& 31) ||| fByte q b (x + 3)
abbrev ush (x : Int32) (n : Int32) : Int32 := (x.toUInt32 >>> (n.toUInt32 &&& Int32.toUInt32 31)).toInt32
/-- a byte is put behind the frame's bytes -/
def fPut (M : zM) (k : Nat) (v : Int32) : zM := if M 9 k 0 1 < 0 then M else if 40 ≤ M 9 k 0 1 then M else up (up M 10 k 0 (M 9 k 0 1).toNatClampNeg (v &&& 255)) 9 k 0 1 (M 9 k 0 1 + 1)
def fPut2 (M : zM) (k : Nat) (v : Int32) : zM := fPut (fPut M k (ush v 8)) k v
def fPut4 (M : zM) (k : Nat) (v : Int32) : zM := fPut (fPut (fPut (fPut M k (ush v 24)) k (ush v 16)) k (ush v 8)) k v
set_option maxRecDepth 100000 in
set_option maxHeartbeats 4000000 in
theorem c_F_byteAt {l : Launch} {G : zG} {V : zV} (w : wC G V) (M : zM) (P : Nat → Nat) (D : Nat × Nat) (k : Nat) (hk : k < 63) (x : Int32) : zF l y_F_byteAt b_F_byteAt 2 (some .int) 0 0 G [.ref (V.1 9 k 0), .int x] (eC V M P D) (some (.int (fByte (M 9 k 0) (M 10 k 0) x))) (eC V M P D) := by
  refine zF.ofZ (by decide) w.2.2.2.2 (Nat.le_of_ble_eq_true rfl) (fun X hXl hN hr C => ?_)
  subst hXl
  show Z X G (zA G) 2 _ (eC V M P D) 0 [(0, .ref (V.1 9 k 0)), (1, .int x)] []
  refine Z_iload_n C 1 d_F_byteAt_0 rfl rfl ?_
  refine Z_if_lt (tgt := 30) C d_F_byteAt_1 (by decide) (fun c1 => ?_) (fun c1 => ?_)
  · skip
    refine Z_iconst (v := (-1)) C d_F_byteAt_30 (by decide) ?_
    exact Z_iret C hN hr d_F_byteAt_31 (by simp [fByte, c1]) (zeq (rfl))
  · skip
    refine Z_iload_n C 1 d_F_byteAt_4 rfl rfl ?_
    refine Z_aload_n C 0 d_F_byteAt_5 rfl rfl ?_
    refine C_gF C w (by assumption) 1 (by decide) fl_F_15 rfl rfl d_F_byteAt_6 ?_
    refine Z_icmp_ge (tgt := 30) C d_F_byteAt_9 (by decide) (fun c9 => ?_) (fun c9 => ?_)
    · skip
      refine Z_iconst (v := (-1)) C d_F_byteAt_30 (by decide) ?_
      exact Z_iret C hN hr d_F_byteAt_31 (by simp [fByte, c1, c9]) (zeq (rfl))
    · skip
      refine Z_iload_n C 1 d_F_byteAt_12 rfl rfl ?_
      refine Z_aload_n C 0 d_F_byteAt_13 rfl rfl ?_
      refine C_gF C w (by assumption) 0 (by decide) fl_F_9 rfl rfl d_F_byteAt_14 ?_
      refine C_lenB C w (by assumption) d_F_byteAt_17 ?_
      refine Z_icmp_ge (tgt := 30) C d_F_byteAt_18 (by decide) (fun c18 => ?_) (fun c18 => ?_)
      · skip
        refine Z_iconst (v := (-1)) C d_F_byteAt_30 (by decide) ?_
        exact Z_iret C hN hr d_F_byteAt_31 (by simp [fByte, c1, c9, c18]) (zeq (rfl))
      · skip
        refine Z_aload_n C 0 d_F_byteAt_21 rfl rfl ?_
        refine C_gF C w (by assumption) 0 (by decide) fl_F_9 rfl rfl d_F_byteAt_22 ?_
        refine Z_iload_n C 1 d_F_byteAt_25 rfl rfl ?_
        refine C_ldB C w (by assumption) _ rfl (vp_inc c1 c18 rfl) d_F_byteAt_26 ?_
        refine Z_goto (tgt := 31) C d_F_byteAt_27 (by decide) ?_
        exact Z_iret C hN hr d_F_byteAt_31 (by simp [fByte, c1, c9, c18]) (zeq (rfl))
set_option maxRecDepth 100000 in
set_option maxHeartbeats 4000000 in
theorem c_F_twoAt {l : Launch} {G : zG} {V : zV} (w : wC G V) (M : zM) (P : Nat → Nat) (D : Nat × Nat) (k : Nat) (hk : k < 63) (x : Int32) : zF l y_F_twoAt b_F_twoAt 2 (some .int) 1 21 G [.ref (V.1 9 k 0), .int x] (eC V M P D) (some (.int (fTwo (M 9 k 0) (M 10 k 0) x))) (eC V M P D) := by
  refine zF.ofZ (by decide) w.2.2.2.2 (Nat.le_of_ble_eq_true rfl) (fun X hXl hN hr C => ?_)
  subst hXl
  show Z X G (zA G) 2 _ (eC V M P D) 0 [(0, .ref (V.1 9 k 0)), (1, .int x)] []
  refine Z_aload_n C 0 d_F_twoAt_0 rfl rfl ?_
  refine Z_iload_n C 1 d_F_twoAt_1 rfl rfl ?_
  refine C_cFv C w (by assumption) mi_F_byteAt ml_F_23 (c_F_byteAt w _ _ _ _ (by assumption) _) rfl rfl (by decide) rfl (Nat.le_of_ble_eq_true rfl) d_F_twoAt_2 ?_
  refine Z_bipush (v := 8) C d_F_twoAt_5 (by decide) ?_
  refine Z_ishl C d_F_twoAt_7 ?_
  refine Z_aload_n C 0 d_F_twoAt_8 rfl rfl ?_
  refine Z_iload_n C 1 d_F_twoAt_9 rfl rfl ?_
  refine Z_iconst (v := 1) C d_F_twoAt_10 (by decide) ?_
  refine Z_iadd C d_F_twoAt_11 ?_
  refine C_cFv C w (by assumption) mi_F_byteAt ml_F_23 (c_F_byteAt w _ _ _ _ (by assumption) _) rfl rfl (by decide) rfl (Nat.le_of_ble_eq_true rfl) d_F_twoAt_12 ?_
  refine Z_ior C d_F_twoAt_15 ?_
  exact Z_iret C hN hr d_F_twoAt_16 (rfl) (zeq (rfl))
set_option maxRecDepth 100000 in
set_option maxHeartbeats 4000000 in
theorem c_F_fourAt {l : Launch} {G : zG} {V : zV} (w : wC G V) (M : zM) (P : Nat → Nat) (D : Nat × Nat) (k : Nat) (hk : k < 63) (x : Int32) : zF l y_F_fourAt b_F_fourAt 2 (some .int) 1 21 G [.ref (V.1 9 k 0), .int x] (eC V M P D) (some (.int (fFour (M 9 k 0) (M 10 k 0) x))) (eC V M P D) := by
  refine zF.ofZ (by decide) w.2.2.2.2 (Nat.le_of_ble_eq_true rfl) (fun X hXl hN hr C => ?_)
  subst hXl
  show Z X G (zA G) 2 _ (eC V M P D) 0 [(0, .ref (V.1 9 k 0)), (1, .int x)] []
  refine Z_aload_n C 0 d_F_fourAt_0 rfl rfl ?_
  refine Z_iload_n C 1 d_F_fourAt_1 rfl rfl ?_
  refine C_cFv C w (by assumption) mi_F_byteAt ml_F_23 (c_F_byteAt w _ _ _ _ (by assumption) _) rfl rfl (by decide) rfl (Nat.le_of_ble_eq_true rfl) d_F_fourAt_2 ?_
  refine Z_bipush (v := 24) C d_F_fourAt_5 (by decide) ?_
  refine Z_ishl C d_F_fourAt_7 ?_
  refine Z_aload_n C 0 d_F_fourAt_8 rfl rfl ?_
  refine Z_iload_n C 1 d_F_fourAt_9 rfl rfl ?_
  refine Z_iconst (v := 1) C d_F_fourAt_10 (by decide) ?_
  refine Z_iadd C d_F_fourAt_11 ?_
  refine C_cFv C w (by assumption) mi_F_byteAt ml_F_23 (c_F_byteAt w _ _ _ _ (by assumption) _) rfl rfl (by decide) rfl (Nat.le_of_ble_eq_true rfl) d_F_fourAt_12 ?_
  refine Z_bipush (v := 16) C d_F_fourAt_15 (by decide) ?_
  refine Z_ishl C d_F_fourAt_17 ?_
  refine Z_ior C d_F_fourAt_18 ?_
  refine Z_aload_n C 0 d_F_fourAt_19 rfl rfl ?_
  refine Z_iload_n C 1 d_F_fourAt_20 rfl rfl ?_
  refine Z_iconst (v := 2) C d_F_fourAt_21 (by decide) ?_
  refine Z_iadd C d_F_fourAt_22 ?_
  refine C_cFv C w (by assumption) mi_F_byteAt ml_F_23 (c_F_byteAt w _ _ _ _ (by assumption) _) rfl rfl (by decide) rfl (Nat.le_of_ble_eq_true rfl) d_F_fourAt_23 ?_
  refine Z_bipush (v := 8) C d_F_fourAt_26 (by decide) ?_
  refine Z_ishl C d_F_fourAt_28 ?_
  refine Z_ior C d_F_fourAt_29 ?_
  refine Z_aload_n C 0 d_F_fourAt_30 rfl rfl ?_
  refine Z_iload_n C 1 d_F_fourAt_31 rfl rfl ?_
  refine Z_iconst (v := 3) C d_F_fourAt_32 (by decide) ?_
  refine Z_iadd C d_F_fourAt_33 ?_
  refine C_cFv C w (by assumption) mi_F_byteAt ml_F_23 (c_F_byteAt w _ _ _ _ (by assumption) _) rfl rfl (by decide) rfl (Nat.le_of_ble_eq_true rfl) d_F_fourAt_34 ?_
  refine Z_ior C d_F_fourAt_37 ?_
  exact Z_iret C hN hr d_F_fourAt_38 (rfl) (zeq (rfl))
set_option maxRecDepth 100000 in
set_option maxHeartbeats 4000000 in
theorem c_F_put {l : Launch} {G : zG} {V : zV} (w : wC G V) (M : zM) (P : Nat → Nat) (D : Nat × Nat) (k : Nat) (hk : k < 63) (v : Int32) : zF l y_F_put b_F_put 2 none 0 0 G [.ref (V.1 9 k 0), .int v] (eC V M P D) none (eC V (fPut M k v) P D) := by
  refine zF.ofZ (by decide) w.2.2.2.2 (Nat.le_of_ble_eq_true rfl) (fun X hXl hN hr C => ?_)
  subst hXl
  show Z X G (zA G) 2 _ (eC V M P D) 0 [(0, .ref (V.1 9 k 0)), (1, .int v)] []
  refine Z_aload_n C 0 d_F_put_0 rfl rfl ?_
  refine C_gF C w (by assumption) 1 (by decide) fl_F_15 rfl rfl d_F_put_1 ?_
  refine Z_if_lt (tgt := 43) C d_F_put_4 (by decide) (fun c4 => ?_) (fun c4 => ?_)
  · skip
    exact Z_vret C hN hr d_F_put_43 rfl (zeq (by apply eC_M; simp [fPut, c4]; try rfl))
  · skip
    refine Z_aload_n C 0 d_F_put_7 rfl rfl ?_
    refine C_gF C w (by assumption) 1 (by decide) fl_F_15 rfl rfl d_F_put_8 ?_
    refine Z_aload_n C 0 d_F_put_11 rfl rfl ?_
    refine C_gF C w (by assumption) 0 (by decide) fl_F_9 rfl rfl d_F_put_12 ?_
    refine C_lenB C w (by assumption) d_F_put_15 ?_
    refine Z_icmp_ge (tgt := 43) C d_F_put_16 (by decide) (fun c16 => ?_) (fun c16 => ?_)
    · skip
      exact Z_vret C hN hr d_F_put_43 rfl (zeq (by apply eC_M; simp [fPut, c4, c16]; try rfl))
    · skip
      refine Z_aload_n C 0 d_F_put_19 rfl rfl ?_
      refine C_gF C w (by assumption) 0 (by decide) fl_F_9 rfl rfl d_F_put_20 ?_
      refine Z_aload_n C 0 d_F_put_23 rfl rfl ?_
      refine C_gF C w (by assumption) 1 (by decide) fl_F_15 rfl rfl d_F_put_24 ?_
      refine Z_iload_n C 1 d_F_put_27 rfl rfl ?_
      refine Z_sipush (v := 255) C d_F_put_28 (by decide) ?_
      refine Z_iand C d_F_put_31 ?_
      refine C_stB C w (by assumption) _ rfl (vp_inc c4 c16 rfl) d_F_put_32 ?_
      refine Z_aload_n C 0 d_F_put_33 rfl rfl ?_
      refine Z_dup C d_F_put_34 rfl ?_
      refine C_gF C w (by assumption) 1 (by decide) fl_F_15 rfl rfl d_F_put_35 ?_
      refine Z_iconst (v := 1) C d_F_put_38 (by decide) ?_
      refine Z_iadd C d_F_put_39 ?_
      refine C_pF C w (by assumption) 1 (by decide) fl_F_15 rfl rfl rfl rfl rfl d_F_put_40 ?_
      exact Z_vret C hN hr d_F_put_43 rfl (zeq (by apply eC_M; simp [fPut, c4, c16]; try rfl))
set_option maxRecDepth 100000 in
set_option maxHeartbeats 4000000 in
theorem c_F_putTwo {l : Launch} {G : zG} {V : zV} (w : wC G V) (M : zM) (P : Nat → Nat) (D : Nat × Nat) (k : Nat) (hk : k < 63) (v : Int32) : zF l y_F_putTwo b_F_putTwo 2 none 1 21 G [.ref (V.1 9 k 0), .int v] (eC V M P D) none (eC V (fPut2 M k v) P D) := by
  refine zF.ofZ (by decide) w.2.2.2.2 (Nat.le_of_ble_eq_true rfl) (fun X hXl hN hr C => ?_)
  subst hXl
  show Z X G (zA G) 2 _ (eC V M P D) 0 [(0, .ref (V.1 9 k 0)), (1, .int v)] []
  refine Z_aload_n C 0 d_F_putTwo_0 rfl rfl ?_
  refine Z_iload_n C 1 d_F_putTwo_1 rfl rfl ?_
  refine Z_bipush (v := 8) C d_F_putTwo_2 (by decide) ?_
  refine Z_iushr C d_F_putTwo_4 ?_
  refine C_cFn C w (by assumption) mi_F_put ml_F_19 (c_F_put w _ _ _ _ (by assumption) _) rfl rfl (by decide) rfl (Nat.le_of_ble_eq_true rfl) d_F_putTwo_5 ?_
  refine Z_aload_n C 0 d_F_putTwo_8 rfl rfl ?_
  refine Z_iload_n C 1 d_F_putTwo_9 rfl rfl ?_
  refine C_cFn C w (by assumption) mi_F_put ml_F_19 (c_F_put w _ _ _ _ (by assumption) _) rfl rfl (by decide) rfl (Nat.le_of_ble_eq_true rfl) d_F_putTwo_10 ?_
  exact Z_vret C hN hr d_F_putTwo_13 rfl (zeq (rfl))
set_option maxRecDepth 100000 in
set_option maxHeartbeats 4000000 in
theorem c_F_putFour {l : Launch} {G : zG} {V : zV} (w : wC G V) (M : zM) (P : Nat → Nat) (D : Nat × Nat) (k : Nat) (hk : k < 63) (v : Int32) : zF l y_F_putFour b_F_putFour 2 none 1 21 G [.ref (V.1 9 k 0), .int v] (eC V M P D) none (eC V (fPut4 M k v) P D) := by
  refine zF.ofZ (by decide) w.2.2.2.2 (Nat.le_of_ble_eq_true rfl) (fun X hXl hN hr C => ?_)
  subst hXl
  show Z X G (zA G) 2 _ (eC V M P D) 0 [(0, .ref (V.1 9 k 0)), (1, .int v)] []
  refine Z_aload_n C 0 d_F_putFour_0 rfl rfl ?_
  refine Z_iload_n C 1 d_F_putFour_1 rfl rfl ?_
  refine Z_bipush (v := 24) C d_F_putFour_2 (by decide) ?_
  refine Z_iushr C d_F_putFour_4 ?_
  refine C_cFn C w (by assumption) mi_F_put ml_F_19 (c_F_put w _ _ _ _ (by assumption) _) rfl rfl (by decide) rfl (Nat.le_of_ble_eq_true rfl) d_F_putFour_5 ?_
  refine Z_aload_n C 0 d_F_putFour_8 rfl rfl ?_
  refine Z_iload_n C 1 d_F_putFour_9 rfl rfl ?_
  refine Z_bipush (v := 16) C d_F_putFour_10 (by decide) ?_
  refine Z_iushr C d_F_putFour_12 ?_
  refine C_cFn C w (by assumption) mi_F_put ml_F_19 (c_F_put w _ _ _ _ (by assumption) _) rfl rfl (by decide) rfl (Nat.le_of_ble_eq_true rfl) d_F_putFour_13 ?_
  refine Z_aload_n C 0 d_F_putFour_16 rfl rfl ?_
  refine Z_iload_n C 1 d_F_putFour_17 rfl rfl ?_
  refine Z_bipush (v := 8) C d_F_putFour_18 (by decide) ?_
  refine Z_iushr C d_F_putFour_20 ?_
  refine C_cFn C w (by assumption) mi_F_put ml_F_19 (c_F_put w _ _ _ _ (by assumption) _) rfl rfl (by decide) rfl (Nat.le_of_ble_eq_true rfl) d_F_putFour_21 ?_
  refine Z_aload_n C 0 d_F_putFour_24 rfl rfl ?_
  refine Z_iload_n C 1 d_F_putFour_25 rfl rfl ?_
  refine C_cFn C w (by assumption) mi_F_put ml_F_19 (c_F_put w _ _ _ _ (by assumption) _) rfl rfl (by decide) rfl (Nat.le_of_ble_eq_true rfl) d_F_putFour_26 ?_
  exact Z_vret C hN hr d_F_putFour_29 rfl (zeq (rfl))
set_option maxRecDepth 100000 in
set_option maxHeartbeats 4000000 in
theorem c_S_tell {l : Launch} {G : zG} {V : zV} (w : wC G V) (M : zM) (P : Nat → Nat) (D : Nat × Nat) (i j : Nat) (hi : i < 5) (hj : j < 5) (x : Int32) : zF l y_S_tell b_S_tell 2 (some .int) 0 0 G [.ref (V.1 5 i j), .int x] (eC V M P D) (some (.int (sTell (M 5 i j) x))) (eC V M P D) := by
  refine zF.ofZ (by decide) w.2.2.2.2 (Nat.le_of_ble_eq_true rfl) (fun X hXl hN hr C => ?_)
  subst hXl
  show Z X G (zA G) 2 _ (eC V M P D) 0 [(0, .ref (V.1 5 i j)), (1, .int x)] []
  refine Z_iload_n C 1 d_S_tell_0 rfl rfl ?_
  refine Z_tsw C d_S_tell_1 [(0, 64), (1, 69), (2, 74), (3, 79), (4, 84), (5, 89), (6, 94), (7, 99), (8, 104), (9, 117), (10, 122), (11, 127)] 132 (by decide +kernel) (by decide +kernel) (by decide) ?_ ?_
  · simp only [List.forall_mem_cons]
    refine ⟨fun c1 => ?_, fun c1 => ?_, fun c1 => ?_, fun c1 => ?_, fun c1 => ?_, fun c1 => ?_, fun c1 => ?_, fun c1 => ?_, fun c1 => ?_, fun c1 => ?_, fun c1 => ?_, fun c1 => ?_, fun _ h => absurd h List.not_mem_nil⟩
    · skip
      refine Z_aload_n C 0 d_S_tell_64 rfl rfl ?_
      refine C_gS C w (by assumption) (by assumption) 3 (by decide) fl_S_22 rfl rfl d_S_tell_65 ?_
      exact Z_iret C hN hr d_S_tell_68 (by simp [sTell, c1]) (zeq (rfl))
    · skip
      refine Z_aload_n C 0 d_S_tell_69 rfl rfl ?_
      refine C_gS C w (by assumption) (by assumption) 4 (by decide) fl_S_25 rfl rfl d_S_tell_70 ?_
      exact Z_iret C hN hr d_S_tell_73 (by simp [sTell, c1]) (zeq (rfl))
    · skip
      refine Z_aload_n C 0 d_S_tell_74 rfl rfl ?_
      refine C_gS C w (by assumption) (by assumption) 5 (by decide) fl_S_28 rfl rfl d_S_tell_75 ?_
      exact Z_iret C hN hr d_S_tell_78 (by simp [sTell, c1]) (zeq (rfl))
    · skip
      refine Z_aload_n C 0 d_S_tell_79 rfl rfl ?_
      refine C_gS C w (by assumption) (by assumption) 6 (by decide) fl_S_31 rfl rfl d_S_tell_80 ?_
      exact Z_iret C hN hr d_S_tell_83 (by simp [sTell, c1]) (zeq (rfl))
    · skip
      refine Z_aload_n C 0 d_S_tell_84 rfl rfl ?_
      refine C_gS C w (by assumption) (by assumption) 16 (by decide) fl_S_68 rfl rfl d_S_tell_85 ?_
      exact Z_iret C hN hr d_S_tell_88 (by simp [sTell, c1]) (zeq (rfl))
    · skip
      refine Z_aload_n C 0 d_S_tell_89 rfl rfl ?_
      refine C_gS C w (by assumption) (by assumption) 17 (by decide) fl_S_58 rfl rfl d_S_tell_90 ?_
      exact Z_iret C hN hr d_S_tell_93 (by simp [sTell, c1]) (zeq (rfl))
    · skip
      refine Z_aload_n C 0 d_S_tell_94 rfl rfl ?_
      refine C_gS C w (by assumption) (by assumption) 14 (by decide) fl_S_71 rfl rfl d_S_tell_95 ?_
      exact Z_iret C hN hr d_S_tell_98 (by simp [sTell, c1]) (zeq (rfl))
    · skip
      refine Z_aload_n C 0 d_S_tell_99 rfl rfl ?_
      refine C_gS C w (by assumption) (by assumption) 15 (by decide) fl_S_80 rfl rfl d_S_tell_100 ?_
      exact Z_iret C hN hr d_S_tell_103 (by simp [sTell, c1]) (zeq (rfl))
    · skip
      refine Z_aload_n C 0 d_S_tell_104 rfl rfl ?_
      refine C_gS C w (by assumption) (by assumption) 13 (by decide) fl_S_52 rfl rfl d_S_tell_105 ?_
      refine Z_if_eq (tgt := 115) C d_S_tell_108 (by decide) (fun c108 => ?_) (fun c108 => ?_)
      · skip
        refine Z_iconst (v := 0) C d_S_tell_115 (by decide) ?_
        exact Z_iret C hN hr d_S_tell_116 (by simp [sTell, c1, c108]) (zeq (rfl))
      · skip
        refine Z_iconst (v := 1) C d_S_tell_111 (by decide) ?_
        refine Z_goto (tgt := 116) C d_S_tell_112 (by decide) ?_
        exact Z_iret C hN hr d_S_tell_116 (by simp [sTell, c1, c108]) (zeq (rfl))
    · skip
      refine Z_aload_n C 0 d_S_tell_117 rfl rfl ?_
      refine C_gS C w (by assumption) (by assumption) 10 (by decide) fl_S_43 rfl rfl d_S_tell_118 ?_
      exact Z_iret C hN hr d_S_tell_121 (by simp [sTell, c1]) (zeq (rfl))
    · skip
      refine Z_aload_n C 0 d_S_tell_122 rfl rfl ?_
      refine C_gS C w (by assumption) (by assumption) 11 (by decide) fl_S_46 rfl rfl d_S_tell_123 ?_
      exact Z_iret C hN hr d_S_tell_126 (by simp [sTell, c1]) (zeq (rfl))
    · skip
      refine Z_aload_n C 0 d_S_tell_127 rfl rfl ?_
      refine C_gS C w (by assumption) (by assumption) 18 (by decide) fl_S_61 rfl rfl d_S_tell_128 ?_
      exact Z_iret C hN hr d_S_tell_131 (by simp [sTell, c1]) (zeq (rfl))
  · intro c1
    simp only [List.forall_mem_cons] at c1
    refine Z_iconst (v := (-1)) C d_S_tell_132 (by decide) ?_
    exact Z_iret C hN hr d_S_tell_133 (by simp [sTell, c1]) (zeq (rfl))

