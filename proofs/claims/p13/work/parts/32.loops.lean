theorem i1_toInt {x : Int32} (h : x.toInt < 1000) (h0 : ¬ x < 0) : (x + 1).toInt = x.toInt + 1 := by
  rw [Int32.lt_iff_toInt_lt, Int32.toInt_zero] at h0
  obtain ⟨j, hj, rfl⟩ := nI_of (x := x) (by rw [Int32.lt_iff_toInt_lt, Int32.toInt_zero]; exact h0)
  rw [nI_1, nI_toInt (by rw [nI_toInt hj] at h; omega), nI_toInt hj]
  omega
theorem zv0 {x : Int32} (h : x.toInt < 1000) (h0 : ¬ x < 0) (h1 : ¬ (40 : Int32) ≤ x + 1) : vp_in x 40 := by
  have e := i1_toInt h h0
  rw [Int32.le_iff_toInt_le, e, show (40 : Int32).toInt = 40 from rfl] at h1
  rw [Int32.lt_iff_toInt_lt, Int32.toInt_zero] at h0
  rw [vp_in_iff]
  omega
theorem zv1 {x : Int32} (h : x.toInt < 1000) (h0 : ¬ x < 0) (h1 : ¬ (40 : Int32) ≤ x + 1) : vp_in (x + 1) 40 := by
  have e := i1_toInt h h0
  rw [Int32.le_iff_toInt_le, e, show (40 : Int32).toInt = 40 from rfl] at h1
  rw [Int32.lt_iff_toInt_lt, Int32.toInt_zero] at h0
  rw [vp_in_iff, e]
  omega
/-! loops: the sum, weighed, the frames that are due -/
theorem nlt_of {a b : Nat} (ha : a < 2 ^ 31) (h : ¬ nI b ≤ nI a) : a < b := by
  rcases Nat.lt_or_ge a b with q | q
  · exact q
  · exact absurd (nI_le q ha) h
theorem le_of {a b : Nat} (ha : a < 2 ^ 31) (hb : b < 2 ^ 31) (h : nI b ≤ nI a) : b ≤ a := (nI_leI hb ha).mp h
def fS (q b : Nat → Int32) : Nat → Nat → Int32 → Int32
  | 0, _, a => a
  | n + 1, i, a => if q 1 ≤ nI (i + 1) then a else if 40 ≤ nI (i + 1) then a else fS q b n (i + 2) (a + (b i * 256 + b (i + 1)))
def fFold : Nat → Int32 → Int32
  | 0, a => a
  | n + 1, a => if a ≤ 65535 then a else fFold n (a / 65536 + (a - a / 65536 * 65536))
def fS0 (q : Nat → Int32) : Int32 := ush (q 5) 16 + (q 5 &&& 65535) + 57344 + 18 + 112 + 12
def fSum (q b : Nat → Int32) : Int32 := fFold 4 (fS q b 20 0 (fS0 q))
set_option maxRecDepth 100000 in
set_option maxHeartbeats 4000000 in
theorem c_F_sum {l : Launch} {G : zG} {V : zV} (w : wC G V) (M : zM) (P : Nat → Nat) (D : Nat × Nat) (k : Nat) (hk : k < 63) : zF l y_F_sum b_F_sum 3 (some .int) 0 0 G [.ref (V.1 9 k 0)] (eC V M P D) (some (.int (fSum (M 9 k 0) (M 10 k 0)))) (eC V M P D) := by
  refine zF.ofZ (by decide) w.2.2.2.2 (Nat.le_of_ble_eq_true rfl) (fun X hXl hN hr C => ?_)
  subst hXl
  show Z X G (zA G) 3 _ (eC V M P D) 0 [(0, .ref (V.1 9 k 0))] []
  refine Z_aload_n C 0 d_F_sum_0 rfl rfl ?_
  refine C_gF C w (by assumption) 5 (by decide) fl_F_27 rfl rfl d_F_sum_1 ?_
  refine Z_bipush (v := 16) C d_F_sum_4 (by decide) ?_
  refine Z_iushr C d_F_sum_6 ?_
  refine Z_aload_n C 0 d_F_sum_7 rfl rfl ?_
  refine C_gF C w (by assumption) 5 (by decide) fl_F_27 rfl rfl d_F_sum_8 ?_
  refine Z_ldc C co_F_30 d_F_sum_11 ?_
  refine Z_iand C d_F_sum_13 ?_
  refine Z_iadd C d_F_sum_14 ?_
  refine Z_ldc C co_F_31 d_F_sum_15 ?_
  refine Z_iadd C d_F_sum_17 ?_
  refine Z_bipush (v := 18) C d_F_sum_18 (by decide) ?_
  refine Z_iadd C d_F_sum_20 ?_
  refine Z_bipush (v := 112) C d_F_sum_21 (by decide) ?_
  refine Z_iadd C d_F_sum_23 ?_
  refine Z_bipush (v := 12) C d_F_sum_24 (by decide) ?_
  refine Z_iadd C d_F_sum_26 ?_
  refine Z_istore_n C d_F_sum_27 rfl (by decide) rfl ?_
  refine Z_iconst (v := 0) C d_F_sum_28 (by decide) ?_
  refine Z_istore_n C d_F_sum_29 rfl (by decide) rfl ?_
  have hx : ∀ (a x2 : Int32), a = fS (M 9 k 0) (M 10 k 0) 20 0 (fS0 (M 9 k 0)) → Z X G (zA G) 3 (zQ X G (some (.int (fSum (M 9 k 0) (M 10 k 0)))) (eC V M P D)) (eC V M P D) 79 [(2, .int x2), (1, .int a), (0, .ref (V.1 9 k 0))] [] := by
    intro a x2 ha
    refine Z_iconst (v := 0) C d_F_sum_79 (by decide) ?_
    refine Z_istore_n C d_F_sum_80 rfl (by decide) rfl ?_
    have hlp : ∀ (n r : Nat) (a : Int32), r + n = 4 → fFold n a = fSum (M 9 k 0) (M 10 k 0) → Z X G (zA G) 3 (zQ X G (some (.int (fSum (M 9 k 0) (M 10 k 0)))) (eC V M P D)) (eC V M P D) 81 [(2, .int (nI r)), (1, .int a), (0, .ref (V.1 9 k 0))] [] := by
      intro n
      induction n with
      | zero =>
        intro r a h1 h2
        refine Z_iload_n C 0 d_F_sum_81 rfl rfl ?_
        refine Z_iconst (v := 4) C d_F_sum_82 (by decide) ?_
        refine Z_icmp_ge (tgt := 108) C d_F_sum_83 (by decide) (fun c83 => ?_) (fun c83 => ?_)
        · skip
          refine Z_iload_n C 1 d_F_sum_108 rfl rfl ?_
          exact Z_iret C hN hr d_F_sum_109 (by rw [← h2]; rfl) (zeq (rfl))
        · exact absurd (nI_le (a := 4) (b := r) (by omega) (by omega)) c83 --stop
      | succ n ih =>
        intro r a h1 h2
        refine Z_iload_n C 0 d_F_sum_81 rfl rfl ?_
        refine Z_iconst (v := 4) C d_F_sum_82 (by decide) ?_
        refine Z_icmp_ge (tgt := 108) C d_F_sum_83 (by decide) (fun c83 => ?_) (fun c83 => ?_)
        · exact absurd c83 (nI_ge (a := r) (b := 4) (by omega) (by decide)) --stop
        · skip
          refine Z_iload_n C 1 d_F_sum_86 rfl rfl ?_
          refine Z_ldc C co_F_30 d_F_sum_87 ?_
          refine Z_icmp_le (tgt := 108) C d_F_sum_89 (by decide) (fun c89 => ?_) (fun c89 => ?_)
          · skip
            refine Z_iload_n C 1 d_F_sum_108 rfl rfl ?_
            exact Z_iret C hN hr d_F_sum_109 (by rw [← h2]; simp [fFold, c89]) (zeq (rfl))
          · skip
            refine Z_iload_n C 1 d_F_sum_92 rfl rfl ?_
            refine Z_ldc C co_F_32 d_F_sum_93 ?_
            refine Z_idiv C d_F_sum_95 (by decide) ?_
            refine Z_iload_n C 1 d_F_sum_96 rfl rfl ?_
            refine Z_ldc C co_F_32 d_F_sum_97 ?_
            refine Z_irem C d_F_sum_99 (by decide) ?_
            refine Z_iadd C d_F_sum_100 ?_
            refine Z_istore_n C d_F_sum_101 rfl (by decide) rfl ?_
            refine Z_iinc 1 C d_F_sum_102 rfl (nI_1 r) (by decide) rfl ?_
            refine Z_goto (tgt := 81) C d_F_sum_105 (by decide) ?_
            exact ih (r + 1) _ (by omega) (by rw [← h2]; simp [fFold, c89])
    exact hlp 4 0 _ rfl (by rw [ha]; rfl)
  have hlp : ∀ (n i : Nat) (a : Int32), i + 2 * n = 40 → fS (M 9 k 0) (M 10 k 0) n i a = fS (M 9 k 0) (M 10 k 0) 20 0 (fS0 (M 9 k 0)) → Z X G (zA G) 3 (zQ X G (some (.int (fSum (M 9 k 0) (M 10 k 0)))) (eC V M P D)) (eC V M P D) 30 [(2, .int (nI i)), (1, .int a), (0, .ref (V.1 9 k 0))] [] := by
    intro n
    induction n with
    | zero =>
      intro i a h1 h2
      refine Z_iload_n C 0 d_F_sum_30 rfl rfl ?_
      refine Z_iconst (v := 1) C d_F_sum_31 (by decide) ?_
      refine Z_iadd C d_F_sum_32 ?_
      refine Z_aload_n C 2 d_F_sum_33 rfl rfl ?_
      refine C_gF C w (by assumption) 1 (by decide) fl_F_15 rfl rfl d_F_sum_34 ?_
      refine Z_icmp_ge (tgt := 79) C d_F_sum_37 (by decide) (fun c37 => ?_) (fun c37 => ?_)
      · rw [nI_1] at c37
        exact hx _ _ h2
      · rw [nI_1] at c37
        refine Z_iload_n C 0 d_F_sum_40 rfl rfl ?_
        refine Z_iconst (v := 1) C d_F_sum_41 (by decide) ?_
        refine Z_iadd C d_F_sum_42 ?_
        refine Z_aload_n C 2 d_F_sum_43 rfl rfl ?_
        refine C_gF C w (by assumption) 0 (by decide) fl_F_9 rfl rfl d_F_sum_44 ?_
        refine C_lenB C w (by assumption) d_F_sum_47 ?_
        refine Z_icmp_ge (tgt := 79) C d_F_sum_48 (by decide) (fun c48 => ?_) (fun c48 => ?_)
        · rw [nI_1] at c48
          exact hx _ _ h2
        · rw [nI_1] at c48
          exact absurd (nI_le (a := 40) (b := i + 1) (by omega) (by omega)) c48 --stop
    | succ n ih =>
      intro i a h1 h2
      refine Z_iload_n C 0 d_F_sum_30 rfl rfl ?_
      refine Z_iconst (v := 1) C d_F_sum_31 (by decide) ?_
      refine Z_iadd C d_F_sum_32 ?_
      refine Z_aload_n C 2 d_F_sum_33 rfl rfl ?_
      refine C_gF C w (by assumption) 1 (by decide) fl_F_15 rfl rfl d_F_sum_34 ?_
      refine Z_icmp_ge (tgt := 79) C d_F_sum_37 (by decide) (fun c37 => ?_) (fun c37 => ?_)
      · rw [nI_1] at c37
        exact hx _ _ (by rw [← h2]; unfold fS; first | rw [if_pos c37] | rw [if_neg c37, if_pos c48])
      · rw [nI_1] at c37
        refine Z_iload_n C 0 d_F_sum_40 rfl rfl ?_
        refine Z_iconst (v := 1) C d_F_sum_41 (by decide) ?_
        refine Z_iadd C d_F_sum_42 ?_
        refine Z_aload_n C 2 d_F_sum_43 rfl rfl ?_
        refine C_gF C w (by assumption) 0 (by decide) fl_F_9 rfl rfl d_F_sum_44 ?_
        refine C_lenB C w (by assumption) d_F_sum_47 ?_
        refine Z_icmp_ge (tgt := 79) C d_F_sum_48 (by decide) (fun c48 => ?_) (fun c48 => ?_)
        · rw [nI_1] at c48
          exact hx _ _ (by rw [← h2]; unfold fS; first | rw [if_pos c37] | rw [if_neg c37, if_pos c48])
        · rw [nI_1] at c48
          have hlt : i + 1 < 40 := nlt_of (by omega) c48
          refine Z_iload_n C 1 d_F_sum_51 rfl rfl ?_
          refine Z_aload_n C 2 d_F_sum_52 rfl rfl ?_
          refine C_gF C w (by assumption) 0 (by decide) fl_F_9 rfl rfl d_F_sum_53 ?_
          refine Z_iload_n C 0 d_F_sum_56 rfl rfl ?_
          refine C_ldB C w (by assumption) i (nI_clamp (by omega)) (vp_in_nI (by omega) (by decide)) d_F_sum_57 ?_
          refine Z_sipush (v := 256) C d_F_sum_58 (by decide) ?_
          refine Z_imul C d_F_sum_61 ?_
          refine Z_aload_n C 2 d_F_sum_62 rfl rfl ?_
          refine C_gF C w (by assumption) 0 (by decide) fl_F_9 rfl rfl d_F_sum_63 ?_
          refine Z_iload_n C 0 d_F_sum_66 rfl rfl ?_
          refine Z_iconst (v := 1) C d_F_sum_67 (by decide) ?_
          refine Z_iadd C d_F_sum_68 ?_
          refine C_ldB C w (by assumption) (i + 1) (by rw [nI_1]; exact nI_clamp (by omega)) (by rw [nI_1]; exact vp_in_nI (by omega) (by decide)) d_F_sum_69 ?_
          refine Z_iadd C d_F_sum_70 ?_
          refine Z_iadd C d_F_sum_71 ?_
          refine Z_istore_n C d_F_sum_72 rfl (by decide) rfl ?_
          refine Z_iinc 1 C d_F_sum_73 rfl (nI_add i 2) (by decide) rfl ?_
          refine Z_goto (tgt := 30) C d_F_sum_76 (by decide) ?_
          exact ih (i + 2) _ (by omega) (by rw [← h2]; conv => rhs; unfold fS; rw [if_neg c37, if_neg c48])
  exact hlp 20 0 _ rfl rfl
/-- the CHECK is laid at two places -/
def fCheck (M : zM) (k : Nat) (x : Int32) : zM := if x < 0 then M else if M 9 k 0 1 ≤ x + 1 then M else if 40 ≤ x + 1 then M else up (up M 10 k 0 x.toNatClampNeg (ush (65535 - fSum (M 9 k 0) (M 10 k 0)) 8)) 10 k 0 (x + 1).toNatClampNeg ((65535 - fSum (M 9 k 0) (M 10 k 0)) &&& 255)
set_option maxRecDepth 100000 in
set_option maxHeartbeats 4000000 in
theorem c_F_putCheckAt {l : Launch} {G : zG} {V : zV} (w : wC G V) (M : zM) (P : Nat → Nat) (D : Nat × Nat) (k : Nat) (hk : k < 63) (x : Int32) (hx0 : x.toInt < 1000) : zF l y_F_putCheckAt b_F_putCheckAt 3 none 1 22 G [.ref (V.1 9 k 0), .int x] (eC V M P D) none (eC V (fCheck M k x) P D) := by
  refine zF.ofZ (by decide) w.2.2.2.2 (Nat.le_of_ble_eq_true rfl) (fun X hXl hN hr C => ?_)
  subst hXl
  show Z X G (zA G) 3 _ (eC V M P D) 0 [(0, .ref (V.1 9 k 0)), (1, .int x)] []
  refine Z_ldc C co_F_30 d_F_putCheckAt_0 ?_
  refine Z_aload_n C 0 d_F_putCheckAt_2 rfl rfl ?_
  refine C_cFv C w (by assumption) mi_F_sum ml_F_33 (c_F_sum w _ _ _ _ (by assumption)) rfl rfl (by decide) rfl (Nat.le_of_ble_eq_true rfl) d_F_putCheckAt_3 ?_
  refine Z_isub C d_F_putCheckAt_6 ?_
  refine Z_istore_n C d_F_putCheckAt_7 rfl (by decide) rfl ?_
  refine Z_iload_n C 2 d_F_putCheckAt_8 rfl rfl ?_
  refine Z_if_lt (tgt := 56) C d_F_putCheckAt_9 (by decide) (fun c9 => ?_) (fun c9 => ?_)
  · skip
    exact Z_vret C hN hr d_F_putCheckAt_56 rfl (zeq (by apply eC_M; simp [fCheck, c9]; try rfl))
  · skip
    refine Z_iload_n C 2 d_F_putCheckAt_12 rfl rfl ?_
    refine Z_iconst (v := 1) C d_F_putCheckAt_13 (by decide) ?_
    refine Z_iadd C d_F_putCheckAt_14 ?_
    refine Z_aload_n C 1 d_F_putCheckAt_15 rfl rfl ?_
    refine C_gF C w (by assumption) 1 (by decide) fl_F_15 rfl rfl d_F_putCheckAt_16 ?_
    refine Z_icmp_ge (tgt := 56) C d_F_putCheckAt_19 (by decide) (fun c19 => ?_) (fun c19 => ?_)
    · skip
      exact Z_vret C hN hr d_F_putCheckAt_56 rfl (zeq (by apply eC_M; simp [fCheck, c9, c19]; try rfl))
    · skip
      refine Z_iload_n C 2 d_F_putCheckAt_22 rfl rfl ?_
      refine Z_iconst (v := 1) C d_F_putCheckAt_23 (by decide) ?_
      refine Z_iadd C d_F_putCheckAt_24 ?_
      refine Z_aload_n C 1 d_F_putCheckAt_25 rfl rfl ?_
      refine C_gF C w (by assumption) 0 (by decide) fl_F_9 rfl rfl d_F_putCheckAt_26 ?_
      refine C_lenB C w (by assumption) d_F_putCheckAt_29 ?_
      refine Z_icmp_ge (tgt := 56) C d_F_putCheckAt_30 (by decide) (fun c30 => ?_) (fun c30 => ?_)
      · skip
        exact Z_vret C hN hr d_F_putCheckAt_56 rfl (zeq (by apply eC_M; simp [fCheck, c9, c19, c30]; try rfl))
      · have hv0 : vp_in x 40 := zv0 hx0 c9 c30
        have hv1 : vp_in (x + 1) 40 := zv1 hx0 c9 c30
        refine Z_aload_n C 1 d_F_putCheckAt_33 rfl rfl ?_
        refine C_gF C w (by assumption) 0 (by decide) fl_F_9 rfl rfl d_F_putCheckAt_34 ?_
        refine Z_iload_n C 2 d_F_putCheckAt_37 rfl rfl ?_
        refine Z_iload_n C 0 d_F_putCheckAt_38 rfl rfl ?_
        refine Z_bipush (v := 8) C d_F_putCheckAt_39 (by decide) ?_
        refine Z_iushr C d_F_putCheckAt_41 ?_
        refine C_stB C w (by assumption) _ rfl hv0 d_F_putCheckAt_42 ?_
        refine Z_aload_n C 1 d_F_putCheckAt_43 rfl rfl ?_
        refine C_gF C w (by assumption) 0 (by decide) fl_F_9 rfl rfl d_F_putCheckAt_44 ?_
        refine Z_iload_n C 2 d_F_putCheckAt_47 rfl rfl ?_
        refine Z_iconst (v := 1) C d_F_putCheckAt_48 (by decide) ?_
        refine Z_iadd C d_F_putCheckAt_49 ?_
        refine Z_iload_n C 0 d_F_putCheckAt_50 rfl rfl ?_
        refine Z_sipush (v := 255) C d_F_putCheckAt_51 (by decide) ?_
        refine Z_iand C d_F_putCheckAt_54 ?_
        refine C_stB C w (by assumption) _ rfl hv1 d_F_putCheckAt_55 ?_
        exact Z_vret C hN hr d_F_putCheckAt_56 rfl (zeq (by apply eC_M; simp [fCheck, c9, c19, c30]; try rfl))

