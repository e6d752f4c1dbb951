/-! THE REFERENCE: bytes, the sum -/
theorem nI_bv (x : Int32) : nI x.toBitVec.toNat = x := by
  apply Int32.toBitVec_inj.mp
  show BitVec.ofNat 32 x.toBitVec.toNat = x.toBitVec
  simp
theorem nx_or (a b : Nat) : nI a ||| nI b = nI (a ||| b) := by
  apply Int32.toBitVec_inj.mp
  show BitVec.ofNat 32 a ||| BitVec.ofNat 32 b = BitVec.ofNat 32 (a ||| b)
  exact (BitVec.ofNat_or ..).symm
theorem byt_or {a b : Nat} (ha : a < 256) (hb : b < 256) : (nI a <<< ((8 : Int32) &&& 31)) ||| nI b = nI (256 * a + b) := by
  rw [pk_shlN ((8 : Int32) &&& 31) 8 (by decide) (by omega), nx_or]
  have h := Nat.two_pow_add_eq_or_of_lt (i := 8) (b := b) (by omega) a
  rw [Nat.mul_comm a (2 ^ 8), ← h]
def mbt (q : Nat → Int32) (k : Nat) : Nat := (q k).toNatClampNeg
def Byt (q : Nat → Int32) (n : Nat) : Prop := ∀ k, k < n → q k = nI (mbt q k) ∧ mbt q k < 256
def msL (q : Nat → Int32) : Nat → Nat → Nat → Nat
  | 0, _, a => a
  | n + 1, k, a => msL q n (k + 2) (a + (256 * mbt q k + mbt q (k + 1)))
theorem msL_le {q : Nat → Int32} (h : Byt q 12) : ∀ n k a, k + 2 * n = 12 → msL q n k a ≤ a + 65536 * n := by
  intro n
  induction n with
  | zero => intro k a _; exact Nat.le_refl _
  | succ n ih =>
    intro k a hk
    have h1 := (h k (by omega)).2
    have h2 := (h (k + 1) (by omega)).2
    have := ih (k + 2) (a + (256 * mbt q k + mbt q (k + 1))) (by omega)
    show msL q n (k + 2) _ ≤ _
    omega
def mS0 (x : Int32) : Nat := x.toBitVec.toNat / 65536 + x.toBitVec.toNat % 65536 + 57486
theorem mS0_eq (x : Int32) : ush x 16 + (x &&& 65535) + 57344 + 18 + 112 + 12 = nI (mS0 x) := by
  have hx : x.toBitVec.toNat < 2 ^ 32 := x.toBitVec.isLt
  have e1 : ush x 16 = nI (x.toBitVec.toNat / 2 ^ 16) := by
    conv => lhs; rw [← nI_bv x]
    exact pk_ushrN hx 16 16 (by decide)
  have e2 : x &&& 65535 = nI (x.toBitVec.toNat % 2 ^ 16) := pk_and x 16 (by decide)
  rw [e1, e2]
  show nI _ + nI _ + nI 57344 + nI 18 + nI 112 + nI 12 = _
  rw [nI_add, nI_add, nI_add, nI_add, nI_add]
  have e : x.toBitVec.toNat / 2 ^ 16 + x.toBitVec.toNat % 2 ^ 16 + 57344 + 18 + 112 + 12 = mS0 x := by unfold mS0; omega
  rw [e]
theorem mS0_lt (x : Int32) : mS0 x < 200000 := by
  have hx : x.toBitVec.toNat < 2 ^ 32 := x.toBitVec.isLt
  unfold mS0
  omega
def mSN (q : Nat → Int32) (x : Int32) : Nat := msL q 6 0 (mS0 x)
def mSum (q : Nat → Int32) (x : Int32) : Int32 := mFold (mSN q x + 1) (nI (mSN q x))
theorem mSN_lt {q : Nat → Int32} {x : Int32} (h : Byt q 12) : mSN q x < 2 ^ 31 := by
  have h1 := msL_le h 6 0 (mS0 x) (by omega)
  have h2 := mS0_lt x
  unfold mSN
  omega
set_option maxRecDepth 100000 in
set_option maxHeartbeats 4000000 in
theorem c_M_sum37 {l : Launch} {G : zG} {U : zU} (w : wR G U) (N : zR) (x : Int32) (hB : Byt (N 37) 12) : zF l y_M_sum b_M_sum 4 (some .int) 1 21 G [.ref (U.1 37), .int x] (eR U N) (some (.int (mSum (N 37) x))) (eR U N) := by
  refine zF.ofZ (by decide) w.2.2.2.2 (Nat.le_of_ble_eq_true rfl) (fun X hXl hN hr C => ?_)
  subst hXl
  show Z X G (zA G) 4 _ (eR U N) 0 [(0, .ref (U.1 37)), (1, .int x)] []
  refine Z_iload_n C 1 d_M_sum_0 rfl rfl ?_
  refine Z_bipush (v := 16) C d_M_sum_1 (by decide) ?_
  refine Z_iushr C d_M_sum_3 ?_
  refine Z_iload_n C 1 d_M_sum_4 rfl rfl ?_
  refine Z_ldc C co_M_160 d_M_sum_5 ?_
  refine Z_iand C d_M_sum_7 ?_
  refine Z_iadd C d_M_sum_8 ?_
  refine Z_ldc C co_M_161 d_M_sum_9 ?_
  refine Z_iadd C d_M_sum_11 ?_
  refine Z_bipush (v := 18) C d_M_sum_12 (by decide) ?_
  refine Z_iadd C d_M_sum_14 ?_
  refine Z_bipush (v := 112) C d_M_sum_15 (by decide) ?_
  refine Z_iadd C d_M_sum_17 ?_
  refine Z_bipush (v := 12) C d_M_sum_18 (by decide) ?_
  refine Z_iadd C d_M_sum_20 ?_
  refine zst (st' := [.int (nI (mS0 x))]) (by rw [← mS0_eq]) ?_
  refine Z_istore_n C d_M_sum_21 rfl (by decide) rfl ?_
  refine Z_iconst (v := 0) C d_M_sum_22 (by decide) ?_
  refine Z_istore_n C d_M_sum_23 rfl (by decide) rfl ?_
  have hlp : ∀ (n k a : Nat), k + 2 * n = 12 → msL (N 37) n k a = mSN (N 37) x → Z X G (zA G) 4 (zQ X G (some (.int (mSum (N 37) x))) (eR U N)) (eR U N) 24 [(3, .int (nI k)), (2, .int (nI a)), (0, .ref (U.1 37)), (1, .int x)] [] := by
    intro n
    induction n with
    | zero =>
      intro k a h1 h2
      refine Z_iload_n C 0 d_M_sum_24 rfl rfl ?_
      refine Z_bipush (v := 12) C d_M_sum_25 (by decide) ?_
      refine Z_icmp_ge (tgt := 51) C d_M_sum_27 (by decide) (fun c27 => ?_) (fun c27 => ?_)
      · skip
        obtain rfl : a = mSN (N 37) x := h2
        refine Z_iload_n C 1 d_M_sum_51 rfl rfl ?_
        refine C_csv C ms_M_fold ml_M_162 (c_M_fold w _ (mSN (N 37) x) (mSN_lt hB)) rfl (by decide) rfl (Nat.le_of_ble_eq_true rfl) d_M_sum_52 ?_
        exact Z_iret C hN hr d_M_sum_55 (rfl) (zeq (rfl))
      · exact absurd (nI_le (a := 12) (b := k) (by omega) (by omega)) c27 --stop
    | succ n ih =>
      intro k a h1 h2
      obtain ⟨e0, l0⟩ := hB k (by omega)
      obtain ⟨e1, l1⟩ := hB (k + 1) (by omega)
      refine Z_iload_n C 0 d_M_sum_24 rfl rfl ?_
      refine Z_bipush (v := 12) C d_M_sum_25 (by decide) ?_
      refine Z_icmp_ge (tgt := 51) C d_M_sum_27 (by decide) (fun c27 => ?_) (fun c27 => ?_)
      · exact absurd c27 (nI_ge (a := k) (b := 12) (by omega) (by decide)) --stop
      · skip
        refine Z_iload_n C 1 d_M_sum_30 rfl rfl ?_
        refine Z_aload_n C 2 d_M_sum_31 rfl rfl ?_
        refine Z_iload_n C 0 d_M_sum_32 rfl rfl ?_
        refine R_ld 37 C w rfl rfl k (nI_clamp (by omega)) (vp_in_nI (n := k) (N := 40) (by omega) (by decide)) d_M_sum_33 ?_
        refine Z_bipush (v := 8) C d_M_sum_34 (by decide) ?_
        refine Z_ishl C d_M_sum_36 ?_
        refine Z_aload_n C 2 d_M_sum_37 rfl rfl ?_
        refine Z_iload_n C 0 d_M_sum_38 rfl rfl ?_
        refine Z_iconst (v := 1) C d_M_sum_39 (by decide) ?_
        refine Z_iadd C d_M_sum_40 ?_
        refine R_ld 37 C w rfl rfl (k + 1) (by rw [nI_1]; exact nI_clamp (by omega)) (by rw [nI_1]; exact vp_in_nI (n := k + 1) (N := 40) (by omega) (by decide)) d_M_sum_41 ?_
        refine Z_ior C d_M_sum_42 ?_
        refine Z_iadd C d_M_sum_43 ?_
        refine zst (st' := [.int (nI (a + (256 * mbt (N 37) k + mbt (N 37) (k + 1))))]) (by rw [e0, e1, byt_or l0 l1, nI_add]) ?_
        refine Z_istore_n C d_M_sum_44 rfl (by decide) rfl ?_
        refine Z_iinc 1 C d_M_sum_45 rfl (nI_add k 2) (by decide) rfl ?_
        refine Z_goto (tgt := 24) C d_M_sum_48 (by decide) ?_
        exact ih (k + 2) _ (by omega) h2
  exact hlp 6 0 (mS0 x) rfl rfl
set_option maxRecDepth 100000 in
set_option maxHeartbeats 4000000 in
theorem c_M_sum39 {l : Launch} {G : zG} {U : zU} (w : wR G U) (N : zR) (x : Int32) (hB : Byt (N 39) 12) : zF l y_M_sum b_M_sum 4 (some .int) 1 21 G [.ref (U.1 39), .int x] (eR U N) (some (.int (mSum (N 39) x))) (eR U N) := by
  refine zF.ofZ (by decide) w.2.2.2.2 (Nat.le_of_ble_eq_true rfl) (fun X hXl hN hr C => ?_)
  subst hXl
  show Z X G (zA G) 4 _ (eR U N) 0 [(0, .ref (U.1 39)), (1, .int x)] []
  refine Z_iload_n C 1 d_M_sum_0 rfl rfl ?_
  refine Z_bipush (v := 16) C d_M_sum_1 (by decide) ?_
  refine Z_iushr C d_M_sum_3 ?_
  refine Z_iload_n C 1 d_M_sum_4 rfl rfl ?_
  refine Z_ldc C co_M_160 d_M_sum_5 ?_
  refine Z_iand C d_M_sum_7 ?_
  refine Z_iadd C d_M_sum_8 ?_
  refine Z_ldc C co_M_161 d_M_sum_9 ?_
  refine Z_iadd C d_M_sum_11 ?_
  refine Z_bipush (v := 18) C d_M_sum_12 (by decide) ?_
  refine Z_iadd C d_M_sum_14 ?_
  refine Z_bipush (v := 112) C d_M_sum_15 (by decide) ?_
  refine Z_iadd C d_M_sum_17 ?_
  refine Z_bipush (v := 12) C d_M_sum_18 (by decide) ?_
  refine Z_iadd C d_M_sum_20 ?_
  refine zst (st' := [.int (nI (mS0 x))]) (by rw [← mS0_eq]) ?_
  refine Z_istore_n C d_M_sum_21 rfl (by decide) rfl ?_
  refine Z_iconst (v := 0) C d_M_sum_22 (by decide) ?_
  refine Z_istore_n C d_M_sum_23 rfl (by decide) rfl ?_
  have hlp : ∀ (n k a : Nat), k + 2 * n = 12 → msL (N 39) n k a = mSN (N 39) x → Z X G (zA G) 4 (zQ X G (some (.int (mSum (N 39) x))) (eR U N)) (eR U N) 24 [(3, .int (nI k)), (2, .int (nI a)), (0, .ref (U.1 39)), (1, .int x)] [] := by
    intro n
    induction n with
    | zero =>
      intro k a h1 h2
      refine Z_iload_n C 0 d_M_sum_24 rfl rfl ?_
      refine Z_bipush (v := 12) C d_M_sum_25 (by decide) ?_
      refine Z_icmp_ge (tgt := 51) C d_M_sum_27 (by decide) (fun c27 => ?_) (fun c27 => ?_)
      · skip
        obtain rfl : a = mSN (N 39) x := h2
        refine Z_iload_n C 1 d_M_sum_51 rfl rfl ?_
        refine C_csv C ms_M_fold ml_M_162 (c_M_fold w _ (mSN (N 39) x) (mSN_lt hB)) rfl (by decide) rfl (Nat.le_of_ble_eq_true rfl) d_M_sum_52 ?_
        exact Z_iret C hN hr d_M_sum_55 (rfl) (zeq (rfl))
      · exact absurd (nI_le (a := 12) (b := k) (by omega) (by omega)) c27 --stop
    | succ n ih =>
      intro k a h1 h2
      obtain ⟨e0, l0⟩ := hB k (by omega)
      obtain ⟨e1, l1⟩ := hB (k + 1) (by omega)
      refine Z_iload_n C 0 d_M_sum_24 rfl rfl ?_
      refine Z_bipush (v := 12) C d_M_sum_25 (by decide) ?_
      refine Z_icmp_ge (tgt := 51) C d_M_sum_27 (by decide) (fun c27 => ?_) (fun c27 => ?_)
      · exact absurd c27 (nI_ge (a := k) (b := 12) (by omega) (by decide)) --stop
      · skip
        refine Z_iload_n C 1 d_M_sum_30 rfl rfl ?_
        refine Z_aload_n C 2 d_M_sum_31 rfl rfl ?_
        refine Z_iload_n C 0 d_M_sum_32 rfl rfl ?_
        refine R_ld 39 C w rfl rfl k (nI_clamp (by omega)) (vp_in_nI (n := k) (N := 40) (by omega) (by decide)) d_M_sum_33 ?_
        refine Z_bipush (v := 8) C d_M_sum_34 (by decide) ?_
        refine Z_ishl C d_M_sum_36 ?_
        refine Z_aload_n C 2 d_M_sum_37 rfl rfl ?_
        refine Z_iload_n C 0 d_M_sum_38 rfl rfl ?_
        refine Z_iconst (v := 1) C d_M_sum_39 (by decide) ?_
        refine Z_iadd C d_M_sum_40 ?_
        refine R_ld 39 C w rfl rfl (k + 1) (by rw [nI_1]; exact nI_clamp (by omega)) (by rw [nI_1]; exact vp_in_nI (n := k + 1) (N := 40) (by omega) (by decide)) d_M_sum_41 ?_
        refine Z_ior C d_M_sum_42 ?_
        refine Z_iadd C d_M_sum_43 ?_
        refine zst (st' := [.int (nI (a + (256 * mbt (N 39) k + mbt (N 39) (k + 1))))]) (by rw [e0, e1, byt_or l0 l1, nI_add]) ?_
        refine Z_istore_n C d_M_sum_44 rfl (by decide) rfl ?_
        refine Z_iinc 1 C d_M_sum_45 rfl (nI_add k 2) (by decide) rfl ?_
        refine Z_goto (tgt := 24) C d_M_sum_48 (by decide) ?_
        exact ih (k + 2) _ (by omega) h2
  exact hlp 6 0 (mS0 x) rfl rfl

