/-! ARITHMETIC: bytes put together -/
theorem or_add (m k y : Nat) (hy : y < 2 ^ k) : nI (m * 2 ^ k) ||| nI y = nI (m * 2 ^ k + y) := by
  apply Int32.toBitVec_inj.mp
  rw [Int32.toBitVec_or]
  apply BitVec.eq_of_toNat_eq
  rw [BitVec.toNat_or]
  show (m * 2 ^ k) % 2 ^ 32 ||| y % 2 ^ 32 = (m * 2 ^ k + y) % 2 ^ 32
  rw [← Nat.or_mod_two_pow, Nat.mul_comm m, ← Nat.two_pow_add_eq_or_of_lt hy]
theorem or_addL (m k y : Nat) (hy : y < 2 ^ k) : lN (m * 2 ^ k) ||| lN y = lN (m * 2 ^ k + y) := by
  apply Int64.toBitVec_inj.mp
  rw [Int64.toBitVec_or]
  apply BitVec.eq_of_toNat_eq
  rw [BitVec.toNat_or]
  show (m * 2 ^ k) % 2 ^ 64 ||| y % 2 ^ 64 = (m * 2 ^ k + y) % 2 ^ 64
  rw [← Nat.or_mod_two_pow, Nat.mul_comm m, ← Nat.two_pow_add_eq_or_of_lt hy]
abbrev hf4 (a b c d : Int32) : Int32 := a <<< ((24 : Int32) &&& 31) ||| b <<< ((16 : Int32) &&& 31) ||| c <<< ((8 : Int32) &&& 31) ||| d
theorem f4_val {a b c d : Nat} (ha : a < 256) (hb : b < 256) (hc : c < 256) (hd : d < 256) : hf4 (nI a) (nI b) (nI c) (nI d) = nI (((a * 256 + b) * 256 + c) * 256 + d) := by
  unfold hf4
  rw [pk_shlN ((24 : Int32) &&& 31) 24 (by decide) (by omega), pk_shlN ((16 : Int32) &&& 31) 16 (by decide) (by omega), pk_shlN ((8 : Int32) &&& 31) 8 (by decide) (by omega), or_add a 24 (b * 2 ^ 16) (by omega), show a * 2 ^ 24 + b * 2 ^ 16 = (a * 256 + b) * 2 ^ 16 by omega, or_add _ 16 (c * 2 ^ 8) (by omega), show (a * 256 + b) * 2 ^ 16 + c * 2 ^ 8 = ((a * 256 + b) * 256 + c) * 2 ^ 8 by omega, or_add _ 8 d (by omega)]
abbrev hf2 (a b : Int32) : Int32 := a <<< ((8 : Int32) &&& 31) ||| b
theorem f2_val {a b : Nat} (ha : a < 256) (hb : b < 256) : hf2 (nI a) (nI b) = nI (a * 256 + b) := by
  unfold hf2
  rw [pk_shlN ((8 : Int32) &&& 31) 8 (by decide) (by omega), or_add a 8 b (by omega)]
theorem shl8L {v : Nat} (h : v < 2 ^ 48) : lN v <<< ((8 : Int32).toInt64 &&& 63) = lN (v * 2 ^ 8) := by
  apply Int64.toBitVec_inj.mp
  rw [Int64.toBitVec_shiftLeft]
  apply BitVec.eq_of_toNat_eq
  show ((BitVec.ofNat 64 v) <<< ((((8 : Int32).toInt64 &&& 63) : Int64).toBitVec.smod 64)).toNat = (v * 2 ^ 8) % 2 ^ 64
  rw [show (((8 : Int32).toInt64 &&& 63) : Int64).toBitVec.smod 64 = 8#64 by decide]
  rw [BitVec.shiftLeft_eq', BitVec.toNat_shiftLeft, BitVec.toNat_ofNat, Nat.shiftLeft_eq]
  show v % 2 ^ 64 * 2 ^ 8 % 2 ^ 64 = _
  rw [Nat.mod_eq_of_lt (show v < 2 ^ 64 by omega)]
theorem mt_step {v b : Nat} (h : v < 2 ^ 48) (hb : b < 256) : (lN v <<< ((8 : Int32).toInt64 &&& 63)) ||| (nI b).toInt64 = lN (v * 256 + b) := by
  rw [shl8L h, nI_l (by omega), or_addL v 8 b (by omega)]
theorem mTold4 {N : zR} {a : Nat} (h : Byt (N 39) 40) (ha : a + 4 ≤ 40) : mTold N a 4 = lN (((mbt (N 39) a * 256 + mbt (N 39) (a + 1)) * 256 + mbt (N 39) (a + 2)) * 256 + mbt (N 39) (a + 3)) := by
  obtain ⟨e0, l0⟩ := h a (by omega)
  obtain ⟨e1, l1⟩ := h (a + 1) (by omega)
  obtain ⟨e2, l2⟩ := h (a + 2) (by omega)
  obtain ⟨e3, l3⟩ := h (a + 3) (by omega)
  show (((((((0 : Int64) <<< ((8 : Int32).toInt64 &&& 63)) ||| (N 39 (a + 0)).toInt64) <<< ((8 : Int32).toInt64 &&& 63)) ||| (N 39 (a + 1)).toInt64) <<< ((8 : Int32).toInt64 &&& 63)) ||| (N 39 (a + 2)).toInt64) <<< ((8 : Int32).toInt64 &&& 63) ||| (N 39 (a + 3)).toInt64 = _
  rw [Nat.add_zero]
  generalize mbt (N 39) a = x0 at *
  generalize mbt (N 39) (a + 1) = x1 at *
  generalize mbt (N 39) (a + 2) = x2 at *
  generalize mbt (N 39) (a + 3) = x3 at *
  rw [e0, e1, e2, e3, show (0 : Int64) = lN 0 from rfl, mt_step (by omega) l0, mt_step (by omega) l1, mt_step (by omega) l2, mt_step (by omega) l3]
  rw [show 0 * 256 + x0 = x0 by omega]
theorem mTold2 {N : zR} {a : Nat} (h : Byt (N 39) 40) (ha : a + 2 ≤ 40) : mTold N a 2 = lN (mbt (N 39) a * 256 + mbt (N 39) (a + 1)) := by
  obtain ⟨e0, l0⟩ := h a (by omega)
  obtain ⟨e1, l1⟩ := h (a + 1) (by omega)
  show ((((0 : Int64) <<< ((8 : Int32).toInt64 &&& 63)) ||| (N 39 (a + 0)).toInt64) <<< ((8 : Int32).toInt64 &&& 63)) ||| (N 39 (a + 1)).toInt64 = _
  rw [Nat.add_zero]
  generalize mbt (N 39) a = x0 at *
  generalize mbt (N 39) (a + 1) = x1 at *
  rw [e0, e1, show (0 : Int64) = lN 0 from rfl, mt_step (by omega) l0, mt_step (by omega) l1]
  rw [show 0 * 256 + x0 = x0 by omega]
theorem lN_32 (n : Nat) : (lN n).toInt32 = nI n := by
  apply Int32.toBitVec_inj.mp
  apply BitVec.eq_of_toNat_eq
  show ((BitVec.ofNat 64 n).signExtend 32).toNat = n % 2 ^ 32
  rw [BitVec.signExtend_eq_setWidth_of_le _ (by decide), BitVec.toNat_setWidth, BitVec.toNat_ofNat]
  omega
theorem cmp_le {a b : Nat} (ha : a < 2 ^ 63) (hb : b < 2 ^ 63) : lg_cmp (lN a) (lN b) ≤ 0 ↔ a ≤ b := by
  unfold lg_cmp
  split
  · rename_i h
    have := (pk_lLT hb ha).mp h
    exact ⟨fun z => absurd z (by decide), fun z => by omega⟩
  · rename_i h
    have h' : ¬ b < a := fun z => h ((pk_lLT hb ha).mpr z)
    split
    · exact ⟨fun _ => by omega, fun _ => by decide⟩
    · exact ⟨fun _ => by omega, fun _ => by decide⟩
theorem cmp_eq {a b : Nat} (ha : a < 2 ^ 63) (hb : b < 2 ^ 63) : lg_cmp (lN a) (lN b) = 0 ↔ a = b := by
  unfold lg_cmp
  split
  · rename_i h
    have := (pk_lLT hb ha).mp h
    exact ⟨fun z => absurd z (by decide), fun z => by omega⟩
  · rename_i h
    split
    · rename_i e; exact ⟨fun _ => (pk_lEQ ha hb).mp e, fun _ => rfl⟩
    · rename_i e; exact ⟨fun z => absurd z (by decide), fun z => absurd ((pk_lEQ ha hb).mpr z) e⟩
/-- an int of 32 bits, read as a number -/
theorem nI_inj {a b : Nat} (ha : a < 2 ^ 32) (hb : b < 2 ^ 32) : nI a = nI b ↔ a = b := by
  refine ⟨fun h => ?_, fun h => by rw [h]⟩
  have := congrArg (fun x : Int32 => x.toBitVec.toNat) h
  show a = b
  change (nI a).toBitVec.toNat = (nI b).toBitVec.toNat at this
  rw [pk_tn ha, pk_tn hb] at this
  exact this
theorem nI_neg {n : Nat} (h : n < 2 ^ 32) : nI n < 0 ↔ 2 ^ 31 ≤ n := by
  rw [Int32.lt_iff_toInt_lt]
  show ((BitVec.ofNat 32 n).toInt) < 0 ↔ _
  rw [BitVec.toInt_eq_toNat_cond, BitVec.toNat_ofNat]
  rw [Nat.mod_eq_of_lt h]
  split <;> omega
theorem told_cap {n : Nat} (h : n < 2 ^ 32) : sTold (nI n) = nI (min n 100000) ∧ mCap (lN n) = nI (min n 100000) := by
  refine ⟨?_, ?_⟩
  · unfold sTold
    by_cases h1 : 2 ^ 31 ≤ n
    · rw [if_pos ((nI_neg h).mpr h1), Nat.min_eq_right (by omega)]; rfl
    · rw [if_neg (fun z => h1 ((nI_neg h).mp z))]
      show (if nI n ≤ nI 100000 then nI n else nI 100000) = _
      by_cases h2 : n ≤ 100000
      · rw [if_pos (nI_le (b := 100000) h2 (by decide)), Nat.min_eq_left h2]
      · rw [if_neg (nI_ge (a := 100000) (b := n) (by omega) (by omega)), Nat.min_eq_right (by omega)]
  · unfold mCap
    show (if lg_cmp (lN n) (lN 100000) ≤ 0 then (lN n).toInt32 else nI 100000) = _
    by_cases h2 : n ≤ 100000
    · rw [if_pos ((cmp_le (b := 100000) (by omega) (by decide)).mpr h2), lN_32, Nat.min_eq_left h2]
    · rw [if_neg (fun z => h2 ((cmp_le (a := n) (b := 100000) (by omega) (by decide)).mp z)), Nat.min_eq_right (by omega)]
