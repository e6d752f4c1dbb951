/-! THE TWO SIDES: bytes of a frame; what a session learns -/
abbrev hfour (w : Nat → Int32) (a : Nat) : Int32 := hf4 (w a) (w (a + 1)) (w (a + 2)) (w (a + 3))
def hFX (q b : Nat → Int32) (kd : Int32) (z : Nat) (w : Nat → Int32) : Prop := q 1 = nI z ∧ z ≤ 40 ∧ (∀ j, j < z → ¬ (kd = 2 ∧ 8 ≤ j ∧ j < 12) → b j = w j) ∧ (kd = 2 → 24 ≤ z → hfour b 8 = hfour w 8 ∨ hfour b 8 = sTold (hfour w 8))
theorem hFX.len {q b : Nat → Int32} {kd : Int32} {z : Nat} {w : Nat → Int32} (h_ : hFX q b kd z w) : q 1 = nI z := h_.1
theorem hFX.le {q b : Nat → Int32} {kd : Int32} {z : Nat} {w : Nat → Int32} (h_ : hFX q b kd z w) : z ≤ 40 := h_.2.1
theorem hFX.at_ {q b : Nat → Int32} {kd : Int32} {z : Nat} {w : Nat → Int32} (h_ : hFX q b kd z w) : ∀ j, j < z → ¬ (kd = 2 ∧ 8 ≤ j ∧ j < 12) → b j = w j := h_.2.2.1
theorem hFX.num {q b : Nat → Int32} {kd : Int32} {z : Nat} {w : Nat → Int32} (h_ : hFX q b kd z w) : kd = 2 → 24 ≤ z → hfour b 8 = hfour w 8 ∨ hfour b 8 = sTold (hfour w 8) := h_.2.2.2
theorem fB_in {q b : Nat → Int32} {z : Nat} (h : q 1 = nI z) (hz : z ≤ 40) (j : Nat) (hj : j < z) : fByte q b (nI j) = b j := by
  unfold fByte
  rw [if_neg (nI_pos (by omega)), h, if_neg (nI_ge hj (by omega)), if_neg (show ¬ (40 : Int32) ≤ nI j from nI_ge (a := j) (b := 40) (by omega) (by decide)), nI_clamp (by omega)]
theorem fF_in {q b : Nat → Int32} {z : Nat} (h : q 1 = nI z) (hz : z ≤ 40) (j : Nat) (hj : j + 3 < z) : fFour q b (nI j) = hfour b j := by
  unfold fFour
  rw [show nI j + 1 = nI (j + 1) from nI_1 j, show nI j + 2 = nI (j + 2) from nI_add j 2, show nI j + 3 = nI (j + 3) from nI_add j 3, fB_in h hz j (by omega), fB_in h hz (j + 1) (by omega), fB_in h hz (j + 2) (by omega), fB_in h hz (j + 3) (by omega)]
abbrev bn (w : Nat → Int32) (a : Nat) : Nat := ((mbt w a * 256 + mbt w (a + 1)) * 256 + mbt w (a + 2)) * 256 + mbt w (a + 3)
theorem bn_lt {w : Nat → Int32} {a : Nat} (h : Byt w 40) (ha : a + 4 ≤ 40) : bn w a < 2 ^ 32 := by
  have h0 := (h a (by omega)).2
  have h1 := (h (a + 1) (by omega)).2
  have h2 := (h (a + 2) (by omega)).2
  have h3 := (h (a + 3) (by omega)).2
  unfold bn
  omega
theorem four_n {w : Nat → Int32} {a : Nat} (h : Byt w 40) (ha : a + 4 ≤ 40) : hfour w a = nI (bn w a) := by
  obtain ⟨e0, l0⟩ := h a (by omega)
  obtain ⟨e1, l1⟩ := h (a + 1) (by omega)
  obtain ⟨e2, l2⟩ := h (a + 2) (by omega)
  obtain ⟨e3, l3⟩ := h (a + 3) (by omega)
  have k := f4_val l0 l1 l2 l3
  rw [← e0, ← e1, ← e2, ← e3] at k
  exact k
section LEARN
variable {q p b : Nat → Int32} {N : zR} {i z : Nat}
theorem hFX.bt (h : hFX p b 2 z (N 39)) (j : Nat) (hj : j < z) (h8 : j < 8 ∨ 12 ≤ j) : fByte p b (nI j) = N 39 j := by
  rw [fB_in h.len h.le j hj]
  exact h.at_ j hj (by omega)
theorem hFX.f (h : hFX p b 2 z (N 39)) (hB : Byt (N 39) 40) (j : Nat) (hj : j + 3 < z) (h8 : j + 3 < 8 ∨ 12 ≤ j) : fFour p b (nI j) = nI (bn (N 39) j) := by
  have hz := h.le
  rw [fF_in h.len h.le j hj, ← four_n hB (by omega)]
  show hf4 _ _ _ _ = hf4 _ _ _ _
  rw [h.at_ j (by omega) (by omega), h.at_ (j + 1) (by omega) (by omega), h.at_ (j + 2) (by omega) (by omega), h.at_ (j + 3) (by omega) (by omega)]
theorem said_div (hB : Byt (N 39) 40) : N 39 1 / 64 = mSaid N ∧ (mSaid N = 0 ∨ mSaid N = 1 ∨ mSaid N = 2 ∨ mSaid N = 3) := by
  obtain ⟨e, l⟩ := hB 1 (by decide)
  unfold mSaid
  generalize mbt (N 39) 1 = x at *
  rw [e]
  rw [show (64 : Int32) = nI 64 from rfl, pk_div (by omega) (by decide) (by decide), pk_shrN (by omega) ((6 : Int32) &&& 31) 6 (by decide)]
  refine ⟨rfl, ?_⟩
  have : x / 2 ^ 6 = 0 ∨ x / 2 ^ 6 = 1 ∨ x / 2 ^ 6 = 2 ∨ x / 2 ^ 6 = 3 := by omega
  rcases this with k | k | k | k <;> rw [k] <;> decide
theorem mTold_39 {N' : zR} (e : N' 39 = N 39) (a n : Nat) : mTold N' a n = mTold N a n := by
  unfold mTold
  suffices h : ∀ (m k : Nat) (v : Int64), mtL N' a m k v = mtL N a m k v from h _ _ _
  intro m
  induction m with
  | zero => intro k v; rfl
  | succ m ih => intro k v; show mtL N' a m (k + 1) _ = mtL N a m (k + 1) _; rw [ih, e]
/-- what the packet tells is noted -/
theorem sq_learn1 (h : hSQ q N i) (hF : hFX p b 2 z (N 39)) (hz : 24 ≤ z) (hB : Byt (N 39) 40) : hSQ (sLearn1 q p b) (mK5 N i) i := by
  have e4 : fFour p b 4 = nI (bn (N 39) 4) := hF.f hB 4 (by omega) (by omega)
  have e12 : fFour p b 12 = nI (bn (N 39) 12) := hF.f hB 12 (by omega) (by omega)
  have e16 : fFour p b 16 = nI (bn (N 39) 16) := hF.f hB 16 (by omega) (by omega)
  have e1 : fByte p b 1 = N 39 1 := hF.bt 1 (by omega) (by omega)
  have e2 : fByte p b 2 = N 39 2 := hF.bt 2 (by omega) (by omega)
  have m4 := mTold4 (N := N) (a := 4) hB (by decide)
  have m12 := mTold4 (N := N) (a := 12) hB (by decide)
  have m16 := mTold4 (N := N) (a := 16) hB (by decide)
  have c12 := told_cap (bn_lt (a := 12) hB (by decide))
  have c16 := told_cap (bn_lt (a := 16) hB (by decide))
  have k3 : mTold (mK3 N i) 12 4 = mTold N 12 4 := mTold_39 rfl _ _
  have k4 : mTold (mK4 N i) 16 4 = mTold N 16 4 := mTold_39 rfl _ _
  have a1 : sTold (fFour p b 4) = sTold (mTold N 4 4).toInt32 := by rw [e4, m4, lN_32]
  have a2 : sTold (fFour p b 12) = mCap (mTold (mK3 N i) 12 4) := by rw [e12, c12.1, k3, m12]; exact c12.2.symm
  have a3 : sTold (fFour p b 16) = mCap (mTold (mK4 N i) 16 4) := by rw [e16, c16.1, k4, m16]; exact c16.2.symm
  unfold sLearn1 mK5
  rw [a1, a2, a3, e1, e2, (said_div hB).1]
  generalize mCap (mTold (mK4 N i) 16 4) = v16
  unfold mK4
  generalize mCap (mTold (mK3 N i) 12 4) = v12
  unfold mK3 mK1
  (refine ⟨?_, ?_, ?_, ?_, ?_, ?_, ?_, ?_, ?_, ?_, ?_, ?_, ?_, ?_, ?_, ?_, ?_⟩ <;> simp [upd, u2, h.e2, h.e3, h.e4, h.e5, h.e6, h.e7, h.e8, h.e9, h.e10, h.e11, h.e12, h.e13, h.e14, h.e15, h.e16, h.e17, h.e18])
theorem so_k5 : hSO i N (mK5 N i) := by
  unfold mK5 mK4 mK3 mK1
  repeat (first | exact hSO.rf | refine hSO.tr ?_ (hSO.u (by decide)))
theorem cap_le {n : Nat} (h : n < 2 ^ 32) : ∃ m, m ≤ 100000 ∧ mCap (lN n) = nI m := by
  have k := (told_cap h).2
  have l : min n 100000 ≤ 100000 := Nat.min_le_right n 100000
  generalize min n 100000 = m at k l
  exact ⟨m, l, k⟩
theorem si_k5 (g : hSI N i) (hB : Byt (N 39) 40) : hSI (mK5 N i) i ∧ ∃ n, n ≤ 100000 ∧ mK5 N i 22 i = nI n := by
  have k3 : mTold (mK3 N i) 12 4 = mTold N 12 4 := mTold_39 rfl _ _
  have k4 : mTold (mK4 N i) 16 4 = mTold N 16 4 := mTold_39 rfl _ _
  obtain ⟨m, hm, e⟩ := cap_le (bn_lt (a := 12) hB (by decide))
  obtain ⟨m', hm', e'⟩ := cap_le (bn_lt (a := 16) hB (by decide))
  have e22 : mK5 N i 22 i = nI m := by
    unfold mK5
    rw [u2_ne (by decide)]
    unfold mK4
    rw [u2_self, pk_us, k3, mTold4 hB (by decide)]; exact e
  have e21 : mK5 N i 21 i = nI m' := by
    unfold mK5
    rw [u2_self, pk_us, k4, mTold4 hB (by decide)]; exact e'
  have o : ∀ a, a ≠ 14 → a ≠ 13 → a ≠ 23 → a ≠ 22 → a ≠ 21 → mK5 N i a = N a := fun a h1 h2 h3 h4 h5 => by
    unfold mK5 mK4 mK3 mK1
    rw [u2_ne h5, u2_ne h4, u2_ne h3, u2_ne h2, u2_ne h1]
  refine ⟨⟨?_, ?_, ?_, ⟨m', hm', e21⟩, ?_⟩, m, hm, e22⟩
  · rw [o 12 (by decide) (by decide) (by decide) (by decide) (by decide)]; exact g.s12
  · rw [o 17 (by decide) (by decide) (by decide) (by decide) (by decide)]; exact g.s17
  · rw [o 19 (by decide) (by decide) (by decide) (by decide) (by decide)]; exact g.s19
  · rw [o 24 (by decide) (by decide) (by decide) (by decide) (by decide)]; exact g.s24
theorem sq_learn2 (h : hSQ q N i) (hF : hFX p b 2 z (N 39)) (hz : 24 ≤ z) (hB : Byt (N 39) 40) : hSQ (sLearn2 q p b) (mK6 (mK5 N i) i) i := by
  have h1 := sq_learn1 h hF hz hB
  have e1 : fByte p b 1 = N 39 1 := hF.bt 1 (by omega) (by omega)
  have e39 : mK5 N i 39 1 = N 39 1 := rfl
  unfold sLearn2 mK6
  rw [h1.e13, e1, e39]
  generalize sLearn1 q p b = q1 at *
  generalize mK5 N i = N1 at *
  split
  · exact h1
  split
  · exact h1
  · unfold sUse; (refine ⟨?_, ?_, ?_, ?_, ?_, ?_, ?_, ?_, ?_, ?_, ?_, ?_, ?_, ?_, ?_, ?_, ?_⟩ <;> simp [upd, u2, h1.e2, h1.e3, h1.e4, h1.e5, h1.e6, h1.e7, h1.e8, h1.e9, h1.e10, h1.e11, h1.e12, h1.e13, h1.e14, h1.e15, h1.e16, h1.e17, h1.e18])
theorem so_k6 : hSO i N (mK6 N i) := by
  unfold mK6
  split
  · exact hSO.rf
  split
  · exact hSO.rf
  · repeat (first | exact hSO.rf | refine hSO.tr ?_ (hSO.u (by decide)))
theorem si_k6 (g : hSI N i) : hSI (mK6 N i) i ∧ mK6 N i 22 i = N 22 i ∧ mK6 N i 23 i = N 23 i ∧ mK6 N i 12 i = N 12 i ∧ mK6 N i 13 i = N 13 i := by
  unfold mK6
  split
  · exact ⟨g, rfl, rfl, rfl, rfl⟩
  split
  · exact ⟨g, rfl, rfl, rfl, rfl⟩
  · exact ⟨by (refine ⟨?_, ?_, ?_, ?_, ?_⟩ <;> simp [upd, u2, g.s12, g.s17, g.s19, g.s21, g.s24]), rfl, rfl, rfl, rfl⟩
theorem mx_nI {a b : Nat} (ha : a < 2 ^ 31) (hb : b < 2 ^ 31) : mMax (nI a) (nI b) = nI (max a b) := by
  unfold mMax
  by_cases h : a ≤ b
  · rw [if_pos (nI_le h hb), Nat.max_eq_right h]
  · rw [if_neg (nI_ge (by omega) ha), Nat.max_eq_left (by omega)]
theorem h_lN_mul (a b : Nat) : lN a * lN b = lN (a * b) := (Int64.ofNat_mul a b).symm
theorem wait_eq {m a c : Nat} (hm : m < 256) (ha : a ≤ 1000) (hc : c ≤ 100000) : imn 10000000 (nI m * imx (nI a) (nI c)) = if lg_cmp ((nI m).toInt64 * (mMax (nI a) (nI c)).toInt64) 10000000 ≤ 0 then ((nI m).toInt64 * (mMax (nI a) (nI c)).toInt64).toInt32 else 10000000 := by
  have hx : max a c ≤ 100000 := by omega
  have hp : m * max a c ≤ 255 * 100000 := Nat.mul_le_mul (by omega) hx
  rw [imx_mx, mx_nI (by omega) (by omega), nI_l (by omega), nI_l (by omega), h_lN_mul, pk_mul]
  generalize m * max a c = p at *
  rw [lN_32]
  unfold imn
  show (if nI p < nI 10000000 then nI p else nI 10000000) = if lg_cmp (lN p) (lN 10000000) ≤ 0 then nI p else nI 10000000
  by_cases h : p < 10000000
  · rw [if_pos (nI_lt h (by decide)), if_pos ((cmp_le (by omega) (by decide)).mpr (by omega))]
  · rw [if_neg (nI_nlt (by omega) (by omega))]
    by_cases h2 : p = 10000000
    · rw [h2]; split <;> rfl
    · rw [if_neg (fun k => h2 (by have := (cmp_le (by omega) (by decide)).mp k; omega))]
theorem sq_learn3 (h : hSQ q N i) (g : hSI N i) (hF : hFX p b 2 z (N 39)) (hz : 24 ≤ z) (hB : Byt (N 39) 40) : hSQ (upd (sLearn2 q p b) 17 (imn 10000000 (sLearn2 q p b 12 * imx (sLearn2 q p b 15) (sLearn2 q p b 11)))) (mK7 (mK6 (mK5 N i) i) i) i := by
  have h2 := sq_learn2 h hF hz hB
  obtain ⟨g5, c, hc, e22⟩ := si_k5 g hB
  obtain ⟨g6, f22, f23, -, -⟩ := si_k6 g5
  obtain ⟨a, ha, e19⟩ := g6.s19
  obtain ⟨e2, l2⟩ := hB 2 (by decide)
  have e23 : mK6 (mK5 N i) i 23 i = nI (mbt (N 39) 2) := by
    rw [f23]
    show mK3 N i 23 i = _
    unfold mK3
    rw [u2_self, pk_us]
    exact e2
  have hw := wait_eq l2 ha hc
  rw [← e23, ← e19, ← e22, ← f22] at hw
  unfold mK7 mWait
  rw [← hw, h2.e12, h2.e15, h2.e11]
  generalize imn 10000000 (mK6 (mK5 N i) i 23 i * imx (mK6 (mK5 N i) i 19 i) (mK6 (mK5 N i) i 22 i)) = v
  generalize sLearn2 q p b = q2 at *
  generalize mK6 (mK5 N i) i = N2 at *
  (refine ⟨?_, ?_, ?_, ?_, ?_, ?_, ?_, ?_, ?_, ?_, ?_, ?_, ?_, ?_, ?_, ?_, ?_⟩ <;> simp [upd, u2, h2.e2, h2.e3, h2.e4, h2.e5, h2.e6, h2.e7, h2.e8, h2.e9, h2.e10, h2.e11, h2.e12, h2.e13, h2.e14, h2.e15, h2.e16, h2.e17, h2.e18])
theorem sq_follow {said : Int32} (h : hSQ q N i) (g : hSI N i) (e : N 13 i = said) (hs : said = 0 ∨ said = 1 ∨ said = 2 ∨ said = 3) : hSQ (sFollow q) (mK8 N i (N 12 i) said) i ∧ hSI (mK8 N i (N 12 i) said) i ∧ hSO i N (mK8 N i (N 12 i) said) := by
  have e4 : q 4 = said := h.e4.trans e
  unfold sFollow mK8 mTurn sFall sComeUp
  rw [h.e3, e4]
  have u2' : hSQ (upd q 3 2) (u2 N 12 i 2) i := by (refine ⟨?_, ?_, ?_, ?_, ?_, ?_, ?_, ?_, ?_, ?_, ?_, ?_, ?_, ?_, ?_, ?_, ?_⟩ <;> simp [upd, u2, h.e2, h.e3, h.e4, h.e5, h.e6, h.e7, h.e8, h.e9, h.e10, h.e11, h.e12, h.e13, h.e14, h.e15, h.e16, h.e17, h.e18])
  have gu2 : hSI (u2 N 12 i 2) i := by (refine ⟨?_, ?_, ?_, ?_, ?_⟩ <;> simp [upd, u2, g.s12, g.s17, g.s19, g.s21, g.s24])
  have uu : hSQ (upd (upd q 3 3) 18 (q 18 + 1)) (mUp N i) i := by unfold mUp; (refine ⟨?_, ?_, ?_, ?_, ?_, ?_, ?_, ?_, ?_, ?_, ?_, ?_, ?_, ?_, ?_, ?_, ?_⟩ <;> simp [upd, u2, h.e2, h.e3, h.e4, h.e5, h.e6, h.e7, h.e8, h.e9, h.e10, h.e11, h.e12, h.e13, h.e14, h.e15, h.e16, h.e17, h.e18])
  have dd : hSQ (upd (upd q 6 3) 3 1) (mDown N i 3) i := by unfold mDown; (refine ⟨?_, ?_, ?_, ?_, ?_, ?_, ?_, ?_, ?_, ?_, ?_, ?_, ?_, ?_, ?_, ?_, ?_⟩ <;> simp [upd, u2, h.e2, h.e3, h.e4, h.e5, h.e6, h.e7, h.e8, h.e9, h.e10, h.e11, h.e12, h.e13, h.e14, h.e15, h.e16, h.e17, h.e18])
  rcases g.s12 with k | k | k | k <;> rw [k] <;> rcases hs with m | m | m | m <;> rw [m] <;> simp only [if_true, if_false, reduceIte, reduceCtorEq, not_true_eq_false, not_false_eq_true, or_true, true_or, or_false, false_or, show ((1:Int32) = 0) = False from by decide, show ((2:Int32) = 0) = False from by decide, show ((3:Int32) = 0) = False from by decide, show ((1:Int32) = 2) = False from by decide, show ((1:Int32) = 3) = False from by decide, show ((2:Int32) = 1) = False from by decide, show ((2:Int32) = 3) = False from by decide, show ((3:Int32) = 1) = False from by decide, show ((3:Int32) = 2) = False from by decide, show ((1:Int32) < 2) = True from by decide, show ((2:Int32) < 2) = False from by decide, show ((3:Int32) < 2) = False from by decide, show ((0:Int32) < 2) = True from by decide]
  all_goals first
    | exact ⟨h, g, hSO.rf⟩
    | exact ⟨uu, si_up g, so_up⟩
    | exact ⟨dd, si_down g 3, so_down⟩
    | exact ⟨u2', gu2, hSO.u (by decide)⟩
/-- a packet has come to a session -/
abbrev mLn (N : zR) (i : Nat) : zR := mK8 (mK7 (mK6 (mK5 N i) i) i) i (N 12 i) (mSaid N)
theorem sq_learn (h : hSQ q N i) (g : hSI N i) (hF : hFX p b 2 z (N 39)) (hz : 24 ≤ z) (hB : Byt (N 39) 40) : hSQ (sLearn q p b) (mLn N i) i ∧ hSI (mLn N i) i ∧ hSO i N (mLn N i) := by
  have h3 := sq_learn3 h g hF hz hB
  obtain ⟨g5, c, hc, e22⟩ := si_k5 g hB
  obtain ⟨g6, f22, f23, f12, f13⟩ := si_k6 g5
  have g7 : hSI (mK7 (mK6 (mK5 N i) i) i) i := by unfold mK7; (refine ⟨?_, ?_, ?_, ?_, ?_⟩ <;> simp [upd, u2, g6.s12, g6.s17, g6.s19, g6.s21, g6.s24])
  have e12 : mK7 (mK6 (mK5 N i) i) i 12 i = N 12 i := f12
  have e13 : mK7 (mK6 (mK5 N i) i) i 13 i = mSaid N := by
    show mK6 (mK5 N i) i 13 i = _
    rw [f13]
    show mK3 N i 13 i = _
    unfold mK3
    rw [u2_ne (by decide), u2_self, pk_us]
  have o7 : hSO i N (mK7 (mK6 (mK5 N i) i) i) := (so_k5.tr so_k6).tr (hSO.u (by decide))
  obtain ⟨k1, k2, k3⟩ := sq_follow h3 g7 e13 (said_div hB).2
  rw [e12] at k1 k2 k3
  exact ⟨k1, k2, o7.tr k3⟩
end LEARN
