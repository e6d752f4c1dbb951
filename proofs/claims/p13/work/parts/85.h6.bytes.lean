/-! THE TWO SIDES: what is written into a frame -/
theorem nI_tn (v : Int32) : v = nI v.toBitVec.toNat := by
  apply Int32.toBitVec_inj.mp
  show v.toBitVec = BitVec.ofNat 32 v.toBitVec.toNat
  rw [BitVec.ofNat_toNat, BitVec.setWidth_eq]
theorem ush0 (v : Int32) : ush v 0 = v := by
  have h := v.toBitVec.isLt
  rw [nI_tn v]
  show ((nI _).toUInt32 >>> ((0 : Int32).toUInt32 &&& Int32.toUInt32 31)).toInt32 = _
  rw [pk_ushrN h 0 0 (by decide)]
  simp
theorem four_b (v : Int32) : hf4 (ush v 24 &&& 255) (ush v 16 &&& 255) (ush v 8 &&& 255) (v &&& 255) = v := by
  have h := v.toBitVec.isLt
  generalize hn : v.toBitVec.toNat = n at h
  have e : v = nI n := by rw [← hn]; exact nI_tn v
  subst e
  have e24 : ush (nI n) 24 = nI (n / 2 ^ 24) := pk_ushrN h 24 24 (by decide)
  have e16 : ush (nI n) 16 = nI (n / 2 ^ 16) := pk_ushrN h 16 16 (by decide)
  have e8 : ush (nI n) 8 = nI (n / 2 ^ 8) := pk_ushrN h 8 8 (by decide)
  rw [e24, e16, e8, pk_andN (by omega) 8 (by decide), pk_andN (by omega) 8 (by decide), pk_andN (by omega) 8 (by decide), pk_andN (by omega) 8 (by decide), f4_val (by omega) (by omega) (by omega) (by omega)]
  congr 1
  omega
def hPR (E : Nat → Prop) (M : zM) (d : Nat) (N : zR) (z : Nat) : Prop := M 9 d 0 1 = nI z ∧ N 43 38 = nI z ∧ (∀ j, j < z → ¬ E j → M 10 d 0 j = N 37 j)
theorem hPR.l {E : Nat → Prop} {M : zM} {d : Nat} {N : zR} {z : Nat} (h_ : hPR E M d N z) : M 9 d 0 1 = nI z := h_.1
theorem hPR.m {E : Nat → Prop} {M : zM} {d : Nat} {N : zR} {z : Nat} (h_ : hPR E M d N z) : N 43 38 = nI z := h_.2.1
theorem hPR.b {E : Nat → Prop} {M : zM} {d : Nat} {N : zR} {z : Nat} (h_ : hPR E M d N z) : ∀ j, j < z → ¬ E j → M 10 d 0 j = N 37 j := h_.2.2
theorem fPut_at {M : zM} {d z : Nat} {x : Int32} (h : M 9 d 0 1 = nI z) (hz : z < 40) : fPut M d x 9 d 0 = upd (M 9 d 0) 1 (nI (z + 1)) ∧ fPut M d x 10 d 0 = upd (M 10 d 0) z (x &&& 255) := by
  unfold fPut
  rw [h, if_neg (nI_pos (by omega)), if_neg (show ¬ (40 : Int32) ≤ nI z from nI_ge (a := z) (b := 40) (by omega) (by decide)), nI_clamp (by omega), nI_1]
  exact ⟨by rw [up_self, up_ne (by omega)], by rw [up_ne (by omega), up_self]⟩
theorem mPut_at {N : zR} {z : Nat} {y : Int32} (h : N 43 38 = nI z) (hz : z < 40) : mPut N y 43 = upd (N 43) 38 (nI (z + 1)) ∧ mPut N y 37 = upd (N 37) z (y &&& 255) := by
  unfold mPut
  rw [h, nI_clamp (by omega)]
  refine ⟨?_, by rw [u2_ne (by decide), u2_self]⟩
  rw [u2_self, u2_ne (by decide), h, nI_1]
theorem hPR.put {E : Nat → Prop} {M : zM} {d z : Nat} {N : zR} {x y : Int32} (h : hPR E M d N z) (hz : z < 40) (e : E z ∨ x = y) : hPR E (fPut M d x) d (mPut N y) (z + 1) := by
  obtain ⟨c1, c2⟩ := fPut_at (x := x) h.l hz
  obtain ⟨m1, m2⟩ := mPut_at (y := y) h.m hz
  refine ⟨by rw [c1, pk_us], by rw [m1, pk_us], fun j hj hE => ?_⟩
  rw [c2, m2]
  by_cases q : j = z
  · subst q
    rw [pk_us, pk_us]
    rcases e with e | e
    · exact absurd e hE
    · rw [e]
  · rw [pk_un q, pk_un q]; exact h.b j (by omega) hE
theorem hPR.put2 {E : Nat → Prop} {M : zM} {d z : Nat} {N : zR} {x y : Int32} (h : hPR E M d N z) (hz : z + 1 < 40) (e : x = y) : hPR E (fPut2 M d x) d (mpL y 2 N) (z + 2) := by
  subst e
  have h1 := h.put (x := ush x 8) (y := ush x (8 * nI 1)) (by omega) (Or.inr rfl)
  have h2 := h1.put (x := x) (y := ush x (8 * nI 0)) (by omega) (Or.inr (by rw [show 8 * nI 0 = (0 : Int32) by decide]; exact (ush0 x).symm))
  exact h2
theorem hPR.put4 {E : Nat → Prop} {M : zM} {d z : Nat} {N : zR} {x y : Int32} (h : hPR E M d N z) (hz : z + 3 < 40) (e : (E z ∧ E (z + 1) ∧ E (z + 2) ∧ E (z + 3)) ∨ x = y) : hPR E (fPut4 M d x) d (mpL y 4 N) (z + 4) := by
  have h1 := h.put (x := ush x 24) (y := ush y (8 * nI 3)) (by omega) (e.imp (fun k => k.1) (fun k => by rw [k]; rfl))
  have h2 := h1.put (x := ush x 16) (y := ush y (8 * nI 2)) (by omega) (e.imp (fun k => k.2.1) (fun k => by rw [k]; rfl))
  have h3 := h2.put (x := ush x 8) (y := ush y (8 * nI 1)) (by omega) (e.imp (fun k => k.2.2.1) (fun k => by rw [k]; rfl))
  have h4 := h3.put (x := x) (y := ush y (8 * nI 0)) (by omega) (e.imp (fun k => k.2.2.2) (fun k => by rw [k, show 8 * nI 0 = (0 : Int32) by decide]; exact (ush0 y).symm))
  exact h4
theorem four_u (f : Nat → Int32) (z : Nat) (a b c d : Int32) : hfour (upd (upd (upd (upd f z a) (z + 1) b) (z + 2) c) (z + 3) d) z = hf4 a b c d := by
  unfold hfour
  have e1 : ∀ (g : Nat → Int32), upd g (z + 3) d (z + 3) = d := fun g => pk_us
  have e2 : upd (upd (upd (upd f z a) (z + 1) b) (z + 2) c) (z + 3) d (z + 2) = c := by rw [pk_un (by omega), pk_us]
  have e3 : upd (upd (upd (upd f z a) (z + 1) b) (z + 2) c) (z + 3) d (z + 1) = b := by rw [pk_un (by omega), pk_un (by omega), pk_us]
  have e4 : upd (upd (upd (upd f z a) (z + 1) b) (z + 2) c) (z + 3) d z = a := by rw [pk_un (by omega), pk_un (by omega), pk_un (by omega), pk_us]
  rw [e1, e2, e3, e4]
/-- hfour bytes that were put are the number -/
theorem put4_c {M : zM} {d z : Nat} {v : Int32} (h : M 9 d 0 1 = nI z) (hz : z + 3 < 40) : hfour (fPut4 M d v 10 d 0) z = v ∧ ∀ j, j < z → fPut4 M d v 10 d 0 j = M 10 d 0 j := by
  obtain ⟨a1, a2⟩ := fPut_at (x := ush v 24) h (by omega)
  have l1 : fPut M d (ush v 24) 9 d 0 1 = nI (z + 1) := by rw [a1, pk_us]
  obtain ⟨b1, b2⟩ := fPut_at (x := ush v 16) l1 (by omega)
  have l2 : fPut (fPut M d (ush v 24)) d (ush v 16) 9 d 0 1 = nI (z + 2) := by rw [b1, pk_us]
  obtain ⟨c1, c2⟩ := fPut_at (x := ush v 8) l2 (by omega)
  have l3 : fPut (fPut (fPut M d (ush v 24)) d (ush v 16)) d (ush v 8) 9 d 0 1 = nI (z + 3) := by rw [c1, pk_us]
  obtain ⟨d1, d2⟩ := fPut_at (x := v) l3 (by omega)
  have ev : fPut4 M d v 10 d 0 = upd (upd (upd (upd (M 10 d 0) z (ush v 24 &&& 255)) (z + 1) (ush v 16 &&& 255)) (z + 2) (ush v 8 &&& 255)) (z + 3) (v &&& 255) := by
    unfold fPut4
    rw [d2, c2, b2, a2]
  rw [ev]
  refine ⟨?_, fun j hj => by rw [pk_un (by omega), pk_un (by omega), pk_un (by omega), pk_un (by omega)]⟩
  rw [four_u]
  exact four_b v
theorem put4_m {N : zR} {z : Nat} {v : Int32} (h : N 43 38 = nI z) (hz : z + 3 < 40) : hfour (mpL v 4 N 37) z = v ∧ ∀ j, j < z → mpL v 4 N 37 j = N 37 j := by
  obtain ⟨a1, a2⟩ := mPut_at (y := ush v (8 * nI 3)) h (by omega)
  have l1 : mPut N (ush v (8 * nI 3)) 43 38 = nI (z + 1) := by rw [a1, pk_us]
  obtain ⟨b1, b2⟩ := mPut_at (y := ush v (8 * nI 2)) l1 (by omega)
  have l2 : mPut (mPut N (ush v (8 * nI 3))) (ush v (8 * nI 2)) 43 38 = nI (z + 2) := by rw [b1, pk_us]
  obtain ⟨c1, c2⟩ := mPut_at (y := ush v (8 * nI 1)) l2 (by omega)
  have l3 : mPut (mPut (mPut N (ush v (8 * nI 3))) (ush v (8 * nI 2))) (ush v (8 * nI 1)) 43 38 = nI (z + 3) := by rw [c1, pk_us]
  obtain ⟨d1, d2⟩ := mPut_at (y := ush v (8 * nI 0)) l3 (by omega)
  have ev : mpL v 4 N 37 = upd (upd (upd (upd (N 37) z (ush v 24 &&& 255)) (z + 1) (ush v 16 &&& 255)) (z + 2) (ush v 8 &&& 255)) (z + 3) (v &&& 255) := by
    show mPut (mPut (mPut (mPut N (ush v (8 * nI 3))) (ush v (8 * nI 2))) (ush v (8 * nI 1))) (ush v (8 * nI 0)) 37 = _
    rw [d2, c2, b2, a2, show 8 * nI 0 = (0 : Int32) by decide, ush0, show 8 * nI 3 = (24 : Int32) by decide, show 8 * nI 2 = (16 : Int32) by decide, show 8 * nI 1 = (8 : Int32) by decide]
  rw [ev]
  refine ⟨?_, fun j hj => by rw [pk_un (by omega), pk_un (by omega), pk_un (by omega), pk_un (by omega)]⟩
  rw [four_u]
  exact four_b v
/-! sums -/
theorem fS_12 {q b w : Nat → Int32} (h1 : q 1 = nI 12) (hb : ∀ j, j < 12 → b j = w j) (hB : Byt w 12) : ∀ (m i a : Nat), i + 2 * m = 12 → fS q b (m + 14) i (nI a) = nI (msL w m i a) := by
  intro m
  induction m with
  | zero =>
    intro i a hi
    have : i = 12 := by omega
    subst this
    show (if q 1 ≤ nI (12 + 1) then nI a else _) = nI a
    rw [h1, if_pos (nI_le (by decide) (by decide))]
  | succ m ih =>
    intro i a hi
    obtain ⟨e0, l0⟩ := hB i (by omega)
    obtain ⟨e1, l1⟩ := hB (i + 1) (by omega)
    rw [show m + 1 + 14 = (m + 14) + 1 by omega]
    show (if q 1 ≤ nI (i + 1) then nI a else if 40 ≤ nI (i + 1) then nI a else fS q b (m + 14) (i + 2) (nI a + (b i * 256 + b (i + 1)))) = nI (msL w m (i + 2) (a + (256 * mbt w i + mbt w (i + 1))))
    rw [h1, if_neg (nI_ge (by omega) (by decide)), if_neg (show ¬ (40 : Int32) ≤ nI (i + 1) from nI_ge (a := i + 1) (b := 40) (by omega) (by decide)), hb i (by omega), hb (i + 1) (by omega), ← ih (i + 2) _ (by omega)]
    congr 1
    generalize mbt w i = x at *
    generalize mbt w (i + 1) = y at *
    rw [e0, e1, show (256 : Int32) = nI 256 from rfl, pk_mul, nI_add, nI_add, Nat.mul_comm x 256]
theorem fS0_val {q : Nat → Int32} {x : Int32} (h : q 5 = x) : fS0 q = nI (mS0 x) := by
  unfold fS0 mS0
  rw [h]
  have hx := x.toBitVec.isLt
  have e16 : ush x 16 = nI (x.toBitVec.toNat / 65536) := by
    have := pk_ushrN hx 16 16 (by decide)
    rw [← nI_tn x] at this
    exact this
  rw [e16, pk_and x 16 (by decide), nI_add]
  generalize x.toBitVec.toNat / 65536 + x.toBitVec.toNat % 2 ^ 16 = y
  have k : nI y + nI 57344 + nI 18 + nI 112 + nI 12 = nI (y + 57344 + 18 + 112 + 12) := by rw [nI_add, nI_add, nI_add, nI_add]
  have k2 : y + 57344 + 18 + 112 + 12 = y + 57486 := by omega
  rw [k2] at k
  exact k
theorem fFold_fix {a : Int32} (h : a ≤ 65535) : ∀ n, fFold n a = a := by
  intro n
  cases n with
  | zero => rfl
  | succ n => show (if a ≤ 65535 then a else _) = a; rw [if_pos h]
theorem fF_step {v n : Nat} (h1 : 65535 < v) (h2 : v < 2 ^ 31) : fFold (n + 1) (nI v) = fFold n (nI (v / 65536 + v % 65536)) := by
  show (if nI v ≤ nI 65535 then _ else fFold n (nI v / nI 65536 + (nI v - nI v / nI 65536 * nI 65536))) = _
  rw [if_neg (nI_ge h1 h2), pk_rem h2 (by decide) (by decide), pk_div h2 (by decide) (by decide), nI_add]
theorem mF_step {v n : Nat} (h1 : 65535 < v) (h2 : v < 2 ^ 31) : mFold (n + 1) (nI v) = mFold n (nI (v / 65536 + v % 65536)) := by
  show (if nI v ≤ nI 65535 then _ else mFold n _) = _
  rw [if_neg (nI_ge h1 h2), (fold_lt h1 h2).1]
theorem fold_eq {v n : Nat} (h : v < 2 ^ 20) (hn : 2 ≤ n) : fFold 4 (nI v) = mFold n (nI v) := by
  by_cases c : v ≤ 65535
  · rw [fFold_fix (show nI v ≤ nI 65535 from nI_le c (by decide)), mFold_fix (show nI v ≤ nI 65535 from nI_le c (by decide))]
  obtain ⟨m, rfl⟩ : ∃ m, n = m + 2 := ⟨n - 2, by omega⟩
  rw [show m + 2 = (m + 1) + 1 by omega, mF_step (by omega) (by omega), fF_step (by omega) (by omega)]
  have hv : v / 65536 + v % 65536 ≤ 65551 := by omega
  generalize v / 65536 + v % 65536 = u at *
  by_cases c2 : u ≤ 65535
  · rw [fFold_fix (show nI u ≤ nI 65535 from nI_le c2 (by decide)), mFold_fix (show nI u ≤ nI 65535 from nI_le c2 (by decide))]
  rw [mF_step (by omega) (by omega), fF_step (by omega) (by omega)]
  have c3 : u / 65536 + u % 65536 ≤ 65535 := by omega
  rw [fFold_fix (show nI (u / 65536 + u % 65536) ≤ nI 65535 from nI_le c3 (by decide)), mFold_fix (show nI (u / 65536 + u % 65536) ≤ nI 65535 from nI_le c3 (by decide))]
theorem msL_le' {w : Nat → Int32} (hB : Byt w 12) : ∀ (m i a : Nat), i + 2 * m ≤ 12 → msL w m i a ≤ a + m * 65535 := by
  intro m
  induction m with
  | zero => intro i a _; show a ≤ _; omega
  | succ m ih =>
    intro i a hi
    have l0 := (hB i (by omega)).2
    have l1 := (hB (i + 1) (by omega)).2
    have := ih (i + 2) (a + (256 * mbt w i + mbt w (i + 1))) (by omega)
    show msL w m (i + 2) _ ≤ _
    omega
theorem mS0_le (x : Int32) : mS0 x ≤ 188556 ∧ 57486 ≤ mS0 x := by
  have hx := x.toBitVec.isLt
  unfold mS0
  omega
theorem msL_ge {w : Nat → Int32} : ∀ (m i a : Nat), a ≤ msL w m i a := by
  intro m
  induction m with
  | zero => intro i a; exact Nat.le_refl _
  | succ m ih => intro i a; have := ih (i + 2) (a + (256 * mbt w i + mbt w (i + 1))); show a ≤ msL w m (i + 2) _; omega
theorem sum_eq {q b w : Nat → Int32} {x : Int32} (h1 : q 1 = nI 12) (h5 : q 5 = x) (hb : ∀ j, j < 12 → b j = w j) (hB : Byt w 12) : fSum q b = mSum w x := by
  unfold fSum mSum
  rw [fS0_val h5, show (20 : Nat) = 6 + 14 from rfl, fS_12 h1 hb hB 6 0 _ (by decide)]
  have a1 := msL_le' hB 6 0 (mS0 x) (by decide)
  have a2 := mS0_le x
  have a3 := msL_ge (w := w) 6 0 (mS0 x)
  exact fold_eq (by omega) (by unfold mSN; omega)
