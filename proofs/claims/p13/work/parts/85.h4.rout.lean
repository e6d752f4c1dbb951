/-! THE TWO SIDES: routers -/
def hRQ (q : Nat → Int32) (N : zR) (r : Nat) : Prop := q 4 = N 3 r ∧ q 5 = N 4 r ∧ q 6 = N 5 r ∧ q 7 = N 6 r ∧ q 8 = N 7 r ∧ q 9 = N 8 r ∧ q 10 = N 9 r
theorem hRQ.e4 {q : Nat → Int32} {N : zR} {r : Nat} (h_ : hRQ q N r) : q 4 = N 3 r := h_.1
theorem hRQ.e5 {q : Nat → Int32} {N : zR} {r : Nat} (h_ : hRQ q N r) : q 5 = N 4 r := h_.2.1
theorem hRQ.e6 {q : Nat → Int32} {N : zR} {r : Nat} (h_ : hRQ q N r) : q 6 = N 5 r := h_.2.2.1
theorem hRQ.e7 {q : Nat → Int32} {N : zR} {r : Nat} (h_ : hRQ q N r) : q 7 = N 6 r := h_.2.2.2.1
theorem hRQ.e8 {q : Nat → Int32} {N : zR} {r : Nat} (h_ : hRQ q N r) : q 8 = N 7 r := h_.2.2.2.2.1
theorem hRQ.e9 {q : Nat → Int32} {N : zR} {r : Nat} (h_ : hRQ q N r) : q 9 = N 8 r := h_.2.2.2.2.2.1
theorem hRQ.e10 {q : Nat → Int32} {N : zR} {r : Nat} (h_ : hRQ q N r) : q 10 = N 9 r := h_.2.2.2.2.2.2
def hSE (N : zR) (r : Nat) : Prop := (∃ n, 0 < n ∧ n ≤ 255 ∧ N 2 (10 * r + 0) = nI n) ∧ (∃ n, 0 < n ∧ n ≤ 4095 ∧ N 2 (10 * r + 1) = nI n) ∧ (∃ n, 0 < n ∧ n ≤ 50 ∧ N 2 (10 * r + 6) = nI n) ∧ (∃ n, n ≤ 254 ∧ N 2 (10 * r + 8) = nI n)
theorem hSE.p0 {N : zR} {r : Nat} (h_ : hSE N r) : ∃ n, 0 < n ∧ n ≤ 255 ∧ N 2 (10 * r + 0) = nI n := h_.1
theorem hSE.p1 {N : zR} {r : Nat} (h_ : hSE N r) : ∃ n, 0 < n ∧ n ≤ 4095 ∧ N 2 (10 * r + 1) = nI n := h_.2.1
theorem hSE.p6 {N : zR} {r : Nat} (h_ : hSE N r) : ∃ n, 0 < n ∧ n ≤ 50 ∧ N 2 (10 * r + 6) = nI n := h_.2.2.1
theorem hSE.p8 {N : zR} {r : Nat} (h_ : hSE N r) : ∃ n, n ≤ 254 ∧ N 2 (10 * r + 8) = nI n := h_.2.2.2
def hRI (N : zR) (r : Nat) : Prop := (N 3 r = 0 ∨ N 3 r = 1 ∨ N 3 r = 2) ∧ (¬ N 3 r = 0 → ∃ n, 0 < n ∧ n < 2 ^ 20 ∧ N 4 r = nI n) ∧ (¬ N 3 r = 0 → ∃ n, 0 < n ∧ n ≤ 4095 ∧ N 5 r = nI n) ∧ (N 3 r = 0 → N 4 r = 0 ∧ N 5 r = 0)
theorem hRI.role {N : zR} {r : Nat} (h_ : hRI N r) : N 3 r = 0 ∨ N 3 r = 1 ∨ N 3 r = 2 := h_.1
theorem hRI.tm {N : zR} {r : Nat} (h_ : hRI N r) : ¬ N 3 r = 0 → ∃ n, 0 < n ∧ n < 2 ^ 20 ∧ N 4 r = nI n := h_.2.1
theorem hRI.kn {N : zR} {r : Nat} (h_ : hRI N r) : ¬ N 3 r = 0 → ∃ n, 0 < n ∧ n ≤ 4095 ∧ N 5 r = nI n := h_.2.2.1
theorem hRI.off {N : zR} {r : Nat} (h_ : hRI N r) : N 3 r = 0 → N 4 r = 0 ∧ N 5 r = 0 := h_.2.2.2
def hWA (M : zM) (N : zR) : Prop := (∀ r, r < 5 → hRQ (M 2 r 0) N r) ∧ (∀ r k, r < 5 → k < 10 → M 3 r 0 k = N 2 (10 * r + k)) ∧ (∀ r s, r < 5 → s < 5 → hSQ (M 5 r s) N (5 * r + s)) ∧ (∀ i, i < 25 → hSI N i) ∧ (∀ r, r < 5 → N 11 (5 * r + r) = 0) ∧ (∀ r, r < 5 → hSE N r)
theorem hWA.rt {M : zM} {N : zR} (h_ : hWA M N) : ∀ r, r < 5 → hRQ (M 2 r 0) N r := h_.1
theorem hWA.st {M : zM} {N : zR} (h_ : hWA M N) : ∀ r k, r < 5 → k < 10 → M 3 r 0 k = N 2 (10 * r + k) := h_.2.1
theorem hWA.ss {M : zM} {N : zR} (h_ : hWA M N) : ∀ r s, r < 5 → s < 5 → hSQ (M 5 r s) N (5 * r + s) := h_.2.2.1
theorem hWA.si {M : zM} {N : zR} (h_ : hWA M N) : ∀ i, i < 25 → hSI N i := h_.2.2.2.1
theorem hWA.dg {M : zM} {N : zR} (h_ : hWA M N) : ∀ r, r < 5 → N 11 (5 * r + r) = 0 := h_.2.2.2.2.1
theorem hWA.se {M : zM} {N : zR} (h_ : hWA M N) : ∀ r, r < 5 → hSE N r := h_.2.2.2.2.2
theorem hSQ.of {q : Nat → Int32} {N N' : zR} {i : Nat} (h : hSQ q N i) (e : ∀ a, 11 ≤ a → a ≤ 27 → N' a i = N a i) : hSQ q N' i := by
  refine ⟨?_, ?_, ?_, ?_, ?_, ?_, ?_, ?_, ?_, ?_, ?_, ?_, ?_, ?_, ?_, ?_, ?_⟩
  · rw [e 11 (by decide) (by decide)]; exact h.e2
  · rw [e 12 (by decide) (by decide)]; exact h.e3
  · rw [e 13 (by decide) (by decide)]; exact h.e4
  · rw [e 14 (by decide) (by decide)]; exact h.e5
  · rw [e 15 (by decide) (by decide)]; exact h.e6
  · rw [e 16 (by decide) (by decide)]; exact h.e7
  · rw [e 17 (by decide) (by decide)]; exact h.e8
  · rw [e 20 (by decide) (by decide)]; exact h.e9
  · rw [e 21 (by decide) (by decide)]; exact h.e10
  · rw [e 22 (by decide) (by decide)]; exact h.e11
  · rw [e 23 (by decide) (by decide)]; exact h.e12
  · rw [e 24 (by decide) (by decide)]; exact h.e13
  · rw [e 18 (by decide) (by decide)]; exact h.e14
  · rw [e 19 (by decide) (by decide)]; exact h.e15
  · rw [e 25 (by decide) (by decide)]; exact h.e16
  · rw [e 26 (by decide) (by decide)]; exact h.e17
  · rw [e 27 (by decide) (by decide)]; exact h.e18
theorem hSI.of {N N' : zR} {i : Nat} (h : hSI N i) (e : ∀ a, 11 ≤ a → a ≤ 27 → N' a i = N a i) : hSI N' i := by
  refine ⟨?_, ?_, ?_, ?_, ?_⟩
  · rw [e 12 (by decide) (by decide)]; exact h.s12
  · rw [e 17 (by decide) (by decide)]; exact h.s17
  · rw [e 19 (by decide) (by decide)]; exact h.s19
  · rw [e 21 (by decide) (by decide)]; exact h.s21
  · rw [e 24 (by decide) (by decide)]; exact h.s24
theorem hRQ.of {q : Nat → Int32} {N N' : zR} {r : Nat} (h : hRQ q N r) (e : ∀ a, 3 ≤ a → a ≤ 9 → N' a r = N a r) : hRQ q N' r := by
  refine ⟨?_, ?_, ?_, ?_, ?_, ?_, ?_⟩
  · rw [e 3 (by decide) (by decide)]; exact h.e4
  · rw [e 4 (by decide) (by decide)]; exact h.e5
  · rw [e 5 (by decide) (by decide)]; exact h.e6
  · rw [e 6 (by decide) (by decide)]; exact h.e7
  · rw [e 7 (by decide) (by decide)]; exact h.e8
  · rw [e 8 (by decide) (by decide)]; exact h.e9
  · rw [e 9 (by decide) (by decide)]; exact h.e10
theorem hSE.of {N N' : zR} {r : Nat} (h : hSE N r) (e : N' 2 = N 2) : hSE N' r := by
  refine ⟨?_, ?_, ?_, ?_⟩
  · rw [e]; exact h.p0
  · rw [e]; exact h.p1
  · rw [e]; exact h.p6
  · rw [e]; exact h.p8
theorem hRI.of {N N' : zR} {r : Nat} (h : hRI N r) (e3 : N' 3 r = N 3 r) (e4 : N' 4 r = N 4 r) (e5 : N' 5 r = N 5 r) : hRI N' r := by
  refine ⟨?_, ?_, ?_, ?_⟩
  · rw [e3]; exact h.role
  · rw [e3, e4]; exact h.tm
  · rw [e3, e5]; exact h.kn
  · rw [e3, e4, e5]; exact h.off
/-- other cells may be what they like -/
theorem hWA.of {M M' : zM} {N N' : zR} (h : hWA M N) (e2 : ∀ r, M' 2 r 0 = M 2 r 0) (e3 : ∀ r, M' 3 r 0 = M 3 r 0) (e5 : ∀ r s, M' 5 r s = M 5 r s) (e : ∀ a, 2 ≤ a → a ≤ 27 → a ≠ 10 → N' a = N a) : hWA M' N' := by
  refine ⟨?_, ?_, ?_, ?_, ?_, ?_⟩
  · intro r hr; rw [e2]; exact (h.rt r hr).of (fun a h1 h2 => by rw [e a (by omega) (by omega) (by omega)])
  · intro r k hr hk; rw [e3, e 2 (by decide) (by decide) (by decide)]; exact h.st r k hr hk
  · intro r s hr hs; rw [e5]; exact (h.ss r s hr hs).of (fun a h1 h2 => by rw [e a (by omega) (by omega) (by omega)])
  · intro i hi; exact (h.si i hi).of (fun a h1 h2 => by rw [e a (by omega) (by omega) (by omega)])
  · intro r hr; rw [e 11 (by decide) (by decide) (by decide)]; exact h.dg r hr
  · intro r hr; exact (h.se r hr).of (e 2 (by decide) (by decide) (by decide))
/-- a number of a router -/
theorem hWA.r {M : zM} {N : zR} {r k : Nat} {v : Int32} (h : hWA M N) (hr : r < 5) (hk : 3 ≤ k ∧ k ≤ 9) : hWA (up M 2 r 0 (k + 1) v) (u2 N k r v) := by
  have o : ∀ a, a ≠ k → u2 N k r v a = N a := fun a ha => u2_ne ha
  refine ⟨?_, ?_, ?_, ?_, ?_, ?_⟩
  · intro r' hr'
    by_cases e : r' = r
    · subst e
      have h1 := h.rt r' hr'
      rw [up_self]
      have : k = 3 ∨ k = 4 ∨ k = 5 ∨ k = 6 ∨ k = 7 ∨ k = 8 ∨ k = 9 := by omega
      rcases this with e | e | e | e | e | e | e <;> subst e <;> refine ⟨?_, ?_, ?_, ?_, ?_, ?_, ?_⟩ <;> simp [upd, u2, h1.e4, h1.e5, h1.e6, h1.e7, h1.e8, h1.e9, h1.e10]
    · rw [up_ne (fun z => e z.2.1)]
      refine (h.rt r' hr').of (fun a h1 h2 => ?_)
      by_cases e2 : a = k
      · subst e2; rw [u2_self, pk_un e]
      · rw [o a e2]
  · intro r' k' hr' hk'
    rw [up_ne (by omega), o 2 (by omega)]; exact h.st r' k' hr' hk'
  · intro r' s hr' hs
    rw [up_ne (by omega)]
    exact (h.ss r' s hr' hs).of (fun a h1 h2 => by rw [o a (by omega)])
  · intro i hi; exact (h.si i hi).of (fun a h1 h2 => by rw [o a (by omega)])
  · intro r' hr'; rw [o 11 (by omega)]; exact h.dg r' hr'
  · intro r' hr'; exact (h.se r' hr').of (o 2 (by omega))
/-- a session -/
theorem hWA.s {M : zM} {N N' : zR} {r s : Nat} {q : Nat → Int32} (h : hWA M N) (hr : r < 5) (hs : s < 5) (k1 : hSQ q N' (5 * r + s)) (k2 : hSI N' (5 * r + s)) (k3 : hSO (5 * r + s) N N') (k4 : r = s → N' 11 (5 * r + s) = 0) : hWA (rw4 M 5 r s q) N' := by
  refine ⟨?_, ?_, ?_, ?_, ?_, ?_⟩
  · intro r' hr'
    rw [rw4_ne (by omega)]
    exact (h.rt r' hr').of (fun a h1 h2 => by rw [k3.o a (by omega)])
  · intro r' k' hr' hk'
    rw [rw4_ne (by omega), k3.o 2 (by omega)]; exact h.st r' k' hr' hk'
  · intro r' s' hr' hs'
    by_cases e : r' = r ∧ s' = s
    · obtain ⟨rfl, rfl⟩ := e; rw [rw4_self]; exact k1
    · rw [rw4_ne (by omega)]
      exact (h.ss r' s' hr' hs').of (fun a h1 h2 => k3.j a _ (by omega))
  · intro i hi
    by_cases e : i = 5 * r + s
    · subst e; exact k2
    · exact (h.si i hi).of (fun a h1 h2 => k3.j a _ e)
  · intro r' hr'
    by_cases e : 5 * r' + r' = 5 * r + s
    · have e1 : r' = r := by omega
      have e2 : r = s := by omega
      rw [e]; exact k4 e2
    · rw [k3.j 11 _ e]; exact h.dg r' hr'
  · intro r' hr'; exact (h.se r' hr').of (k3.o 2 (by omega))
/-! weights -/
theorem and1 (x : Int32) : x &&& 1 = 0 ∨ x &&& 1 = 1 := by
  obtain ⟨j, hj, e⟩ := pk_andE x (m := 1) 1 (by decide)
  rw [e]
  have : j = 0 ∨ j = 1 := by omega
  rcases this with k | k <;> rw [k] <;> decide
theorem sub_in {a b : Int32} (h1 : -2147483648 ≤ a.toInt - b.toInt) (h2 : a.toInt - b.toInt < 2147483648) : (a - b).toInt = a.toInt - b.toInt := by
  rw [Int32.toInt_sub, Int.bmod_eq_of_le (by omega) (by omega)]
section WEIGH
variable {M : zM} {N : zR} {r : Nat}
theorem w_step (h : hWA M N) (hr : r < 5) (s : Nat) (hs : s < 5) (p : Int32) : wStep M r s p = mwStep N r s p := by
  unfold wStep mwStep mCounts
  have hq := h.ss r s hr hs
  rw [h.st r 9 hr (by decide), h.st r 8 hr (by decide), hq.e2, hq.e3]
  have one : ¬ (1 : Int32) = 0 := by decide
  rcases and1 (N 2 (10 * r + 9) >>> (nI s &&& 31)) with e | e
  · rw [e]; simp
  · rw [e]
    by_cases c : N 11 (5 * r + s) = 0
    · simp [c]
    by_cases c2 : N 12 (5 * r + s) = 3
    · simp [c, c2]
    · simp [c, c2]
theorem w_loop (h : hWA M N) (hr : r < 5) : ∀ (n s : Nat) (p : Int32), s + n ≤ 5 → wgh M r n s p = mwgh N r n s p := by
  intro n
  induction n with
  | zero => intro s p _; rfl
  | succ n ih => intro s p hs; show wgh M r n (s + 1) (wStep M r s p) = mwgh N r n (s + 1) (mwStep N r s p); rw [w_step h hr s (by omega), ih _ _ (by omega)]
theorem w_bound (h : hSE N r) : ∀ (n s : Nat) (p : Int32), p.toInt ≤ 255 → -100000 + 254 * (n : Int) ≤ p.toInt → (mwgh N r n s p).toInt ≤ 255 ∧ -100000 ≤ (mwgh N r n s p).toInt := by
  obtain ⟨m, hm, em⟩ := h.p8
  intro n
  induction n with
  | zero => intro s p h1 h2; exact ⟨h1, by show -100000 ≤ p.toInt; omega⟩
  | succ n ih =>
    intro s p h1 h2
    have hx : ∃ x : Nat, x ≤ 254 ∧ (if mCounts N r s = 0 then 0 else N 2 (10 * r + 8)) = nI x := by
      split
      · exact ⟨0, by decide, rfl⟩
      · exact ⟨m, hm, em⟩
    obtain ⟨x, hx, ex⟩ := hx
    have e : (mwStep N r s p).toInt = p.toInt - x := by
      unfold mwStep
      rw [ex, sub_in, nI_toInt (by omega)]
      · rw [nI_toInt (by omega)]; omega
      · rw [nI_toInt (by omega)]; omega
    exact ih (s + 1) _ (by omega) (by omega)
theorem toI_n {x : Int32} (h : 0 ≤ x.toInt) : ∃ n : Nat, x = nI n ∧ (n : Int) = x.toInt := by
  obtain ⟨j, hj, e⟩ := nI_of (x := x) (by rw [Int32.lt_iff_toInt_lt]; show ¬ x.toInt < 0; omega)
  exact ⟨j, e, by rw [e, nI_toInt hj]⟩
theorem w_val (h : hSE N r) : ∃ w, 0 < w ∧ w ≤ 255 ∧ mWeighed N r = nI w := by
  obtain ⟨p, hp0, hp, ep⟩ := h.p0
  unfold mWeighed
  split
  · exact ⟨255, by decide, by decide, rfl⟩
  · have hb := w_bound h 5 0 (N 2 (10 * r + 0)) (by rw [ep, nI_toInt (by omega)]; omega) (by rw [ep, nI_toInt (by omega)]; omega)
    generalize mwgh N r 5 0 (N 2 (10 * r + 0)) = x at *
    unfold mMax
    split
    · rename_i g
      rw [Int32.le_iff_toInt_le] at g
      have g1 : (1 : Int) ≤ x.toInt := g
      obtain ⟨n, e, en⟩ := toI_n (x := x) (by omega)
      exact ⟨n, by omega, by omega, e⟩
    · exact ⟨1, by decide, by decide, rfl⟩
theorem w_eq (h : hWA M N) (hr : r < 5) : rWeighed M r = mWeighed N r := by
  unfold rWeighed mWeighed
  rw [h.st r 0 hr (by decide), w_loop h hr 5 0 _ (by omega)]
  split
  · rename_i e; exact e
  · rfl
theorem k_val {k w : Nat} (hk : k ≤ 4095) (hw0 : 0 < w) (hw : w ≤ 255) : (256 - nI w) * nI k / 256 = nI ((256 - w) * k / 256) ∧ (256 - w) * k / 256 ≤ 4095 := by
  have h1 : (256 - w) * k ≤ 256 * 4095 := Nat.mul_le_mul (by omega) hk
  rw [show (256 : Int32) = nI 256 from rfl, pk_sub (by omega), pk_mul, pk_div (by omega) (by decide) (by decide)]
  exact ⟨rfl, by omega⟩
theorem skew_val (h : hSE N r) {k : Nat} (hk : k ≤ 4095) (e : N 5 r = nI k) : ∃ x, x ≤ 4095 ∧ mSkew N r = nI x := by
  obtain ⟨w, w0, w1, ew⟩ := w_val h
  unfold mSkew
  rw [ew, e, (k_val hk w0 w1).1]
  exact ⟨_, (k_val hk w0 w1).2, rfl⟩
theorem skew_eq (h : hWA M N) (hr : r < 5) : rSkew M r = mSkew N r := by
  unfold rSkew mSkew
  rw [w_eq h hr, (h.rt r hr).e6]
theorem back_val (h : hSE N r) {k : Nat} (h0 : 0 < k) (hk : k ≤ 4095) (e : N 5 r = nI k) : mMax 1 (3 * N 5 r + mSkew N r) = 3 * N 5 r + mSkew N r ∧ ∃ n, 0 < n ∧ n < 2 ^ 20 ∧ 3 * N 5 r + mSkew N r = nI n := by
  obtain ⟨x, hx, ex⟩ := skew_val h hk e
  have ev : 3 * N 5 r + mSkew N r = nI (3 * k + x) := by
    rw [ex, e, show (3 : Int32) = nI 3 from rfl, pk_mul, nI_add]
  rw [ev]
  refine ⟨?_, 3 * k + x, by omega, by omega, rfl⟩
  rw [show (1 : Int32) = nI 1 from rfl, mx_nI (by decide) (by omega), Nat.max_eq_right (by omega)]
/-- a router becomes BACKUP -/
theorem wa_back (h : hWA M N) (hr : r < 5) {k : Nat} (h0 : 0 < k) (hk : k ≤ 4095) (e : N 5 r = nI k) : hWA (rBackup M r) (mBack N r) ∧ hRI (mBack N r) r := by
  obtain ⟨b1, n, n0, n1, b2⟩ := back_val (h.se r hr) h0 hk e
  unfold rBackup mBack
  rw [skew_eq h hr, (h.rt r hr).e6, b1]
  have r1 : u2 (u2 N 4 r (3 * N 5 r + mSkew N r)) 3 r 1 3 r = 1 := by rw [u2_self, pk_us]
  refine ⟨(h.r (k := 4) hr (by decide)).r (k := 3) hr (by decide), Or.inr (Or.inl r1), fun _ => ⟨n, n0, n1, ?_⟩, fun _ => ⟨k, h0, hk, ?_⟩, fun z => absurd (r1.symm.trans z) (by decide)⟩
  · rw [u2_ne (by decide), u2_self, pk_us]; exact b2
  · rw [u2_ne (by decide), u2_ne (by decide)]; exact e
end WEIGH
