/-! THE TWO SIDES: a frame leaves the way -/
theorem fgS_n {a : Nat} (h : a = 29 ∨ a = 30 ∨ a = 31 ∨ a = 32 ∨ a = 33 ∨ a = 34 ∨ a = 35) (N : zR) (k : Nat) : fgS N k a = upd (N a) k (N a (k + 1)) := by
  unfold fgS
  rw [fbL_o _ _ _ _ (by omega)]
  rcases h with e | e | e | e | e | e | e <;> subst e <;> rfl
theorem fbL_at {k : Nat} : ∀ (n i : Nat) (N : zR) (x : Nat), i + n ≤ 40 → fbL k n i N 36 x = if 40 * k + i ≤ x ∧ x < 40 * k + i + n then N 36 (x + 40) else N 36 x := by
  intro n
  induction n with
  | zero => intro i N x _; rw [if_neg (by omega)]; rfl
  | succ n ih =>
    intro i N x hi
    show fbL k n (i + 1) (u2 N 36 (40 * k + i) (N 36 (40 * (k + 1) + i))) 36 x = _
    rw [ih (i + 1) _ x (by omega), u2_self]
    by_cases e : x = 40 * k + i
    · subst e
      rw [if_neg (by omega), if_pos (by omega), pk_us, show 40 * k + i + 40 = 40 * (k + 1) + i by omega]
    · by_cases c : 40 * k + (i + 1) ≤ x ∧ x < 40 * k + (i + 1) + n
      · rw [if_pos c, if_pos (by omega), pk_un (by omega)]
      · rw [if_neg c, if_neg (by omega), pk_un e]
theorem fgL_36at : ∀ (n k : Nat) (N : zR) (x : Nat), fgL n k N 36 x = if 40 * k ≤ x ∧ x < 40 * (k + n) then N 36 (x + 40) else N 36 x := by
  intro n
  induction n with
  | zero => intro k N x; rw [if_neg (by omega)]; rfl
  | succ n ih =>
    intro k N x
    have e : ∀ y, fgS N k 36 y = if 40 * k ≤ y ∧ y < 40 * k + 40 then N 36 (y + 40) else N 36 y := fun y => by
      unfold fgS
      rw [fbL_at 40 0 _ y (by decide), fg1_a (by decide)]; rfl
    show fgL n (k + 1) (fgS N k) 36 x = _
    rw [ih, e, e]
    by_cases c : 40 * (k + 1) ≤ x ∧ x < 40 * (k + 1 + n)
    · rw [if_pos c, if_neg (show ¬ (40 * k ≤ x + 40 ∧ x + 40 < 40 * k + 40) by omega), if_pos (by omega)]
    · rw [if_neg c]
      by_cases c2 : 40 * k ≤ x ∧ x < 40 * k + 40
      · rw [if_pos c2, if_pos (by omega)]
      · rw [if_neg c2, if_neg (by omega)]
theorem hcL_at {f : Nat} : ∀ (n k : Nat) (N : zR) (x : Nat), hcL f n k N 39 x = if k ≤ x ∧ x < k + n then N 36 (40 * f + x) else N 39 x := by
  intro n
  induction n with
  | zero => intro k N x; rw [if_neg (by omega)]; rfl
  | succ n ih =>
    intro k N x
    show hcL f n (k + 1) (u2 N 39 k (N 36 (40 * f + k))) 39 x = _
    rw [ih, u2_self, u2_ne (by decide)]
    by_cases e : x = k
    · subst e; rw [if_neg (by omega), if_pos (by omega), pk_us]
    · rw [pk_un e]
      by_cases c : k + 1 ≤ x ∧ x < k + 1 + n
      · rw [if_pos c, if_pos (by omega)]
      · rw [if_neg c, if_neg (by omega)]
section TAKE
variable {t : Nat} {σ : zS} {N : zR} {f : Nat}
abbrev mTkF (N : zR) (f : Nat) : zR := mForget (mHeard N f (N 35 f).toNatClampNeg) f (fly N)
theorem tk_o {a : Nat} (h : a ∉ [29, 30, 31, 32, 33, 34, 35, 36, 39, 43]) : mTkF N f a = N a := by
  simp only [List.mem_cons, List.not_mem_nil, or_false, not_or] at h
  obtain ⟨h29, h30, h31, h32, h33, h34, h35, h36, h39, h43⟩ := h
  unfold mTkF
  rw [mForget_o (by simp only [List.mem_cons, List.not_mem_nil, or_false, not_or]; exact ⟨h29, h30, h31, h32, h33, h34, h35, h36, h43⟩)]
  unfold mHeard
  rw [hcL_o h39, u2_ne h43]
theorem tk_ok (h : hRZ t σ N) (hI : IV N) (hf : f < fly N) (hk : kDue σ.1 σ.2.1 (fly N) (fly N) 0 = f) : hRZ t (tkS σ) (mTkF N f) ∧ hHD (tkS σ).1 (tkS σ).2.2.2 (mTkF N f) (N 30 f) (N 31 f) 255 (N 33 f) ∧ (tkS σ).1 9 (tkS σ).2.2.2 0 4 = N 32 f ∧ (tkS σ).1 9 (tkS σ).2.2.2 0 7 = N 34 f ∧ hOut (tkS σ).2.2.2 (tkS σ) := by
  have hB := h.rx.wb
  have hc := hB.f60.2
  have ecn : cnt σ.1 = fly N := congrArg Int32.toNatClampNeg hB.ct
  have fk := hB.fr f hf
  obtain ⟨z, ez, fx⟩ := fk.by_
  have hz := fx.le
  have h1 := go_heard (f := f) hI (by omega)
  have h2 := ga_forget (f := f) h1.iv (by rw [fly_heard]; exact hf)
  rw [fly_heard] at h2
  have hB39 : Byt (mTkF N f 39) 40 := h2.1.2.2.2.2.2.1
  have efl : fly (mTkF N f) = fly N - 1 := fly_forget hc
  have e43 : ∀ x, x ≠ 28 → x ≠ 40 → mTkF N f 43 x = N 43 x := fun x x1 x2 => by
    unfold mTkF
    rw [mForget_43 x1]
    unfold mHeard
    rw [hcL_o (by decide), u2_self, pk_un x2]
  have e28 : mTkF N f 43 28 = nI (fly N - 1) := by
    unfold mTkF mForget
    rw [u2_self, pk_us]
  have e40 : mTkF N f 43 40 = nI z := by
    unfold mTkF
    rw [mForget_43 (by decide)]
    unfold mHeard
    rw [hcL_o (by decide), u2_self, pk_us, ez]
  have e39 : ∀ j, j < z → mTkF N f 39 j = N 36 (40 * f + j) := fun j hj => by
    unfold mTkF
    rw [mForget_o (by decide)]
    unfold mHeard
    rw [ez, nI_clamp (by omega), hcL_at, if_pos (by omega), u2_ne (by decide)]
  have ea : ∀ a, 29 ≤ a → a ≤ 35 → ∀ k, mTkF N f a k = if f ≤ k ∧ k < fly N - 1 then N a (k + 1) else N a k := fun a a1 a2 k => by
    unfold mTkF mForget
    rw [u2_ne (by omega), fgL_at (fgS_n (by omega)), show f + (fly N - 1 - f) = fly N - 1 by omega]
    unfold mHeard
    rw [hcL_o (by omega), u2_ne (by omega)]
  have e36 : ∀ x, mTkF N f 36 x = if 40 * f ≤ x ∧ x < 40 * (fly N - 1) then N 36 (x + 40) else N 36 x := fun x => by
    unfold mTkF mForget
    rw [u2_ne (by decide), fgL_36at, show f + (fly N - 1 - f) = fly N - 1 by omega]
    unfold mHeard
    rw [hcL_o (by decide), u2_ne (by decide)]
  have o := fun a h => tk_o (N := N) (f := f) (a := a) h
  generalize mTkF N f = N' at *
  have eT : tkS σ = (up σ.1 6 0 0 2 (nI (fly N - 1)), va_up (pShift σ.2.1 f (fly N)) (fly N - 1) σ.2.2.2, (σ.2.2.1, σ.2.1 f)) := by
    unfold tkS tkM tkP tkD
    rw [ecn, hk, if_pos hf, if_pos hf, if_pos hf]
  rw [eT]
  dsimp only
  have hdj := hB.dj
  have g9 : ∀ F, up σ.1 6 0 0 2 (nI (fly N - 1)) 9 F 0 = σ.1 9 F 0 := fun F => up_k (by decide)
  have g10 : ∀ F, up σ.1 6 0 0 2 (nI (fly N - 1)) 10 F 0 = σ.1 10 F 0 := fun F => up_k (by decide)
  -- where each frame now lies
  have pP : ∀ n, n < 60 → va_up (pShift σ.2.1 f (fly N)) (fly N - 1) σ.2.2.2 n = (if n = fly N - 1 then σ.2.2.2 else if f ≤ n ∧ n + 1 < fly N then σ.2.1 (n + 1) else σ.2.1 n) := fun n _ => by
    by_cases e : n = fly N - 1
    · rw [if_pos e, e, va_up_self]
    · rw [if_neg e, va_up_ne _ _ e]; rfl
  have key : ∀ n, n < 60 → n ≠ fly N - 1 → ∃ m, m < 60 ∧ m ≠ f ∧ va_up (pShift σ.2.1 f (fly N)) (fly N - 1) σ.2.2.2 n = σ.2.1 m ∧ (m = if f ≤ n ∧ n + 1 < fly N then n + 1 else n) := fun n hn hne => by
    rw [pP n hn, if_neg hne]
    by_cases c : f ≤ n ∧ n + 1 < fly N
    · rw [if_pos c, if_pos c]; exact ⟨n + 1, by omega, by omega, rfl, rfl⟩
    · rw [if_neg c, if_neg c]; exact ⟨n, hn, by omega, rfl, rfl⟩
  have hP1 : va_up (pShift σ.2.1 f (fly N)) (fly N - 1) σ.2.2.2 (fly N - 1) = σ.2.2.2 := va_up_self _ _ _
  have ho : hOut (σ.2.1 f) (up σ.1 6 0 0 2 (nI (fly N - 1)), va_up (pShift σ.2.1 f (fly N)) (fly N - 1) σ.2.2.2, (σ.2.2.1, σ.2.1 f)) := by
    refine ⟨hdj.d1 f (by omega), fun n hn => ?_⟩
    show va_up (pShift σ.2.1 f (fly N)) (fly N - 1) σ.2.2.2 n ≠ σ.2.1 f
    by_cases e : n = fly N - 1
    · rw [e, hP1]; exact (hdj.d2 f (by omega)).symm
    · obtain ⟨m, m1, m2, m3, -⟩ := key n hn e
      rw [m3]
      exact fun q => m2 (hdj.p m f m1 (by omega) q)
  refine ⟨⟨⟨?_, ?_⟩, ?_⟩, ?_, by rw [g9]; exact fk.to, by rw [g9]; exact fk.po, ho⟩
  · exact h.rx.wa.of (fun a => by dsimp only; exact up_k (by decide)) (fun a => by dsimp only; exact up_k (by decide)) (fun a b => by dsimp only; exact up_k (by decide)) (fun a a1 a2 a3 => o a (by simp only [List.mem_cons, List.not_mem_nil, or_false, not_or]; omega))
  · refine ⟨?_, ?_, ?_, ?_, ?_, ?_, ?_, ?_, ?_, ?_, ?_, ?_⟩
    · intro k hk'; show up σ.1 6 0 0 2 (nI (fly N - 1)) 7 0 0 k = _; rw [up_k (by decide), o 10 (by decide)]; exact hB.pl k hk'
    · show up σ.1 6 0 0 2 (nI (fly N - 1)) 7 0 0 15 = _; rw [up_k (by decide)]; exact hB.p15
    · intro k hk'; rw [o 10 (by decide)]; exact hB.pk k hk'
    · show up σ.1 6 0 0 2 (nI (fly N - 1)) 6 0 0 2 = _; rw [up_self, pk_us, e28]
    · show up σ.1 6 0 0 2 (nI (fly N - 1)) 6 0 0 3 = _; rw [up_self, pk_un (by decide), e43 1 (by decide) (by decide)]; exact hB.ck
    · rw [e43 1 (by decide) (by decide)]; exact hB.cl
    · exact hB.tb
    · intro k hk'
      rw [efl] at hk'
      show hFK t (up σ.1 6 0 0 2 (nI (fly N - 1))) (va_up (pShift σ.2.1 f (fly N)) (fly N - 1) σ.2.2.2 k) N' k
      obtain ⟨m, m1, m2, m3, m4⟩ := key k (by omega) (by omega)
      rw [m3]
      have hm : m < fly N := by rw [m4]; split <;> omega
      refine (hB.fr m hm).of (g9 _) (g10 _) (fun a a1 a2 => ?_) (fun j hj => ?_)
      · rw [ea a a1 a2, m4]
        by_cases c : f ≤ k ∧ k + 1 < fly N
        · rw [if_pos (by omega), if_pos c]
        · rw [if_neg (by omega), if_neg c]
      · rw [e36, m4]
        by_cases c : f ≤ k ∧ k + 1 < fly N
        · rw [if_pos (by omega), if_pos c, show 40 * k + j + 40 = 40 * (k + 1) + j by omega]
        · rw [if_neg (by omega), if_neg c]
    · show ∃ z, _ ∧ _ ∧ ∀ j, j < z → up σ.1 6 0 0 2 (nI (fly N - 1)) 10 62 0 j = _
      rw [g10, e43 42 (by decide) (by decide), o 41 (by decide)]; exact hB.tp
    · refine ⟨?_, ?_, ?_, ?_⟩
      · intro n m hn hm e
        have e' : va_up (pShift σ.2.1 f (fly N)) (fly N - 1) σ.2.2.2 n = va_up (pShift σ.2.1 f (fly N)) (fly N - 1) σ.2.2.2 m := e
        by_cases a : n = fly N - 1 <;> by_cases b : m = fly N - 1
        · omega
        · obtain ⟨m', x1, x2, x3, -⟩ := key m hm b
          rw [a, hP1, x3] at e'
          exact absurd e'.symm (hdj.d2 m' x1)
        · obtain ⟨m', x1, x2, x3, -⟩ := key n hn a
          rw [b, hP1, x3] at e'
          exact absurd e' (hdj.d2 m' x1)
        · obtain ⟨m', x1, x2, x3, x4⟩ := key n hn a
          obtain ⟨m'', y1, y2, y3, y4⟩ := key m hm b
          rw [x3, y3] at e'
          have := hdj.p m' m'' x1 y1 e'
          rw [x4, y4] at this
          split at this <;> split at this <;> omega
      · intro n hn
        show va_up (pShift σ.2.1 f (fly N)) (fly N - 1) σ.2.2.2 n ≠ σ.2.2.1
        by_cases a : n = fly N - 1
        · rw [a, hP1]; exact hdj.d.symm
        · obtain ⟨m', x1, x2, x3, -⟩ := key n hn a
          rw [x3]; exact hdj.d1 m' x1
      · intro n hn; exact ho.2 n hn
      · exact (hdj.d1 f (by omega)).symm
    · exact ⟨by rw [efl, e28], by omega⟩
    · refine ⟨hB.i62.1, hB.i62.2.2 f (by omega), fun n hn => ?_⟩
      show va_up (pShift σ.2.1 f (fly N)) (fly N - 1) σ.2.2.2 n < 62
      by_cases a : n = fly N - 1
      · rw [a, hP1]; exact hB.i62.2.1
      · obtain ⟨m', x1, x2, x3, -⟩ := key n hn a
        rw [x3]; exact hB.i62.2.2 m' x1
  · exact fun r' hr' => (h.ri r' hr').of (by rw [o 3 (by decide)]) (by rw [o 4 (by decide)]) (by rw [o 5 (by decide)])
  · refine ⟨?_, ?_, ?_, ?_, ?_, ?_⟩
    · rw [g9]; exact fk.kd
    · rw [g9]; exact fk.fm
    · rw [g9]; exact fk.ad
    · rw [g9]; exact fk.hp
    · refine ⟨z, e40, ?_⟩
      rw [g9, g10]
      refine ⟨fx.len, fx.le, fun j hj hn => by rw [e39 j hj]; exact fx.at_ j hj hn, fun k1 k2 => ?_⟩
      have := fx.num k1 k2
      unfold hfour at this ⊢
      rw [e39 8 (by omega), e39 9 (by omega), e39 10 (by omega), e39 11 (by omega)]
      exact this
    · exact hB39
end TAKE
