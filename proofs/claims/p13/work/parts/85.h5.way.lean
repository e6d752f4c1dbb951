/-! THE TWO SIDES: frames on the way -/
def hFK (t : Nat) (M : zM) (F : Nat) (N : zR) (k : Nat) : Prop := M 9 F 0 2 = N 30 k ∧ M 9 F 0 3 = N 31 k ∧ M 9 F 0 4 = N 32 k ∧ M 9 F 0 5 = N 33 k ∧ M 9 F 0 6 = 255 ∧ M 9 F 0 7 = N 34 k ∧ M 9 F 0 8 = N 29 k ∧ (∃ d, d ≤ 50 ∧ N 29 k = nI (t + d)) ∧ (∃ z, N 35 k = nI z ∧ hFX (M 9 F 0) (M 10 F 0) (N 30 k) z (fun j => N 36 (40 * k + j))) ∧ (N 30 k = 3 → N 31 k = 9 ∨ ∃ a, a < 5 ∧ N 31 k = nI a ∧ (N 34 k >>> (nI a &&& 31)) &&& 1 = 0)
theorem hFK.kd {t : Nat} {M : zM} {F : Nat} {N : zR} {k : Nat} (h_ : hFK t M F N k) : M 9 F 0 2 = N 30 k := h_.1
theorem hFK.fm {t : Nat} {M : zM} {F : Nat} {N : zR} {k : Nat} (h_ : hFK t M F N k) : M 9 F 0 3 = N 31 k := h_.2.1
theorem hFK.to {t : Nat} {M : zM} {F : Nat} {N : zR} {k : Nat} (h_ : hFK t M F N k) : M 9 F 0 4 = N 32 k := h_.2.2.1
theorem hFK.ad {t : Nat} {M : zM} {F : Nat} {N : zR} {k : Nat} (h_ : hFK t M F N k) : M 9 F 0 5 = N 33 k := h_.2.2.2.1
theorem hFK.hp {t : Nat} {M : zM} {F : Nat} {N : zR} {k : Nat} (h_ : hFK t M F N k) : M 9 F 0 6 = 255 := h_.2.2.2.2.1
theorem hFK.po {t : Nat} {M : zM} {F : Nat} {N : zR} {k : Nat} (h_ : hFK t M F N k) : M 9 F 0 7 = N 34 k := h_.2.2.2.2.2.1
theorem hFK.du {t : Nat} {M : zM} {F : Nat} {N : zR} {k : Nat} (h_ : hFK t M F N k) : M 9 F 0 8 = N 29 k := h_.2.2.2.2.2.2.1
theorem hFK.dt {t : Nat} {M : zM} {F : Nat} {N : zR} {k : Nat} (h_ : hFK t M F N k) : ∃ d, d ≤ 50 ∧ N 29 k = nI (t + d) := h_.2.2.2.2.2.2.2.1
theorem hFK.by_ {t : Nat} {M : zM} {F : Nat} {N : zR} {k : Nat} (h_ : hFK t M F N k) : ∃ z, N 35 k = nI z ∧ hFX (M 9 F 0) (M 10 F 0) (N 30 k) z (fun j => N 36 (40 * k + j)) := h_.2.2.2.2.2.2.2.2.1
theorem hFK.qu {t : Nat} {M : zM} {F : Nat} {N : zR} {k : Nat} (h_ : hFK t M F N k) : N 30 k = 3 → N 31 k = 9 ∨ ∃ a, a < 5 ∧ N 31 k = nI a ∧ (N 34 k >>> (nI a &&& 31)) &&& 1 = 0 := h_.2.2.2.2.2.2.2.2.2
def hDJ (P : Nat → Nat) (D : Nat × Nat) : Prop := (∀ n m, n < 60 → m < 60 → P n = P m → n = m) ∧ (∀ n, n < 60 → P n ≠ D.1) ∧ (∀ n, n < 60 → P n ≠ D.2) ∧ D.1 ≠ D.2
theorem hDJ.p {P : Nat → Nat} {D : Nat × Nat} (h_ : hDJ P D) : ∀ n m, n < 60 → m < 60 → P n = P m → n = m := h_.1
theorem hDJ.d1 {P : Nat → Nat} {D : Nat × Nat} (h_ : hDJ P D) : ∀ n, n < 60 → P n ≠ D.1 := h_.2.1
theorem hDJ.d2 {P : Nat → Nat} {D : Nat × Nat} (h_ : hDJ P D) : ∀ n, n < 60 → P n ≠ D.2 := h_.2.2.1
theorem hDJ.d {P : Nat → Nat} {D : Nat × Nat} (h_ : hDJ P D) : D.1 ≠ D.2 := h_.2.2.2
def hWB (t : Nat) (σ : zS) (N : zR) : Prop := (∀ k, k < 15 → σ.1 7 0 0 k = N 10 k) ∧ σ.1 7 0 0 15 = -1 ∧ (∀ k, k < 5 → N 10 k = -1 ∨ N 10 k = nI k) ∧ σ.1 6 0 0 2 = N 43 28 ∧ σ.1 6 0 0 3 = N 43 1 ∧ N 43 1 = nI t ∧ t < 2 ^ 30 ∧ (∀ k, k < fly N → hFK t σ.1 (σ.2.1 k) N k) ∧ (∃ z, N 43 42 = nI z ∧ z ≤ 40 ∧ ∀ j, j < z → σ.1 10 62 0 j = N 41 j) ∧ hDJ σ.2.1 σ.2.2 ∧ InvR N ∧ I62 σ.2.1 σ.2.2
theorem hWB.pl {t : Nat} {σ : zS} {N : zR} (h_ : hWB t σ N) : ∀ k, k < 15 → σ.1 7 0 0 k = N 10 k := h_.1
theorem hWB.p15 {t : Nat} {σ : zS} {N : zR} (h_ : hWB t σ N) : σ.1 7 0 0 15 = -1 := h_.2.1
theorem hWB.pk {t : Nat} {σ : zS} {N : zR} (h_ : hWB t σ N) : ∀ k, k < 5 → N 10 k = -1 ∨ N 10 k = nI k := h_.2.2.1
theorem hWB.ct {t : Nat} {σ : zS} {N : zR} (h_ : hWB t σ N) : σ.1 6 0 0 2 = N 43 28 := h_.2.2.2.1
theorem hWB.ck {t : Nat} {σ : zS} {N : zR} (h_ : hWB t σ N) : σ.1 6 0 0 3 = N 43 1 := h_.2.2.2.2.1
theorem hWB.cl {t : Nat} {σ : zS} {N : zR} (h_ : hWB t σ N) : N 43 1 = nI t := h_.2.2.2.2.2.1
theorem hWB.tb {t : Nat} {σ : zS} {N : zR} (h_ : hWB t σ N) : t < 2 ^ 30 := h_.2.2.2.2.2.2.1
theorem hWB.fr {t : Nat} {σ : zS} {N : zR} (h_ : hWB t σ N) : ∀ k, k < fly N → hFK t σ.1 (σ.2.1 k) N k := h_.2.2.2.2.2.2.2.1
theorem hWB.tp {t : Nat} {σ : zS} {N : zR} (h_ : hWB t σ N) : ∃ z, N 43 42 = nI z ∧ z ≤ 40 ∧ ∀ j, j < z → σ.1 10 62 0 j = N 41 j := h_.2.2.2.2.2.2.2.2.1
theorem hWB.dj {t : Nat} {σ : zS} {N : zR} (h_ : hWB t σ N) : hDJ σ.2.1 σ.2.2 := h_.2.2.2.2.2.2.2.2.2.1
theorem hWB.f60 {t : Nat} {σ : zS} {N : zR} (h_ : hWB t σ N) : InvR N := h_.2.2.2.2.2.2.2.2.2.2.1
theorem hWB.i62 {t : Nat} {σ : zS} {N : zR} (h_ : hWB t σ N) : I62 σ.2.1 σ.2.2 := h_.2.2.2.2.2.2.2.2.2.2.2
theorem hFX.of {q b q' b' w w' : Nat → Int32} {kd : Int32} {z : Nat} (h : hFX q b kd z w) (e1 : q' 1 = q 1) (e2 : ∀ j, j < 40 → b' j = b j) (e3 : ∀ j, j < 40 → w' j = w j) : hFX q' b' kd z w' := by
  have hz := h.le
  refine ⟨by rw [e1]; exact h.len, h.le, fun j hj hn => by rw [e2 j (by omega), e3 j (by omega)]; exact h.at_ j hj hn, fun k1 k2 => ?_⟩
  have := h.num k1 k2
  unfold hfour at *
  rw [e2 8 (by decide), e2 9 (by decide), e2 10 (by decide), e2 11 (by decide), e3 8 (by decide), e3 9 (by decide), e3 10 (by decide), e3 11 (by decide)]
  exact this
theorem hFK.of {t : Nat} {M M' : zM} {F k k' : Nat} {N N' : zR} (h : hFK t M F N k) (e9 : M' 9 F 0 = M 9 F 0) (e10 : M' 10 F 0 = M 10 F 0) (e : ∀ a, 29 ≤ a → a ≤ 35 → N' a k' = N a k) (e36 : ∀ j, j < 40 → N' 36 (40 * k' + j) = N 36 (40 * k + j)) : hFK t M' F N' k' := by
  refine ⟨?_, ?_, ?_, ?_, ?_, ?_, ?_, ?_, ?_, ?_⟩
  · rw [e9, e 30 (by decide) (by decide)]; exact h.kd
  · rw [e9, e 31 (by decide) (by decide)]; exact h.fm
  · rw [e9, e 32 (by decide) (by decide)]; exact h.to
  · rw [e9, e 33 (by decide) (by decide)]; exact h.ad
  · rw [e9]; exact h.hp
  · rw [e9, e 34 (by decide) (by decide)]; exact h.po
  · rw [e9, e 29 (by decide) (by decide)]; exact h.du
  · rw [e 29 (by decide) (by decide)]; exact h.dt
  · obtain ⟨z, ez, hx⟩ := h.by_
    rw [e 35 (by decide) (by decide), e 30 (by decide) (by decide), e9, e10]
    exact ⟨z, ez, hx.of rfl (fun _ _ => rfl) (fun j hj => e36 j hj)⟩
  · rw [e 30 (by decide) (by decide), e 31 (by decide) (by decide), e 34 (by decide) (by decide)]; exact h.qu
/-- cells that the wire doesn't look at may change -/
theorem hWB.of' {t : Nat} {σ σ' : zS} {N N' : zR} (h : hWB t σ N) (e6 : σ'.1 6 0 0 = σ.1 6 0 0) (e7 : σ'.1 7 0 0 = σ.1 7 0 0) (e9 : ∀ F, F ≠ σ.2.2.1 → F ≠ 62 → σ'.1 9 F 0 = σ.1 9 F 0) (e10 : ∀ F, F ≠ σ.2.2.1 → F ≠ 62 → σ'.1 10 F 0 = σ.1 10 F 0) (hP : σ'.2 = σ.2) (n10 : N' 10 = N 10) (n43 : N' 43 28 = N 43 28 ∧ N' 43 1 = N 43 1) (n : ∀ a, 29 ≤ a → a ≤ 36 → N' a = N a) (tp : ∃ z, N' 43 42 = nI z ∧ z ≤ 40 ∧ ∀ j, j < z → σ'.1 10 62 0 j = N' 41 j) : hWB t σ' N' := by
  have ef := fly_of n43.1
  have hc := h.f60.2
  have h62 : (62 : Nat) ≠ σ.2.2.1 := by have := h.i62.1; omega
  refine ⟨?_, ?_, ?_, ?_, ?_, ?_, ?_, ?_, ?_, ?_, ?_, ?_⟩
  · intro k hk; rw [e7, n10]; exact h.pl k hk
  · rw [e7]; exact h.p15
  · intro k hk; rw [n10]; exact h.pk k hk
  · rw [e6, n43.1]; exact h.ct
  · rw [e6, n43.2]; exact h.ck
  · rw [n43.2]; exact h.cl
  · exact h.tb
  · intro k hk
    rw [ef] at hk
    rw [hP]
    have q := h.dj.d1 k (by omega)
    have q2 : σ.2.1 k ≠ 62 := by have := h.i62.2.2 k (by omega); omega
    exact (h.fr k hk).of (e9 _ q q2) (e10 _ q q2) (fun a h1 h2 => by rw [n a h1 (by omega)]) (fun j _ => by rw [n 36 (by decide) (by decide)])
  · exact tp
  · rw [hP]; exact h.dj
  · exact h.f60.of n43.1
  · rw [hP]; exact h.i62
theorem hWB.of {t : Nat} {σ σ' : zS} {N N' : zR} (h : hWB t σ N) (e6 : σ'.1 6 0 0 = σ.1 6 0 0) (e7 : σ'.1 7 0 0 = σ.1 7 0 0) (e9 : ∀ F, F ≠ σ.2.2.1 → σ'.1 9 F 0 = σ.1 9 F 0) (e10 : ∀ F, F ≠ σ.2.2.1 → σ'.1 10 F 0 = σ.1 10 F 0) (hP : σ'.2 = σ.2) (n10 : N' 10 = N 10) (n43 : N' 43 28 = N 43 28 ∧ N' 43 1 = N 43 1 ∧ N' 43 42 = N 43 42) (n : ∀ a, 29 ≤ a → a ≤ 36 → N' a = N a) (n41 : N' 41 = N 41) : hWB t σ' N' :=
  h.of' e6 e7 (fun F q _ => e9 F q) (fun F q _ => e10 F q) hP n10 ⟨n43.1, n43.2.1⟩ n (by rw [e10 62 (by have := h.i62.1; omega), n43.2.2, n41]; exact h.tp)
/-- the switch learns a place -/
theorem hWB.place {t : Nat} {σ : zS} {N : zR} {r s : Nat} (h : hWB t σ N) (hr : r < 5) (hs : s = 9 ∨ s = r) : hWB t (up σ.1 7 0 0 s (nI r), σ.2) (u2 N 10 s (nI r)) := by
  have o : ∀ a, a ≠ 10 → u2 N 10 s (nI r) a = N a := fun a ha => u2_ne ha
  have ef : fly (u2 N 10 s (nI r)) = fly N := fly_of (by rw [o 43 (by decide)])
  refine ⟨?_, ?_, ?_, ?_, ?_, ?_, ?_, ?_, ?_, ?_, ?_, ?_⟩
  · intro k hk
    show up σ.1 7 0 0 s (nI r) 7 0 0 k = _
    rw [up_self, u2_self]
    by_cases e : k = s
    · subst e; rw [pk_us, pk_us]
    · rw [pk_un e, pk_un e]; exact h.pl k hk
  · show up σ.1 7 0 0 s (nI r) 7 0 0 15 = _
    rw [up_self, pk_un (by omega)]; exact h.p15
  · intro k hk
    rw [u2_self]
    by_cases e : k = s
    · subst e
      rw [pk_us]
      rcases hs with e | e
      · omega
      · subst e; exact Or.inr rfl
    · rw [pk_un e]; exact h.pk k hk
  · show up σ.1 7 0 0 s (nI r) 6 0 0 2 = _
    rw [up_ne (by omega), o 43 (by decide)]; exact h.ct
  · show up σ.1 7 0 0 s (nI r) 6 0 0 3 = _
    rw [up_ne (by omega), o 43 (by decide)]; exact h.ck
  · rw [o 43 (by decide)]; exact h.cl
  · exact h.tb
  · intro k hk
    rw [ef] at hk
    exact (h.fr k hk).of (by dsimp only; exact up_k (by decide)) (by dsimp only; exact up_k (by decide)) (fun a h1 h2 => by rw [o a (by omega)]) (fun j _ => by rw [o 36 (by decide)])
  · show ∃ z, _ ∧ _ ∧ ∀ j, j < z → up σ.1 7 0 0 s (nI r) 10 62 0 j = _
    rw [up_ne (by omega), o 43 (by decide), o 41 (by decide)]; exact h.tp
  · exact h.dj
  · exact h.f60.of (by rw [o 43 (by decide)])
  · exact h.i62
def hDR (M : zM) (d : Nat) (N : zR) (what : Int32) (s g z : Nat) (ad : Int32) : Prop := hFX (M 9 d 0) (M 10 d 0) what z (N 37) ∧ N 43 38 = nI z ∧ M 9 d 0 2 = what ∧ M 9 d 0 3 = nI s ∧ M 9 d 0 4 = nI g ∧ M 9 d 0 5 = ad ∧ M 9 d 0 6 = 255
theorem hDR.fx {M : zM} {d : Nat} {N : zR} {what : Int32} {s g z : Nat} {ad : Int32} (h_ : hDR M d N what s g z ad) : hFX (M 9 d 0) (M 10 d 0) what z (N 37) := h_.1
theorem hDR.sz {M : zM} {d : Nat} {N : zR} {what : Int32} {s g z : Nat} {ad : Int32} (h_ : hDR M d N what s g z ad) : N 43 38 = nI z := h_.2.1
theorem hDR.kd {M : zM} {d : Nat} {N : zR} {what : Int32} {s g z : Nat} {ad : Int32} (h_ : hDR M d N what s g z ad) : M 9 d 0 2 = what := h_.2.2.1
theorem hDR.fm {M : zM} {d : Nat} {N : zR} {what : Int32} {s g z : Nat} {ad : Int32} (h_ : hDR M d N what s g z ad) : M 9 d 0 3 = nI s := h_.2.2.2.1
theorem hDR.to {M : zM} {d : Nat} {N : zR} {what : Int32} {s g z : Nat} {ad : Int32} (h_ : hDR M d N what s g z ad) : M 9 d 0 4 = nI g := h_.2.2.2.2.1
theorem hDR.ad {M : zM} {d : Nat} {N : zR} {what : Int32} {s g z : Nat} {ad : Int32} (h_ : hDR M d N what s g z ad) : M 9 d 0 5 = ad := h_.2.2.2.2.2.1
theorem hDR.hp {M : zM} {d : Nat} {N : zR} {what : Int32} {s g z : Nat} {ad : Int32} (h_ : hDR M d N what s g z ad) : M 9 d 0 6 = 255 := h_.2.2.2.2.2.2
theorem mcL_at {f : Nat} : ∀ (n k : Nat) (N : zR) (x : Nat), k + n ≤ 40 → mcL f n k N 36 x = if 40 * f + k ≤ x ∧ x < 40 * f + k + n then N 37 (x - 40 * f) else N 36 x := by
  intro n
  induction n with
  | zero => intro k N x _; rw [if_neg (by omega)]; rfl
  | succ n ih =>
    intro k N x hk
    show mcL f n (k + 1) (u2 N 36 (40 * f + k) (N 37 k)) 36 x = _
    rw [ih (k + 1) _ x (by omega), u2_ne (by decide), u2_self]
    by_cases e : x = 40 * f + k
    · subst e
      rw [if_neg (by omega), if_pos (by omega), pk_us, show 40 * f + k - 40 * f = k by omega]
    · rw [pk_un e]
      by_cases c : 40 * f + (k + 1) ≤ x ∧ x < 40 * f + (k + 1) + n
      · rw [if_pos c, if_pos (by omega)]
      · rw [if_neg c, if_neg (by omega)]
/-- one more on the way -/
theorem hWB.push {t : Nat} {σ : zS} {N : zR} {r s g z c : Nat} {what wh due : Int32} (h : hWB t σ N) (ec : c = fly N) (hc : c < 60) (hd : hDR σ.1 σ.2.2.1 N what s g z (N 2 (10 * r + 4))) (p6 : ∃ n, 0 < n ∧ n ≤ 50 ∧ N 2 (10 * r + 6) = nI n) (ed : due = N 43 1 + N 2 (10 * r + 6)) (hq : what = 3 → nI s = 9 ∨ ∃ a, a < 5 ∧ nI s = nI a ∧ (wh >>> (nI a &&& 31)) &&& 1 = 0) : hWB t (up (up (up σ.1 9 σ.2.2.1 0 7 wh) 9 σ.2.2.1 0 8 due) 6 0 0 2 (nI (c + 1)), va_up σ.2.1 c σ.2.2.1, (σ.2.1 c, σ.2.2.2)) (mcL c z 0 (ms3 N r what s g c wh)) := by
  obtain ⟨dl, dl0, dl1, el⟩ := p6
  have hz40 := hd.fx.le
  have o : ∀ a, a ∉ [29, 30, 31, 32, 33, 34, 35, 36, 43] → mcL c z 0 (ms3 N r what s g c wh) a = N a := fun a ha => by
    simp only [List.mem_cons, List.not_mem_nil, or_false, not_or] at ha
    rw [mcL_o _ _ _ _ ha.2.2.2.2.2.2.2.1, ms3_o (by simp only [List.mem_cons, List.not_mem_nil, or_false, not_or]; exact ⟨ha.1, ha.2.1, ha.2.2.1, ha.2.2.2.1, ha.2.2.2.2.1, ha.2.2.2.2.2.1, ha.2.2.2.2.2.2.1, ha.2.2.2.2.2.2.2.2⟩)]
  have e43 : ∀ f, f ≠ 28 → mcL c z 0 (ms3 N r what s g c wh) 43 f = N 43 f := fun f hf => by
    rw [mcL_o _ _ _ _ (by decide)]
    unfold ms3
    rw [u2_ne (by decide), u2_ne (by decide), u2_ne (by decide), u2_ne (by decide), u2_ne (by decide), u2_ne (by decide), u2_ne (by decide), u2_self, pk_un hf]
  have e28 : mcL c z 0 (ms3 N r what s g c wh) 43 28 = nI (c + 1) := by
    rw [mcL_o _ _ _ _ (by decide)]
    unfold ms3
    rw [u2_ne (by decide), u2_ne (by decide), u2_ne (by decide), u2_ne (by decide), u2_ne (by decide), u2_ne (by decide), u2_ne (by decide), u2_self, pk_us, h.f60.1, ← ec, nI_1]
  have ef : fly (mcL c z 0 (ms3 N r what s g c wh)) = c + 1 := (congrArg Int32.toNatClampNeg e28).trans (nI_clamp (by omega))
  have e29 : mcL c z 0 (ms3 N r what s g c wh) 29 = upd (N 29) c (N 43 1 + N 2 (10 * r + 6)) := by
    rw [mcL_o _ _ _ _ (by decide)]
    unfold ms3
    rw [u2_ne (by decide), u2_ne (by decide), u2_ne (by decide), u2_ne (by decide), u2_ne (by decide), u2_ne (by decide), u2_self, u2_ne (by decide), u2_self, pk_un (by decide), u2_ne (by decide)]
  have e30 : mcL c z 0 (ms3 N r what s g c wh) 30 = upd (N 30) c what := by
    rw [mcL_o _ _ _ _ (by decide)]; rfl
  have e31 : mcL c z 0 (ms3 N r what s g c wh) 31 = upd (N 31) c (nI s) := by
    rw [mcL_o _ _ _ _ (by decide)]; rfl
  have e32 : mcL c z 0 (ms3 N r what s g c wh) 32 = upd (N 32) c (nI g) := by
    rw [mcL_o _ _ _ _ (by decide)]; rfl
  have e33 : mcL c z 0 (ms3 N r what s g c wh) 33 = upd (N 33) c (N 2 (10 * r + 4)) := by
    rw [mcL_o _ _ _ _ (by decide)]; rfl
  have e34 : mcL c z 0 (ms3 N r what s g c wh) 34 = upd (N 34) c wh := by
    rw [mcL_o _ _ _ _ (by decide)]; rfl
  have e35 : mcL c z 0 (ms3 N r what s g c wh) 35 = upd (N 35) c (N 43 38) := by
    rw [mcL_o _ _ _ _ (by decide)]; rfl
  have e36 : ∀ x, mcL c z 0 (ms3 N r what s g c wh) 36 x = if 40 * c ≤ x ∧ x < 40 * c + z then N 37 (x - 40 * c) else N 36 x := fun x => by
    rw [mcL_at z 0 _ x (by omega), ms3_o (by decide), ms3_o (by decide)]; rfl
  generalize mcL c z 0 (ms3 N r what s g c wh) = N' at *
  generalize hd' : σ.2.2.1 = d at *
  have hd62 : d < 62 := by rw [← hd']; exact h.i62.1
  have g6 : up (up (up σ.1 9 d 0 7 wh) 9 d 0 8 due) 6 0 0 2 (nI (c + 1)) 6 0 0 = upd (σ.1 6 0 0) 2 (nI (c + 1)) := by rw [up_self, up_ne (by omega), up_ne (by omega)]
  have g7 : up (up (up σ.1 9 d 0 7 wh) 9 d 0 8 due) 6 0 0 2 (nI (c + 1)) 7 0 0 = σ.1 7 0 0 := by rw [up_ne (by omega), up_ne (by omega), up_ne (by omega)]
  have g9 : ∀ F, F ≠ d → up (up (up σ.1 9 d 0 7 wh) 9 d 0 8 due) 6 0 0 2 (nI (c + 1)) 9 F 0 = σ.1 9 F 0 := fun F hF => by rw [up_ne (by omega), up_ne (by omega), up_ne (by omega)]
  have g9d : up (up (up σ.1 9 d 0 7 wh) 9 d 0 8 due) 6 0 0 2 (nI (c + 1)) 9 d 0 = upd (upd (σ.1 9 d 0) 7 wh) 8 due := by rw [up_ne (by omega), up_self, up_self]
  have g10 : ∀ F, up (up (up σ.1 9 d 0 7 wh) 9 d 0 8 due) 6 0 0 2 (nI (c + 1)) 10 F 0 = σ.1 10 F 0 := fun F => by rw [up_ne (by omega), up_ne (by omega), up_ne (by omega)]
  generalize up (up (up σ.1 9 d 0 7 wh) 9 d 0 8 due) 6 0 0 2 (nI (c + 1)) = M' at *
  have hdj := h.dj
  have hi := h.i62
  refine ⟨?_, ?_, ?_, ?_, ?_, ?_, ?_, ?_, ?_, ?_, ?_, ?_⟩
  · intro k hk; show M' 7 0 0 k = _; rw [g7, o 10 (by decide)]; exact h.pl k hk
  · show M' 7 0 0 15 = _; rw [g7]; exact h.p15
  · intro k hk; rw [o 10 (by decide)]; exact h.pk k hk
  · show M' 6 0 0 2 = _; rw [g6, pk_us, e28]
  · show M' 6 0 0 3 = _; rw [g6, pk_un (by decide), e43 1 (by decide)]; exact h.ck
  · rw [e43 1 (by decide)]; exact h.cl
  · exact h.tb
  · intro k hk
    rw [ef] at hk
    show hFK t M' (va_up σ.2.1 c d k) N' k
    by_cases e : k = c
    · subst e
      rw [va_up_self]
      refine ⟨?_, ?_, ?_, ?_, ?_, ?_, ?_, ?_, ?_, ?_⟩
      · rw [g9d, pk_un (by decide), pk_un (by decide), e30, pk_us]; exact hd.kd
      · rw [g9d, pk_un (by decide), pk_un (by decide), e31, pk_us]; exact hd.fm
      · rw [g9d, pk_un (by decide), pk_un (by decide), e32, pk_us]; exact hd.to
      · rw [g9d, pk_un (by decide), pk_un (by decide), e33, pk_us]; exact hd.ad
      · rw [g9d, pk_un (by decide), pk_un (by decide)]; exact hd.hp
      · rw [g9d, pk_un (by decide), pk_us, e34, pk_us]
      · rw [g9d, pk_us, e29, pk_us]; exact ed
      · rw [e29, pk_us, h.cl, el, nI_add]; exact ⟨dl, dl1, rfl⟩
      · refine ⟨z, by rw [e35, pk_us]; exact hd.sz, ?_⟩
        rw [e30, pk_us, g9d, g10]
        have hw : ∀ j, j < z → N' 36 (40 * k + j) = N 37 j := fun j hj => by rw [e36, if_pos (by omega), show 40 * k + j - 40 * k = j by omega]
        refine ⟨by rw [pk_un (by decide), pk_un (by decide)]; exact hd.fx.len, hd.fx.le, fun j hj hn => by show _ = N' 36 (40 * k + j); rw [hw j hj]; exact hd.fx.at_ j hj hn, fun k1 k2 => ?_⟩
        have := hd.fx.num k1 k2
        unfold hfour at this ⊢
        show hf4 _ _ _ _ = hf4 (N' 36 (40 * k + 8)) (N' 36 (40 * k + 9)) (N' 36 (40 * k + 10)) (N' 36 (40 * k + 11)) ∨ hf4 _ _ _ _ = sTold (hf4 (N' 36 (40 * k + 8)) (N' 36 (40 * k + 9)) (N' 36 (40 * k + 10)) (N' 36 (40 * k + 11)))
        rw [hw 8 (by omega), hw 9 (by omega), hw 10 (by omega), hw 11 (by omega)]
        exact this
      · rw [e30, pk_us, e31, pk_us, e34, pk_us]; exact hq
    · rw [va_up_ne _ _ e]
      have hk' : k < fly N := by omega
      have q : σ.2.1 k ≠ d := by rw [← hd']; exact hdj.d1 k (by omega)
      refine (h.fr k hk').of (g9 _ q) (g10 _) (fun a h1 h2 => ?_) (fun j hj => by rw [e36, if_neg (by omega)])
      have : a = 29 ∨ a = 30 ∨ a = 31 ∨ a = 32 ∨ a = 33 ∨ a = 34 ∨ a = 35 := by omega
      rcases this with x | x | x | x | x | x | x <;> subst x
      · rw [e29, pk_un e]
      · rw [e30, pk_un e]
      · rw [e31, pk_un e]
      · rw [e32, pk_un e]
      · rw [e33, pk_un e]
      · rw [e34, pk_un e]
      · rw [e35, pk_un e]
  · show ∃ z, _ ∧ _ ∧ ∀ j, j < z → M' 10 62 0 j = _
    rw [g10, e43 42 (by decide), o 41 (by decide)]; exact h.tp
  · refine ⟨?_, ?_, ?_, ?_⟩
    · intro n m hn hm e
      have e' : va_up σ.2.1 c d n = va_up σ.2.1 c d m := e
      by_cases a : n = c <;> by_cases b : m = c
      · omega
      · subst a; rw [va_up_self, va_up_ne _ _ b] at e'; exact absurd e'.symm (by rw [← hd']; exact hdj.d1 m hm)
      · subst b; rw [va_up_self, va_up_ne _ _ a] at e'; exact absurd e' (by rw [← hd']; exact hdj.d1 n hn)
      · rw [va_up_ne _ _ a, va_up_ne _ _ b] at e'; exact hdj.p n m hn hm e'
    · intro n hn e
      have e' : va_up σ.2.1 c d n = σ.2.1 c := e
      by_cases a : n = c
      · subst a; rw [va_up_self] at e'; exact absurd e'.symm (by rw [← hd']; exact hdj.d1 n hn)
      · rw [va_up_ne _ _ a] at e'; exact a (hdj.p n c hn hc e')
    · intro n hn e
      have e' : va_up σ.2.1 c d n = σ.2.2.2 := e
      by_cases a : n = c
      · subst a; rw [va_up_self] at e'; exact absurd e' (by rw [← hd']; exact hdj.d)
      · rw [va_up_ne _ _ a] at e'; exact hdj.d2 n hn e'
    · exact hdj.d2 c hc
  · exact ⟨by rw [ef, e28], by omega⟩
  · refine ⟨hi.2.2 c hc, hi.2.1, fun n hn => ?_⟩
    show va_up σ.2.1 c d n < 62
    by_cases a : n = c
    · subst a; rw [va_up_self]; exact hd62
    · rw [va_up_ne _ _ a]; exact hi.2.2 n hn
theorem wh_eq {t : Nat} {σ : zS} {N : zR} {r g : Nat} (h : hWB t σ N) (hr : r < 5) (hg : g = 15 ∨ (g < 5 ∧ g ≠ r)) : cyPorts σ.1 (nI g) (nI r) = mWhere N r g ∧ ¬ mWhere N r g = 0 ∧ (mWhere N r g >>> (nI r &&& 31)) &&& 1 = 0 := by
  have all : mAll r = 31 &&& (((1 : Int32) <<< (nI r &&& 31)) ^^^ (-1)) ∧ ¬ mAll r = 0 ∧ (mAll r >>> (nI r &&& 31)) &&& 1 = 0 := by
    have : r = 0 ∨ r = 1 ∨ r = 2 ∨ r = 3 ∨ r = 4 := by omega
    rcases this with e | e | e | e | e <;> subst e <;> decide
  have kn : ∀ g, g < 16 → cyKnown σ.1 (nI g) = if σ.1 7 0 0 g = -1 then 0 else 1 := fun g hg => by
    unfold cyKnown
    rw [if_neg (nI_pos (by omega)), if_neg (show ¬ (16 : Int32) ≤ nI g from nI_ge (a := g) (b := 16) (by omega) (by decide)), nI_clamp (by omega)]
  unfold cyPorts mWhere
  rcases hg with e | ⟨e1, e2⟩
  · subst e
    rw [kn 15 (by decide), h.p15, if_pos rfl, if_pos rfl, if_pos (by decide)]
    exact ⟨all.1.symm, all.2⟩
  · rw [kn g (by omega), h.pl g (by omega), if_neg (show ¬ nI g = 15 from fun z => by have := (nI_eq (a := g) (b := 15) (by omega) (by decide)).mp z; omega), nI_clamp (by omega), h.pl g (by omega)]
    rcases h.pk g e1 with q | q
    · rw [q, if_pos rfl, if_pos rfl, if_pos rfl]
      exact ⟨all.1.symm, all.2⟩
    · have n1 : ¬ nI g = -1 := fun z => by
        have := congrArg Int32.toInt z
        rw [nI_toInt (by omega)] at this
        have h2 : (-1 : Int32).toInt = -1 := by decide
        omega
      have n2 : ¬ nI g = nI r := fun z => e2 ((nI_eq (by omega) (by omega)).mp z)
      rw [q, if_neg n1, if_neg n1, if_neg n2, if_neg (by decide)]
      have a : r = 0 ∨ r = 1 ∨ r = 2 ∨ r = 3 ∨ r = 4 := by omega
      have b : g = 0 ∨ g = 1 ∨ g = 2 ∨ g = 3 ∨ g = 4 := by omega
      rcases a with e | e | e | e | e <;> subst e <;> rcases b with e | e | e | e | e <;> subst e <;> first | omega | decide
/-- a frame is sent -/
theorem wb_send {t : Nat} {σ : zS} {N : zR} {r s g z : Nat} {what : Int32} (h : hWB t σ N) (hr : r < 5) (hd : hDR σ.1 σ.2.2.1 N what s g z (N 2 (10 * r + 4))) (e6 : σ.1 3 r 0 6 = N 2 (10 * r + 6)) (e7 : σ.1 3 r 0 7 = N 2 (10 * r + 7)) (p6 : ∃ n, 0 < n ∧ n ≤ 50 ∧ N 2 (10 * r + 6) = nI n) (hs : s = 9 ∨ s = r) (hg : g = 15 ∨ (g < 5 ∧ g ≠ r)) : hWB t (sdS σ r s) (mSend N r what s g (fly N) z) := by
  have ecn : cnt σ.1 = fly N := congrArg Int32.toNatClampNeg h.ct
  unfold sdS mSend
  have x7 : ms1 N r 2 (10 * r + 7) = N 2 (10 * r + 7) := rfl
  rw [x7, e7]
  have h1 : hWB t (up σ.1 2 r 0 9 (σ.1 2 r 0 9 + 1), σ.2.1, σ.2.2) (ms1 N r) := h.of (by dsimp only; exact up_k (by decide)) (by dsimp only; exact up_k (by decide)) (fun F _ => by dsimp only; exact up_k (by decide)) (fun F _ => by dsimp only; exact up_k (by decide)) rfl rfl ⟨rfl, rfl, rfl⟩ (fun a h1 h2 => u2_ne (by omega)) rfl
  by_cases c : (N 2 (10 * r + 7) &&& 1) = 0
  · rw [if_pos c, if_neg (fun z => z c)]
    have h2 := h1.place hr hs
    have hw := wh_eq h2 hr hg
    have eN : u2 (ms1 N r) 10 s (nI r) = ms2 N r s := rfl
    rw [eN] at h2 hw
    rw [if_neg hw.2.1]
    unfold cyM cyP cyD
    rw [ecn]
    by_cases c6 : fly N = 60
    · rw [if_pos c6, if_pos c6, if_pos c6, if_pos c6]; exact h2
    · rw [if_neg c6, if_neg c6, if_neg c6, if_neg c6]
      have hl := h.f60.2
      have ew : cyPorts (up (up σ.1 2 r 0 9 (σ.1 2 r 0 9 + 1)) 7 0 0 s (nI r)) (up σ.1 2 r 0 9 (σ.1 2 r 0 9 + 1) 9 σ.2.2.1 0 4) (nI r) = mWhere (ms2 N r s) r g := by
        rw [show up σ.1 2 r 0 9 (σ.1 2 r 0 9 + 1) 9 σ.2.2.1 0 = σ.1 9 σ.2.2.1 0 from up_ne (by omega), hd.to]; exact hw.1
      rw [ew]
      have M9 : up (up σ.1 2 r 0 9 (σ.1 2 r 0 9 + 1)) 7 0 0 s (nI r) 9 σ.2.2.1 0 = σ.1 9 σ.2.2.1 0 := by rw [up_ne (by omega), up_ne (by omega)]
      have M10 : up (up σ.1 2 r 0 9 (σ.1 2 r 0 9 + 1)) 7 0 0 s (nI r) 10 σ.2.2.1 0 = σ.1 10 σ.2.2.1 0 := by rw [up_ne (by omega), up_ne (by omega)]
      have hd2 : hDR (up (up σ.1 2 r 0 9 (σ.1 2 r 0 9 + 1)) 7 0 0 s (nI r)) σ.2.2.1 (ms2 N r s) what s g z (ms2 N r s 2 (10 * r + 4)) := by
        refine ⟨?_, ?_, ?_, ?_, ?_, ?_, ?_⟩
        · rw [M9, M10]; exact hd.fx
        · exact hd.sz
        · rw [M9]; exact hd.kd
        · rw [M9]; exact hd.fm
        · rw [M9]; exact hd.to
        · rw [M9]; exact hd.ad
        · rw [M9]; exact hd.hp
      refine h2.push (c := fly N) (due := up σ.1 2 r 0 9 (σ.1 2 r 0 9 + 1) 6 0 0 3 + σ.1 3 r 0 6) (fly_of rfl).symm (by omega) hd2 p6 ?_ (fun _ => ?_)
      · rw [show up σ.1 2 r 0 9 (σ.1 2 r 0 9 + 1) 6 0 0 = σ.1 6 0 0 from up_ne (by omega), h.ck, e6]; rfl
      · rcases hs with e | e
        · subst e; exact Or.inl rfl
        · subst e; exact Or.inr ⟨s, hr, rfl, hw.2.2⟩
  · rw [if_neg c, if_pos c]; exact h1
