/-! THE TWO SIDES: a tick -/
section TICK
variable {t : Nat} {σ : zS} {N : zR} {f r s : Nat}
/-- none is due -/
def NDu (N : zR) : Prop := ∀ k, k < fly N → ¬ N 29 k = N 43 1
theorem ndu_kp {N' : zR} (h : NDu N) (k : Kp N N') : NDu N' := fun j hj => by
  obtain ⟨⟨h1, -⟩, h3, h4, h5⟩ := k
  rw [h1]
  by_cases c : j < fly N
  · rw [h4 j c]; exact h j c
  · exact h5 j (by omega) hj
theorem due_iff (h : hWB t σ N) {k : Nat} (hk : k < fly N) : σ.1 9 (σ.2.1 k) 0 8 ≤ σ.1 6 0 0 3 ↔ N 29 k = N 43 1 := by
  have fk := h.fr k hk
  obtain ⟨d, hd, ed⟩ := fk.dt
  have tb := h.tb
  rw [fk.du, h.ck, ed, h.cl, nI_leI (by omega) (by omega), nI_eq (by omega) (by omega)]
  omega
theorem kdue_eq (h : hWB t σ N) (hf : f < fly N) (hd : N 29 f = N 43 1) (hb : ∀ k, k < f → ¬ N 29 k = N 43 1) (c : Nat) : ∀ (n i : Nat), i ≤ f → f < i + n → kDue σ.1 σ.2.1 c n i = f := by
  intro n
  induction n with
  | zero => intro i h1 h2; omega
  | succ n ih =>
    intro i h1 h2
    show (if σ.1 9 (σ.2.1 i) 0 8 ≤ σ.1 6 0 0 3 then i else kDue σ.1 σ.2.1 c n (i + 1)) = f
    by_cases e : i = f
    · subst e; rw [if_pos ((due_iff h hf).mpr hd)]
    · rw [if_neg (fun k => hb i (by omega) ((due_iff h (by omega)).mp k))]
      exact ih (i + 1) (by omega) (by omega)
theorem cdue_eq (h : hWB t σ N) : ∀ (n i x : Nat), i ≤ fly N → fly N ≤ i + n → cDue σ.1 σ.2.1 n i (nI x) = nI (x + dn_ (N 29) (N 43 1) (fly N - i) i) := by
  have hc := h.f60.2
  intro n
  induction n with
  | zero => intro i x h1 h2; rw [show fly N - i = 0 by omega]; rfl
  | succ n ih =>
    intro i x h1 h2
    show (if σ.1 6 0 0 2 ≤ nI i then nI x else if 60 ≤ nI i then nI x else cDue σ.1 σ.2.1 n (i + 1) (if σ.1 9 (σ.2.1 i) 0 8 ≤ σ.1 6 0 0 3 then nI x + 1 else nI x)) = _
    rw [h.ct, h.f60.1]
    by_cases e : i = fly N
    · subst e
      rw [if_pos (nI_le (Nat.le_refl _) (by omega)), Nat.sub_self]; rfl
    · rw [if_neg (nI_ge (a := i) (b := fly N) (by omega) (by omega)), if_neg (show ¬ (60 : Int32) ≤ nI i from nI_ge (a := i) (b := 60) (by omega) (by decide)), show fly N - i = (fly N - (i + 1)) + 1 by omega]
      show _ = nI (x + ((if N 29 i = N 43 1 then 1 else 0) + dn_ (N 29) (N 43 1) (fly N - (i + 1)) (i + 1)))
      by_cases c : N 29 i = N 43 1
      · rw [if_pos ((due_iff h (by omega)).mpr c), if_pos c, nI_1, ih (i + 1) (x + 1) (by omega) (by omega), Nat.add_assoc]
      · rw [if_neg (fun k => c ((due_iff h (by omega)).mp k)), if_neg c, ih (i + 1) x (by omega) (by omega), Nat.zero_add]
theorem ndue_eq (h : hWB t σ N) : nDue σ = dC N 0 := by
  have hc := h.f60.2
  have e := cdue_eq h 60 0 0 (by omega) (by omega)
  have l := dn_le (q := N 29) (c := N 43 1) (fly N - 0) 0
  unfold nDue
  rw [show (0 : Int32) = nI 0 from rfl, e, nI_clamp (by omega)]
  unfold dC
  omega
/-- a frame arrives -/
theorem h_arr_ok (h : hRZ t σ N) (hI : IV N) (hf : f < fly N) (hd : N 29 f = N 43 1) (hb : ∀ k, k < f → ¬ N 29 k = N 43 1) : hRZ t (hoS (tkS σ) (tkS σ).2.2.2) (mArr N f) ∧ ∀ k, k < f → ¬ mArr N f 29 k = mArr N f 43 1 := by
  have hc := h.rx.wb.f60.2
  obtain ⟨k1, k2, k3, k4, k5⟩ := tk_ok h hI hf (kdue_eq h.rx.wb hf hd hb (fly N) (fly N) 0 (by omega) (by omega))
  obtain ⟨⟨a, ha, ea⟩, -⟩ := hI.2.2.1 f (by omega)
  have fk := h.rx.wb.fr f hf
  rw [ea] at k2
  have hq : N 30 f = 3 → a = 9 ∨ (a < 5 ∧ (N 34 f >>> (nI a &&& 31)) &&& 1 = 0) := fun e => by
    rcases fk.qu e with q | ⟨b, b1, b2, b3⟩
    · left
      rw [ea] at q
      exact (nI_eq (a := a) (b := 9) (by omega) (by decide)).mp q
    · right
      rw [ea] at b2
      have := (nI_eq (a := a) (b := b) (by omega) (by omega)).mp b2
      subst this
      exact ⟨b1, b3⟩
  have x := ho_ok (t := t) (F := (tkS σ).2.2.2) (wh := N 34 f) (what := N 30 f) (goal := N 32 f) (by_ := N 33 f) ha hq 5 0 (by omega) k1 k2 k3 k4 k5
  have eA : mArr N f = reL (N 34 f) (N 30 f) a (N 32 f) (N 33 f) 5 0 (mTkF N f) := by
    unfold mArr mTkF
    rw [ea, nI_clamp (by omega)]
  rw [eA]
  refine ⟨x.1, fun k hk => ?_⟩
  have h1 := go_heard (f := f) hI (by omega)
  have h2 := ga_forget (f := f) h1.iv (by rw [fly_heard]; exact hf)
  rw [fly_heard] at h2
  have h3 := go_reL (wh := N 34 f) (what := N 30 f) (a := a) (goal := N 32 f) (by_ := N 33 f) ha 5 0 h2.1 (by omega)
  have efl : fly (mTkF N f) = fly N - 1 := fly_forget hc
  have e1 := h3.1.2.1.2.2.1 k (by show k < fly (mTkF N f); omega)
  have e2 := h3.1.2.1.1.1
  rw [e1, e2]
  show ¬ mTkF N f 29 k = mTkF N f 43 1
  have e3 : mTkF N f 29 k = N 29 k := by
    unfold mTkF mForget
    rw [u2_ne (by decide), fgL_at fgS_29, if_neg (by omega)]
    unfold mHeard
    rw [hcL_o (by decide), u2_ne (by decide)]
  have e4 : mTkF N f 43 1 = N 43 1 := by
    unfold mTkF
    rw [mForget_43 (by decide)]
    unfold mHeard
    rw [hcL_o (by decide), u2_self, pk_un (by decide)]
  rw [e3, e4]
  exact hb k hk
theorem aL_ok : ∀ (n f : Nat) {σ : zS} {N : zR}, hRZ t σ N → IV N → (∀ k, k < f → k < fly N → ¬ N 29 k = N 43 1) → 60 - f + dC N f ≤ n → hRZ t (duL (dC N f) σ) (aL n f N) ∧ NDu (aL n f N) := by
  intro n
  induction n with
  | zero =>
    intro f σ N h hI hb hn
    have hc := hI.1.2
    have e : dC N f = 0 := by omega
    rw [e]
    exact ⟨h, fun k hk => hb k (by have : k < fly N := hk; omega) hk⟩
  | succ n ih =>
    intro f σ N h hI hb hn
    have hc := hI.1.2
    unfold aL
    by_cases c1 : fly N ≤ f
    · rw [if_pos c1]
      have e : dC N f = 0 := by unfold dC; rw [show fly N - f = 0 by omega]; rfl
      rw [e]
      exact ⟨h, fun k hk => hb k (by omega) hk⟩
    rw [if_neg c1]
    by_cases c2 : N 29 f = N 43 1
    · rw [if_neg (fun k => k c2)]
      have hf : f < fly N := by omega
      obtain ⟨a1, a2, a3⟩ := arr_ok1 hI hf
      have a3 := a3 c2
      obtain ⟨x1, x2⟩ := h_arr_ok h hI hf c2 (fun k hk => hb k hk (by omega))
      have e : dC N f = dC (mArr N f) f + 1 := by omega
      rw [e]
      show hRZ t (duL (dC (mArr N f) f) (hoS (tkS σ) (tkS σ).2.2.2)) _ ∧ _
      exact ih f x1 a1.1 (fun k hk _ => x2 k hk) (by omega)
    · rw [if_pos c2, ← dC_s (by omega) c2]
      refine ih (f + 1) h hI (fun k hk hk' => ?_) ?_
      · by_cases e : k = f
        · subst e; exact c2
        · exact hb k (by omega) hk'
      · rw [dC_s (by omega) c2]; omega
/-- the clock goes on -/
theorem ck_ok (h : hRZ t σ N) (hn : NDu N) (ht : t + 1 < 2 ^ 30) : hRZ (t + 1) (ckS σ) (mCk1 N) := by
  have hB := h.rx.wb
  have o : ∀ a, a ≠ 43 → mCk1 N a = N a := fun a ha => u2_ne ha
  have e43 : ∀ x, x ≠ 1 → mCk1 N 43 x = N 43 x := fun x hx => by unfold mCk1; rw [u2_self, pk_un hx]
  have e1 : mCk1 N 43 1 = N 43 1 + 1 := by unfold mCk1; rw [u2_self, pk_us]
  have ef : fly (mCk1 N) = fly N := fly_of (e43 28 (by decide))
  generalize mCk1 N = N' at *
  have g : ∀ κ a b, κ ≠ 6 → up σ.1 6 0 0 3 (σ.1 6 0 0 3 + 1) κ a b = σ.1 κ a b := fun κ a b hk => up_k hk
  unfold ckS
  refine ⟨⟨h.rx.wa.of (fun a => g 2 a 0 (by decide)) (fun a => g 3 a 0 (by decide)) (fun a b => g 5 a b (by decide)) (fun a a1 a2 a3 => o a (by omega)), ?_⟩, fun r' hr' => (h.ri r' hr').of (by rw [o 3 (by decide)]) (by rw [o 4 (by decide)]) (by rw [o 5 (by decide)])⟩
  refine ⟨?_, ?_, ?_, ?_, ?_, ?_, ?_, ?_, ?_, ?_, ?_, ?_⟩
  · intro k hk'; show up σ.1 6 0 0 3 (σ.1 6 0 0 3 + 1) 7 0 0 k = _; rw [g 7 0 0 (by decide), o 10 (by decide)]; exact hB.pl k hk'
  · show up σ.1 6 0 0 3 (σ.1 6 0 0 3 + 1) 7 0 0 15 = _; rw [g 7 0 0 (by decide)]; exact hB.p15
  · intro k hk'; rw [o 10 (by decide)]; exact hB.pk k hk'
  · show up σ.1 6 0 0 3 (σ.1 6 0 0 3 + 1) 6 0 0 2 = _; rw [up_self, pk_un (by decide), e43 28 (by decide)]; exact hB.ct
  · show up σ.1 6 0 0 3 (σ.1 6 0 0 3 + 1) 6 0 0 3 = _; rw [up_self, pk_us, e1, hB.ck]
  · rw [e1, hB.cl, nI_1]
  · exact ht
  · intro k hk'
    rw [ef] at hk'
    have fk := hB.fr k hk'
    have fk' : hFK t (up σ.1 6 0 0 3 (σ.1 6 0 0 3 + 1)) (σ.2.1 k) N' k := fk.of (g 9 _ 0 (by decide)) (g 10 _ 0 (by decide)) (fun a a1 a2 => by rw [o a (by omega)]) (fun j hj => by rw [o 36 (by decide)])
    obtain ⟨d, hd, ed⟩ := fk.dt
    have hd0 : d ≠ 0 := fun e => hn k hk' (by rw [ed, hB.cl, e]; rfl)
    exact ⟨fk'.kd, fk'.fm, fk'.to, fk'.ad, fk'.hp, fk'.po, fk'.du, ⟨d - 1, by omega, by rw [o 29 (by decide), ed, show t + 1 + (d - 1) = t + d by omega]⟩, fk'.by_, fk'.qu⟩
  · show ∃ z, _ ∧ _ ∧ ∀ j, j < z → up σ.1 6 0 0 3 (σ.1 6 0 0 3 + 1) 10 62 0 j = _
    rw [g 10 62 0 (by decide), e43 42 (by decide), o 41 (by decide)]; exact hB.tp
  · exact hB.dj
  · exact hB.f60.of (e43 28 (by decide))
  · exact hB.i62
/-- a router's timer -/
theorem rt2_ok (h : hRZ t σ N) (hr : r < 5) (hon : ¬ N 3 r = 0) : hRZ t (rt2 σ r) (wk1 N r) := by
  obtain ⟨n, n0, n1, en⟩ := (h.ri r hr).tm hon
  obtain ⟨k, k0, k1, ek⟩ := (h.ri r hr).kn hon
  have e5 := (h.rx.wa.rt r hr).e5
  have ed : N 4 r - 1 = nI (n - 1) := by rw [en]; exact pk_sub (b := 1) (by omega)
  have eM : rt1 σ.1 r = up σ.1 2 r 0 5 (N 4 r - 1) := by unfold rt1; rw [e5]
  have h1 : hRX t (rt1 σ.1 r, σ.2.1, σ.2.2) (u2 N 4 r (N 4 r - 1)) := by rw [eM]; exact h.rx.rr (k := 4) hr (by decide)
  have e5' : rt1 σ.1 r 2 r 0 5 = nI (n - 1) := by rw [eM, up_self, pk_us, ed]
  unfold rt2 wk1
  rw [e5', if_neg (show ¬ N 4 r ≤ 0 by rw [en]; exact nI_nle n0 (by omega)), u2_is, ed]
  by_cases c : n - 1 = 0
  · rw [c, if_neg (by decide), if_neg (by decide)]
    rw [ed, c] at h1
    have rs : ∀ a, a ≠ 4 → u2 N 4 r (nI 0) a = N a := fun a ha => u2_ne ha
    have e4 : rt1 σ.1 r 2 r 0 4 = N 3 r := by rw [eM, up_self, pk_un (by decide)]; exact (h.rx.wa.rt r hr).e4
    unfold tfS mTF
    rw [rs 3 (by decide)]
    by_cases c2 : N 3 r = 1
    · rw [if_pos (show (rt1 σ.1 r, σ.2.1, σ.2.2).1 2 r 0 4 = 1 from e4.trans c2), if_pos c2]
      have r2 : mAct (u2 N 4 r (nI 0)) r 3 r = 2 := by unfold mAct; rw [u2_at (by omega), u2_is]
      refine ⟨h1.act hr, hRI.other (r := r) h.ri ⟨Or.inr (Or.inr r2), fun _ => ?_, fun _ => ?_, fun z => absurd (r2.symm.trans z) (by decide)⟩ (fun a r' h1 h2 hq => ?_)⟩
      · obtain ⟨m, m0, m1, e⟩ := (h.rx.wa.se r hr).p1
        refine ⟨m, m0, by omega, ?_⟩
        unfold mAct
        rw [u2_at (by omega), u2_at (by omega), u2_is]
        unfold mAc1
        rw [emp_o (by decide), adv_o (by decide), rs 2 (by decide)]; exact e
      · rw [act_o (by decide) (by decide) (by decide) (by decide), rs 5 (by decide)]; exact ⟨k, k0, k1, ek⟩
      · unfold mAct
        have : a ∉ hSL := by simp only [hSL, List.mem_cons, List.not_mem_nil, or_false, not_or]; omega
        have e : mAc1 (u2 N 4 r (nI 0)) r a r' = N a r' := by
          unfold mAc1
          rw [emp_o this, adv_o this, u2_at (by omega)]
        rw [u2_at (by omega), u2_at (by omega), u2_at (by omega), e]
    · rw [if_neg (show ¬ (rt1 σ.1 r, σ.2.1, σ.2.2).1 2 r 0 4 = 1 from fun k => c2 (e4.symm.trans k)), if_neg c2, w_eq h1.wa hr]
      have h2 := h1.ad (pr := mWeighed (u2 N 4 r (nI 0)) r) hr
      have e1 := h2.wa.st r 1 hr (by decide)
      obtain ⟨m, m0, m1, e⟩ := (h2.wa.se r hr).p1
      refine ⟨by rw [e1]; exact h2.rr (k := 4) hr (by decide), hRI.other (r := r) h.ri ⟨?_, fun _ => ⟨m, m0, by omega, by rw [u2_is]; exact e⟩, ?_, fun z => absurd (((congrFun ((u2_ne (by decide)).trans ((adv_o (by decide)).trans (rs 3 (by decide)))) r).symm.trans z)) hon⟩ (fun a r' k1 k2 hq => ?_)⟩
      · rw [u2_ne (by decide), adv_o (by decide), rs 3 (by decide)]; exact (h.ri r hr).role
      · rw [u2_ne (by decide), u2_ne (by decide), adv_o (by decide), adv_o (by decide), rs 3 (by decide), rs 5 (by decide)]; exact (h.ri r hr).kn
      · have : a ∉ hSL := by simp only [hSL, List.mem_cons, List.not_mem_nil, or_false, not_or]; omega
        rw [u2_at (by omega), adv_o this, u2_at (by omega)]
  · rw [if_pos (show 0 < nI (n - 1) from nI_lt (a := 0) (b := n - 1) (by omega) (by omega)), if_pos (nI_ne0 (by omega) (by omega))]
    rw [ed] at h1
    refine ⟨h1, hRI.other (r := r) h.ri ⟨?_, fun _ => ⟨n - 1, by omega, by omega, u2_is⟩, ?_, fun z => absurd ((congrFun (u2_ne (by decide)) r).symm.trans z) hon⟩ (fun a r' k1 k2 hq => u2_at (by omega))⟩
    · rw [u2_ne (by decide)]; exact (h.ri r hr).role
    · rw [u2_ne (by decide), u2_ne (by decide)]; exact (h.ri r hr).kn
/-- a session's timers -/
theorem rs_ok (h : hRZ t σ N) (hr : r < 5) (hs : s < 5) (hx : ¬ N 11 (5 * r + s) = 0) : hRZ t (rsS σ r s) (ws2 (ws1 N (5 * r + s)) r s (5 * r + s)) := by
  have hne : ¬ r = s := fun e => hx (by subst e; exact h.rx.wa.dg r hr)
  have hi : 5 * r + s < 25 := by omega
  obtain ⟨d1, d2, d3⟩ := sq_detect (h.rx.wa.ss r s hr hs) (h.rx.wa.si _ hi)
  have h1 : hRZ t (rs1 σ.1 r s, σ.2.1, σ.2.2) (ws1 N (5 * r + s)) := h.ses hr hs d1 d2 d3 (fun e => absurd e hne)
  have q1 : hSQ (rs1 σ.1 r s 5 r s) (ws1 N (5 * r + s)) (5 * r + s) := h1.rx.wa.ss r s hr hs
  have g1 := h1.rx.wa.si _ hi
  have e2 : rs2 σ.1 r s = rw4 (rs1 σ.1 r s) 5 r s (sFires (rs1 σ.1 r s 5 r s)) := rfl
  unfold rsS ws2
  generalize ws1 N (5 * r + s) = N1 at *
  have e16 := q1.e16
  have ef : sFires (rs1 σ.1 r s 5 r s) = if 0 < N1 25 (5 * r + s) then upd (rs1 σ.1 r s 5 r s) 16 (N1 25 (5 * r + s) - 1) else rs1 σ.1 r s 5 r s := by unfold sFires; rw [e16]
  have eF : sFired (rs1 σ.1 r s 5 r s) = if 0 < N1 25 (5 * r + s) then (if N1 25 (5 * r + s) - 1 = 0 then 1 else 0) else 0 := by unfold sFired; rw [e16]
  rw [eF, u2_is]
  by_cases c : N1 25 (5 * r + s) ≤ 0
  · have c' : ¬ 0 < N1 25 (5 * r + s) := fun k => pos_le.mp k c
    rw [if_pos c, if_neg c', if_pos rfl, e2, ef, if_neg c']
    have : rw4 (rs1 σ.1 r s) 5 r s (rs1 σ.1 r s 5 r s) = rs1 σ.1 r s := by
      funext κ a b
      by_cases e : κ = 5 ∧ a = r ∧ b = s
      · obtain ⟨rfl, rfl, rfl⟩ := e; rw [rw4_self]
      · rw [rw4_ne e]
    rw [this]; exact h1
  · have c' : 0 < N1 25 (5 * r + s) := pos_le.mpr c
    rw [if_neg c, if_pos c']
    have h2 : hRZ t (rs2 σ.1 r s, σ.2.1, σ.2.2) (u2 N1 25 (5 * r + s) (N1 25 (5 * r + s) - 1)) := by
      rw [e2, ef, if_pos c']
      exact h1.ses hr hs (by (refine ⟨?_, ?_, ?_, ?_, ?_, ?_, ?_, ?_, ?_, ?_, ?_, ?_, ?_, ?_, ?_, ?_, ?_⟩ <;> simp [upd, u2, q1.e2, q1.e3, q1.e4, q1.e5, q1.e6, q1.e7, q1.e8, q1.e9, q1.e10, q1.e11, q1.e12, q1.e13, q1.e14, q1.e15, q1.e16, q1.e17, q1.e18])) (by (refine ⟨?_, ?_, ?_, ?_, ?_⟩ <;> simp [upd, u2, g1.s12, g1.s17, g1.s19, g1.s21, g1.s24])) (hSO.u (by decide)) (fun e => absurd e hne)
    by_cases c2 : N1 25 (5 * r + s) - 1 = 0
    · rw [if_pos c2, if_neg (show ¬ (1 : Int32) = 0 by decide), if_neg (fun k => k c2)]
      have q2 := h2.rx.wa.ss r s hr hs
      have e13 : rs2 σ.1 r s 5 r s 13 = u2 N1 25 (5 * r + s) (N1 25 (5 * r + s) - 1) 24 (5 * r + s) := q2.e13
      have eS : rs3 σ r s = pkS (rs2 σ.1 r s, σ.2.1, σ.2.2) r s (if u2 N1 25 (5 * r + s) (N1 25 (5 * r + s) - 1) 24 (5 * r + s) = 0 then 0 else 32) := by unfold rs3; rw [e13]
      rw [eS]
      have h3 := h2.pk (flag := if u2 N1 25 (5 * r + s) (N1 25 (5 * r + s) - 1) 24 (5 * r + s) = 0 then 0 else 32) hr hs (fun e => hne e.symm)
      generalize pkS (rs2 σ.1 r s, σ.2.1, σ.2.2) r s (if u2 N1 25 (5 * r + s) (N1 25 (5 * r + s) - 1) 24 (5 * r + s) = 0 then 0 else 32) = σ3 at *
      generalize mPk (u2 N1 25 (5 * r + s) (N1 25 (5 * r + s) - 1)) r s (if u2 N1 25 (5 * r + s) (N1 25 (5 * r + s) - 1) 24 (5 * r + s) = 0 then 0 else 32) = N3 at *
      exact h3.ses hr hs (sq_set (h3.rx.wa.ss r s hr hs)) (si_set (h3.rx.wa.si _ hi)) so_set (fun e => absurd e hne)
    · rw [if_neg c2, if_pos rfl, if_pos c2]; exact h2
theorem rtl_ok (hr : r < 5) : ∀ (n s : Nat) {σ : zS} {N : zR}, s + n ≤ 5 → hRZ t σ N → hRZ t (rtl r n s σ) (wsL r n s N) := by
  intro n
  induction n with
  | zero => intro s σ N _ h; exact h
  | succ n ih =>
    intro s σ N hs h
    show hRZ t (rtl r n (s + 1) (rtStep r s σ)) (wsL r n (s + 1) (wqS N r s))
    refine ih (s + 1) (by omega) ?_
    unfold rtStep wqS
    rw [(h.rx.wa.ss r s hr (by omega)).e2]
    by_cases c : N 11 (5 * r + s) = 0
    · rw [if_pos c, if_pos c]; exact h
    · rw [if_neg c, if_neg c]; exact rs_ok h hr (by omega) c
theorem work_ok (h : hRZ t σ N) (hr : r < 5) : hRZ t (rtS σ r) (mWork N r) := by
  unfold rtS mWork
  rw [(h.rx.wa.rt r hr).e4]
  by_cases c : N 3 r = 0
  · rw [if_pos c, if_pos c]; exact h
  · rw [if_neg c, if_neg c]; exact rtl_ok hr 5 0 (by omega) (rt2_ok h hr c)
theorem rtL_ok : ∀ (n r : Nat) {σ : zS} {N : zR}, r + n ≤ 5 → hRZ t σ N → hRZ t (rtL n r σ) (mwL n r N) := by
  intro n
  induction n with
  | zero => intro r σ N _ h; exact h
  | succ n ih => intro r σ N hr h; exact ih (r + 1) (by omega) (work_ok h (by omega))
theorem one_rz (h : hRZ t σ N) (hI : IV N) (hn : NDu N) (ht : t + 1 < 2 ^ 30) : hRZ (t + 1) (oneS σ) (mOne N) ∧ NDu (mOne N) ∧ IV (mOne N) := by
  have h1 := ck_ok h hn ht
  have hI1 : IV (mCk1 N) := by
    obtain ⟨i1, i2, i3, i4, i5, i6, i7, i8⟩ := hI
    have o : ∀ a, a ≠ 43 → mCk1 N a = N a := fun a ha => u2_ne ha
    have e43 : ∀ x, x ≠ 1 → mCk1 N 43 x = N 43 x := fun x hx => by unfold mCk1; rw [u2_self, pk_un hx]
    exact ⟨i1.of (e43 28 (by decide)), fun r hr => by rw [o 2 (by decide)]; exact i2 r hr, fun f hf => by rw [o 31 (by decide), o 35 (by decide)]; exact i3 f hf, by rw [o 36 (by decide)]; exact i4, by rw [o 37 (by decide)]; exact i5, by rw [o 39 (by decide)]; exact i6, by rw [o 41 (by decide)]; exact i7, by rw [e43 42 (by decide)]; exact i8⟩
  have hl := dn_le (q := mCk1 N 29) (c := mCk1 N 43 1) (fly (mCk1 N) - 0) 0
  have hf := hI1.1.2
  obtain ⟨h2, h3⟩ := aL_ok (t := t + 1) 3800 0 h1 hI1 (fun k hk => by omega) (by unfold dC; omega)
  rw [← ndue_eq h1.rx.wb] at h2
  have h4 := ga_aL 3800 0 hI1
  have h5 := rtL_ok 5 0 (by omega) h2
  have h6 := go_mwL 5 0 h4.1 (by omega)
  exact ⟨h5, ndu_kp h3 h6.1.2.1, h6.iv⟩
theorem ti_rz : ∀ (n : Nat) {t : Nat} {σ : zS} {N : zR}, hRZ t σ N → IV N → NDu N → t + n < 2 ^ 30 → hRZ (t + n) (tiL n σ) (mTi n N) ∧ NDu (mTi n N) := by
  intro n
  induction n with
  | zero => intro t σ N h _ hn _; exact ⟨h, hn⟩
  | succ n ih =>
    intro t σ N h hI hn ht
    obtain ⟨a1, a2, a3⟩ := one_rz h hI hn (by omega)
    have := ih a1 a3 a2 (by omega)
    rw [show t + 1 + n = t + (n + 1) by omega] at this
    exact this
end TICK
