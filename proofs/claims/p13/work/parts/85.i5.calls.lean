/-! THE TWO SIDES: each call keeps the whole relation -/
def RH (T : Nat) (σ : zS) (N : zR) : Prop := RL σ N ∧ NDu N ∧ ∃ t, t ≤ T ∧ hRZ t σ N
theorem RH.le {T T' : Nat} {σ : zS} {N : zR} (h : RH T σ N) (hT : T ≤ T') : RH T' σ N := by
  obtain ⟨h1, h2, t, h3, h4⟩ := h
  exact ⟨h1, h2, t, by omega, h4⟩
section CALLS
variable {t T : Nat} {σ : zS} {N : zR} {r s : Nat}
theorem ndu_of {N' : zR} (h : NDu N) (e29 : N' 29 = N 29) (e28 : N' 43 28 = N 43 28) (e1 : N' 43 1 = N 43 1) : NDu N' := fun k hk => by
  rw [fly_of e28] at hk
  rw [e29, e1]; exact h k hk
/-- cells of the reference that nobody compares -/
theorem hRZ.n {N' : zR} (h : hRZ t σ N) (o : ∀ a, a ≠ 37 → a ≠ 39 → a ≠ 43 → N' a = N a) (o43 : ∀ f, f = 28 ∨ f = 1 ∨ f = 42 → N' 43 f = N 43 f) : hRZ t σ N' :=
  ⟨⟨h.rx.wa.of (fun _ => rfl) (fun _ => rfl) (fun _ _ => rfl) (fun a h1 h2 h3 => o a (by omega) (by omega) (by omega)), h.rx.wb.of rfl rfl (fun _ _ => rfl) (fun _ _ => rfl) rfl (o 10 (by decide) (by decide) (by decide)) ⟨o43 28 (by decide), o43 1 (by decide), o43 42 (by decide)⟩ (fun a h1 h2 => o a (by omega) (by omega) (by omega)) (o 41 (by decide) (by decide) (by decide))⟩, fun r' hr' => (h.ri r' hr').of (by rw [o 3 (by decide) (by decide) (by decide)]) (by rw [o 4 (by decide) (by decide) (by decide)]) (by rw [o 5 (by decide) (by decide) (by decide)])⟩
theorem hRZ.t0 (h : hRZ t σ N) (k : Int32) : hRZ t σ (u2 N 43 0 k) := h.n (fun a _ _ h3 => u2_ne h3) (fun f hf => by rw [u2_self, pk_un (by omega)])
theorem ndu_t (h : NDu N) (k : Int32) : NDu (u2 N 43 0 k) := ndu_of h (u2_ne (by decide)) (by rw [u2_self, pk_un (by decide)]) (by rw [u2_self, pk_un (by decide)])
theorem RH.th (h : RH T σ N) (k : Int32) : RH T σ (u2 N 43 0 k) := by
  obtain ⟨h1, h2, x, h3, h4⟩ := h
  exact ⟨h1.t k, ndu_t h2 k, x, h3, h4.t0 k⟩
/-- set -/
theorem rng_n {a b : Nat} {v : Int32} (hb : b < 2 ^ 31) (ha : a < 2 ^ 31) (h1 : ¬ v < nI a) (h2 : ¬ nI b < v) : ∃ n, a ≤ n ∧ n ≤ b ∧ v = nI n := by
  have e1 := nI_toInt ha
  have e2 := nI_toInt hb
  rw [Int32.lt_iff_toInt_lt] at h1 h2
  obtain ⟨n, en, hn⟩ := toI_n (x := v) (by omega)
  exact ⟨n, by omega, by omega, en⟩
theorem fit_n {wh a b : Nat} {v : Int32} (hb : b < 2 ^ 31) (ha : a < 2 ^ 31) (e : mFits (nI wh) v = if v < nI a then 0 else if nI b < v then 0 else 1) (h : ¬ mFits (nI wh) v = 0) : ∃ n, a ≤ n ∧ n ≤ b ∧ v = nI n := by
  rw [e] at h
  by_cases c1 : v < nI a
  · rw [if_pos c1] at h; exact absurd rfl h
  · rw [if_neg c1] at h
    by_cases c2 : nI b < v
    · rw [if_pos c2] at h; exact absurd rfl h
    · exact rng_n hb ha c1 c2
theorem rz_set {wh : Nat} {v : Int32} (h : hRZ t σ N) (hw : wh < 10) (hr : r < 5) (hv : ¬ mFits (nI wh) v = 0) : hRZ t (up σ.1 3 r 0 wh v, σ.2.1, σ.2.2) (u2 N 2 (10 * r + wh) v) := by
  have o : ∀ a, a ≠ 2 → u2 N 2 (10 * r + wh) v a = N a := fun a ha => u2_ne ha
  have g : ∀ κ a b, κ ≠ 3 → up σ.1 3 r 0 wh v κ a b = σ.1 κ a b := fun κ a b hk => up_k hk
  have wa := h.rx.wa
  refine ⟨⟨?_, ?_⟩, fun r' hr' => (h.ri r' hr').of (by rw [o 3 (by decide)]) (by rw [o 4 (by decide)]) (by rw [o 5 (by decide)])⟩
  · refine ⟨?_, ?_, ?_, ?_, ?_, ?_⟩
    · intro r' hr'; show hRQ (up σ.1 3 r 0 wh v 2 r' 0) _ _; rw [g 2 r' 0 (by decide)]; exact (wa.rt r' hr').of (fun a _ _ => by rw [o a (by omega)])
    · intro r' k hr' hk
      show up σ.1 3 r 0 wh v 3 r' 0 k = _
      by_cases e : r' = r
      · subst e
        rw [up_self, u2_self]
        by_cases e2 : k = wh
        · subst e2; rw [pk_us, pk_us]
        · rw [pk_un e2, pk_un (by omega)]; exact wa.st r' k hr' hk
      · rw [up_ne (by omega), u2_self, pk_un (by omega)]; exact wa.st r' k hr' hk
    · intro r' s' hr' hs'; show hSQ (up σ.1 3 r 0 wh v 5 r' s') _ _; rw [g 5 r' s' (by decide)]; exact (wa.ss r' s' hr' hs').of (fun a _ _ => by rw [o a (by omega)])
    · intro i hi; exact (wa.si i hi).of (fun a _ _ => by rw [o a (by omega)])
    · intro r' hr'; rw [o 11 (by decide)]; exact wa.dg r' hr'
    · intro r' hr'
      have se := wa.se r' hr'
      by_cases e : r' = r
      · subst e
        refine ⟨?_, ?_, ?_, ?_⟩
        · by_cases e0 : wh = 0
          · subst e0
            obtain ⟨n, n1, n2, n3⟩ := fit_n (wh := 0) (a := 1) (b := 255) (by decide) (by decide) rfl hv
            exact ⟨n, by omega, n2, by rw [u2_is]; exact n3⟩
          · rw [u2_at (by omega)]; exact se.p0
        · by_cases e0 : wh = 1
          · subst e0
            obtain ⟨n, n1, n2, n3⟩ := fit_n (wh := 1) (a := 1) (b := 4095) (by decide) (by decide) rfl hv
            exact ⟨n, by omega, n2, by rw [u2_is]; exact n3⟩
          · rw [u2_at (by omega)]; exact se.p1
        · by_cases e0 : wh = 6
          · subst e0
            obtain ⟨n, n1, n2, n3⟩ := fit_n (wh := 6) (a := 1) (b := 50) (by decide) (by decide) rfl hv
            exact ⟨n, by omega, n2, by rw [u2_is]; exact n3⟩
          · rw [u2_at (by omega)]; exact se.p6
        · by_cases e0 : wh = 8
          · subst e0
            obtain ⟨n, n1, n2, n3⟩ := fit_n (wh := 8) (a := 0) (b := 254) (by decide) (by decide) rfl hv
            exact ⟨n, n2, by rw [u2_is]; exact n3⟩
          · rw [u2_at (by omega)]; exact se.p8
      · refine ⟨?_, ?_, ?_, ?_⟩
        · rw [u2_at (by omega)]; exact se.p0
        · rw [u2_at (by omega)]; exact se.p1
        · rw [u2_at (by omega)]; exact se.p6
        · rw [u2_at (by omega)]; exact se.p8
  · exact h.rx.wb.of (by dsimp only; exact g 6 0 0 (by decide)) (by dsimp only; exact g 7 0 0 (by decide)) (fun F _ => by dsimp only; exact g 9 F 0 (by decide)) (fun F _ => by dsimp only; exact g 10 F 0 (by decide)) rfl (o 10 (by decide)) ⟨by rw [o 43 (by decide)], by rw [o 43 (by decide)], by rw [o 43 (by decide)]⟩ (fun a _ _ => o a (by omega)) (o 41 (by decide))
theorem rh_set {wh : Nat} {v : Int32} (h : RH T σ N) (hw : wh < 10) (hr : r < 5) (hv : ¬ mFits (nI wh) v = 0) : RH T (up σ.1 3 r 0 wh v, σ.2.1, σ.2.2) (u2 (t0 N) 2 (10 * r + wh) v) := by
  obtain ⟨h1, h2, x, h3, h4⟩ := h
  exact ⟨rl_set h1 hw hr hv, ndu_of (ndu_t h2 0) (u2_ne (by decide)) (by rw [u2_ne (by decide)]) (by rw [u2_ne (by decide)]), x, h3, rz_set (h4.t0 0) hw hr hv⟩
/-- start -/
theorem rh_start (h : RH T σ N) (hr : r < 5) (hoff : N 3 r = 0) : RH T (wkS σ r) (mStart N r) := by
  obtain ⟨h1, h2, x, h3, h4⟩ := h
  have h5 := h4.t0 0
  have wa := h5.rx.wa
  obtain ⟨n, n0, n1, en⟩ := (wa.se r hr).p1
  have e1 := wa.st r 1 hr (by decide)
  have hx := h5.rx.rr (k := 5) (v := t0 N 2 (10 * r + 1)) hr (by decide)
  have hI := (h1.t 0).2.1
  have hK : Go (t0 N) (mNk N r) := go_u hI rfl
  have nd : NDu (mNk N r) := ndu_kp (ndu_t h2 0) hK.1.2.1
  have m2 : mNk N r 2 = t0 N 2 := u2_ne (by decide)
  have m5 : mNk N r 5 r = t0 N 2 (10 * r + 1) := u2_is
  have mo : ∀ a r', ¬ (a = 5 ∧ r' = r) → mNk N r a r' = t0 N a r' := fun a r' h => u2_at h
  refine ⟨(rl_start h1 hr).1, ?_, x, h3, ?_⟩
  · unfold mStart
    split
    · exact ndu_kp nd (go_act0 hK.iv hr).1.2.1
    · exact ndu_kp nd (go_back0 hK.iv).1.2.1
  · unfold wkS mStart
    rw [e1, w_eq hx.wa hr]
    by_cases c : mWeighed (mNk N r) r = 255
    · rw [if_pos c, if_pos c]
      have r2 : mAct (mNk N r) r 3 r = 2 := by unfold mAct; rw [u2_at (by omega), u2_is]
      refine ⟨hx.act hr, hRI.other (r := r) h5.ri ⟨Or.inr (Or.inr r2), fun _ => ?_, fun _ => ?_, fun z => absurd (r2.symm.trans z) (by decide)⟩ (fun a r' k1 k2 hq => ?_)⟩
      · refine ⟨n, n0, by omega, ?_⟩
        unfold mAct
        rw [u2_at (by omega), u2_at (by omega), u2_is]
        unfold mAc1
        rw [emp_o (by decide), adv_o (by decide), m2]; exact en
      · rw [act_o (by decide) (by decide) (by decide) (by decide), m5]; exact ⟨n, n0, n1, en⟩
      · have ha : a ∉ hSL := by simp only [hSL, List.mem_cons, List.not_mem_nil, or_false, not_or]; omega
        have e : mAc1 (mNk N r) r a r' = t0 N a r' := by
          unfold mAc1
          rw [emp_o ha, adv_o ha, mo a r' (by omega)]
        unfold mAct
        rw [u2_at (by omega), u2_at (by omega), u2_at (by omega), e]
    · rw [if_neg c, if_neg c]
      exact h5.kb hr n0 n1 en
/-- stop -/
def mG (N : zR) (r : Nat) : Nat → zR
  | 0 => N
  | n + 1 => u2 (mG N r n) 11 (5 * r + n) 0
theorem rx_gone (hr : r < 5) : ∀ (n : Nat) {M : zM} {N : zR}, n ≤ 5 → hRX t (M, σ.2.1, σ.2.2) N → hRX t (gone M r n, σ.2.1, σ.2.2) (mG N r n) ∧ ∀ a, a ≠ 11 → mG N r n a = N a := by
  intro n
  induction n with
  | zero => intro M N _ h; exact ⟨h, fun _ _ => rfl⟩
  | succ n ih =>
    intro M N hn h
    obtain ⟨i1, i2⟩ := ih (by omega) h
    have q := i1.wa.ss r n hr (by omega)
    have g := i1.wa.si (5 * r + n) (by omega)
    refine ⟨?_, fun a ha => by show u2 (mG N r n) 11 (5 * r + n) 0 a = _; rw [u2_ne ha]; exact i2 a ha⟩
    dsimp only at q
    show hRX t (up (gone M r n) 5 r n 2 0, σ.2.1, σ.2.2) (u2 (mG N r n) 11 (5 * r + n) 0)
    generalize gone M r n = M1 at *
    generalize mG N r n = N1 at *
    have x := i1.ses (q := upd (M1 5 r n) 2 0) (N' := u2 N1 11 (5 * r + n) 0) hr (by omega) (by (refine ⟨?_, ?_, ?_, ?_, ?_, ?_, ?_, ?_, ?_, ?_, ?_, ?_, ?_, ?_, ?_, ?_, ?_⟩ <;> simp [upd, u2, q.e2, q.e3, q.e4, q.e5, q.e6, q.e7, q.e8, q.e9, q.e10, q.e11, q.e12, q.e13, q.e14, q.e15, q.e16, q.e17, q.e18])) (by (refine ⟨?_, ?_, ?_, ?_, ?_⟩ <;> simp [upd, u2, g.s12, g.s17, g.s19, g.s21, g.s24])) (hSO.u (by decide)) (fun _ => by rw [u2_is])
    exact x
theorem rh_stop {b : Int32} (h : RH T σ N) (hr : r < 5) : RH T (stS σ r b) (mStop (t0 N) r b) := by
  obtain ⟨h1, h2, x, h3, h4⟩ := h
  have h5 := h4.t0 0
  have hI := (h1.t 0).2.1
  have hs : hRZ x (if b = 0 then gbS σ r else σ) (mSt1 (t0 N) r b) ∧ NDu (mSt1 (t0 N) r b) := by
    unfold mSt1 gbS
    rw [(h5.rx.wa.rt r hr).e4]
    by_cases c1 : b = 0
    · rw [if_pos c1]
      by_cases c2 : t0 N 3 r = 2
      · rw [if_pos c2, if_neg (fun k => k c2), if_neg (fun k => k c1)]
        exact ⟨h5.ad hr, ndu_kp (ndu_t h2 0) (go_adv hI hr).1.2.1⟩
      · rw [if_neg c2, if_pos c2]; exact ⟨h5, ndu_t h2 0⟩
    · rw [if_neg c1]
      by_cases c2 : t0 N 3 r = 2
      · rw [if_neg (fun k => k c2), if_pos c1]; exact ⟨h5, ndu_t h2 0⟩
      · rw [if_pos c2]; exact ⟨h5, ndu_t h2 0⟩
  have e : stS σ r b = (rForget (if b = 0 then gbS σ r else σ).1 r, (if b = 0 then gbS σ r else σ).2.1, (if b = 0 then gbS σ r else σ).2.2) := by
    unfold stS
    by_cases c1 : b = 0
    · rw [if_pos c1, if_pos c1]
    · rw [if_neg c1, if_neg c1]
  refine ⟨(rl_stop h1 hr).1, ?_, x, h3, ?_⟩
  · have k : ∀ a, a ≠ 3 → a ≠ 4 → a ≠ 5 → a ≠ 11 → mStop (t0 N) r b a = mSt1 (t0 N) r b a := fun a a3 a4 a5 a11 => by
      show u2 (u2 (u2 (u2 (u2 (mSt2 (mSt1 (t0 N) r b) r) 11 _ 0) 11 _ 0) 11 _ 0) 11 _ 0) 11 _ 0 a = _
      rw [u2_ne a11, u2_ne a11, u2_ne a11, u2_ne a11, u2_ne a11]
      unfold mSt2
      rw [u2_ne a5, u2_ne a4, u2_ne a3]
    exact ndu_of hs.2 (k 29 (by decide) (by decide) (by decide) (by decide)) (by rw [k 43 (by decide) (by decide) (by decide) (by decide)]) (by rw [k 43 (by decide) (by decide) (by decide) (by decide)])
  · rw [e]
    have hz := hs.1
    generalize (if b = 0 then gbS σ r else σ) = τ at *
    unfold mStop
    generalize mSt1 (t0 N) r b = N1 at *
    have a1 := hz.rx.rr (k := 3) (v := 0) hr (by decide)
    have a2 := a1.rr (k := 4) (v := 0) hr (by decide)
    have a3 := a2.rr (k := 5) (v := 0) hr (by decide)
    obtain ⟨b1, b2⟩ := rx_gone (t := x) (σ := τ) hr 5 (by decide) a3
    have eG : mStL r 5 0 (mSt2 N1 r) = mG (u2 (u2 (u2 N1 3 r 0) 4 r 0) 5 r 0) r 5 := rfl
    rw [eG]
    refine ⟨b1, hRI.other (r := r) hz.ri ⟨Or.inl ?_, fun z => absurd ?_ z, fun z => absurd ?_ z, fun _ => ⟨?_, ?_⟩⟩ (fun a r' k1 k2 hq => ?_)⟩
    · rw [b2 3 (by decide), u2_at (by omega), u2_at (by omega), u2_is]
    · rw [b2 3 (by decide), u2_at (by omega), u2_at (by omega), u2_is]
    · rw [b2 3 (by decide), u2_at (by omega), u2_at (by omega), u2_is]
    · rw [b2 4 (by decide), u2_at (by omega), u2_is]
    · rw [b2 5 (by decide), u2_is]
    · rw [b2 a (by omega), u2_at (by omega), u2_at (by omega), u2_at (by omega)]
/-- ask -/
theorem rh_ask (h : RH T σ N) (hr : r < 5) : RH T (seS σ r 3 r 15) (mEmp (t0 N) r 3 r 15) := by
  obtain ⟨h1, h2, x, h3, h4⟩ := h
  have hI := (h1.t 0).2.1
  exact ⟨(rl_ask h1 hr).1, ndu_kp (ndu_t h2 0) (go_emp hI hr (by omega)).1.2.1, x, h3, (h4.t0 0).se hr (Or.inr rfl) (Or.inl rfl) (by decide)⟩
/-- a session begins, or changes -/
theorem ndu_so {i : Nat} {N' : zR} (h : NDu N) (o : hSO i N N') : NDu N' := ndu_of h (o.o 29 (by decide)) (by rw [o.o 43 (by decide)]) (by rw [o.o 43 (by decide)])
theorem rh_open {tx rx m : Int32} {n : Nat} (h : RH T σ N) (hr : r < 5) (hs : s < 5) (hne : ¬ s = r) (hn : n ≤ 1000) (e : rx = nI n) : RH T (rw4 σ.1 5 r s (sBegin (σ.1 5 r s) tx rx m), σ.2.1, σ.2.2) (mOpn (t0 N) (5 * r + s) tx rx m) := by
  obtain ⟨h1, h2, x, h3, h4⟩ := h
  exact ⟨(rl_open h1 hr hs).1, ndu_so (ndu_t h2 0) so_opn, x, h3, (h4.t0 0).ses hr hs sq_begin (si_opn hn e) so_opn (fun k => absurd k.symm hne)⟩
theorem rh_shut (h : RH T σ N) (hr : r < 5) (hs : s < 5) (hx : ¬ N 11 (5 * r + s) = 0) : RH T (rw4 σ.1 5 r s (sShut (σ.1 5 r s)), σ.2.1, σ.2.2) (mChS (t0 N) (5 * r + s)) := by
  obtain ⟨h1, h2, x, h3, h4⟩ := h
  have hne : ¬ r = s := fun e => hx (by subst e; exact h4.rx.wa.dg r hr)
  have h5 := h4.t0 0
  obtain ⟨k1, k2, k3⟩ := sq_shut (h5.rx.wa.ss r s hr hs) (h5.rx.wa.si (5 * r + s) (by omega))
  exact ⟨(rl_shut h1 hr hs hx).1, ndu_so (ndu_t h2 0) k3, x, h3, h5.ses hr hs k1 k2 k3 (fun k => absurd k hne)⟩
theorem rh_want {tx rx : Int32} {n : Nat} (h : RH T σ N) (hr : r < 5) (hs : s < 5) (hx : ¬ N 11 (5 * r + s) = 0) (hn : n ≤ 1000) (e : rx = nI n) : RH T (rw4 σ.1 5 r s (sWant (σ.1 5 r s) tx rx), σ.2.1, σ.2.2) (mChg (t0 N) (5 * r + s) tx rx) := by
  obtain ⟨h1, h2, x, h3, h4⟩ := h
  have hne : ¬ r = s := fun e => hx (by subst e; exact h4.rx.wa.dg r hr)
  have h5 := h4.t0 0
  obtain ⟨k1, k2, k3⟩ := sq_want (tx := tx) hn e (h5.rx.wa.ss r s hr hs) (h5.rx.wa.si (5 * r + s) (by omega))
  exact ⟨(rl_want h1 hr hs hx).1, ndu_so (ndu_t h2 0) k3, x, h3, h5.ses hr hs k1 k2 k3 (fun k => absurd k hne)⟩
/-- tick -/
theorem rh_tick {n : Nat} (h : RH T σ N) (hn : n ≤ 400) (hT : T ≤ 1000000) : RH (T + 400) (tiL n σ) (mTi n (t0 N)) := by
  obtain ⟨h1, h2, x, h3, h4⟩ := h
  obtain ⟨a1, a2⟩ := ti_rz n (h4.t0 0) (h1.t 0).2.1 (ndu_t h2 0) (by omega)
  exact ⟨(rl_tick h1).1, a2, x + n, by omega, a1⟩
end CALLS
