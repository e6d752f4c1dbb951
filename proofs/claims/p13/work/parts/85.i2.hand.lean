/-! THE TWO SIDES: a packet comes to a session; a frame is handed out -/
section HAND
variable {t : Nat} {σ : zS} {N N' : zR} {r s F z a i : Nat} {M : zM} {st hops ad : Int32} {q : Nat → Int32}
theorem hRX.ses (h : hRX t σ N) (hr : r < 5) (hs : s < 5) (k1 : hSQ q N' (5 * r + s)) (k2 : hSI N' (5 * r + s)) (k3 : hSO (5 * r + s) N N') (k4 : r = s → N' 11 (5 * r + s) = 0) : hRX t (rw4 σ.1 5 r s q, σ.2.1, σ.2.2) N' := by
  have n43 := k3.o 43 (by decide)
  exact ⟨h.wa.s hr hs k1 k2 k3 k4, h.wb.of (by dsimp only; exact rw_k (by decide)) (by dsimp only; exact rw_k (by decide)) (fun F _ => by dsimp only; exact rw_k (by decide)) (fun F _ => by dsimp only; exact rw_k (by decide)) rfl (k3.o 10 (by decide)) ⟨by rw [n43], by rw [n43], by rw [n43]⟩ (fun a h1 h2 => k3.o a (by omega)) (k3.o 41 (by decide))⟩
theorem hRZ.ses (h : hRZ t σ N) (hr : r < 5) (hs : s < 5) (k1 : hSQ q N' (5 * r + s)) (k2 : hSI N' (5 * r + s)) (k3 : hSO (5 * r + s) N N') (k4 : r = s → N' 11 (5 * r + s) = 0) : hRZ t (rw4 σ.1 5 r s q, σ.2.1, σ.2.2) N' :=
  ⟨h.rx.ses hr hs k1 k2 k3 k4, fun r' hr' => (h.ri r' hr').of (by rw [k3.o 3 (by decide)]) (by rw [k3.o 4 (by decide)]) (by rw [k3.o 5 (by decide)])⟩
theorem hSO.kh (h : hSO i N N') : hKH N N' := ⟨h.o 39 (by decide), by rw [h.o 43 (by decide)]⟩
theorem pkS_5 {flag : Int32} {a b : Nat} : (pkS σ r s flag).1 5 a b = σ.1 5 a b := by
  unfold pkS
  rw [sd_o (by decide) (by decide) (by decide), up_k (by decide)]
  dsimp only
  exact fd_pk7 5 a b (by simp) (by simp)
/-- a packet comes to a session -/
theorem hp_ok (h : hRZ t σ N) (hr : r < 5) (hs : s < 5) (hx : ¬ N 11 (5 * r + s) = 0) (fx : hFX (σ.1 9 F 0) (σ.1 10 F 0) 2 z (N 39)) (hz : 24 ≤ z) (hB : Byt (N 39) 40) (ho : hOut F σ) : hRZ t (hp3 σ r F s) (mPkT N r s) ∧ hKF F σ (hp3 σ r F s) ∧ hKH N (mPkT N r s) := by
  have hne : ¬ r = s := fun e => hx (by subst e; exact h.rx.wa.dg r hr)
  have hq := h.rx.wa.ss r s hr hs
  have hi := h.rx.wa.si (5 * r + s) (by omega)
  obtain ⟨l1, l2, l3⟩ := sq_learn hq hi fx hz hB
  have h1 : hRZ t (hp1 σ.1 r F s, σ.2.1, σ.2.2) (mLn N (5 * r + s)) := h.ses hr hs l1 l2 l3 (fun e => absurd e hne)
  have k1 : hKF F σ (hp1 σ.1 r F s, σ.2.1, σ.2.2) := kf_5 ho
  have q1 : hKH N (mLn N (5 * r + s)) := l3.kh
  have e5 : hp1 σ.1 r F s 5 r s = sLearn (σ.1 5 r s) (σ.1 9 F 0) (σ.1 10 F 0) := by unfold hp1; rw [rw4_self]
  have b1 : by_ (hp1 σ.1 r F s) F 1 = N 39 1 := by
    have x9 : hp1 σ.1 r F s 9 F 0 = σ.1 9 F 0 := k1.r9
    have x10 : hp1 σ.1 r F s 10 F 0 = σ.1 10 F 0 := k1.r10
    have := fx_b fx 1 (by omega) (by omega)
    unfold by_ at this ⊢
    rw [x9, x10]; exact this
  have e39 : mLn N (5 * r + s) 39 1 = N 39 1 := by rw [q1.h39]
  have h2 : hRZ t (hp2 σ r F s) (mK9 (mLn N (5 * r + s)) r s) ∧ hKF F σ (hp2 σ r F s) ∧ hKH N (mK9 (mLn N (5 * r + s)) r s) ∧ (hp2 σ r F s).1 5 r s = sLearn (σ.1 5 r s) (σ.1 9 F 0) (σ.1 10 F 0) ∧ ∀ a, 11 ≤ a → a ≤ 27 → mK9 (mLn N (5 * r + s)) r s a = mLn N (5 * r + s) a := by
    unfold hp2 mK9
    rw [b1, e39]
    by_cases c : (N 39 1 &&& 32) = 0
    · rw [if_pos c, if_pos c]; exact ⟨h1, k1, q1, e5, fun _ _ _ => rfl⟩
    · rw [if_neg c, if_neg c]
      refine ⟨h1.pk hr hs (fun e => hne e.symm), k1.tr (kf_pk k1.o h1.rx.wb.c60), q1.tr kh_pk, by rw [pkS_5]; exact e5, fun a ha hb => pk_o ?_⟩
      simp only [hSL, List.mem_cons, List.not_mem_nil, or_false, not_or]
      omega
  have eT : mPkT N r s = mK10 (mK9 (mLn N (5 * r + s)) r s) (5 * r + s) (N 21 (5 * r + s)) (N 12 (5 * r + s)) := rfl
  rw [eT]
  obtain ⟨a1, a2, a3, a4, a5⟩ := h2
  have eh : (sChanged (σ.1 5 r s) (σ.1 9 F 0) (σ.1 10 F 0) = 0) ↔ (mLn N (5 * r + s) 21 (5 * r + s) = N 21 (5 * r + s) ∧ mLn N (5 * r + s) 12 (5 * r + s) = N 12 (5 * r + s)) := by
    unfold sChanged
    rw [l1.e10, l1.e3, hq.e10, hq.e3]
    by_cases c1 : mLn N (5 * r + s) 21 (5 * r + s) = N 21 (5 * r + s) <;> by_cases c2 : mLn N (5 * r + s) 12 (5 * r + s) = N 12 (5 * r + s) <;> simp [c1, c2]
  have e21 := congrFun (a5 21 (by decide) (by decide)) (5 * r + s)
  have e12 := congrFun (a5 12 (by decide) (by decide)) (5 * r + s)
  have hS : hRZ t (rw4 (hp2 σ r F s).1 5 r s (sHurry ((hp2 σ r F s).1 5 r s)), (hp2 σ r F s).2.1, (hp2 σ r F s).2.2) (mHurry (mK9 (mLn N (5 * r + s)) r s) (5 * r + s)) := by
    have x1 := a1.rx.wa.ss r s hr hs
    have x2 := a1.rx.wa.si (5 * r + s) (by omega)
    exact a1.ses hr hs (sq_hurry x1 x2) (si_hurry x2) so_hurry (fun e => absurd e hne)
  have kS : hKF F σ (rw4 (hp2 σ r F s).1 5 r s (sHurry ((hp2 σ r F s).1 5 r s)), (hp2 σ r F s).2.1, (hp2 σ r F s).2.2) := a2.tr (kf_5 a2.o)
  have qS : hKH N (mHurry (mK9 (mLn N (5 * r + s)) r s) (5 * r + s)) := a3.tr so_hurry.kh
  unfold hp3 mK10
  rw [e21, e12]
  by_cases c : sChanged (σ.1 5 r s) (σ.1 9 F 0) (σ.1 10 F 0) = 0
  · obtain ⟨c1, c2⟩ := eh.mp c
    rw [if_pos c, if_neg (fun k => k c1), if_pos c2]
    exact ⟨a1, a2, a3⟩
  · rw [if_neg c]
    by_cases c1 : mLn N (5 * r + s) 21 (5 * r + s) = N 21 (5 * r + s)
    · have c2 : ¬ mLn N (5 * r + s) 12 (5 * r + s) = N 12 (5 * r + s) := fun k => c (eh.mpr ⟨c1, k⟩)
      rw [if_neg (fun k => k c1), if_neg c2]; exact ⟨hS, kS, qS⟩
    · rw [if_pos c1]; exact ⟨hS, kS, qS⟩
/-- a session packet -/
theorem he_pk (h : hRZ t σ N) (hr : r < 5) (hd : hHD σ.1 F N 2 (nI a) hops ad) (ha : a < 16) (ho : hOut F σ) : hRZ t (heS σ r F) (mPkS N r hops (nI a)) ∧ hKF F σ (heS σ r F) ∧ hKH N (mPkS N r hops (nI a)) ∧ heR σ.1 r F = mPkR N r hops (nI a) := by
  obtain ⟨ew, hw⟩ := whole_eq hd
  have eS : heS σ r F = hpS σ r F := by unfold heS; rw [hd.kd, if_neg (by decide), if_pos rfl]
  have eR : heR σ.1 r F = hpR σ.1 r F := by unfold heR; rw [hd.kd, if_neg (by decide), if_pos rfl]
  rw [eS, eR]
  unfold hpS hpR hpT mPkS
  rw [ew, pkR_eq]
  by_cases c : mWh N hops = 0
  · simp only [if_pos c]
    exact ⟨h, hKF.rf ho, hKH.rf, trivial⟩
  · simp only [if_neg c]
    obtain ⟨z, hz, fx⟩ := hw c
    rcases meant_eq h.rx.wa hr hd ha fx hz with ⟨s, hs, e1, e2, e3⟩ | ⟨e1, e2⟩
    · have n1 : ¬ nI s = -1 := fun k => by
        have := congrArg Int32.toInt k
        rw [nI_toInt (by omega)] at this
        have h2 : (-1 : Int32).toInt = -1 := by decide
        omega
      rw [e1, e2, if_neg n1, if_neg (by decide), nI_clamp (by omega)]
      obtain ⟨x1, x2, x3⟩ := hp_ok h hr hs e3 fx hz hd.hb ho
      exact ⟨x1, x2, x3, rfl⟩
    · rw [e1, e2, if_pos rfl, if_pos rfl]
      exact ⟨h, hKF.rf ho, hKH.rf, rfl⟩
/-- whom a frame reaches -/
theorem minds_eq (w : hWA M N) (hr : r < 5) {goal : Int32} (e : M 9 F 0 4 = goal) : rMinds M r F = mReG N r goal := by
  unfold rMinds mReG
  rw [(w.rt r hr).e4, w.st r 7 hr (by decide), e]
theorem re_ok {what goal by_ : Int32} (h : hRZ t σ N) (hr : r < 5) (hd : hHD σ.1 F N what (nI a) 255 by_) (eg : σ.1 9 F 0 4 = goal) (ha : a < 15) (hq : what = 3 → a = 9 ∨ (a < 5 ∧ a ≠ r)) (ho : hOut F σ) : hRZ t (if rMinds σ.1 r F = 0 then σ else heS σ r F) (mRe N r what a goal by_) ∧ hKF F σ (if rMinds σ.1 r F = 0 then σ else heS σ r F) ∧ hKH N (mRe N r what a goal by_) := by
  rw [minds_eq h.rx.wa hr eg]
  unfold mRe
  by_cases c : mReG N r goal = 0
  · rw [if_pos c, if_pos c]; exact ⟨h, hKF.rf ho, hKH.rf⟩
  rw [if_neg c, if_neg c]
  have hon := mReG_ne c
  by_cases w1 : what = 1
  · subst w1
    rw [if_pos rfl]
    obtain ⟨x1, x2, x3, -⟩ := he_ad h hr hd ho hon
    exact ⟨x1, x2, x3⟩
  rw [if_neg w1]
  by_cases w2 : what = 2
  · subst w2
    rw [if_pos rfl]
    obtain ⟨x1, x2, x3, -⟩ := he_pk h hr hd (by omega) ho
    exact ⟨x1, x2, x3⟩
  rw [if_neg w2]
  unfold heS
  rw [hd.kd, if_neg w1, if_neg w2, hd.fm, (h.rx.wa.rt r hr).e4, hd.ad]
  by_cases w3 : what = 3
  · rw [if_pos w3, if_pos w3]
    by_cases c2 : N 3 r = 2
    · rw [if_neg (fun k => k c2), if_pos c2]
      by_cases c3 : nI a = 9
      · rw [if_pos c3, if_pos c3]; exact ⟨h, hKF.rf ho, hKH.rf⟩
      · rw [if_neg c3, if_neg c3]
        rcases hq w3 with e | e
        · subst e; exact absurd rfl c3
        · exact ⟨h.se hr (Or.inl rfl) (Or.inr e) (by decide), kf_se ho h.rx.wb.c60, kh_emp⟩
    · rw [if_pos c2, if_neg c2]
      refine ⟨?_, hKF.rf ho, ?_⟩
      · split <;> exact h
      · split <;> exact hKH.rf
  rw [if_neg w3, if_neg w3]
  by_cases w4 : what = 4
  · rw [if_pos w4, if_pos w4]
    exact ⟨⟨h.rx.rr (k := 9) hr (by decide), fun r' hr' => (h.ri r' hr').of (u2_at (by omega)) (u2_at (by omega)) (u2_at (by omega))⟩, kf_2 ho, hKH.u (by decide) (by decide)⟩
  · rw [if_neg w4, if_neg w4]; exact ⟨h, hKF.rf ho, hKH.rf⟩
/-- a frame is handed out -/
theorem ho_ok {wh what goal by_ : Int32} (ha : a < 15) (hq : what = 3 → a = 9 ∨ (a < 5 ∧ (wh >>> (nI a &&& 31)) &&& 1 = 0)) : ∀ (n r : Nat) {σ : zS} {N : zR}, r + n ≤ 5 → hRZ t σ N → hHD σ.1 F N what (nI a) 255 by_ → σ.1 9 F 0 4 = goal → σ.1 9 F 0 7 = wh → hOut F σ → hRZ t (hoL F n r σ) (reL wh what a goal by_ n r N) ∧ hKF F σ (hoL F n r σ) := by
  intro n
  induction n with
  | zero => intro r σ N _ h _ _ _ ho; exact ⟨h, hKF.rf ho⟩
  | succ n ih =>
    intro r σ N hr h hd eg ew ho
    show hRZ t (hoL F n (r + 1) (hoStep F r σ)) (reL wh what a goal by_ n (r + 1) (if ¬ ((wh >>> (nI r &&& 31)) &&& 1) = 1 then N else mRe N r what a goal by_)) ∧ hKF F σ (hoL F n (r + 1) (hoStep F r σ))
    have st : hRZ t (hoStep F r σ) (if ¬ ((wh >>> (nI r &&& 31)) &&& 1) = 1 then N else mRe N r what a goal by_) ∧ hKF F σ (hoStep F r σ) ∧ hKH N (if ¬ ((wh >>> (nI r &&& 31)) &&& 1) = 1 then N else mRe N r what a goal by_) := by
      unfold hoStep
      rw [ew]
      rcases and1 (wh >>> (nI r &&& 31)) with e | e
      · rw [e, if_pos rfl, if_pos (by decide)]; exact ⟨h, hKF.rf ho, hKH.rf⟩
      · rw [e, if_neg (show ¬ (1 : Int32) = 0 by decide), if_neg (show ¬ ¬ (1 : Int32) = 1 by decide)]
        refine re_ok h (by omega) hd eg ha (fun k => ?_) ho
        rcases hq k with q | ⟨q1, q2⟩
        · exact Or.inl q
        · refine Or.inr ⟨q1, fun x => ?_⟩
          subst x
          rw [e] at q2
          exact absurd q2 (by decide)
    obtain ⟨s1, s2, s3⟩ := st
    obtain ⟨i1, i2⟩ := ih (r + 1) (by omega) s1 (hd.of s2.r9 s2.r10 s3) (by rw [s2.r9]; exact eg) (by rw [s2.r9]; exact ew) s2.o
    exact ⟨i1, s2.tr i2⟩
end HAND
