/-! THE TWO SIDES: what a router hears -/
def hHD (M : zM) (F : Nat) (N : zR) (xk xs xh xa : Int32) : Prop := M 9 F 0 2 = xk ∧ M 9 F 0 3 = xs ∧ M 9 F 0 5 = xa ∧ M 9 F 0 6 = xh ∧ (∃ z, N 43 40 = nI z ∧ hFX (M 9 F 0) (M 10 F 0) xk z (N 39)) ∧ Byt (N 39) 40
theorem hHD.kd {M : zM} {F : Nat} {N : zR} {xk xs xh xa : Int32} (h_ : hHD M F N xk xs xh xa) : M 9 F 0 2 = xk := h_.1
theorem hHD.fm {M : zM} {F : Nat} {N : zR} {xk xs xh xa : Int32} (h_ : hHD M F N xk xs xh xa) : M 9 F 0 3 = xs := h_.2.1
theorem hHD.ad {M : zM} {F : Nat} {N : zR} {xk xs xh xa : Int32} (h_ : hHD M F N xk xs xh xa) : M 9 F 0 5 = xa := h_.2.2.1
theorem hHD.hp {M : zM} {F : Nat} {N : zR} {xk xs xh xa : Int32} (h_ : hHD M F N xk xs xh xa) : M 9 F 0 6 = xh := h_.2.2.2.1
theorem hHD.fx {M : zM} {F : Nat} {N : zR} {xk xs xh xa : Int32} (h_ : hHD M F N xk xs xh xa) : ∃ z, N 43 40 = nI z ∧ hFX (M 9 F 0) (M 10 F 0) xk z (N 39) := h_.2.2.2.2.1
theorem hHD.hb {M : zM} {F : Nat} {N : zR} {xk xs xh xa : Int32} (h_ : hHD M F N xk xs xh xa) : Byt (N 39) 40 := h_.2.2.2.2.2
theorem hHD.of {M M' : zM} {F : Nat} {N N' : zR} {kd st hops ad : Int32} (h : hHD M F N kd st hops ad) (e9 : M' 9 F 0 = M 9 F 0) (e10 : M' 10 F 0 = M 10 F 0) (k : hKH N N') : hHD M' F N' kd st hops ad := by
  refine ⟨?_, ?_, ?_, ?_, ?_, ?_⟩
  · rw [e9]; exact h.kd
  · rw [e9]; exact h.fm
  · rw [e9]; exact h.ad
  · rw [e9]; exact h.hp
  · rw [e9, e10, k.h39, k.h40]; exact h.fx
  · rw [k.h39]; exact h.hb
section HEAR
variable {t : Nat} {σ : zS} {N : zR} {r s F z a : Nat} {M : zM} {st hops ad : Int32}
theorem fx_b {kd : Int32} (h : hFX (M 9 F 0) (M 10 F 0) kd z (N 39)) (j : Nat) (hj : j < z) (h8 : ¬ kd = 2 ∨ j < 8 ∨ 12 ≤ j) : by_ M F (nI j) = N 39 j := by
  unfold by_
  rw [fB_in h.len h.le j hj]
  exact h.at_ j hj (fun k => h8.elim (fun e => e k.1) (fun e => by omega))
theorem fx_f {kd : Int32} (h : hFX (M 9 F 0) (M 10 F 0) kd z (N 39)) (hB : Byt (N 39) 40) (j : Nat) (hj : j + 3 < z) (h8 : ¬ kd = 2 ∨ j + 3 < 8 ∨ 12 ≤ j) : fo_ M F (nI j) = nI (bn (N 39) j) := by
  have hz := h.le
  unfold fo_
  rw [fF_in h.len h.le j hj, ← four_n hB (by omega)]
  show hf4 _ _ _ _ = hf4 _ _ _ _
  rw [h.at_ j (by omega) (fun k => h8.elim (fun e => e k.1) (fun e => by omega)), h.at_ (j + 1) (by omega) (fun k => h8.elim (fun e => e k.1) (fun e => by omega)), h.at_ (j + 2) (by omega) (fun k => h8.elim (fun e => e k.1) (fun e => by omega)), h.at_ (j + 3) (by omega) (fun k => h8.elim (fun e => e k.1) (fun e => by omega))]
/-- is an advertisement for us -/
theorem for_eq (w : hWA M N) (hr : r < 5) (h : hHD M F N 1 st hops ad) : rFor M r F = mAdR N r hops ad ∧ (¬ mAdR N r hops ad = 0 → hFX (M 9 F 0) (M 10 F 0) 1 12 (N 39)) := by
  obtain ⟨z, ez, fx⟩ := h.fx
  unfold rFor mAdR
  rw [h.hp, fx.len, ez]
  by_cases c1 : hops = 255
  · by_cases c2 : nI z = 12
    · have e12 : z = 12 := (nI_eq (a := z) (b := 12) (by have := fx.le; omega) (by decide)).mp c2
      subst e12
      have b0 : by_ M F 0 = N 39 0 := fx_b fx 0 (by decide) (Or.inl (by decide))
      have b1 : by_ M F 1 = N 39 1 := fx_b fx 1 (by decide) (Or.inl (by decide))
      have b3 : by_ M F 3 = N 39 3 := fx_b fx 3 (by decide) (Or.inl (by decide))
      have f8 : fo_ M F 8 = (mTold N 8 4).toInt32 := by
        rw [mTold4 h.hb (by decide), lN_32]
        exact fx_f fx h.hb 8 (by decide) (Or.inl (by decide))
      have es : fSum (M 9 F 0) (M 10 F 0) = mSum (N 39) ad := sum_eq fx.len h.ad (fun j hj => fx.at_ j hj (fun k => absurd k.1 (by decide))) (h.hb.le (by decide))
      have e3 := w.st r 3 hr (by decide)
      have e5 := w.st r 5 hr (by decide)
      have e0 : M 3 r 0 0 = N 2 (10 * r) := w.st r 0 hr (by decide)
      rw [b0, b1, b3, f8, es, e3, e5, e0]
      refine ⟨?_, fun _ => fx⟩
      by_cases d1 : N 39 0 = 49 <;> by_cases d2 : N 39 1 = N 2 (10 * r + 3) <;> by_cases d3 : N 39 3 = 1 <;> by_cases d4 : (mTold N 8 4).toInt32 = N 2 (10 * r + 5) <;> simp [c1, d1, d2, d3, d4]
    · simp [c1, c2]
  · simp [c1]
theorem ivl_eq (h : hFX (M 9 F 0) (M 10 F 0) 1 12 (N 39)) (hB : Byt (N 39) 40) : rIvl M F = mAdI N ∧ ∃ n, 0 < n ∧ n ≤ 4095 ∧ mAdI N = nI n := by
  obtain ⟨e4, l4⟩ := hB 4 (by decide)
  obtain ⟨e5, l5⟩ := hB 5 (by decide)
  have b4 : fByte (M 9 F 0) (M 10 F 0) 4 = N 39 4 := fx_b h 4 (by decide) (Or.inl (by decide))
  have b5 : fByte (M 9 F 0) (M 10 F 0) (4 + 1) = N 39 5 := fx_b h 5 (by decide) (Or.inl (by decide))
  have k := f2_val l4 l5
  rw [← e4, ← e5] at k
  have e1 : mAdI N = mMax 1 (hf2 (N 39 4) (N 39 5) &&& 4095) := by
    unfold mAdI
    rw [mTold2 hB (by decide), lN_32, k]
  have e2 : rIvl M F = mMax 1 (hf2 (N 39 4) (N 39 5) &&& 4095) := by
    unfold rIvl fTwo
    rw [b4, b5, imx_mx]
  refine ⟨e2.trans e1.symm, ?_⟩
  obtain ⟨j, hj, ej⟩ := pk_andE (hf2 (N 39 4) (N 39 5)) (m := 4095) 12 (by decide)
  rw [e1, ej, show (1 : Int32) = nI 1 from rfl, mx_nI (by decide) (by omega)]
  exact ⟨max 1 j, by omega, by omega, rfl⟩
/-- what a BACKUP does with it -/
theorem hb_ok (h : hRZ t σ N) (hr : r < 5) (h3 : N 3 r = 1) (fx : hFX (σ.1 9 F 0) (σ.1 10 F 0) 1 12 (N 39)) (hB : Byt (N 39) 40) (ho : hOut F σ) : hRZ t (hbM σ.1 r F, σ.2.1, σ.2.2) (mAdB N r) ∧ hKF F σ (hbM σ.1 r F, σ.2.1, σ.2.2) ∧ hKH N (mAdB N r) := by
  have b2 : by_ σ.1 F 2 = N 39 2 := fx_b fx 2 (by decide) (Or.inl (by decide))
  have wa := h.rx.wa
  obtain ⟨iv, n, n0, n1, en⟩ := ivl_eq fx hB
  have kb : hRZ t (rBackup (up σ.1 2 r 0 6 (rIvl σ.1 F)) r, σ.2.1, σ.2.2) (mAdK N r) := by
    rw [adK_eq h3, iv]; exact h.kb hr n0 n1 en
  have kk : hKH N (mAdK N r) := (hKH.u (a := 5) (by decide) (by decide)).tr (hKH.u (by decide) (by decide))
  unfold hbM mAdB
  rw [b2, w_eq wa hr, skew_eq wa hr, wa.st r 2 hr (by decide)]
  by_cases c1 : N 39 2 = 0
  · rw [if_pos c1, if_pos c1, imx_mx]
    refine ⟨⟨h.rx.rr (k := 4) hr (by decide), hRI.other (r := r) h.ri ⟨?_, fun _ => ?_, ?_, fun z => absurd (z.symm.trans ((congrFun (u2_ne (by decide)) r).trans h3)) (by decide)⟩ (fun a r' k1 k2 hq => u2_at (by omega))⟩, kf_2 ho, hKH.u (by decide) (by decide)⟩
    · rw [u2_ne (by decide)]; exact (h.ri r hr).role
    · obtain ⟨k, k0, k1, ek⟩ := (h.ri r hr).kn (by rw [h3]; decide)
      obtain ⟨x, hx, ex⟩ := skew_val (wa.se r hr) k1 ek
      rw [u2_is, ex, show (1 : Int32) = nI 1 from rfl, mx_nI (by decide) (by omega)]
      exact ⟨max 1 x, by omega, by omega, rfl⟩
    · rw [u2_ne (by decide), u2_ne (by decide)]; exact (h.ri r hr).kn
  · rw [if_neg c1, if_neg c1]
    by_cases c2 : N 2 (10 * r + 2) = 0
    · rw [if_pos c2, if_pos c2]; exact ⟨kb, kf_kb ho, kk⟩
    · rw [if_neg c2, if_neg c2]
      by_cases c3 : N 39 2 < mWeighed N r
      · rw [if_pos c3, if_pos c3]; exact ⟨h, hKF.rf ho, hKH.rf⟩
      · rw [if_neg c3, if_neg c3]; exact ⟨kb, kf_kb ho, kk⟩
/-- what an ACTIVE does with it -/
theorem ha_ok (h : hRZ t σ N) (hr : r < 5) (hon : ¬ N 3 r = 0) (fx : hFX (σ.1 9 F 0) (σ.1 10 F 0) 1 12 (N 39)) (hB : Byt (N 39) 40) (ea : σ.1 9 F 0 5 = ad) (ho : hOut F σ) : hRZ t (haS σ r F) (mAdA N r ad) ∧ hKF F σ (haS σ r F) ∧ hKH N (mAdA N r ad) := by
  have b2 : by_ σ.1 F 2 = N 39 2 := fx_b fx 2 (by decide) (Or.inl (by decide))
  have wa := h.rx.wa
  have c60 := h.rx.wb.c60
  obtain ⟨iv, n, n0, n1, en⟩ := ivl_eq fx hB
  have eH : (haB σ.1 r F = true) ↔ ¬ mHigh N r ad = 0 := by
    unfold haB mHigh rAbove
    rw [b2, w_eq wa hr, ea, wa.st r 4 hr (by decide)]
    by_cases c1 : mWeighed N r < N 39 2
    · simp [c1]
    · by_cases c2 : N 39 2 = mWeighed N r
      · by_cases c3 : lg_cmp (ad.toInt64 &&& 4294967295) ((N 2 (10 * r + 4)).toInt64 &&& 4294967295) ≤ 0
        · simp [c1, c2, c3]
        · simp [c1, c2, c3]
      · simp [c1, c2]
  unfold haS mAdA
  rw [b2, w_eq wa hr]
  by_cases c1 : N 39 2 = 0
  · rw [if_pos c1, if_pos c1]
    exact ⟨h.ad5 hr hon, kf_ad5 ho c60, kh_adv.tr (hKH.u (by decide) (by decide))⟩
  · rw [if_neg c1, if_neg c1]
    by_cases c2 : mHigh N r ad = 0
    · rw [if_pos c2, if_neg (fun k => eH.mp k c2)]
      exact ⟨h.ad hr, kf_ad ho c60, kh_adv⟩
    · rw [if_neg c2, if_pos (eH.mpr c2), iv]
      exact ⟨h.kb hr n0 n1 en, kf_kb ho, (hKH.u (a := 5) (by decide) (by decide)).tr ((hKH.u (a := 4) (by decide) (by decide)).tr (hKH.u (by decide) (by decide)))⟩
/-- an advertisement -/
theorem he_ad (h : hRZ t σ N) (hr : r < 5) (hd : hHD σ.1 F N 1 st hops ad) (ho : hOut F σ) (hon : ¬ N 3 r = 0) : hRZ t (heS σ r F) (mAdS N r hops ad) ∧ hKF F σ (heS σ r F) ∧ hKH N (mAdS N r hops ad) ∧ heR σ.1 r F = mAdR N r hops ad := by
  obtain ⟨ef, hf⟩ := for_eq h.rx.wa hr hd
  have eR : heR σ.1 r F = mAdR N r hops ad := by
    unfold heR
    rw [hd.kd, if_pos rfl, ef]
    have h01 : mAdR N r hops ad = 0 ∨ mAdR N r hops ad = 1 := by
      unfold mAdR
      repeat' split
      all_goals first | exact Or.inl rfl | exact Or.inr rfl
    rcases h01 with k | k <;> rw [k] <;> decide
  unfold heS mAdS
  rw [hd.kd, if_pos rfl, ef]
  by_cases c : mAdR N r hops ad = 0
  · rw [if_pos c, if_pos c]; exact ⟨h, hKF.rf ho, hKH.rf, eR⟩
  · rw [if_neg c, if_neg c]
    have e8 := (h.rx.wa.rt r hr).e8
    have h1 : hRZ t (he1 σ.1 r, σ.2.1, σ.2.2) (mAd1 N r) := by
      unfold he1 mAd1
      rw [e8]
      exact ⟨h.rx.rr (k := 7) hr (by decide), fun r' hr' => (h.ri r' hr').of (u2_at (by omega)) (u2_at (by omega)) (u2_at (by omega))⟩
    have k1 : hKF F σ (he1 σ.1 r, σ.2.1, σ.2.2) := kf_2 ho
    have q1 : hKH N (mAd1 N r) := hKH.u (by decide) (by decide)
    have fx := hf c
    have fx1 : hFX (he1 σ.1 r 9 F 0) (he1 σ.1 r 10 F 0) 1 12 (mAd1 N r 39) := by
      have x9 : he1 σ.1 r 9 F 0 = σ.1 9 F 0 := k1.r9
      have x10 : he1 σ.1 r 10 F 0 = σ.1 10 F 0 := k1.r10
      rw [x9, x10, q1.h39]; exact fx
    have hB : Byt (mAd1 N r 39) 40 := by rw [q1.h39]; exact hd.hb
    have ea : he1 σ.1 r 9 F 0 5 = ad := by have x9 : he1 σ.1 r 9 F 0 = σ.1 9 F 0 := k1.r9; rw [x9]; exact hd.ad
    have e4 : he1 σ.1 r 2 r 0 4 = N 3 r := by
      unfold he1
      rw [up_self, pk_un (by decide)]; exact (h.rx.wa.rt r hr).e4
    have e3 : mAd1 N r 3 r = N 3 r := rfl
    unfold mAdT
    rw [e4, e3]
    rcases (h.ri r hr).role with k | k | k
    · exact absurd k hon
    · rw [k, if_neg (by decide), if_pos rfl]
      obtain ⟨a1, a2, a3⟩ := hb_ok h1 hr (by rw [e3]; exact k) fx1 hB k1.o
      exact ⟨a1, k1.tr a2, q1.tr a3, eR⟩
    · rw [k, if_pos rfl, if_neg (by decide)]
      obtain ⟨a1, a2, a3⟩ := ha_ok (ad := ad) h1 hr (by rw [e3]; exact hon) fx1 hB ea k1.o
      exact ⟨a1, k1.tr a2, q1.tr a3, eR⟩
end HEAR
