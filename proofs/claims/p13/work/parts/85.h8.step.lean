/-! THE TWO SIDES: what a router does -/
def hRZ (t : Nat) (σ : zS) (N : zR) : Prop := hRX t σ N ∧ (∀ r, r < 5 → hRI N r)
theorem hRZ.rx {t : Nat} {σ : zS} {N : zR} (h_ : hRZ t σ N) : hRX t σ N := h_.1
theorem hRZ.ri {t : Nat} {σ : zS} {N : zR} (h_ : hRZ t σ N) : ∀ r, r < 5 → hRI N r := h_.2
/-- a frame that is neither the draft nor on the way stays as it is -/
def hOut (F : Nat) (σ : zS) : Prop := F ≠ σ.2.2.1 ∧ ∀ n, n < 60 → σ.2.1 n ≠ F
def hKF (F : Nat) (σ σ' : zS) : Prop := hOut F σ' ∧ σ'.1 9 F 0 = σ.1 9 F 0 ∧ σ'.1 10 F 0 = σ.1 10 F 0 ∧ σ'.2.2.2 = σ.2.2.2
theorem hKF.o {F : Nat} {σ σ' : zS} (h_ : hKF F σ σ') : hOut F σ' := h_.1
theorem hKF.r9 {F : Nat} {σ σ' : zS} (h_ : hKF F σ σ') : σ'.1 9 F 0 = σ.1 9 F 0 := h_.2.1
theorem hKF.r10 {F : Nat} {σ σ' : zS} (h_ : hKF F σ σ') : σ'.1 10 F 0 = σ.1 10 F 0 := h_.2.2.1
theorem hKF.d2 {F : Nat} {σ σ' : zS} (h_ : hKF F σ σ') : σ'.2.2.2 = σ.2.2.2 := h_.2.2.2
theorem hKF.rf {F : Nat} {σ : zS} (h : hOut F σ) : hKF F σ σ := ⟨h, rfl, rfl, rfl⟩
theorem hKF.tr {F : Nat} {σ σ1 σ2 : zS} (h : hKF F σ σ1) (g : hKF F σ1 σ2) : hKF F σ σ2 := ⟨g.o, g.r9.trans h.r9, g.r10.trans h.r10, g.d2.trans h.d2⟩
theorem hKF.m {F : Nat} {σ : zS} {M' : zM} (h : hOut F σ) (e9 : M' 9 F 0 = σ.1 9 F 0) (e10 : M' 10 F 0 = σ.1 10 F 0) : hKF F σ (M', σ.2.1, σ.2.2) := ⟨h, e9, e10, rfl⟩
/-- what is heard stays -/
def hKH (N N' : zR) : Prop := N' 39 = N 39 ∧ N' 43 40 = N 43 40
theorem hKH.h39 {N N' : zR} (h_ : hKH N N') : N' 39 = N 39 := h_.1
theorem hKH.h40 {N N' : zR} (h_ : hKH N N') : N' 43 40 = N 43 40 := h_.2
theorem hKH.rf {N : zR} : hKH N N := ⟨rfl, rfl⟩
theorem hKH.tr {N N1 N2 : zR} (h : hKH N N1) (g : hKH N1 N2) : hKH N N2 := ⟨g.h39.trans h.h39, g.h40.trans h.h40⟩
theorem hKH.u {N : zR} {a k : Nat} {v : Int32} (h : a ≠ 39) (h2 : a ≠ 43) : hKH N (u2 N a k v) := ⟨u2_ne (fun e => h e.symm), by rw [u2_ne (fun e => h2 e.symm)]⟩
section STEP
variable {t : Nat} {σ : zS} {N : zR} {r s g z c d i j F : Nat} {M : zM} {what pr flag : Int32}
theorem kf_fd {M' : zM} (h : hOut F σ) (f : Fdr σ.2.2.1 σ.1 M') : hKF F σ (M', σ.2.1, σ.2.2) := hKF.m h (f 9 F 0 (fun k => h.1 k.2) (by simp)) (f 10 F 0 (by simp) (fun k => h.1 k.2))
theorem kf_sd (h : hOut F σ) (hc : cnt σ.1 ≤ 60) : hKF F σ (sdS σ r s) := by
  unfold sdS
  split
  · unfold cyM cyP cyD
    split
    · exact ⟨h, by dsimp only; rw [up_k (by decide), up_k (by decide)], by dsimp only; rw [up_k (by decide), up_k (by decide)], rfl⟩
    · rename_i c6
      refine ⟨⟨?_, fun n hn => ?_⟩, ?_, ?_, rfl⟩
      · exact fun e => h.2 (cnt σ.1) (by omega) e.symm
      · show va_up σ.2.1 (cnt σ.1) σ.2.2.1 n ≠ F
        by_cases e : n = cnt σ.1
        · subst e; rw [va_up_self]; exact h.1.symm
        · rw [va_up_ne _ _ e]; exact h.2 n hn
      · dsimp only
        rw [up_k (by decide), up_ne (fun k => h.1 k.2.1), up_ne (fun k => h.1 k.2.1), up_k (by decide), up_k (by decide)]
      · dsimp only
        rw [up_k (by decide), up_k (by decide), up_k (by decide), up_k (by decide), up_k (by decide)]
  · exact ⟨h, by dsimp only; rw [up_k (by decide)], by dsimp only; rw [up_k (by decide)], rfl⟩
theorem hWB.c60 (h : hWB t σ N) : cnt σ.1 ≤ 60 := by
  have : cnt σ.1 = fly N := congrArg Int32.toNatClampNeg h.ct
  have := h.f60.2
  omega
theorem cnt_of {M M' : zM} (e : M' 6 0 0 = M 6 0 0) : cnt M' = cnt M := by unfold cnt; rw [e]
theorem kf_ad (h : hOut F σ) (hc : cnt σ.1 ≤ 60) : hKF F σ (adS σ r pr) := by
  have h1 := kf_fd (M' := ad4 σ.1 σ.2.2.1 r pr) h fd_ad4
  have e : cnt (ad4 σ.1 σ.2.2.1 r pr) = cnt σ.1 := cnt_of (fd_ad4 6 0 0 (by simp) (by simp))
  exact h1.tr (kf_sd h1.o (by dsimp only; omega))
theorem kf_se {to : Int32} (h : hOut F σ) (hc : cnt σ.1 ≤ 60) : hKF F σ (seS σ r what s to) := by
  have h1 := kf_fd (M' := wNew σ.1 σ.2.2.1 what (nI s) to (σ.1 3 r 0 4)) h fd_new
  have e : cnt (wNew σ.1 σ.2.2.1 what (nI s) to (σ.1 3 r 0 4)) = cnt σ.1 := cnt_of (fd_new 6 0 0 (by simp) (by simp))
  exact h1.tr (kf_sd h1.o (by dsimp only; omega))
theorem kf_pk (h : hOut F σ) (hc : cnt σ.1 ≤ 60) : hKF F σ (pkS σ r s flag) := by
  have h1 := kf_fd (M' := pk7 σ.1 σ.2.2.1 r s flag) h fd_pk7
  have e : cnt (pk7 σ.1 σ.2.2.1 r s flag) = cnt σ.1 := cnt_of (fd_pk7 6 0 0 (by simp) (by simp))
  exact h1.tr (kf_sd h1.o (by dsimp only; omega))
theorem kf_2 {k : Nat} {v : Int32} (h : hOut F σ) : hKF F σ (up σ.1 2 r 0 k v, σ.2.1, σ.2.2) := hKF.m h (up_k (by decide)) (up_k (by decide))
theorem kf_5 {q : Nat → Int32} (h : hOut F σ) : hKF F σ (rw4 σ.1 5 r s q, σ.2.1, σ.2.2) := hKF.m h (rw_k (by decide)) (rw_k (by decide))
theorem mSend_f {f : Nat} (h : f ≠ 28) : mSend N r what s g c z 43 f = N 43 f := by
  have e2 : ms2 N r s 43 f = N 43 f := rfl
  unfold mSend
  split
  · rfl
  split
  · exact e2
  split
  · exact e2
  · rw [mcL_o _ _ _ _ (by decide)]
    unfold ms3
    rw [u2_ne (by decide), u2_ne (by decide), u2_ne (by decide), u2_ne (by decide), u2_ne (by decide), u2_ne (by decide), u2_ne (by decide), u2_self, pk_un h]
    exact e2
abbrev hSL : List Nat := [8, 10, 29, 30, 31, 32, 33, 34, 35, 36, 37, 43]
theorem adv_o {a : Nat} (h : a ∉ hSL) : mAdv N r pr a = N a := by
  simp only [hSL, List.mem_cons, List.not_mem_nil, or_false, not_or] at h
  obtain ⟨h8, h10, h29, h30, h31, h32, h33, h34, h35, h36, h37, h43⟩ := h
  unfold mAdv
  rw [mSend_o (by simp only [List.mem_cons, List.not_mem_nil, or_false, not_or]; exact ⟨h10, h29, h30, h31, h32, h33, h34, h35, h36, h43⟩)]
  unfold ms1
  rw [u2_ne h8, a5_o h37 h43]
theorem emp_o {a : Nat} (h : a ∉ hSL) : mEmp N r what s g a = N a := by
  simp only [hSL, List.mem_cons, List.not_mem_nil, or_false, not_or] at h
  obtain ⟨h8, h10, h29, h30, h31, h32, h33, h34, h35, h36, h37, h43⟩ := h
  unfold mEmp
  rw [mSend_o (by simp only [List.mem_cons, List.not_mem_nil, or_false, not_or]; exact ⟨h10, h29, h30, h31, h32, h33, h34, h35, h36, h43⟩)]
  unfold ms1
  rw [u2_ne h8, u2_ne h43]
theorem pk_o {a : Nat} (h : a ∉ hSL) : mPk N r s flag a = N a := by
  simp only [hSL, List.mem_cons, List.not_mem_nil, or_false, not_or] at h
  obtain ⟨h8, h10, h29, h30, h31, h32, h33, h34, h35, h36, h37, h43⟩ := h
  unfold mPk
  rw [mSend_o (by simp only [List.mem_cons, List.not_mem_nil, or_false, not_or]; exact ⟨h10, h29, h30, h31, h32, h33, h34, h35, h36, h43⟩)]
  unfold ms1
  rw [u2_ne h8, (b_o h37 h43).2.2.2]
theorem kh_adv : hKH N (mAdv N r pr) := ⟨adv_o (by decide), by unfold mAdv; rw [mSend_f (by decide), a5_43 (by decide)]⟩
theorem kh_emp : hKH N (mEmp N r what s g) := ⟨emp_o (by decide), by unfold mEmp; rw [mSend_f (by decide), u2_self, pk_un (by decide)]⟩
theorem kh_pk : hKH N (mPk N r s flag) := ⟨pk_o (by decide), by unfold mPk; rw [mSend_f (by decide), b9_43 (by decide)]⟩
theorem hRZ.ad (h : hRZ t σ N) (hr : r < 5) : hRZ t (adS σ r pr) (mAdv N r pr) := ⟨h.rx.ad hr, fun r' hr' => (h.ri r' hr').of (by rw [adv_o (by decide)]) (by rw [adv_o (by decide)]) (by rw [adv_o (by decide)])⟩
theorem hRZ.se (h : hRZ t σ N) (hr : r < 5) (hs : s = 9 ∨ s = r) (hg : g = 15 ∨ (g < 5 ∧ g ≠ r)) (hw : ¬ what = 2) : hRZ t (seS σ r what s (nI g)) (mEmp N r what s g) := ⟨h.rx.se hr hs hg hw, fun r' hr' => (h.ri r' hr').of (by rw [emp_o (by decide)]) (by rw [emp_o (by decide)]) (by rw [emp_o (by decide)])⟩
theorem hRZ.pk (h : hRZ t σ N) (hr : r < 5) (hs : s < 5) (hne : s ≠ r) : hRZ t (pkS σ r s flag) (mPk N r s flag) := ⟨h.rx.pk hr hs hne, fun r' hr' => (h.ri r' hr').of (by rw [pk_o (by decide)]) (by rw [pk_o (by decide)]) (by rw [pk_o (by decide)])⟩
/-- a router's number -/
theorem hRX.rr {k : Nat} {v : Int32} (h : hRX t σ N) (hr : r < 5) (hk : 3 ≤ k ∧ k ≤ 9) : hRX t (up σ.1 2 r 0 (k + 1) v, σ.2.1, σ.2.2) (u2 N k r v) := by
  have n43 : u2 N k r v 43 = N 43 := u2_ne (by omega)
  exact ⟨h.wa.r hr hk, h.wb.of (by dsimp only; exact up_k (by decide)) (by dsimp only; exact up_k (by decide)) (fun F _ => by dsimp only; exact up_k (by decide)) (fun F _ => by dsimp only; exact up_k (by decide)) rfl (u2_ne (by omega)) ⟨by rw [n43], by rw [n43], by rw [n43]⟩ (fun a h1 h2 => u2_ne (by omega)) (u2_ne (by omega))⟩
theorem hRI.other {N' : zR} (h : ∀ r, r < 5 → hRI N r) (hr : hRI N' r) (e : ∀ a r', 3 ≤ a → a ≤ 5 → r' ≠ r → N' a r' = N a r') : ∀ r, r < 5 → hRI N' r := fun r' hr' => by
  by_cases q : r' = r
  · subst q; exact hr
  · exact (h r' hr').of (e 3 r' (by decide) (by decide) q) (e 4 r' (by decide) (by decide) q) (e 5 r' (by decide) (by decide) q)
theorem u2_at {a k b j : Nat} {v : Int32} (h : ¬ (b = a ∧ j = k)) : u2 N a k v b j = N b j := by
  by_cases e : b = a
  · subst e; rw [u2_self, pk_un (fun q => h ⟨rfl, q⟩)]
  · rw [u2_ne e]
theorem u2_is {a k : Nat} {v : Int32} : u2 N a k v a k = v := by rw [u2_self, pk_us]
/-- a router becomes ACTIVE -/
theorem hRX.act (h : hRX t σ N) (hr : r < 5) : hRX t (acS σ r) (mAct N r) := by
  have h1 : hRX t (adS σ r (rWeighed σ.1 r)) (mAdv N r (mWeighed N r)) := by rw [w_eq h.wa hr]; exact h.ad hr
  have h2 : hRX t (ac1 σ r) (mAc1 N r) := h1.se (s := 9) (g := 15) (what := 3) hr (Or.inl rfl) (Or.inl rfl) (by decide)
  have e1 := h2.wa.st r 1 hr (by decide)
  have h3 := h2.rr (k := 4) (v := mAc1 N r 2 (10 * r + 1)) hr (by decide)
  have h4 := h3.rr (k := 3) (v := 2) hr (by decide)
  have e7 : up (up (ac1 σ r).1 2 r 0 5 (mAc1 N r 2 (10 * r + 1))) 2 r 0 4 2 2 r 0 7 = u2 (u2 (mAc1 N r) 4 r (mAc1 N r 2 (10 * r + 1))) 3 r 2 6 r := (h4.wa.rt r hr).e7
  have h5 := h4.rr (k := 6) (v := u2 (u2 (mAc1 N r) 4 r (mAc1 N r 2 (10 * r + 1))) 3 r 2 6 r + 1) hr (by decide)
  unfold acS mAct
  rw [e1, e7]
  exact h5
theorem act_o {a : Nat} (h : a ∉ hSL) (h3 : a ≠ 3) (h4 : a ≠ 4) (h6 : a ≠ 6) : mAct N r a = N a := by
  unfold mAct mAc1
  rw [u2_ne h6, u2_ne h3, u2_ne h4, emp_o h, adv_o h]
theorem kh_act : hKH N (mAct N r) := by
  have h1 := (kh_adv (N := N) (r := r) (pr := mWeighed N r)).tr (kh_emp (r := r) (what := 3) (s := 9) (g := 15))
  exact ((h1.tr (hKH.u (a := 4) (by decide) (by decide))).tr (hKH.u (a := 3) (by decide) (by decide))).tr (hKH.u (by decide) (by decide))
theorem kf_act (h : hOut F σ) (w : hWB t σ N) (hr : r < 5) (h' : hRX t σ N) : hKF F σ (acS σ r) := by
  have h1 := kf_ad (r := r) (pr := rWeighed σ.1 r) h w.c60
  have h0 : hRX t (adS σ r (rWeighed σ.1 r)) (mAdv N r (rWeighed σ.1 r)) := h'.ad hr
  have h2 : hKF F σ (ac1 σ r) := h1.tr (kf_se h1.o h0.wb.c60)
  have h3 := h2.tr (kf_2 (r := r) (k := 5) (v := (ac1 σ r).1 3 r 0 1) h2.o)
  have h4 := h3.tr (kf_2 (r := r) (k := 4) (v := 2) h3.o)
  exact h4.tr (kf_2 h4.o)
theorem hRZ.act (h : hRZ t σ N) (hr : r < 5) (hk : ∃ n, 0 < n ∧ n ≤ 4095 ∧ N 5 r = nI n) : hRZ t (acS σ r) (mAct N r) := by
  have r2 : mAct N r 3 r = 2 := by
    unfold mAct
    rw [u2_at (by omega), u2_is]
  refine ⟨h.rx.act hr, hRI.other (r := r) h.ri ⟨Or.inr (Or.inr r2), fun _ => ?_, fun _ => ?_, fun z => absurd (r2.symm.trans z) (by decide)⟩ (fun a r' h1 h2 hq => ?_)⟩
  · obtain ⟨n, n0, n1, e⟩ := (h.rx.wa.se r hr).p1
    refine ⟨n, n0, by omega, ?_⟩
    unfold mAct
    rw [u2_at (by omega), u2_at (by omega), u2_is]
    unfold mAc1
    rw [emp_o (by decide), adv_o (by decide)]; exact e
  · rw [act_o (by decide) (by decide) (by decide) (by decide)]; exact hk
  · unfold mAct
    have e : mAc1 N r a r' = N a r' := by
      unfold mAc1
      have : a ∉ hSL := by simp only [hSL, List.mem_cons, List.not_mem_nil, or_false, not_or]; omega
      rw [emp_o this, adv_o this]
    rw [u2_at (by omega), u2_at (by omega), u2_at (by omega), e]
/-- an advertisement, and the timer anew -/
theorem hRZ.ad5 (h : hRZ t σ N) (hr : r < 5) (hon : ¬ N 3 r = 0) : hRZ t (up (adS σ r pr).1 2 r 0 5 ((adS σ r pr).1 3 r 0 1), (adS σ r pr).2.1, (adS σ r pr).2.2) (u2 (mAdv N r pr) 4 r (mAdv N r pr 2 (10 * r + 1))) := by
  have h1 := h.ad (pr := pr) hr
  have e1 := h1.rx.wa.st r 1 hr (by decide)
  obtain ⟨n, n0, n1, e⟩ := (h1.rx.wa.se r hr).p1
  refine ⟨by rw [e1]; exact h1.rx.rr (k := 4) hr (by decide), hRI.other (r := r) h1.ri ⟨?_, fun _ => ⟨n, n0, by omega, by rw [u2_is]; exact e⟩, ?_, fun z => absurd z ?_⟩ (fun a r' k1 k2 hq => u2_at (by omega))⟩
  · rw [u2_ne (by decide)]; exact (h1.ri r hr).role
  · rw [u2_ne (by decide), u2_ne (by decide)]; exact (h1.ri r hr).kn
  · rw [u2_ne (by decide), adv_o (by decide)]; exact hon
theorem kf_ad5 (h : hOut F σ) (hc : cnt σ.1 ≤ 60) : hKF F σ (up (adS σ r pr).1 2 r 0 5 ((adS σ r pr).1 3 r 0 1), (adS σ r pr).2.1, (adS σ r pr).2.2) := by
  have h1 := kf_ad (r := r) (pr := pr) h hc
  exact h1.tr (kf_2 h1.o)
theorem u2_id {a k : Nat} {v : Int32} (h : N a k = v) : u2 N a k v = N := by
  funext b
  by_cases e : b = a
  · subst e
    rw [u2_self]
    funext j
    by_cases q : j = k
    · subst q; rw [pk_us, h]
    · rw [pk_un q]
  · rw [u2_ne e]
/-- KNOWN anew, and BACKUP -/
theorem hRZ.kb {v : Int32} {n : Nat} (h : hRZ t σ N) (hr : r < 5) (hn0 : 0 < n) (hn : n ≤ 4095) (e : v = nI n) : hRZ t (rBackup (up σ.1 2 r 0 6 v) r, σ.2.1, σ.2.2) (mBack (u2 N 5 r v) r) := by
  have h1 := h.rx.rr (k := 5) (v := v) hr (by decide)
  obtain ⟨w1, w2⟩ := wa_back h1.wa hr hn0 hn (by rw [u2_is]; exact e)
  refine ⟨⟨w1, ?_⟩, hRI.other (r := r) h.ri w2 (fun a r' k1 k2 hq => by unfold mBack; rw [u2_at (by omega), u2_at (by omega), u2_at (by omega)])⟩
  exact h1.wb.of (by unfold rBackup; dsimp only; rw [up_k (by decide), up_k (by decide)]) (by unfold rBackup; dsimp only; rw [up_k (by decide), up_k (by decide)]) (fun F _ => by unfold rBackup; dsimp only; rw [up_k (by decide), up_k (by decide)]) (fun F _ => by unfold rBackup; dsimp only; rw [up_k (by decide), up_k (by decide)]) rfl rfl ⟨rfl, rfl, rfl⟩ (fun a k1 k2 => by unfold mBack; rw [u2_ne (by omega), u2_ne (by omega)]) rfl
theorem kf_kb {v : Int32} (h : hOut F σ) : hKF F σ (rBackup (up σ.1 2 r 0 6 v) r, σ.2.1, σ.2.2) := by
  refine hKF.m h ?_ ?_ <;> unfold rBackup <;> rw [up_k (by decide), up_k (by decide), up_k (by decide)]
theorem adK_eq (h3 : N 3 r = 1) : mAdK N r = mBack (u2 N 5 r (mAdI N)) r := by
  unfold mAdK mBack
  rw [u2_id (a := 3)]
  rw [u2_at (by omega), u2_at (by omega)]; exact h3
end STEP
