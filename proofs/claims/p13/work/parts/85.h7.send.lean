/-! THE TWO SIDES: advertisements, packets, questions and replies are sent -/
def hRX (t : Nat) (σ : zS) (N : zR) : Prop := hWA σ.1 N ∧ hWB t σ N
theorem hRX.wa {t : Nat} {σ : zS} {N : zR} (h_ : hRX t σ N) : hWA σ.1 N := h_.1
theorem hRX.wb {t : Nat} {σ : zS} {N : zR} (h_ : hRX t σ N) : hWB t σ N := h_.2
section SEND
variable {t : Nat} {σ : zS} {N : zR} {r s g z c d i j : Nat} {M : zM} {what pr flag : Int32}
theorem sd_o {κ a b : Nat} (h : κ ≠ 6) (h7 : κ ≠ 7) (h9 : κ ≠ 9) : (sdS σ r s).1 κ a b = up σ.1 2 r 0 9 (σ.1 2 r 0 9 + 1) κ a b := by
  unfold sdS
  split
  · unfold cyM
    dsimp only
    split
    · rw [up_k h7]
    · rw [up_k h, up_k h9, up_k h9, up_k h7]
  · rfl
theorem mSend_o {a : Nat} (h : a ∉ [10, 29, 30, 31, 32, 33, 34, 35, 36, 43]) : mSend N r what s g c z a = ms1 N r a := by
  simp only [List.mem_cons, List.not_mem_nil, or_false, not_or] at h
  have e2 : ms2 N r s a = ms1 N r a := u2_ne h.1
  unfold mSend
  split
  · rfl
  split
  · exact e2
  split
  · exact e2
  · rw [mcL_o _ _ _ _ h.2.2.2.2.2.2.2.2.1, ms3_o (by simp only [List.mem_cons, List.not_mem_nil, or_false, not_or]; exact ⟨h.2.1, h.2.2.1, h.2.2.2.1, h.2.2.2.2.1, h.2.2.2.2.2.1, h.2.2.2.2.2.2.1, h.2.2.2.2.2.2.2.1, h.2.2.2.2.2.2.2.2.2⟩)]; exact e2
theorem wa_send (h : hWA σ.1 N) (hr : r < 5) : hWA (sdS σ r s).1 (mSend N r what s g c z) := by
  have h1 : hWA (up σ.1 2 r 0 9 (σ.1 2 r 0 9 + 1)) (ms1 N r) := by
    have := h.r (r := r) (k := 8) (v := σ.1 2 r 0 9 + 1) hr (by decide)
    rw [(h.rt r hr).e9] at this ⊢
    exact this
  refine h1.of (fun a => sd_o (by decide) (by decide) (by decide)) (fun a => sd_o (by decide) (by decide) (by decide)) (fun a b => sd_o (by decide) (by decide) (by decide)) (fun a h1 h2 h3 => mSend_o ?_)
  simp only [List.mem_cons, List.not_mem_nil, or_false, not_or]
  omega
theorem hRX.send (h : hRX t σ N) (hr : r < 5) (hd : hDR σ.1 σ.2.2.1 N what s g z (N 2 (10 * r + 4))) (hs : s = 9 ∨ s = r) (hg : g = 15 ∨ (g < 5 ∧ g ≠ r)) : hRX t (sdS σ r s) (mSend N r what s g (fly N) z) :=
  ⟨wa_send h.wa hr, wb_send h.wb hr hd (h.wa.st r 6 hr (by decide)) (h.wa.st r 7 hr (by decide)) (h.wa.se r hr).p6 hs hg⟩
/-- the draft is written -/
theorem hRX.dr {M' : zM} {N' : zR} (h : hRX t σ N) (f : Fdr σ.2.2.1 σ.1 M') (o : ∀ a, a ≠ 37 → a ≠ 43 → N' a = N a) (o43 : ∀ f, f ≠ 38 → N' 43 f = N 43 f) : hRX t (M', σ.2.1, σ.2.2) N' := by
  refine ⟨h.wa.of (fun a => f 2 a 0 (by simp) (by simp)) (fun a => f 3 a 0 (by simp) (by simp)) (fun a b => f 5 a b (by simp) (by simp)) (fun a h1 h2 h3 => o a (by omega) (by omega)), h.wb.of (f 6 0 0 (by simp) (by simp)) (f 7 0 0 (by simp) (by simp)) (fun F hF => f 9 F 0 (fun k => hF k.2) (by simp)) (fun F hF => f 10 F 0 (by simp) (fun k => hF k.2)) rfl (o 10 (by decide) (by decide)) ⟨o43 28 (by decide), o43 1 (by decide), o43 42 (by decide)⟩ (fun a h1 h2 => o a (by omega) (by omega)) (o 41 (by decide) (by decide))⟩
theorem new_at {k f to a : Int32} : wNew M d k f to a 9 d 0 = upd (upd (upd (upd (upd (upd (M 9 d 0) 1 0) 2 k) 3 f) 4 to) 5 a) 6 255 := by
  unfold wNew
  rw [up_self, up_self, up_self, up_self, up_self, up_self]
theorem put_9 {x : Int32} {k : Nat} (h : k ≠ 1) : fPut M d x 9 d 0 k = M 9 d 0 k := by
  unfold fPut
  split
  · rfl
  split
  · rfl
  · rw [up_self, pk_un h, up_k (by decide)]
theorem put2_9 {x : Int32} {k : Nat} (h : k ≠ 1) : fPut2 M d x 9 d 0 k = M 9 d 0 k := by unfold fPut2; rw [put_9 h, put_9 h]
theorem put4_9 {x : Int32} {k : Nat} (h : k ≠ 1) : fPut4 M d x 9 d 0 k = M 9 d 0 k := by unfold fPut4; rw [put_9 h, put_9 h, put_9 h, put_9 h]
theorem check_9 {x : Int32} {k : Nat} : fCheck M d x 9 d 0 k = M 9 d 0 k := by
  unfold fCheck
  split
  · rfl
  split
  · rfl
  split
  · rfl
  · rw [up_k (by decide), up_k (by decide)]
theorem hPR.new {E : Nat → Prop} {k f to a : Int32} : hPR E (wNew M d k f to a) d (u2 N 43 38 0) 0 := ⟨by rw [new_at]; rfl, by rw [u2_self, pk_us]; rfl, fun j hj => by omega⟩
theorem mPut_o {b : Int32} {a : Nat} (h : a ≠ 37) (h2 : a ≠ 43) : mPut N b a = N a := by unfold mPut; rw [u2_ne h2, u2_ne h]
theorem mPut_43' {b : Int32} {f : Nat} (h : f ≠ 38) : mPut N b 43 f = N 43 f := by unfold mPut; rw [u2_self, pk_un h, u2_ne (by decide)]
theorem mpL_o {v : Int32} {a : Nat} (h : a ≠ 37) (h2 : a ≠ 43) : ∀ (k : Nat) (N : zR), mpL v k N a = N a := by
  intro k
  induction k with
  | zero => intro N; rfl
  | succ k ih => intro N; show mpL v k (mPut N _) a = _; rw [ih, mPut_o h h2]
theorem mpL_43' {v : Int32} {f : Nat} (h : f ≠ 38) : ∀ (k : Nat) (N : zR), mpL v k N 43 f = N 43 f := by
  intro k
  induction k with
  | zero => intro N; rfl
  | succ k ih => intro N; show mpL v k (mPut N _) 43 f = _; rw [ih, mPut_43' h]
theorem a1_o {a : Nat} (h : a ≠ 37) (h2 : a ≠ 43) : mA1 N r a = N a := by unfold mA1; rw [mPut_o h h2, mPut_o h h2, u2_ne h2]
theorem a2_o {a : Nat} (h : a ≠ 37) (h2 : a ≠ 43) : mA2 N r pr a = N a := by unfold mA2; rw [mPut_o h h2, mPut_o h h2, a1_o h h2]
theorem a3_o {a : Nat} (h : a ≠ 37) (h2 : a ≠ 43) : mA3 N r pr a = N a := by unfold mA3; rw [mpL_o h h2, mpL_o h h2, a2_o h h2]
theorem a4_o {a : Nat} (h : a ≠ 37) (h2 : a ≠ 43) : mA4 N r pr a = N a := by unfold mA4; rw [mpL_o h h2, a3_o h h2]
theorem a5_o {a : Nat} (h : a ≠ 37) (h2 : a ≠ 43) : mA5 N r pr a = N a := by unfold mA5; rw [u2_ne h, u2_ne h, a4_o h h2]
theorem a5_43 {f : Nat} (h : f ≠ 38) : mA5 N r pr 43 f = N 43 f := by
  unfold mA5 mA4 mA3 mA2 mA1
  rw [u2_ne (by decide), u2_ne (by decide), mpL_43' h, mpL_43' h, mpL_43' h, mPut_43' h, mPut_43' h, mPut_43' h, mPut_43' h, u2_self, pk_un h]
theorem fd_ad3 : Fdr d M (ad1 M d i) ∧ Fdr d M (ad2 M d i pr) ∧ Fdr d M (ad3 M d i pr) := by
  have h1 : Fdr d M (ad1 M d i) := fd_new.tr fd_put
  have h2 : Fdr d M (ad2 M d i pr) := ((h1.tr fd_put).tr fd_put).tr fd_put
  exact ⟨h1, h2, (h2.tr fd_put2).tr fd_put2⟩
/-- an advertisement's bytes -/
theorem dr_ad (h : hWA M N) (hr : r < 5) : hDR (ad4 M d r pr) d (mA5 N r pr) 1 9 15 12 (mA5 N r pr 2 (10 * r + 4)) := by
  have F := fd_ad3 (d := d) (M := M) (i := r) (pr := pr)
  have e3 : ad1 M d r 3 r 0 3 = N 2 (10 * r + 3) := by rw [F.1 3 r 0 (by simp) (by simp)]; exact h.st r 3 hr (by decide)
  have e1 : ad2 M d r pr 3 r 0 1 = N 2 (10 * r + 1) := by rw [F.2.1 3 r 0 (by simp) (by simp)]; exact h.st r 1 hr (by decide)
  have e5 : ad3 M d r pr 3 r 0 5 = N 2 (10 * r + 5) := by rw [F.2.2 3 r 0 (by simp) (by simp)]; exact h.st r 5 hr (by decide)
  have p0 : hPR (fun _ => False) (ad1 M d r) d (mPut (u2 N 43 38 0) 49) 1 := hPR.new.put (by decide) (Or.inr rfl)
  have p1 : hPR (fun _ => False) (fPut (ad1 M d r) d (ad1 M d r 3 r 0 3)) d (mA1 N r) 2 := p0.put (by decide) (Or.inr e3)
  have p2 : hPR (fun _ => False) (ad2 M d r pr) d (mA2 N r pr) 4 := (p1.put (x := pr) (y := pr) (by decide) (Or.inr rfl)).put (x := 1) (y := 1) (by decide) (Or.inr rfl)
  have p3 : hPR (fun _ => False) (ad3 M d r pr) d (mA3 N r pr) 8 := (p2.put2 (x := ad2 M d r pr 3 r 0 1) (y := mA2 N r pr 2 (10 * r + 1)) (by decide) (by rw [e1, a2_o (by decide) (by decide)])).put2 (x := 0) (y := 0) (by decide) rfl
  have p4 : hPR (fun _ => False) (fPut4 (ad3 M d r pr) d (ad3 M d r pr 3 r 0 5)) d (mA4 N r pr) 12 := p3.put4 (by decide) (Or.inr (by rw [e5, a3_o (by decide) (by decide)]))
  have q9 : ∀ k, k ≠ 1 → fPut4 (ad3 M d r pr) d (ad3 M d r pr 3 r 0 5) 9 d 0 k = wNew M d 1 9 15 (M 3 r 0 4) 9 d 0 k := fun k hk => by
    rw [put4_9 hk]
    unfold ad3
    rw [put2_9 hk, put2_9 hk]
    unfold ad2
    rw [put_9 hk, put_9 hk, put_9 hk]
    unfold ad1
    rw [put_9 hk]
  have hB : Byt (mA4 N r pr 37) 12 := (mA4_pb N r pr).2
  have ead : fPut4 (ad3 M d r pr) d (ad3 M d r pr 3 r 0 5) 9 d 0 5 = mA4 N r pr 2 (10 * r + 4) := by
    rw [q9 5 (by decide), new_at, a4_o (by decide) (by decide)]
    exact h.st r 4 hr (by decide)
  have es := sum_eq p4.l ead (fun j hj => p4.b j hj (fun k => k)) hB
  obtain ⟨w, hw, ew⟩ := mSum_le (x := mA4 N r pr 2 (10 * r + 4)) hB
  have ec : (65535 : Int32) - nI w = nI (65535 - w) := pk_sub (a := 65535) hw
  have m38 : mA5 N r pr 43 38 = nI 12 := mA5_38 N r pr
  have e37 : mA5 N r pr 37 = upd (upd (mA4 N r pr 37) 6 (nI (65535 - w) >>> ((8 : Int32) &&& 31))) 7 (nI (65535 - w) &&& 255) := by
    unfold mA5 mCk
    rw [u2_self, u2_self, ew, ec]
  unfold ad4
  generalize fPut4 (ad3 M d r pr) d (ad3 M d r pr 3 r 0 5) = M4 at *
  have ck : fCheck M4 d 6 10 d 0 = upd (upd (M4 10 d 0) 6 (ush (nI (65535 - w)) 8)) 7 (nI (65535 - w) &&& 255) := by
    unfold fCheck
    rw [p4.l, if_neg (by decide), if_neg (by decide), if_neg (by decide), es, ew, ec, up_self, up_self]
    rfl
  have eu : ush (nI (65535 - w)) 8 = nI (65535 - w) >>> ((8 : Int32) &&& 31) := by
    rw [pk_shrN (by omega) ((8 : Int32) &&& 31) 8 (by decide)]
    exact pk_ushrN (by omega) 8 8 (by decide)
  refine ⟨?_, ?_, ?_, ?_, ?_, ?_, ?_⟩
  · refine ⟨by rw [check_9]; exact p4.l, by decide, fun j hj _ => ?_, fun k => absurd k (by decide)⟩
    rw [ck, e37, eu]
    by_cases a : j = 7
    · subst a; rw [pk_us, pk_us]
    · rw [pk_un a, pk_un a]
      by_cases b : j = 6
      · subst b; rw [pk_us, pk_us]
      · rw [pk_un b, pk_un b]; exact p4.b j hj (fun k => k)
  · exact m38
  · rw [check_9, q9 2 (by decide), new_at]; rfl
  · rw [check_9, q9 3 (by decide), new_at]; rfl
  · rw [check_9, q9 4 (by decide), new_at]; rfl
  · rw [check_9, a5_o (by decide) (by decide), ead, a4_o (by decide) (by decide)]
  · rw [check_9, q9 6 (by decide), new_at]; rfl
theorem hRX.ad (h : hRX t σ N) (hr : r < 5) : hRX t (adS σ r pr) (mAdv N r pr) := by
  have h1 : hRX t (ad4 σ.1 σ.2.2.1 r pr, σ.2.1, σ.2.2) (mA5 N r pr) := h.dr fd_ad4 (fun a h1 h2 => a5_o h1 h2) (fun f hf => a5_43 hf)
  have hd := dr_ad (d := σ.2.2.1) (pr := pr) h.wa hr
  have hS := hRX.send (σ := (ad4 σ.1 σ.2.2.1 r pr, σ.2.1, σ.2.2)) (s := 9) (g := 15) (z := 12) (what := 1) h1 hr
  dsimp only at hS
  have h2 := hS hd (Or.inl rfl) (Or.inl rfl)
  rw [fly_of (mA5_28 N r pr)] at h2
  exact h2
theorem hRX.se (h : hRX t σ N) (hr : r < 5) (hs : s = 9 ∨ s = r) (hg : g = 15 ∨ (g < 5 ∧ g ≠ r)) (hw : ¬ what = 2) : hRX t (seS σ r what s (nI g)) (mEmp N r what s g) := by
  have h1 : hRX t (wNew σ.1 σ.2.2.1 what (nI s) (nI g) (σ.1 3 r 0 4), σ.2.1, σ.2.2) (u2 N 43 38 0) := h.dr fd_new (fun a _ h2 => u2_ne h2) (fun f hf => by rw [u2_self, pk_un hf])
  have p : hPR (fun _ => False) (wNew σ.1 σ.2.2.1 what (nI s) (nI g) (σ.1 3 r 0 4)) σ.2.2.1 (u2 N 43 38 0) 0 := hPR.new
  have hd : hDR (wNew σ.1 σ.2.2.1 what (nI s) (nI g) (σ.1 3 r 0 4)) σ.2.2.1 (u2 N 43 38 0) what s g 0 (u2 N 43 38 0 2 (10 * r + 4)) := by
    refine ⟨?_, ?_, ?_, ?_, ?_, ?_, ?_⟩
    · exact ⟨p.l, by decide, fun j hj => by omega, fun k => absurd k hw⟩
    · exact p.m
    · rw [new_at]; rfl
    · rw [new_at]; rfl
    · rw [new_at]; rfl
    · rw [new_at]; exact h.wa.st r 4 hr (by decide)
    · rw [new_at]; rfl
  have h2 := h1.send (s := s) (g := g) (z := 0) (what := what) hr hd hs hg
  rw [fly_of (u38_28 N)] at h2
  exact h2
abbrev E8 : Nat → Prop := fun j => 8 ≤ j ∧ j < 12
theorem b4_o {bits : Int32} {a : Nat} (h : a ≠ 37) (h2 : a ≠ 43) : mB2 N i bits a = N a ∧ mB4 N i bits a = N a := by
  have e : mB2 N i bits a = N a := by unfold mB2; rw [mPut_o h h2, mPut_o h h2, u2_ne h2]
  exact ⟨e, by unfold mB4; rw [mPut_o h h2, mPut_o h h2, e]⟩
theorem b_o {bits : Int32} {a : Nat} (h : a ≠ 37) (h2 : a ≠ 43) : mB5 N r s i bits a = N a ∧ mB6 N r s i bits a = N a ∧ mB7 N r s i bits a = N a ∧ mB9 N r s i bits a = N a := by
  have e5 : mB5 N r s i bits a = N a := by unfold mB5; rw [mpL_o h h2, (b4_o h h2).2]
  have e6 : mB6 N r s i bits a = N a := by unfold mB6; rw [mpL_o h h2, e5]
  have e7 : mB7 N r s i bits a = N a := by unfold mB7; rw [mpL_o h h2, e6]
  exact ⟨e5, e6, e7, by unfold mB9 mB8; rw [mpL_o h h2, mpL_o h h2, e7]⟩
theorem b9_43 {bits : Int32} {f : Nat} (h : f ≠ 38) : mB9 N r s i bits 43 f = N 43 f := by
  unfold mB9 mB8 mB7 mB6 mB5 mB4 mB2
  rw [mpL_43' h, mpL_43' h, mpL_43' h, mpL_43' h, mpL_43' h, mPut_43' h, mPut_43' h, mPut_43' h, mPut_43' h, u2_self, pk_un h]
/-- a session packet's bytes -/
theorem dr_pk (h : hWA M N) (hr : r < 5) (hs : s < 5) : hDR (pk7 M d r s flag) d (mB9 N r s (5 * r + s) flag) 2 r s 24 (mB9 N r s (5 * r + s) flag 2 (10 * r + 4)) := by
  have hq := h.ss r s hr hs
  have f0 : Fdr d M (wNew M d 2 (nI r) (nI s) (M 3 r 0 4)) := fd_new
  have f1 : Fdr d M (pk1 M d r s flag) := f0.tr fd_put
  have hf2 : Fdr d M (pk2 M d r s flag) := f1.tr fd_put
  have f3 : Fdr d M (pk3 M d r s flag) := (hf2.tr fd_put).tr fd_put
  have hf4' : Fdr d M (pk4 M d r s flag) := f3.tr fd_put4
  have f5 : Fdr d M (pk5 M d r s flag) := hf4'.tr fd_put4
  have f6 : Fdr d M (pk6 M d r s flag) := f5.tr fd_put4
  have x : ∀ {M' : zM}, Fdr d M M' → M' 5 r s = M 5 r s := fun f => f 5 r s (by simp) (by simp)
  have p1 : hPR E8 (pk1 M d r s flag) d (mPut (u2 N 43 38 0) (32 + u2 N 43 38 0 15 (5 * r + s))) 1 := hPR.new.put (by decide) (Or.inr (by rw [x f0, hq.e6, u2_ne (by decide)]))
  have p2 : hPR E8 (pk2 M d r s flag) d (mB2 N (5 * r + s) flag) 2 := p1.put (by decide) (Or.inr (by rw [x f1, hq.e3, mPut_o (by decide) (by decide), u2_ne (by decide)]))
  have p3 : hPR E8 (pk3 M d r s flag) d (mB4 N (5 * r + s) flag) 4 := (p2.put (x := pk2 M d r s flag 5 r s 9) (y := mB2 N (5 * r + s) flag 20 (5 * r + s)) (by decide) (Or.inr (by rw [x hf2, hq.e9, (b4_o (by decide) (by decide)).1]))).put (x := 24) (y := 24) (by decide) (Or.inr rfl)
  have p4 : hPR E8 (pk4 M d r s flag) d (mB5 N r s (5 * r + s) flag) 8 := p3.put4 (by decide) (Or.inr (by rw [show (16 : Int32) = nI 16 from rfl, pk_mul, nI_add, nI_1]))
  have p5 : hPR E8 (pk5 M d r s flag) d (mB6 N r s (5 * r + s) flag) 12 := p4.put4 (by decide) (Or.inl (by decide))
  have c5 := put4_c (v := pk4 M d r s flag 5 r s 5) p4.l (by decide)
  have m5 := put4_m (v := mB5 N r s (5 * r + s) flag 14 (5 * r + s)) p4.m (by decide)
  have p6 : hPR E8 (pk6 M d r s flag) d (mB7 N r s (5 * r + s) flag) 16 := p5.put4 (by decide) (Or.inr (by
    unfold sSlowed
    rw [x f5, hq.e3, hq.e7, (b_o (by decide) (by decide)).2.1, (b_o (by decide) (by decide)).2.1, imx_mx, mx_com]))
  have c6 := put4_c (v := sSlowed (pk5 M d r s flag 5 r s) (pk5 M d r s flag 5 r s 7)) p5.l (by decide)
  have m6 := put4_m (v := if mB6 N r s (5 * r + s) flag 12 (5 * r + s) = 3 then mB6 N r s (5 * r + s) flag 16 (5 * r + s) else mMax 100 (mB6 N r s (5 * r + s) flag 16 (5 * r + s))) p5.m (by decide)
  have p7 := p6.put4 (x := pk6 M d r s flag 5 r s 8) (y := mB7 N r s (5 * r + s) flag 17 (5 * r + s)) (by decide) (Or.inr (by rw [x f6, hq.e8, (b_o (by decide) (by decide)).2.2.1]))
  have c7 := put4_c (v := pk6 M d r s flag 5 r s 8) p6.l (by decide)
  have m7 := put4_m (v := mB7 N r s (5 * r + s) flag 17 (5 * r + s)) p6.m (by decide)
  have p8 : hPR E8 (pk7 M d r s flag) d (mB9 N r s (5 * r + s) flag) 24 := p7.put4 (x := 0) (y := 0) (by decide) (Or.inr rfl)
  have c8 := put4_c (v := 0) p7.l (by decide)
  have m8 := put4_m (v := 0) p7.m (by decide)
  have bc : ∀ j, j < 12 → pk7 M d r s flag 10 d 0 j = pk5 M d r s flag 10 d 0 j := fun j hj => (c8.2 j (by omega)).trans ((c7.2 j (by omega)).trans (c6.2 j (by omega)))
  have bm : ∀ j, j < 12 → mB9 N r s (5 * r + s) flag 37 j = mB6 N r s (5 * r + s) flag 37 j := fun j hj => (m8.2 j (by omega)).trans ((m7.2 j (by omega)).trans (m6.2 j (by omega)))
  have q9 : ∀ k, k ≠ 1 → pk7 M d r s flag 9 d 0 k = wNew M d 2 (nI r) (nI s) (M 3 r 0 4) 9 d 0 k := fun k hk => by
    unfold pk7
    rw [put4_9 hk, put4_9 hk]
    unfold pk6
    rw [put4_9 hk]
    unfold pk5
    rw [put4_9 hk]
    unfold pk4
    rw [put4_9 hk]
    unfold pk3
    rw [put_9 hk, put_9 hk]
    unfold pk2
    rw [put_9 hk]
    unfold pk1
    rw [put_9 hk]
  refine ⟨?_, ?_, ?_, ?_, ?_, ?_, ?_⟩
  · refine ⟨p8.l, by decide, fun j hj hn => p8.b j hj (fun k => hn ⟨rfl, k⟩), fun _ _ => Or.inr ?_⟩
    have a1 : hfour (pk7 M d r s flag 10 d 0) 8 = pk4 M d r s flag 5 r s 5 := by
      refine Eq.trans ?_ c5.1
      show hf4 _ _ _ _ = hf4 _ _ _ _
      rw [bc 8 (by decide), bc 9 (by decide), bc 10 (by decide), bc 11 (by decide)]
      rfl
    have a2 : hfour (mB9 N r s (5 * r + s) flag 37) 8 = mB5 N r s (5 * r + s) flag 14 (5 * r + s) := by
      refine Eq.trans ?_ m5.1
      show hf4 _ _ _ _ = hf4 _ _ _ _
      rw [bm 8 (by decide), bm 9 (by decide), bm 10 (by decide), bm 11 (by decide)]
      rfl
    rw [a1, a2, x hf4', hq.e5, (b_o (by decide) (by decide)).1]
  · exact p8.m
  · rw [q9 2 (by decide), new_at]; rfl
  · rw [q9 3 (by decide), new_at]; rfl
  · rw [q9 4 (by decide), new_at]; rfl
  · rw [q9 5 (by decide), new_at, (b_o (by decide) (by decide)).2.2.2]; exact h.st r 4 hr (by decide)
  · rw [q9 6 (by decide), new_at]; rfl
theorem hRX.pk (h : hRX t σ N) (hr : r < 5) (hs : s < 5) (hne : s ≠ r) : hRX t (pkS σ r s flag) (mPk N r s flag) := by
  have h1 : hRX t (pk7 σ.1 σ.2.2.1 r s flag, σ.2.1, σ.2.2) (mB9 N r s (5 * r + s) flag) := h.dr fd_pk7 (fun a h1 h2 => (b_o h1 h2).2.2.2) (fun f hf => b9_43 hf)
  have hd := dr_pk (d := σ.2.2.1) (flag := flag) h.wa hr hs
  have hS := hRX.send (σ := (pk7 σ.1 σ.2.2.1 r s flag, σ.2.1, σ.2.2)) (s := r) (g := s) (z := 24) (what := 2) h1 hr
  dsimp only at hS
  have h2 := hS hd (Or.inr rfl) (Or.inr ⟨hs, hne⟩)
  rw [fly_of (mB9_28 N r s (5 * r + s) flag)] at h2
  exact h2
end SEND
