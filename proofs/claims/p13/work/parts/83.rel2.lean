/-! THE TWO SIDES: open, change, tick, type, arrive keep what they share -/
/-- a session's numbers are written: all but which sessions there are and which are ADMIN -/
theorem iv_o {N N' : zR} (h : IV N) (o : ∀ a, a ∉ [11, 12, 13, 14, 15, 16, 17, 18, 19, 20, 21, 22, 23, 24, 25, 26, 27] → N' a = N a) : IV N' := by
  obtain ⟨i1, i2, i3, i4, i5, i6, i7, i8⟩ := h
  exact ⟨i1.of (by rw [o 43 (by decide)]), fun r hr => by rw [o 2 (by decide)]; exact i2 r hr, fun f hf => by rw [o 31 (by decide), o 35 (by decide)]; exact i3 f hf, by rw [o 36 (by decide)]; exact i4, by rw [o 37 (by decide)]; exact i5, by rw [o 39 (by decide)]; exact i6, by rw [o 41 (by decide)]; exact i7, by rw [o 43 (by decide)]; exact i8⟩
theorem rl_ses {σ : zS} {N N' : zR} {r s : Nat} {q : Nat → Int32} (h : RL σ N) (hr : r < 5) (hs : s < 5) (o : ∀ a, a ∉ [11, 12, 13, 14, 15, 16, 17, 18, 19, 20, 21, 22, 23, 24, 25, 26, 27] → N' a = N a) (e11 : ∀ j, j ≠ 5 * r + s → N' 11 j = N 11 j) (e12 : ∀ j, j ≠ 5 * r + s → N' 12 j = N 12 j) (f2 : q 2 = 0 ↔ N' 11 (5 * r + s) = 0) (f3 : ¬ N' 11 (5 * r + s) = 0 → (q 3 = 0 ↔ N' 12 (5 * r + s) = 0)) : RL (rw4 σ.1 5 r s q, σ.2.1, σ.2.2) N' := by
  obtain ⟨hc, hI, q1, q2, q3, q4, q5⟩ := h
  refine ⟨⟨hc.1.of (by show rw4 σ.1 5 r s q 6 0 0 2 = _; rw [rw_k (by decide)]), hc.2⟩, iv_o hI o, fun a ha => ?_, fun a b ha hb => ?_, fun a b ha hb hn => ?_, ?_, ?_⟩
  · show rw4 σ.1 5 r s q 2 a 0 4 = 0 ↔ _
    rw [rw_k (by decide), o 3 (by decide)]
    exact q1 a ha
  · show rw4 σ.1 5 r s q 5 a b 2 = 0 ↔ _
    by_cases e : a = r ∧ b = s
    · obtain ⟨rfl, rfl⟩ := e; rw [rw4_self]; exact f2
    · rw [rw4_ne (fun z => e z.2), e11 _ (by omega)]; exact q2 a b ha hb
  · show rw4 σ.1 5 r s q 5 a b 3 = 0 ↔ _
    by_cases e : a = r ∧ b = s
    · obtain ⟨rfl, rfl⟩ := e; rw [rw4_self]; exact f3 hn
    · rw [e11 _ (by omega)] at hn
      rw [rw4_ne (fun z => e z.2), e12 _ (by omega)]; exact q3 a b ha hb hn
  · show rw4 σ.1 5 r s q 6 0 0 3 = _
    rw [rw_k (by decide), o 43 (by decide)]; exact q4
  · show rw4 σ.1 5 r s q 9 62 0 1 = _
    rw [rw_k (by decide), o 43 (by decide)]; exact q5
theorem op1_o {N : zR} {i a : Nat} {tx rx m : Int32} (h : a ∉ [11, 12, 13, 14, 15, 16, 17, 18, 19, 20, 21, 22, 23, 24, 25, 26, 27]) : mOpn N i tx rx m a = N a := by
  simp only [List.mem_cons, List.not_mem_nil, or_false, not_or] at h
  obtain ⟨h11, h12, h13, h14, h15, h16, h17, h18, h19, h20, h21, h22, h23, h24, h25, h26, h27⟩ := h
  unfold mOpn mSet mOp1
  rw [u2_ne h25, u2_ne h27, u2_ne h26, u2_ne h20, u2_ne h19, u2_ne h18, u2_ne h17, u2_ne h16, u2_ne h24, u2_ne h23, u2_ne h22, u2_ne h21, u2_ne h15, u2_ne h14, u2_ne h13, u2_ne h12, u2_ne h11]
theorem op1_11 {N : zR} {i : Nat} {tx rx m : Int32} : mOpn N i tx rx m 11 = upd (N 11) i 1 := rfl
theorem op1_12 {N : zR} {i : Nat} {tx rx m : Int32} : mOpn N i tx rx m 12 = upd (N 12) i 1 := rfl
theorem rl_open {σ : zS} {N : zR} {r s : Nat} {tx rx m : Int32} (h : RL σ N) (hr : r < 5) (hs : s < 5) : RL (rw4 σ.1 5 r s (sBegin (σ.1 5 r s) tx rx m), σ.2.1, σ.2.2) (mOpn (t0 N) (5 * r + s) tx rx m) ∧ mOpn (t0 N) (5 * r + s) tx rx m 43 0 = 0 := by
  refine ⟨rl_ses (h.t 0) hr hs (fun a ha => op1_o ha) (fun j hj => by rw [op1_11, pk_un hj]) (fun j hj => by rw [op1_12, pk_un hj]) ?_ (fun _ => ?_), by rw [op1_o (by decide)]; exact t0_00 N⟩
  · rw [op1_11, pk_us]
    show (1 : Int32) = 0 ↔ _
    exact Iff.rfl
  · rw [op1_12, pk_us]
    show (1 : Int32) = 0 ↔ _
    exact Iff.rfl
theorem want_at (q : Nat → Int32) (tx rx : Int32) : sWant q tx rx 2 = q 2 ∧ sWant q tx rx 3 = q 3 := by
  unfold sWant
  rw [(hurry_at _).1, (hurry_at _).2]
  unfold sWant2
  split <;> exact ⟨rfl, rfl⟩
theorem hur_o {N : zR} {i a : Nat} (h : a ≠ 25) : mHurry N i a = N a := by
  unfold mHurry mSet
  split
  · rw [u2_ne h]
  split
  · rw [u2_ne h]
  split
  · rw [u2_ne h]
  · rfl
theorem chg_o {N : zR} {i a : Nat} {tx rx : Int32} (h : a ∉ [16, 17, 18, 19, 24, 25]) : mChg N i tx rx a = N a := by
  simp only [List.mem_cons, List.not_mem_nil, or_false, not_or] at h
  obtain ⟨h16, h17, h18, h19, h24, h25⟩ := h
  unfold mChg
  rw [hur_o h25]
  have e4 : ∀ N' : zR, mC4 N' i rx a = N' a := fun N' => by
    unfold mC4
    split
    · rw [u2_ne h19]
    split
    · rfl
    · rw [u2_ne h19]
  have e3 : ∀ N' : zR, mC3 N' i tx a = N' a := fun N' => by
    unfold mC3
    split
    · rw [u2_ne h18]
    split
    · rfl
    · rw [u2_ne h18]
  rw [e4, e3]
  unfold mC2 mC1
  rw [u2_ne h24, u2_ne h17, u2_ne h16]
theorem sub17 {a : Nat} (h : a ∉ [11, 12, 13, 14, 15, 16, 17, 18, 19, 20, 21, 22, 23, 24, 25, 26, 27]) : a ∉ [16, 17, 18, 19, 24, 25] ∧ a ≠ 12 ∧ a ≠ 15 ∧ a ≠ 24 := by
  simp only [List.mem_cons, List.not_mem_nil, or_false, not_or] at h ⊢
  omega
theorem rl_shut {σ : zS} {N : zR} {r s : Nat} (h : RL σ N) (hr : r < 5) (hs : s < 5) (hx : ¬ N 11 (5 * r + s) = 0) : RL (rw4 σ.1 5 r s (sShut (σ.1 5 r s)), σ.2.1, σ.2.2) (mChS (t0 N) (5 * r + s)) ∧ mChS (t0 N) (5 * r + s) 43 0 = 0 := by
  have o : ∀ a, a ∉ [11, 12, 13, 14, 15, 16, 17, 18, 19, 20, 21, 22, 23, 24, 25, 26, 27] → mChS (t0 N) (5 * r + s) a = t0 N a := fun a ha => by
    obtain ⟨-, h12, h15, h24⟩ := sub17 ha
    unfold mChS
    rw [u2_ne h24, u2_ne h15, u2_ne h12]
  refine ⟨rl_ses (h.t 0) hr hs o (fun j hj => rfl) (fun j hj => ?_) ?_ (fun _ => ?_), by rw [o 43 (by decide)]; exact t0_00 N⟩
  · show upd (t0 N 12) (5 * r + s) 0 j = _
    rw [pk_un hj]
  · show σ.1 5 r s 2 = 0 ↔ N 11 (5 * r + s) = 0
    exact h.2.2.2.1 r s hr hs
  · show (0 : Int32) = 0 ↔ upd (t0 N 12) (5 * r + s) 0 (5 * r + s) = 0
    rw [pk_us]
theorem rl_want {σ : zS} {N : zR} {r s : Nat} {tx rx : Int32} (h : RL σ N) (hr : r < 5) (hs : s < 5) (hx : ¬ N 11 (5 * r + s) = 0) : RL (rw4 σ.1 5 r s (sWant (σ.1 5 r s) tx rx), σ.2.1, σ.2.2) (mChg (t0 N) (5 * r + s) tx rx) ∧ mChg (t0 N) (5 * r + s) tx rx 43 0 = 0 := by
  refine ⟨rl_ses (h.t 0) hr hs (fun a ha => chg_o (sub17 ha).1) (fun j hj => by rw [chg_o (by decide)]) (fun j hj => by rw [chg_o (by decide)]) ?_ (fun _ => ?_), by rw [chg_o (by decide)]; exact t0_00 N⟩
  · rw [chg_o (by decide), (want_at _ _ _).1]
    exact h.2.2.2.1 r s hr hs
  · rw [chg_o (by decide), (want_at _ _ _).2]
    exact h.2.2.2.2.1 r s hr hs hx
/-- tick -/
theorem rl_tick {σ : zS} {N : zR} {n : Nat} (h : RL σ N) : RL (tiL n σ) (mTi n (t0 N)) ∧ mTi n (t0 N) 43 0 = 0 ∧ (tiL n σ).1 6 0 0 3 = mTi n (t0 N) 43 1 := by
  obtain ⟨hc, w1, w2, w3, w4⟩ := c_ti n h.1
  obtain ⟨hI, s1, s2, ⟨s3, s4, s5, s6⟩, s7⟩ := ti_ok n (h.t 0).2.1
  obtain ⟨q1, q2, q3, q4, q5⟩ := (h.t 0).2.2
  refine ⟨⟨hc, hI, fun r hr => (w4 r).trans ((q1 r hr).trans (s7 r).symm), fun r s hr hs => by rw [(w3 r s).1, s5]; exact q2 r s hr hs, fun r s hr hs hn => ?_, by rw [w1, s1, q4], by rw [w2, s3]; exact q5⟩, by rw [s4]; exact t0_00 N, by rw [w1, s1, q4]⟩
  rw [s5] at hn
  exact (w3 r s).2.trans ((q3 r s hr hs hn).trans (s6 _).symm)
/-- type -/
theorem tyL_ok (word : Int64) : ∀ (k j : Nat) (M : zM), M 9 62 0 1 = nI j → j + k ≤ 40 → Fdr 62 M (tyL word k M) ∧ tyL word k M 9 62 0 1 = nI (j + k) := by
  intro k
  induction k with
  | zero => intro j M h _; exact ⟨Fdr.rf 62 M, h⟩
  | succ k ih =>
    intro j M h hj
    have e : fPut M 62 (tyB word k) 9 62 0 1 = nI (j + 1) := by
      unfold fPut
      rw [h, if_neg (nI_pos (by omega)), if_neg (show ¬ (40 : Int32) ≤ nI j from nI_ge (a := j) (b := 40) (by omega) (by decide)), up_self, pk_us, nI_1]
    obtain ⟨g1, g2⟩ := ih (j + 1) _ e (by omega)
    exact ⟨fd_put.tr g1, by show tyL word k (fPut M 62 (tyB word k)) 9 62 0 1 = _; rw [g2, show j + 1 + k = j + (k + 1) by omega]⟩
theorem myV_b (word : Int64) (m : Nat) : isB (myV word m) := by
  unfold myV
  generalize word >>> ((8 * nI m).toInt64 &&& 63) = x
  have e : (x &&& 255).toInt32 = x.toInt32 &&& 255 := by
    rw [Int64.toInt32_and]
    rfl
  rw [e]
  exact byt_and _
theorem myL_ok (word : Int64) : ∀ (m j : Nat) (N : zR), IV N → N 43 42 = nI j → j + m ≤ 40 → IV (myL word m N) ∧ myL word m N 43 42 = nI (j + m) ∧ (∀ f, f ≠ 42 → myL word m N 43 f = N 43 f) ∧ ∀ a, a ≠ 41 → a ≠ 43 → myL word m N a = N a := by
  intro m
  induction m with
  | zero => intro j N h hj _; exact ⟨h, hj, fun _ _ => rfl, fun _ _ _ => rfl⟩
  | succ m ih =>
    intro j N h hj hm
    have e42 : myS word m N 43 42 = nI (j + 1) := by rw [myS_l, hj, nI_1]
    have ef : ∀ f, f ≠ 42 → myS word m N 43 f = N 43 f := fun f hf => by unfold myS; rw [u2_self, pk_un hf, u2_ne (by decide)]
    have eo : ∀ a, a ≠ 41 → a ≠ 43 → myS word m N a = N a := fun a h1 h2 => by unfold myS; rw [u2_ne h2, u2_ne h1]
    have e41 : myS word m N 41 = upd (N 41) (N 43 42).toNatClampNeg (myV word m) := by unfold myS; rw [u2_ne (by decide), u2_self]
    obtain ⟨i1, i2, i3, i4, i5, i6, i7, i8⟩ := h
    have hI : IV (myS word m N) := ⟨i1.of (ef 28 (by decide)), fun r hr => by rw [eo 2 (by decide) (by decide)]; exact i2 r hr, fun f hf => by rw [eo 31 (by decide) (by decide), eo 35 (by decide) (by decide)]; exact i3 f hf, by rw [eo 36 (by decide) (by decide)]; exact i4, by rw [eo 37 (by decide) (by decide)]; exact i5, by rw [eo 39 (by decide) (by decide)]; exact i6, by rw [e41]; exact i7.up (myV_b word m), ⟨j + 1, by omega, e42⟩⟩
    obtain ⟨g1, g2, g3, g4⟩ := ih (j + 1) _ hI e42 (by omega)
    refine ⟨g1, ?_, fun f hf => (g3 f hf).trans (ef f hf), fun a h1 h2 => (g4 a h1 h2).trans (eo a h1 h2)⟩
    show myL word m (myS word m N) 43 42 = _
    rw [g2, show j + 1 + m = j + (m + 1) by omega]
theorem rl_type {σ : zS} {N : zR} {word : Int64} {n j : Nat} (h : RL σ N) (hj : N 43 42 = nI j) (hm : j + n ≤ 40) : RL (tyL word n σ.1, σ.2.1, σ.2.2) (myL word n (t0 N)) := by
  have hj' : t0 N 43 42 = nI j := (t0_43 N (by decide)).trans hj
  obtain ⟨q1, q2, q3, q4, q5⟩ := (h.t 0).2.2
  obtain ⟨f1, f2⟩ := tyL_ok word n j σ.1 (q5.trans hj') hm
  obtain ⟨g1, g2, g3, g4⟩ := myL_ok word n j (t0 N) (h.t 0).2.1 hj' hm
  refine ⟨⟨h.1.1.of (by show tyL word n σ.1 6 0 0 2 = _; rw [f1 6 0 0 (by simp) (by simp)]), h.1.2⟩, g1, fun r hr => ?_, fun r s hr hs => ?_, fun r s hr hs hn => ?_, ?_, ?_⟩
  · show tyL word n σ.1 2 r 0 4 = 0 ↔ _
    rw [f1 2 r 0 (by simp) (by simp), g4 3 (by decide) (by decide)]; exact q1 r hr
  · show tyL word n σ.1 5 r s 2 = 0 ↔ _
    rw [f1 5 r s (by simp) (by simp), g4 11 (by decide) (by decide)]; exact q2 r s hr hs
  · rw [g4 11 (by decide) (by decide)] at hn
    show tyL word n σ.1 5 r s 3 = 0 ↔ _
    rw [f1 5 r s (by simp) (by simp), g4 12 (by decide) (by decide)]; exact q3 r s hr hs hn
  · show tyL word n σ.1 6 0 0 3 = _
    rw [f1 6 0 0 (by simp) (by simp), g3 1 (by decide)]; exact q4
  · show tyL word n σ.1 9 62 0 1 = _
    rw [f2, g2]
/-- arrive -/
theorem taL_o {a : Nat} (h : a ≠ 39) : ∀ (n k : Nat) (N : zR), taL n k N a = N a := by
  intro n
  induction n with
  | zero => intro k N; rfl
  | succ n ih => intro k N; show taL n (k + 1) _ a = _; rw [ih, u2_ne h]
theorem taL_39 : ∀ (n k : Nat) (N : zR), k + n ≤ 40 → Byt (N 41) 40 → Byt (N 39) 40 → Byt (taL n k N 39) 40 := by
  intro n
  induction n with
  | zero => intro k N _ _ h; exact h
  | succ n ih =>
    intro k N hk h41 h39
    show Byt (taL n (k + 1) (u2 N 39 k (if N 43 42 ≤ nI k then 0 else N 41 k)) 39) 40
    refine ih (k + 1) _ (by omega) (by rw [u2_ne (by decide)]; exact h41) ?_
    rw [u2_self]
    refine h39.up ?_
    split
    · exact isB_nI (n := 0) (by decide)
    · exact h41.at (by omega)
theorem arv_43 {N : zR} {f : Nat} (h0 : f ≠ 0) (h1 : f ≠ 40) (h2 : f ≠ 42) : mArv N 43 f = N 43 f := by
  unfold mArv
  rw [u2_self, pk_un h2, taL_o (by decide), u2_self, pk_un h1]
  exact t0_43 N h0
theorem arv_o {N : zR} {a : Nat} (h0 : a ≠ 39) (h1 : a ≠ 43) : mArv N a = N a := by
  unfold mArv
  rw [u2_ne h1, taL_o h0, u2_ne h1]
  exact t0_o N h1
theorem iv_arv {N : zR} (h : IV N) : IV (mArv N) := by
  obtain ⟨i1, i2, i3, i4, i5, i6, i7, i8⟩ := h
  refine ⟨i1.of (arv_43 (by decide) (by decide) (by decide)), fun r hr => by rw [arv_o (by decide) (by decide)]; exact i2 r hr, fun f hf => by rw [arv_o (by decide) (by decide), arv_o (by decide) (by decide)]; exact i3 f hf, by rw [arv_o (by decide) (by decide)]; exact i4, by rw [arv_o (by decide) (by decide)]; exact i5, ?_, by rw [arv_o (by decide) (by decide)]; exact i7, ⟨0, by decide, ?_⟩⟩
  · unfold mArv
    rw [u2_ne (by decide)]
    exact taL_39 40 0 _ (by decide) (by rw [u2_ne (by decide)]; exact i7) (by rw [u2_ne (by decide)]; exact i6)
  · unfold mArv
    rw [u2_self, pk_us]
    rfl
theorem arv_00 (N : zR) : mArv N 43 0 = 0 := by
  unfold mArv
  rw [u2_self, pk_un (by decide), taL_o (by decide), u2_self, pk_un (by decide)]
  exact t0_00 N
theorem rl_arr {σ : zS} {N N' : zR} {r : Nat} {k s hp ad : Int32} (h : RL σ N) (hr : ¬ σ.1 2 r 0 4 = 0) (g : Go (mArv N) N') : RL (arS σ r k s hp ad) N' ∧ N' 43 0 = 0 := by
  have c1 : Cs σ (ar1 σ.1 k s hp ad, σ.2.1, σ.2.2) := by
    have e : ∀ κ a b, ¬ (κ = 9 ∧ a = 62) → ar1 σ.1 k s hp ad κ a b = σ.1 κ a b := fun κ a b x => by
      unfold ar1
      rw [up_ne (fun z => x ⟨z.1, z.2.1⟩), up_ne (fun z => x ⟨z.1, z.2.1⟩), up_ne (fun z => x ⟨z.1, z.2.1⟩), up_ne (fun z => x ⟨z.1, z.2.1⟩)]
    refine ⟨cs_m h.1 (by rw [e 6 0 0 (by simp)]) ⟨by rw [e 6 0 0 (by simp)], ?_, fun a b => by rw [e 5 a b (by simp)]; exact ⟨rfl, Iff.rfl⟩⟩, fun a => by show ar1 σ.1 k s hp ad 2 a 0 4 = 0 ↔ _; rw [e 2 a 0 (by simp)]⟩
    unfold ar1
    rw [up_self, pk_un (by decide), up_self, pk_un (by decide), up_self, pk_un (by decide), up_self, pk_un (by decide)]
  have c2 := c1.tr (cs_he (i := r) (k := 62) c1.ic (fun z => hr ((c1.2 r).mp z)))
  have e3 : arS σ r k s hp ad = (up (heS (ar1 σ.1 k s hp ad, σ.2.1, σ.2.2) r 62).1 9 62 0 1 0, (heS (ar1 σ.1 k s hp ad, σ.2.1, σ.2.2) r 62).2.1, (heS (ar1 σ.1 k s hp ad, σ.2.1, σ.2.2) r 62).2.2) := rfl
  rw [e3]
  generalize heS (ar1 σ.1 k s hp ad, σ.2.1, σ.2.2) r 62 = τ at *
  obtain ⟨q1, q2, q3, q4, q5⟩ := h.2.2
  obtain ⟨⟨hc, w1, w2, w3⟩, w4⟩ := c2
  obtain ⟨⟨hI, ⟨⟨k1, k2⟩, -⟩, s1, s2, s3, s4⟩, s5⟩ := g
  have f : ∀ κ a b, ¬ (κ = 9 ∧ a = 62 ∧ b = 0) → up τ.1 9 62 0 1 0 κ a b = τ.1 κ a b := fun κ a b x => up_ne x
  refine ⟨⟨⟨hc.1.of (by show up τ.1 9 62 0 1 0 6 0 0 2 = _; rw [f 6 0 0 (by simp)]), hc.2⟩, hI, fun a ha => ?_, fun a b ha hb => ?_, fun a b ha hb hn => ?_, ?_, ?_⟩, by rw [s2]; exact arv_00 N⟩
  · show up τ.1 9 62 0 1 0 2 a 0 4 = 0 ↔ _
    rw [f 2 a 0 (by simp)]
    refine (w4 a).trans ((q1 a ha).trans (Iff.trans ?_ (s5 a).symm))
    rw [arv_o (by decide) (by decide)]
  · show up τ.1 9 62 0 1 0 5 a b 2 = 0 ↔ _
    rw [f 5 a b (by simp), (w3 a b).1, s3, arv_o (by decide) (by decide)]
    exact q2 a b ha hb
  · rw [s3, arv_o (by decide) (by decide)] at hn
    show up τ.1 9 62 0 1 0 5 a b 3 = 0 ↔ _
    rw [f 5 a b (by simp)]
    refine (w3 a b).2.trans ((q3 a b ha hb hn).trans (Iff.trans ?_ (s4 _).symm))
    rw [arv_o (by decide) (by decide)]
  · show up τ.1 9 62 0 1 0 6 0 0 3 = _
    rw [f 6 0 0 (by simp), w1, k1, arv_43 (by decide) (by decide) (by decide)]
    exact q4
  · show up τ.1 9 62 0 1 0 9 62 0 1 = _
    rw [up_self, pk_us, s1]
    unfold mArv
    rw [u2_self, pk_us]
