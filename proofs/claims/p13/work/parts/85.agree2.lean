/-! EVERY STATE THAT THE TWO SIDES SHARE: each call has its contracts on both, and they share again -/
theorem lm_R (x : Int32) : mIsR x = lIsR x := rfl
theorem thr_u2 (N : zR) (v : Int32) : u2 N 43 0 v 43 0 = v := by simp [u2, upd]
theorem nI_bel {x : Int32} (n : Nat) (hn : n < 2 ^ 31) (h0 : ¬ x < 0) (h1 : x < nI n) : ∃ j, j < n ∧ x = nI j := by
  obtain ⟨j, hj, rfl⟩ := nI_of h0
  refine ⟨j, ?_, rfl⟩
  rcases Nat.lt_or_ge j n with q | q
  · exact q
  · exact absurd h1 (fun z => by
      have := nI_le (a := n) (b := j) q hj
      rw [Int32.lt_iff_toInt_lt] at z
      rw [Int32.le_iff_toInt_le] at this
      omega)
theorem i_nle {a b : Int32} : ¬ a ≤ b ↔ b < a := by rw [Int32.le_iff_toInt_le, Int32.lt_iff_toInt_lt]; omega
theorem i_nlt {a b : Int32} : ¬ a < b ↔ b ≤ a := by rw [Int32.le_iff_toInt_le, Int32.lt_iff_toInt_lt]; omega
theorem rng_iff (a b v : Int32) : (if v < a then (0 : Int32) else if b < v then 0 else 1) = 0 ↔ (v < a ∨ ¬ v ≤ b) := by
  rw [i_nle]
  by_cases h1 : v < a
  · simp [h1]
  · by_cases h2 : b < v
    · simp [h1, h2]
    · simp [h1, h2]
theorem fits_iff (wh : Nat) (h : wh < 10) (v : Int32) : mFits (nI wh) v = 0 ↔ (v < leF wh ∨ ¬ v ≤ moF wh) := by
  unfold mFits
  match wh, h with
  | 0, _ => rw [if_pos (by decide)]; exact rng_iff 1 255 v
  | 1, _ => rw [if_neg (by decide), if_pos (by decide)]; exact rng_iff 1 4095 v
  | 2, _ =>
    rw [if_neg (by decide), if_neg (by decide), if_pos (by decide)]
    show _ ↔ (v < 0 ∨ ¬ v ≤ 1)
    by_cases h0 : v = 0
    · subst h0; decide
    · by_cases h1 : v = 1
      · subst h1; decide
      · simp only [h0, h1, if_false]
        refine ⟨fun _ => ?_, fun _ => by trivial⟩
        rw [← Int32.toInt_inj] at h0 h1
        rw [Int32.lt_iff_toInt_lt, Int32.le_iff_toInt_le]
        have e0 : (0 : Int32).toInt = 0 := rfl
        have e1 : (1 : Int32).toInt = 1 := rfl
        omega
  | 3, _ => rw [if_neg (by decide), if_neg (by decide), if_neg (by decide), if_pos (by decide)]; exact rng_iff 1 255 v
  | 4, _ =>
    rw [if_neg (by decide), if_neg (by decide), if_neg (by decide), if_neg (by decide), if_neg (by decide), if_neg (by decide), if_neg (by decide), if_neg (by decide)]
    show _ ↔ (v < -2147483648 ∨ ¬ v ≤ 2147483647)
    refine ⟨fun q => absurd q (by decide), fun q => ?_⟩
    rw [Int32.lt_iff_toInt_lt, Int32.le_iff_toInt_le] at q
    have e0 : (-2147483648 : Int32).toInt = -2147483648 := rfl
    have e1 : (2147483647 : Int32).toInt = 2147483647 := rfl
    have h1 := Int32.le_toInt v
    have h2 := Int32.toInt_lt v
    omega
  | 5, _ =>
    rw [if_neg (by decide), if_neg (by decide), if_neg (by decide), if_neg (by decide), if_neg (by decide), if_neg (by decide), if_neg (by decide), if_neg (by decide)]
    show _ ↔ (v < -2147483648 ∨ ¬ v ≤ 2147483647)
    refine ⟨fun q => absurd q (by decide), fun q => ?_⟩
    rw [Int32.lt_iff_toInt_lt, Int32.le_iff_toInt_le] at q
    have e0 : (-2147483648 : Int32).toInt = -2147483648 := rfl
    have e1 : (2147483647 : Int32).toInt = 2147483647 := rfl
    have h1 := Int32.le_toInt v
    have h2 := Int32.toInt_lt v
    omega
  | 6, _ => rw [if_neg (by decide), if_neg (by decide), if_neg (by decide), if_neg (by decide), if_pos (by decide)]; exact rng_iff 1 50 v
  | 7, _ => rw [if_neg (by decide), if_neg (by decide), if_neg (by decide), if_neg (by decide), if_neg (by decide), if_pos (by decide)]; exact rng_iff 0 3 v
  | 8, _ => rw [if_neg (by decide), if_neg (by decide), if_neg (by decide), if_neg (by decide), if_neg (by decide), if_neg (by decide), if_pos (by decide)]; exact rng_iff 0 254 v
  | 9, _ => rw [if_neg (by decide), if_neg (by decide), if_neg (by decide), if_neg (by decide), if_neg (by decide), if_neg (by decide), if_neg (by decide), if_pos (by decide)]; exact rng_iff 0 31 v
  | n + 10, h => exact absurd h (by omega)
theorem rate_iff (x : Int32) : lRate x = 0 ↔ (x < 1 ∨ 1000 < x) := by
  unfold lRate
  by_cases h1 : x < 1
  · simp [h1]
  · by_cases h2 : 1000 < x
    · simp [h1, h2]
    · simp [h1, h2]
theorem r_of {x : Int32} (h : ¬ lIsR x = 0) : ∃ r, r < 5 ∧ x = nI r := ⟨_, lIsR_lt h, lIsR_nI h⟩
abbrev cRm (fr lo : Nat) : Prop := fr ≤ 9 ∧ lo ≤ 200
def aV (l : Launch) (G : zG) (V : zV) (G' : zG) (U : zU) (N : zR) (yJ : MethodName) (bJ : ByteArray) (nJ : Nat) (hs : List (Nat × Nat × Nat × Nat)) (AJ : List Value) (Bs : State → Prop) (yM : MethodName) (bM : ByteArray) (nM : Nat) (AM : List Value) : Prop :=
  ∃ (k : Int32) (fr lo fr' lo' : Nat) (σ' : zS) (N' : zR), wF l yJ bJ nJ (some .int) hs fr lo AJ Bs (zA G) (some (.int k)) (zP G (eC V σ'.1 σ'.2.1 σ'.2.2)) ∧ cRm fr lo ∧ zF l yM bM nM none fr' lo' G' AM (eR U N) none (eR U N') ∧ cRm fr' lo' ∧ N' 43 0 = k ∧ RL σ' N'
/-- a call of both that answers with an int; P says what is known of the two answers -/
def aI (l : Launch) (G : zG) (V : zV) (G' : zG) (U : zU) (σ : zS) (N : zR) (P : Int32 → Int32 → Prop) (ret : FieldType) (yL : MethodName) (bL : ByteArray) (nL : Nat) (AL : List Value) (yM : MethodName) (bM : ByteArray) (nM : Nat) (AM : List Value) : Prop :=
  ∃ (k k' : Int32) (fr lo fr' lo' : Nat) (σ' : zS) (N' : zR), zF l yL bL nL (some ret) fr lo G AL (eC V σ.1 σ.2.1 σ.2.2) (some (.int k)) (eC V σ'.1 σ'.2.1 σ'.2.2) ∧ cRm fr lo ∧ zF l yM bM nM (some ret) fr' lo' G' AM (eR U N) (some (.int k')) (eR U N') ∧ cRm fr' lo' ∧ RL σ' N' ∧ P k k'
section AG
variable {l : Launch} {G G' : zG} {V : zV} {U : zU} {σ : zS} {N : zR}
theorem g_set (hl : ∀ e, l.admits e → e.platform.stackTraces = false) (w : wC G V) (u : wR G' U) (h : RL σ N) (x y v : Int32) : aV l G V G' U N y_J_set b_J_set 5 hs_set [.ref (V.1 0 0 0), .int x, .int y, .int v] (wBt G V σ.1 σ.2.1 σ.2.2) y_M_set b_M_set 4 [.ref (U.1 43), .int x, .int y, .int v] := by
  by_cases hb : lIsR x = 0 ∨ y < 0 ∨ 10 ≤ y
  · have h' : mIsR x = 0 ∨ y < 0 ∨ ¬ y ≤ 9 := by
      rcases hb with h | h | h
      · exact Or.inl h
      · exact Or.inr (Or.inl h)
      · refine Or.inr (Or.inr ?_)
        rw [Int32.le_iff_toInt_le] at h ⊢
        have e0 : (10 : Int32).toInt = 10 := rfl
        have e1 : (9 : Int32).toInt = 9 := rfl
        omega
    exact ⟨1, _, _, _, _, σ, _, w_set_1 hl w σ.1 _ _ x y v hb, by decide, m_set_1 u N x y v h', by decide, thr_u2 _ _, h.t 1⟩
  · have h1 : ¬ lIsR x = 0 := fun q => hb (Or.inl q)
    have h2 : ¬ y < 0 := fun q => hb (Or.inr (Or.inl q))
    have h3 : ¬ 10 ≤ y := fun q => hb (Or.inr (Or.inr q))
    obtain ⟨wh, hw, rfl⟩ := nI_bel 10 (by decide) h2 (i_nle.mp h3)
    obtain ⟨r, hr, rfl⟩ := r_of h1
    have h4 : nI wh ≤ 9 := nI_le (a := wh) (b := 9) (by omega) (by decide)
    by_cases hv : v < leF wh ∨ ¬ v ≤ moF wh
    · exact ⟨2, _, _, _, _, σ, _, w_set_2 hl w σ.1 _ _ r hr wh hw v hv, by decide, m_set_2 u N (nI r) (nI wh) v (mIsR_ne hr) h2 h4 ((fits_iff wh hw v).mpr hv), by decide, thr_u2 _ _, h.t 2⟩
    · have hf : ¬ mFits (nI wh) v = 0 := fun q => hv ((fits_iff wh hw v).mp q)
      refine ⟨0, _, _, _, _, (up σ.1 3 r 0 wh v, σ.2.1, σ.2.2), _, w_set_0 w σ.1 _ _ r hr wh hw v (fun q => hv (Or.inl q)) (Classical.not_not.mp (fun q => hv (Or.inr q))), by decide, m_set_0 u N r hr wh hw v hf, by decide, ?_, rl_set h hw hr hf⟩
      rw [u2_ne (by decide), thr_u2]
theorem g_start (hl : ∀ e, l.admits e → e.platform.stackTraces = false) (w : wC G V) (u : wR G' U) (h : RL σ N) (x : Int32) : aV l G V G' U N y_J_start b_J_start 3 hs_start [.ref (V.1 0 0 0), .int x] (wBs G V σ.1 σ.2.1 σ.2.2) y_M_start b_M_start 2 [.ref (U.1 43), .int x] := by
  by_cases hb : lIsR x = 0
  · exact ⟨1, _, _, _, _, σ, _, w_start_1 hl w σ.1 _ _ x hb, by decide, m_start_1 u N x hb, by decide, thr_u2 _ _, h.t 1⟩
  · obtain ⟨r, hr, rfl⟩ := r_of hb
    by_cases h0 : σ.1 2 r 0 4 = 0
    · have h3 : N 3 r = 0 := (h.2.2.1 r hr).mp h0
      have hq := rl_start h hr
      by_cases hw : mWeighed (mNk N r) r = 255
      · have e : mStart N r = mAct (mNk N r) r := by unfold mStart; rw [if_pos hw]
        rw [e] at hq
        exact ⟨0, _, _, _, _, wkS σ r, _, w_start_0 w σ.1 _ _ r hr h.1.1 h0, by decide, m_start_a u N r hr h3 h.2.1.1 hw, by decide, hq.2, hq.1⟩
      · have e : mStart N r = mBack (mNk N r) r := by unfold mStart; rw [if_neg hw]
        rw [e] at hq
        exact ⟨0, _, _, _, _, wkS σ r, _, w_start_0 w σ.1 _ _ r hr h.1.1 h0, by decide, m_start_0 u N r hr h3 hw, by decide, hq.2, hq.1⟩
    · exact ⟨2, _, _, _, _, σ, _, w_start_2 hl w σ.1 _ _ r hr h0, by decide, m_start_2 u N r hr (fun z => h0 ((h.2.2.1 r hr).mpr z)), by decide, thr_u2 _ _, h.t 2⟩
theorem g_stop (hl : ∀ e, l.admits e → e.platform.stackTraces = false) (w : wC G V) (u : wR G' U) (h : RL σ N) (x b : Int32) : aV l G V G' U N y_J_stop b_J_stop 4 hs_stop [.ref (V.1 0 0 0), .int x, .int b] (wBs G V σ.1 σ.2.1 σ.2.2) y_M_stop b_M_stop 4 [.ref (U.1 43), .int x, .int b] := by
  by_cases hb : lIsR x = 0
  · exact ⟨1, _, _, _, _, σ, _, w_stop_1 hl w σ.1 _ _ x b hb, by decide, m_stop_1 u N x b hb, by decide, thr_u2 _ _, h.t 1⟩
  · obtain ⟨r, hr, rfl⟩ := r_of hb
    by_cases h0 : σ.1 2 r 0 4 = 0
    · exact ⟨2, _, _, _, _, σ, _, w_stop_2 hl w σ.1 _ _ r hr b h0, by decide, m_stop_2 u N r hr b ((h.2.2.1 r hr).mp h0), by decide, thr_u2 _ _, h.t 2⟩
    · have hq := rl_stop (b := b) h hr
      exact ⟨0, _, _, _, _, stS σ r b, _, w_stop_0 w σ.1 _ _ r hr h.1.1 h0 b, by decide, m_stop_0 u N r hr b (fun z => h0 ((h.2.2.1 r hr).mpr z)) h.2.1.1, by decide, hq.2, hq.1⟩
theorem g_ask (hl : ∀ e, l.admits e → e.platform.stackTraces = false) (w : wC G V) (u : wR G' U) (h : RL σ N) (x : Int32) : aV l G V G' U N y_J_ask b_J_ask 3 hs_ask [.ref (V.1 0 0 0), .int x] (wBs G V σ.1 σ.2.1 σ.2.2) y_M_ask b_M_ask 2 [.ref (U.1 43), .int x] := by
  by_cases hb : lIsR x = 0
  · exact ⟨1, _, _, _, _, σ, _, w_ask_1 hl w σ.1 _ _ x hb, by decide, m_ask_1 u N x hb, by decide, thr_u2 _ _, h.t 1⟩
  · obtain ⟨r, hr, rfl⟩ := r_of hb
    by_cases h0 : σ.1 2 r 0 4 = 0
    · exact ⟨2, _, _, _, _, σ, _, w_ask_2 hl w σ.1 _ _ r hr h0, by decide, m_ask_2 u N r hr ((h.2.2.1 r hr).mp h0), by decide, thr_u2 _ _, h.t 2⟩
    · have hq := rl_ask h hr
      exact ⟨0, _, _, _, _, seS σ r 3 r 15, _, w_ask_0 w σ.1 _ _ r hr h.1.1 h0, by decide, m_ask_0 u N r hr (fun z => h0 ((h.2.2.1 r hr).mpr z)) h.2.1.1, by decide, hq.2, hq.1⟩
theorem g_open (hl : ∀ e, l.admits e → e.platform.stackTraces = false) (w : wC G V) (u : wR G' U) (h : RL σ N) (x y tx rx m : Int32) : aV l G V G' U N y_J_open b_J_open 7 hs_open [.ref (V.1 0 0 0), .int x, .int y, .int tx, .int rx, .int m] (wBs G V σ.1 σ.2.1 σ.2.2) y_M_open b_M_open 8 [.ref (U.1 43), .int x, .int y, .int tx, .int rx, .int m] := by
  by_cases hb : lIsR x = 0 ∨ lIsR y = 0 ∨ y = x
  · exact ⟨1, _, _, _, _, σ, _, w_open_1 hl w σ.1 _ _ x y tx rx m hb, by decide, m_open_1 u N x y tx rx m (by rcases hb with h | h | h; exact Or.inl h; exact Or.inr (Or.inl h); exact Or.inr (Or.inr h.symm)), by decide, thr_u2 _ _, h.t 1⟩
  · obtain ⟨r, hr, rfl⟩ := r_of (fun q => hb (Or.inl q))
    obtain ⟨s, hs, rfl⟩ := r_of (x := y) (fun q => hb (Or.inr (Or.inl q)))
    have hrs : ¬ s = r := fun q => hb (Or.inr (Or.inr (by rw [q])))
    by_cases h0 : σ.1 2 r 0 4 = 0
    · exact ⟨2, _, _, _, _, σ, _, w_open_2 hl w σ.1 _ _ r hr s hs tx rx m hrs h0, by decide, m_open_2 u N r hr s hs tx rx m (fun q => hrs q.symm) ((h.2.2.1 r hr).mp h0), by decide, thr_u2 _ _, h.t 2⟩
    · have h3 : ¬ N 3 r = 0 := fun z => h0 ((h.2.2.1 r hr).mpr z)
      by_cases h6 : lRate tx = 0 ∨ lRate rx = 0 ∨ m < 1 ∨ ¬ m ≤ 255
      · refine ⟨3, _, _, _, _, σ, _, w_open_3 hl w σ.1 _ _ r hr s hs tx rx m hrs h0 h6, by decide, m_open_3 u N r hr s hs tx rx m (fun q => hrs q.symm) h3 ?_, by decide, thr_u2 _ _, h.t 3⟩
        rcases h6 with q | q | q | q
        · rcases (rate_iff tx).mp q with z | z
          · exact Or.inl z
          · exact Or.inr (Or.inl z)
        · rcases (rate_iff rx).mp q with z | z
          · exact Or.inr (Or.inr (Or.inl z))
          · exact Or.inr (Or.inr (Or.inr (Or.inl z)))
        · exact Or.inr (Or.inr (Or.inr (Or.inr (Or.inl q))))
        · exact Or.inr (Or.inr (Or.inr (Or.inr (Or.inr (i_nle.mp q)))))
      · have t1 : ¬ lRate tx = 0 := fun q => h6 (Or.inl q)
        have t2 : ¬ lRate rx = 0 := fun q => h6 (Or.inr (Or.inl q))
        have t3 : ¬ m < 1 := fun q => h6 (Or.inr (Or.inr (Or.inl q)))
        have t4 : m ≤ 255 := Classical.not_not.mp (fun q => h6 (Or.inr (Or.inr (Or.inr q))))
        have hq := rl_open (tx := tx) (rx := rx) (m := m) h hr hs
        exact ⟨0, _, _, _, _, (rw4 σ.1 5 r s (sBegin (σ.1 5 r s) tx rx m), σ.2.1, σ.2.2), _, w_open_0 w σ.1 _ _ r hr s hs hrs h0 tx rx m t1 t2 t3 t4, by decide, m_open_0 u N r hr s hs tx rx m (fun q => hrs q.symm) h3 (fun z => t1 ((rate_iff tx).mpr (Or.inl z))) (fun z => t1 ((rate_iff tx).mpr (Or.inr z))) (fun z => t2 ((rate_iff rx).mpr (Or.inl z))) (fun z => t2 ((rate_iff rx).mpr (Or.inr z))) t3 (i_nlt.mpr t4), by decide, hq.2, hq.1⟩
theorem g_change (hl : ∀ e, l.admits e → e.platform.stackTraces = false) (w : wC G V) (u : wR G' U) (h : RL σ N) (x y tx rx : Int32) : aV l G V G' U N y_J_change b_J_change 6 hs_change [.ref (V.1 0 0 0), .int x, .int y, .int tx, .int rx] (wBs G V σ.1 σ.2.1 σ.2.2) y_M_change b_M_change 9 [.ref (U.1 43), .int x, .int y, .int tx, .int rx] := by
  by_cases hb : lIsR x = 0 ∨ lIsR y = 0
  · exact ⟨1, _, _, _, _, σ, _, w_change_1 hl w σ.1 _ _ x y tx rx hb, by decide, m_change_1 u N x y tx rx hb, by decide, thr_u2 _ _, h.t 1⟩
  · obtain ⟨r, hr, rfl⟩ := r_of (fun q => hb (Or.inl q))
    obtain ⟨s, hs, rfl⟩ := r_of (x := y) (fun q => hb (Or.inr q))
    have e2 := h.2.2.2.1 r s hr hs
    by_cases h2 : σ.1 5 r s 2 = 0
    · exact ⟨2, _, _, _, _, σ, _, w_change_2 hl w σ.1 _ _ r hr s hs tx rx (Or.inl h2), by decide, m_change_2 u N r hr s hs tx rx (e2.mp h2), by decide, thr_u2 _ _, h.t 2⟩
    · have n2 : ¬ N 11 (5 * r + s) = 0 := fun z => h2 (e2.mpr z)
      have e3 := h.2.2.2.2.1 r s hr hs n2
      by_cases h3 : σ.1 5 r s 3 = 0
      · exact ⟨2, _, _, _, _, σ, _, w_change_2 hl w σ.1 _ _ r hr s hs tx rx (Or.inr h3), by decide, m_change_2b u N r hr s hs tx rx n2 (e3.mp h3), by decide, thr_u2 _ _, h.t 2⟩
      · have n3 : ¬ N 12 (5 * r + s) = 0 := fun z => h3 (e3.mpr z)
        by_cases hz : tx = 0 ∧ rx = 0
        · obtain ⟨rfl, rfl⟩ := hz
          have hq := rl_shut h hr hs n2
          have c := w_change_0 (l := l) w σ.1 σ.2.1 σ.2.2 r hr s hs h2 h3 0 0 (Or.inl ⟨rfl, rfl⟩)
          have e : chM σ.1 r s 0 0 = rw4 σ.1 5 r s (sShut (σ.1 5 r s)) := by unfold chM; rw [if_pos ⟨rfl, rfl⟩]
          rw [e] at c
          exact ⟨0, _, _, _, _, (rw4 σ.1 5 r s (sShut (σ.1 5 r s)), σ.2.1, σ.2.2), _, c, by decide, m_change_s u N r hr s hs n2 n3, by decide, hq.2, hq.1⟩
        · by_cases h4 : lRate tx = 0 ∨ lRate rx = 0
          · refine ⟨3, _, _, _, _, σ, _, w_change_3 hl w σ.1 _ _ r hr s hs tx rx h2 h3 hz h4, by decide, m_change_3 u N r hr s hs tx rx n2 n3 hz ?_, by decide, thr_u2 _ _, h.t 3⟩
            rcases h4 with q | q
            · rcases (rate_iff tx).mp q with z | z
              · exact Or.inl z
              · exact Or.inr (Or.inl z)
            · rcases (rate_iff rx).mp q with z | z
              · exact Or.inr (Or.inr (Or.inl z))
              · exact Or.inr (Or.inr (Or.inr z))
          · have t1 : ¬ lRate tx = 0 := fun q => h4 (Or.inl q)
            have t2 : ¬ lRate rx = 0 := fun q => h4 (Or.inr q)
            have hq := rl_want (tx := tx) (rx := rx) h hr hs n2
            have c := w_change_0 (l := l) w σ.1 σ.2.1 σ.2.2 r hr s hs h2 h3 tx rx (Or.inr ⟨t1, t2⟩)
            have e : chM σ.1 r s tx rx = rw4 σ.1 5 r s (sWant (σ.1 5 r s) tx rx) := by unfold chM; rw [if_neg hz]
            rw [e] at c
            have a1 : ¬ tx < 1 := fun z => t1 ((rate_iff tx).mpr (Or.inl z))
            have a2 : ¬ 1000 < tx := fun z => t1 ((rate_iff tx).mpr (Or.inr z))
            have a3 : ¬ rx < 1 := fun z => t2 ((rate_iff rx).mpr (Or.inl z))
            have a4 : ¬ 1000 < rx := fun z => t2 ((rate_iff rx).mpr (Or.inr z))
            by_cases hu : N 12 (5 * r + s) = 3
            · exact ⟨0, _, _, _, _, (rw4 σ.1 5 r s (sWant (σ.1 5 r s) tx rx), σ.2.1, σ.2.2), _, c, by decide, m_change_u u N r hr s hs tx rx n2 n3 a1 a2 a3 a4 hu, by decide, hq.2, hq.1⟩
            · exact ⟨0, _, _, _, _, (rw4 σ.1 5 r s (sWant (σ.1 5 r s) tx rx), σ.2.1, σ.2.2), _, c, by decide, m_change_d u N r hr s hs tx rx n2 n3 a1 a2 a3 a4 hu, by decide, hq.2, hq.1⟩
theorem g_type (w : wC G V) (u : wR G' U) (h : RL σ N) (word : Int64) (x : Int32) : aI l G V G' U σ N (fun a b => a = b) .boolean y_L_type b_L_type 5 [.ref (V.1 0 0 0), .long word, .int x] y_M_type b_M_type 5 [.ref (U.1 43), .long word, .int x] := by
  have c := c_L_type (l := l) w σ.1 σ.2.1 σ.2.2 word x
  have q5 : σ.1 9 62 0 1 = N 43 42 := h.2.2.2.2.2.2
  by_cases ho : x < 1 ∨ 8 < x ∨ ¬ N 43 42 + x ≤ 40
  · have e : tyOk σ.1 x = 0 := by
      unfold tyOk
      rw [q5]
      by_cases h1 : x < 1
      · rw [if_pos h1]
      · by_cases h2 : 8 < x
        · rw [if_neg h1, if_pos h2]
        · rw [if_neg h1, if_neg h2, if_neg ((ho.resolve_left h1).resolve_left h2)]
    have em : tyM σ.1 word x = σ.1 := by unfold tyM; rw [if_pos e]
    rw [e, em] at c
    exact ⟨0, 0, _, _, _, _, σ, _, c, by decide, m_type_no u N word x ho, by decide, h.t 0, rfl⟩
  · have h1 : ¬ x < 1 := fun q => ho (Or.inl q)
    have h2 : ¬ 8 < x := fun q => ho (Or.inr (Or.inl q))
    have h3 : N 43 42 + x ≤ 40 := Classical.not_not.mp (fun q => ho (Or.inr (Or.inr q)))
    obtain ⟨n, hn0, hn8, rfl⟩ := tyOk_n h1 h2
    obtain ⟨j, hj, ej⟩ := h.2.1.2.2.2.2.2.2.2
    have hjn : j + n ≤ 40 := by
      rw [ej, nI_add] at h3
      rcases Nat.lt_or_ge 40 (j + n) with q | q
      · exact absurd h3 (nI_ge (a := 40) (b := j + n) q (by omega))
      · exact q
    have e : tyOk σ.1 (nI n) = 1 := by
      unfold tyOk
      rw [q5, if_neg h1, if_neg h2, if_pos h3]
    have em : tyM σ.1 word (nI n) = tyL word n σ.1 := by unfold tyM; rw [e, if_neg (by decide), nI_clamp (by omega)]
    rw [e, em] at c
    exact ⟨1, 1, _, _, _, _, (tyL word n σ.1, σ.2.1, σ.2.2), _, c, by decide, m_type_0 u N word n j hn0 hn8 ej hjn, by decide, rl_type h ej hjn, rfl⟩
theorem g_router (w : wC G V) (u : wR G' U) (h : RL σ N) (x y : Int32) : aI l G V G' U σ N (fun _ _ => True) .int y_L_router b_L_router 3 [.ref (V.1 0 0 0), .int x, .int y] y_M_router b_M_router 4 [.ref (U.1 43), .int x, .int y] := by
  have c := c_L_router (l := l) w σ.1 σ.2.1 σ.2.2 x y
  by_cases hb : mIsR x = 0 ∨ y < 0 ∨ ¬ y ≤ 7
  · exact ⟨_, _, _, _, _, _, σ, _, c, by decide, m_router_no u N x y hb, by decide, h.t 0, trivial⟩
  · obtain ⟨r, hr, rfl⟩ := r_of (x := x) (fun q => hb (Or.inl q))
    have h1 : ¬ y < 0 := fun q => hb (Or.inr (Or.inl q))
    have h2 : y ≤ 7 := Classical.not_not.mp (fun q => hb (Or.inr (Or.inr q)))
    by_cases h3 : N 3 r = 0
    · exact ⟨_, _, _, _, _, _, σ, _, c, by decide, m_router_off u N r hr y h3 h1 h2, by decide, h.t 0, trivial⟩
    · exact ⟨_, _, _, _, _, _, σ, _, c, by decide, m_router_on u N r hr y h3 h1 h2, by decide, h.t 0, trivial⟩
theorem g_session (w : wC G V) (u : wR G' U) (h : RL σ N) (x y z : Int32) : aI l G V G' U σ N (fun _ _ => True) .int y_L_session b_L_session 5 [.ref (V.1 0 0 0), .int x, .int y, .int z] y_M_session b_M_session 5 [.ref (U.1 43), .int x, .int y, .int z] := by
  have c := c_L_session (l := l) w σ.1 σ.2.1 σ.2.2 x y z
  by_cases hb : mIsR x = 0 ∨ mIsR y = 0
  · exact ⟨_, _, _, _, _, _, σ, _, c, by decide, m_session_no u N x y z hb, by decide, h.t 0, trivial⟩
  · obtain ⟨r, hr, rfl⟩ := r_of (x := x) (fun q => hb (Or.inl q))
    obtain ⟨s, hs, rfl⟩ := r_of (x := y) (fun q => hb (Or.inr q))
    by_cases h3 : N 11 (5 * r + s) = 0
    · exact ⟨_, _, _, _, _, _, σ, _, c, by decide, m_session_off u N r hr s hs z h3, by decide, h.t 0, trivial⟩
    · exact ⟨_, _, _, _, _, _, σ, _, c, by decide, m_session_on u N r hr s hs z h3, by decide, h.t 0, trivial⟩
theorem g_port (w : wC G V) (u : wR G' U) (h : RL σ N) (x : Int32) : aI l G V G' U σ N (fun _ _ => True) .int y_L_port b_L_port 2 [.ref (V.1 0 0 0), .int x] y_M_port b_M_port 2 [.ref (U.1 43), .int x] := by
  have c := c_L_port (l := l) w σ.1 σ.2.1 σ.2.2 x
  by_cases hb : x < 0 ∨ ¬ x ≤ 14
  · exact ⟨_, _, _, _, _, _, σ, _, c, by decide, m_port_no u N x hb, by decide, h.t 0, trivial⟩
  · have h0 : ¬ x < 0 := fun q => hb (Or.inl q)
    have h8 : x ≤ 14 := Classical.not_not.mp (fun q => hb (Or.inr q))
    obtain ⟨j, hj, rfl⟩ := nI_bel 15 (by decide) h0 (by rw [Int32.le_iff_toInt_le] at h8; rw [Int32.lt_iff_toInt_lt]; have e0 : (14 : Int32).toInt = 14 := rfl; have e1 : (nI 15).toInt = 15 := rfl; omega)
    exact ⟨_, _, _, _, _, _, σ, _, c, by decide, m_port_0 u N j hj, by decide, h.t 0, trivial⟩
theorem g_flying (w : wC G V) (u : wR G' U) (h : RL σ N) : aI l G V G' U σ N (fun _ _ => True) .int y_L_flying b_L_flying 1 [.ref (V.1 0 0 0)] y_M_flying b_M_flying 1 [.ref (U.1 43)] :=
  ⟨_, _, _, _, _, _, σ, _, c_L_flying w σ.1 _ _, by decide, m_flying u N, by decide, h.t 0, trivial⟩
theorem g_frame (w : wC G V) (u : wR G' U) (h : RL σ N) (x y : Int32) : aI l G V G' U σ N (fun _ _ => True) .int y_L_frame b_L_frame 4 [.ref (V.1 0 0 0), .int x, .int y] y_M_frame b_M_frame 3 [.ref (U.1 43), .int x, .int y] :=
  ⟨_, _, _, _, _, _, σ, _, c_L_frame w σ.1 σ.2.1 σ.2.2 h.1.1.2.2.1 x y, by decide, m_frame u N x y h.2.1.1 h.2.1.2.2.1, by decide, h.t 0, trivial⟩
/-- tick: it throws, or it moves both clocks -/
theorem g_tick_1 (hl : ∀ e, l.admits e → e.platform.stackTraces = false) (w : wC G V) (u : wR G' U) (h : RL σ N) (x : Int32) (o : Nat) (hb : x < 1 ∨ ¬ x ≤ 400) : ∃ (fr lo fr' lo' : Nat) (N' : zR), wF l y_J_tick b_J_tick 4 (some .int) hs_tick fr lo [.ref (V.1 0 0 0), .int x, .ref o] (wBs G V σ.1 σ.2.1 σ.2.2) (zA G) (some (.int 1)) (zP G (eC V σ.1 σ.2.1 σ.2.2)) ∧ cRm fr lo ∧ zF l y_M_tick b_M_tick 4 (some .int) fr' lo' G' [.ref (U.1 43), .int x] (eR U N) (some (.int 0)) (eR U N') ∧ cRm fr' lo' ∧ N' 43 0 = 1 ∧ RL σ N' :=
  ⟨_, _, _, _, _, w_tick_1 hl w σ.1 _ _ x o hb, by decide, m_tick_1 u N x hb, by decide, thr_u2 _ _, h.t 1⟩
theorem g_tick_0 (w : wC G V) (u : wR G' U) (h : RL σ N) (n : Nat) (hn1 : 1 ≤ n) (hn4 : n ≤ 400) (o : Nat) (cL : ClassId) (fo : Nat → Int64) (ho : o ∉ G.2.2.2) : ∃ (fr lo fr' lo' : Nat) (b : Int32) (σ' : zS) (N' : zR), wF l y_J_tick b_J_tick 4 (some .int) hs_tick fr lo [.ref (V.1 0 0 0), .int (nI n), .ref o] (fun S => wBs G V σ.1 σ.2.1 σ.2.2 S ∧ oP o cL fo S.heap ∧ ArrOfT S cL .long) (tA G o) (some (.int 0)) (fun H => zP G (eC V σ'.1 σ'.2.1 σ'.2.2) H ∧ oP o cL (vp_updL fo 0 b.toInt64) H) ∧ cRm fr lo ∧ zF l y_M_tick b_M_tick 4 (some .int) fr' lo' G' [.ref (U.1 43), .int (nI n)] (eR U N) (some (.int b)) (eR U N') ∧ cRm fr' lo' ∧ N' 43 0 = 0 ∧ RL σ' N' := by
  obtain ⟨q1, q2, q3⟩ := rl_tick (n := n) h
  have c := w_tick_0 (l := l) w σ.1 σ.2.1 σ.2.2 n hn1 hn4 h.1.1 o cL fo ho
  rw [q3] at c
  exact ⟨_, _, _, _, _, tiL n σ, _, c, by decide, m_tick u N n hn1 hn4 (h.t 0).2.1, by decide, q2, q1⟩
/-- arrive -/
theorem g_arrive_t (hl : ∀ e, l.admits e → e.platform.stackTraces = false) (w : wC G V) (u : wR G' U) (h : RL σ N) (x k s hp ad : Int32) (o : Nat) (hb : lIsR x = 0 ∨ ((¬ k = 1 ∧ ¬ k = 2) ∨ s < 0 ∨ 15 ≤ s ∨ hp < 0 ∨ ¬ hp ≤ 255) ∨ σ.1 2 x.toNatClampNeg 0 4 = 0) : ∃ (k0 : Int32) (fr lo fr' lo' : Nat) (N' : zR), wF l y_J_arrive b_J_arrive 8 (some .int) hs_arrive fr lo [.ref (V.1 0 0 0), .int x, .int k, .int s, .int hp, .int ad, .ref o] (wBs G V σ.1 σ.2.1 σ.2.2) (zA G) (some (.int k0)) (zP G (eC V σ.1 σ.2.1 σ.2.2)) ∧ cRm fr lo ∧ zF l y_M_arrive b_M_arrive 9 (some .boolean) fr' lo' G' [.ref (U.1 43), .int x, .int k, .int s, .int hp, .int ad] (eR U N) (some (.int 0)) (eR U N') ∧ cRm fr' lo' ∧ N' 43 0 = k0 ∧ ¬ k0 = 0 ∧ RL σ N' := by
  by_cases h1 : lIsR x = 0
  · exact ⟨1, _, _, _, _, _, w_arrive_1 hl w σ.1 _ _ x k s hp ad o h1, by decide, m_arrive_1 u N x k s hp ad h1, by decide, thr_u2 _ _, by decide, h.t 1⟩
  · have hx := lIsR_nI h1
    have hr := lIsR_lt h1
    generalize x.toNatClampNeg = r at hx hr hb
    subst hx
    by_cases h2 : (¬ k = 1 ∧ ¬ k = 2) ∨ s < 0 ∨ 15 ≤ s ∨ hp < 0 ∨ ¬ hp ≤ 255
    · have h2' : (¬ k = 1 ∧ ¬ k = 2) ∨ s < 0 ∨ 14 < s ∨ hp < 0 ∨ 255 < hp := by
        rcases h2 with h2 | h2 | h2 | h2 | h2
        · exact Or.inl h2
        · exact Or.inr (Or.inl h2)
        · refine Or.inr (Or.inr (Or.inl ?_))
          rw [Int32.le_iff_toInt_le] at h2
          rw [Int32.lt_iff_toInt_lt]
          have e0 : (15 : Int32).toInt = 15 := rfl
          have e1 : (14 : Int32).toInt = 14 := rfl
          omega
        · exact Or.inr (Or.inr (Or.inr (Or.inl h2)))
        · exact Or.inr (Or.inr (Or.inr (Or.inr (i_nle.mp h2))))
      exact ⟨2, _, _, _, _, _, w_arrive_2 hl w σ.1 _ _ r hr k s hp ad o h2, by decide, m_arrive_2 u N r hr k s hp ad h2', by decide, thr_u2 _ _, by decide, h.t 2⟩
    · have h3 : σ.1 2 r 0 4 = 0 := (hb.resolve_left h1).resolve_left h2
      have g1 : k = 1 ∨ k = 2 := by
        by_cases q : k = 1
        · exact Or.inl q
        · by_cases q2 : k = 2
          · exact Or.inr q2
          · exact absurd (Or.inl ⟨q, q2⟩) h2
      have g2 : ¬ s < 0 := fun q => h2 (Or.inr (Or.inl q))
      have g3 : ¬ 15 ≤ s := fun q => h2 (Or.inr (Or.inr (Or.inl q)))
      have g4 : ¬ hp < 0 := fun q => h2 (Or.inr (Or.inr (Or.inr (Or.inl q))))
      have g5 : hp ≤ 255 := Classical.not_not.mp (fun q => h2 (Or.inr (Or.inr (Or.inr (Or.inr q)))))
      have g3' : ¬ 14 < s := fun q => g3 (by
        rw [Int32.lt_iff_toInt_lt] at q
        rw [Int32.le_iff_toInt_le]
        have e0 : (15 : Int32).toInt = 15 := rfl
        have e1 : (14 : Int32).toInt = 14 := rfl
        omega)
      exact ⟨3, _, _, _, _, _, w_arrive_3 hl w σ.1 _ _ r hr k s hp ad o g1 g2 g3 g4 g5 h3, by decide, m_arrive_3 u N r hr k s hp ad g1 g2 g3' g4 (i_nlt.mpr g5) ((h.2.2.1 r hr).mp h3), by decide, thr_u2 _ _, by decide, h.t 3⟩
theorem g_arrive_0 (w : wC G V) (u : wR G' U) (h : RL σ N) (x k s hp ad : Int32) (o : Nat) (cL : ClassId) (fo : Nat → Int64) (ho : o ∉ G.2.2.2) (h1 : ¬ lIsR x = 0) (h2 : ¬ ((¬ k = 1 ∧ ¬ k = 2) ∨ s < 0 ∨ 15 ≤ s ∨ hp < 0 ∨ ¬ hp ≤ 255)) (h3 : ¬ σ.1 2 x.toNatClampNeg 0 4 = 0) : ∃ (fr lo fr' lo' : Nat) (v : Int64) (b : Int32) (σ' : zS) (N' : zR), wF l y_J_arrive b_J_arrive 8 (some .int) hs_arrive fr lo [.ref (V.1 0 0 0), .int x, .int k, .int s, .int hp, .int ad, .ref o] (fun S => wBs G V σ.1 σ.2.1 σ.2.2 S ∧ oP o cL fo S.heap ∧ ArrOfT S cL .long) (tA G o) (some (.int 0)) (fun H => zP G (eC V σ'.1 σ'.2.1 σ'.2.2) H ∧ oP o cL (vp_updL fo 0 v) H) ∧ cRm fr lo ∧ zF l y_M_arrive b_M_arrive 9 (some .boolean) fr' lo' G' [.ref (U.1 43), .int x, .int k, .int s, .int hp, .int ad] (eR U N) (some (.int b)) (eR U N') ∧ cRm fr' lo' ∧ N' 43 0 = 0 ∧ RL σ' N' := by
  have hx := lIsR_nI h1
  have hr := lIsR_lt h1
  generalize x.toNatClampNeg = r at hx hr h3
  subst hx
  have g1 : k = 1 ∨ k = 2 := by
    by_cases q : k = 1
    · exact Or.inl q
    · by_cases q2 : k = 2
      · exact Or.inr q2
      · exact absurd (Or.inl ⟨q, q2⟩) h2
  have g2 : ¬ s < 0 := fun q => h2 (Or.inr (Or.inl q))
  have g3 : ¬ 15 ≤ s := fun q => h2 (Or.inr (Or.inr (Or.inl q)))
  have g4 : ¬ hp < 0 := fun q => h2 (Or.inr (Or.inr (Or.inr (Or.inl q))))
  have g5 : hp ≤ 255 := Classical.not_not.mp (fun q => h2 (Or.inr (Or.inr (Or.inr (Or.inr q)))))
  have g3' : ¬ 14 < s := fun q => g3 (by
    rw [Int32.lt_iff_toInt_lt] at q
    rw [Int32.le_iff_toInt_le]
    have e0 : (15 : Int32).toInt = 15 := rfl
    have e1 : (14 : Int32).toInt = 14 := rfl
    omega)
  have n3 : ¬ N 3 r = 0 := fun z => h3 ((h.2.2.1 r hr).mpr z)
  have n3' : ¬ mArv N 3 r = 0 := by rw [arv_o (by decide) (by decide)]; exact n3
  have hA := iv_arv h.2.1
  obtain ⟨j, hj, ej⟩ := h.2.1.2.2.2.2.2.2.2
  have c := w_arrive_0 (l := l) w σ.1 σ.2.1 σ.2.2 r hr h.1.1 h3 k s hp ad g1 g2 g3 g4 g5 o cL fo ho
  rcases g1 with rfl | rfl
  · have q := rl_arr (k := 1) (s := s) (hp := hp) (ad := ad) h h3 (go_adS (hops := hp) (by_ := ad) hA hr n3')
    exact ⟨_, _, _, _, _, _, arS σ r 1 s hp ad, _, c, by decide, m_arrive_a u N r hr s hp ad g2 g3' g4 (i_nlt.mpr g5) n3 j ej hA.1 (hA.2.2.2.2.2.1.le (by decide)), by decide, q.2, q.1⟩
  · have q := rl_arr (k := 2) (s := s) (hp := hp) (ad := ad) h h3 (go_pkS (hops := hp) (st := s) hA hr)
    exact ⟨_, _, _, _, _, _, arS σ r 2 s hp ad, _, c, by decide, m_arrive_p u N r hr s hp ad g2 g3' g4 (i_nlt.mpr g5) n3 j ej hA.1 (hA.2.2.2.2.2.1.le (by decide)), by decide, q.2, q.1⟩
end AG
/-- fresh objects share -/
theorem inv_M0 : Inv M0 (fun n => n) (60, 61) := ⟨by decide, by decide, fun n h => by show n < 63; omega, rfl, by decide⟩
theorem byt_z (n : Nat) : Byt z0 n := fun k _ => isB_nI (n := 0) (by decide)
theorem RL_0 : RL (M0, fun n => n, (60, 61)) N0 := by
  refine ⟨⟨inv_M0, by decide, by decide, fun n h => by show n < 62; omega⟩, ⟨⟨rfl, by decide⟩, fun r hr => ?_, fun f hf => ⟨⟨0, by decide, rfl⟩, 0, by decide, rfl⟩, byt_z 2400, byt_z 40, byt_z 40, byt_z 40, 0, by decide, rfl⟩, fun r hr => Iff.rfl, fun r s hr hs => Iff.rfl, fun r s hr hs hn => absurd rfl hn, rfl, rfl⟩
  match r, hr with
  | 0, _ => decide
  | 1, _ => decide
  | 2, _ => decide
  | 3, _ => decide
  | 4, _ => decide
  | n + 5, h => exact absurd h (by omega)
