/-! FRESH OBJECTS: the class's answer is the reference's, call by call -/
theorem lm_R (x : Int32) : mIsR x = lIsR x := rfl
theorem M0_on (i : Nat) : M0 2 i 0 4 = 0 := rfl
theorem M0_se (i j k : Nat) : M0 5 i j k = 0 := rfl
theorem N0_3 (r : Nat) : N0 3 r = 0 := rfl
theorem N0_11 (k : Nat) : N0 11 k = 0 := rfl
theorem N0_28 : N0 43 28 = 0 := rfl
theorem inv_M0 : Inv M0 (fun n => n) (60, 61) := ⟨by decide, by decide, fun n h => by show n < 63; omega, rfl, by decide⟩
theorem thr_u2 (N : zR) (v : Int32) : u2 N 43 0 v 43 0 = v := by simp [u2, upd]
theorem nI_bel {x : Int32} (n : Nat) (hn : n < 2 ^ 31) (h0 : ¬ x < 0) (h1 : x < nI n) : ∃ j, j < n ∧ x = nI j := by
  obtain ⟨j, hj, rfl⟩ := nI_of h0
  refine ⟨j, ?_, rfl⟩
  rcases Nat.lt_or_ge j n with q | q
  · exact q
  · exact absurd h1 (fun z => by
      have := nI_le (a := n) (b := j) q hj
      rw [Int32.lt_iff_toInt_lt] at z
      rw [Int32.le_iff_toInt_le] at this
      omega)
theorem i_nle {a b : Int32} : ¬ a ≤ b ↔ b < a := by rw [Int32.le_iff_toInt_le, Int32.lt_iff_toInt_lt]; omega
theorem i_nlt {a b : Int32} : ¬ a < b ↔ b ≤ a := by rw [Int32.le_iff_toInt_le, Int32.lt_iff_toInt_lt]; omega
theorem rng_iff (a b v : Int32) : (if v < a then (0 : Int32) else if b < v then 0 else 1) = 0 ↔ (v < a ∨ ¬ v ≤ b) := by
  rw [i_nle]
  by_cases h1 : v < a
  · simp [h1]
  · by_cases h2 : b < v
    · simp [h1, h2]
    · simp [h1, h2]
theorem fits_iff (wh : Nat) (h : wh < 10) (v : Int32) : mFits (nI wh) v = 0 ↔ (v < leF wh ∨ ¬ v ≤ moF wh) := by
  unfold mFits
  match wh, h with
  | 0, _ => rw [if_pos (by decide)]; exact rng_iff 1 255 v
  | 1, _ => rw [if_neg (by decide), if_pos (by decide)]; exact rng_iff 1 4095 v
  | 2, _ =>
    rw [if_neg (by decide), if_neg (by decide), if_pos (by decide)]
    show _ ↔ (v < 0 ∨ ¬ v ≤ 1)
    by_cases h0 : v = 0
    · subst h0; decide
    · by_cases h1 : v = 1
      · subst h1; decide
      · simp only [h0, h1, if_false]
        refine ⟨fun _ => ?_, fun _ => by trivial⟩
        rw [← Int32.toInt_inj] at h0 h1
        rw [Int32.lt_iff_toInt_lt, Int32.le_iff_toInt_le]
        have e0 : (0 : Int32).toInt = 0 := rfl
        have e1 : (1 : Int32).toInt = 1 := rfl
        omega
  | 3, _ => rw [if_neg (by decide), if_neg (by decide), if_neg (by decide), if_pos (by decide)]; exact rng_iff 1 255 v
  | 4, _ =>
    rw [if_neg (by decide), if_neg (by decide), if_neg (by decide), if_neg (by decide), if_neg (by decide), if_neg (by decide), if_neg (by decide), if_neg (by decide)]
    show _ ↔ (v < -2147483648 ∨ ¬ v ≤ 2147483647)
    refine ⟨fun q => absurd q (by decide), fun q => ?_⟩
    rw [Int32.lt_iff_toInt_lt, Int32.le_iff_toInt_le] at q
    have e0 : (-2147483648 : Int32).toInt = -2147483648 := rfl
    have e1 : (2147483647 : Int32).toInt = 2147483647 := rfl
    have h1 := Int32.le_toInt v
    have h2 := Int32.toInt_lt v
    omega
  | 5, _ =>
    rw [if_neg (by decide), if_neg (by decide), if_neg (by decide), if_neg (by decide), if_neg (by decide), if_neg (by decide), if_neg (by decide), if_neg (by decide)]
    show _ ↔ (v < -2147483648 ∨ ¬ v ≤ 2147483647)
    refine ⟨fun q => absurd q (by decide), fun q => ?_⟩
    rw [Int32.lt_iff_toInt_lt, Int32.le_iff_toInt_le] at q
    have e0 : (-2147483648 : Int32).toInt = -2147483648 := rfl
    have e1 : (2147483647 : Int32).toInt = 2147483647 := rfl
    have h1 := Int32.le_toInt v
    have h2 := Int32.toInt_lt v
    omega
  | 6, _ => rw [if_neg (by decide), if_neg (by decide), if_neg (by decide), if_neg (by decide), if_pos (by decide)]; exact rng_iff 1 50 v
  | 7, _ => rw [if_neg (by decide), if_neg (by decide), if_neg (by decide), if_neg (by decide), if_neg (by decide), if_pos (by decide)]; exact rng_iff 0 3 v
  | 8, _ => rw [if_neg (by decide), if_neg (by decide), if_neg (by decide), if_neg (by decide), if_neg (by decide), if_neg (by decide), if_pos (by decide)]; exact rng_iff 0 254 v
  | 9, _ => rw [if_neg (by decide), if_neg (by decide), if_neg (by decide), if_neg (by decide), if_neg (by decide), if_neg (by decide), if_neg (by decide), if_pos (by decide)]; exact rng_iff 0 31 v
  | n + 10, h => exact absurd h (by omega)
abbrev cRm (fr lo : Nat) : Prop := fr ≤ 9 ∧ lo ≤ 200
/-- a wrapper's answer and what the reference says it threw -/
def agV (l : Launch) (G G' : zG) (U : zU) (N : zR) (yJ : MethodName) (bJ : ByteArray) (nJ : Nat) (hs : List (Nat × Nat × Nat × Nat)) (AJ : List Value) (Bs : State → Prop) (yM : MethodName) (bM : ByteArray) (nM : Nat) (AM : List Value) : Prop :=
  ∃ (k : Int32) (fr lo fr' lo' : Nat) (K1 : zK) (N' : zR), wF l yJ bJ nJ (some .int) hs fr lo AJ Bs (zA G) (some (.int k)) (zP G K1) ∧ cRm fr lo ∧ zF l yM bM nM none fr' lo' G' AM (eR U N) none (eR U N') ∧ cRm fr' lo' ∧ N' 43 0 = k
/-- a call of both that answers with an int -/
def agI (l : Launch) (G G' : zG) (V : zV) (M : zM) (P : Nat → Nat) (D : Nat × Nat) (U : zU) (N : zR) (ret : FieldType) (yL : MethodName) (bL : ByteArray) (nL : Nat) (AL : List Value) (yM : MethodName) (bM : ByteArray) (nM : Nat) (AM : List Value) : Prop :=
  ∃ (k : Int32) (fr lo fr' lo' : Nat) (K1 : zK) (N' : zR), zF l yL bL nL (some ret) fr lo G AL (eC V M P D) (some (.int k)) K1 ∧ cRm fr lo ∧ zF l yM bM nM (some ret) fr' lo' G' AM (eR U N) (some (.int k)) (eR U N') ∧ cRm fr' lo'
section AG
variable {l : Launch} {G G' : zG} {V : zV} {U : zU}
abbrev wBt0 (G : zG) (V : zV) : State → Prop := wBt G V M0 (fun n => n) (60, 61)
abbrev wBs0 (G : zG) (V : zV) : State → Prop := wBs G V M0 (fun n => n) (60, 61)
theorem a_set (hl : ∀ e, l.admits e → e.platform.stackTraces = false) (w : wC G V) (u : wR G' U) (x y v : Int32) : agV l G G' U N0 y_J_set b_J_set 5 hs_set [.ref (V.1 0 0 0), .int x, .int y, .int v] (wBt0 G V) y_M_set b_M_set 4 [.ref (U.1 43), .int x, .int y, .int v] := by
  by_cases h : lIsR x = 0 ∨ y < 0 ∨ 10 ≤ y
  · have h' : mIsR x = 0 ∨ y < 0 ∨ ¬ y ≤ 9 := by
      rcases h with h | h | h
      · exact Or.inl h
      · exact Or.inr (Or.inl h)
      · refine Or.inr (Or.inr ?_)
        rw [Int32.le_iff_toInt_le] at h ⊢
        have e0 : (10 : Int32).toInt = 10 := rfl
        have e1 : (9 : Int32).toInt = 9 := rfl
        omega
    exact ⟨1, _, _, _, _, _, _, w_set_1 hl w M0 _ _ x y v h, by decide, m_set_1 u N0 x y v h', by decide, thr_u2 _ _⟩
  · have h1 : ¬ lIsR x = 0 := fun q => h (Or.inl q)
    have h2 : ¬ y < 0 := fun q => h (Or.inr (Or.inl q))
    have h3 : ¬ 10 ≤ y := fun q => h (Or.inr (Or.inr q))
    obtain ⟨wh, hw, rfl⟩ := nI_bel 10 (by decide) h2 (i_nle.mp h3)
    have hx := lIsR_nI h1
    have hr := lIsR_lt h1
    generalize x.toNatClampNeg = r at hx hr
    subst hx
    have h4 : nI wh ≤ 9 := nI_le (a := wh) (b := 9) (by omega) (by decide)
    by_cases hv : v < leF wh ∨ ¬ v ≤ moF wh
    · exact ⟨2, _, _, _, _, _, _, w_set_2 hl w M0 _ _ r hr wh hw v hv, by decide, m_set_2 u N0 (nI r) (nI wh) v (mIsR_ne hr) h2 h4 ((fits_iff wh hw v).mpr hv), by decide, thr_u2 _ _⟩
    · have hf : ¬ mFits (nI wh) v = 0 := fun q => hv ((fits_iff wh hw v).mp q)
      refine ⟨0, _, _, _, _, _, _, w_set_0 w M0 _ _ r hr wh hw v (fun q => hv (Or.inl q)) (Classical.not_not.mp (fun q => hv (Or.inr q))), by decide, m_set_0 u N0 r hr wh hw v hf, by decide, ?_⟩
      rw [u2_ne (by decide), thr_u2]
theorem weigh0 (r : Nat) (h : r < 5) : ¬ mWeighed (u2 (u2 N0 43 0 0) 5 r (u2 N0 43 0 0 2 (10 * r + 1))) r = 255 := by
  match r, h with
  | 0, _ => decide +kernel
  | 1, _ => decide +kernel
  | 2, _ => decide +kernel
  | 3, _ => decide +kernel
  | 4, _ => decide +kernel
  | n + 5, h => exact absurd h (by omega)
theorem a_start (hl : ∀ e, l.admits e → e.platform.stackTraces = false) (w : wC G V) (u : wR G' U) (x : Int32) : agV l G G' U N0 y_J_start b_J_start 3 hs_start [.ref (V.1 0 0 0), .int x] (wBs0 G V) y_M_start b_M_start 2 [.ref (U.1 43), .int x] := by
  by_cases h : lIsR x = 0
  · exact ⟨1, _, _, _, _, _, _, w_start_1 hl w M0 _ _ x h, by decide, m_start_1 u N0 x h, by decide, thr_u2 _ _⟩
  · have hx := lIsR_nI h
    have hr := lIsR_lt h
    generalize x.toNatClampNeg = r at hx hr
    subst hx
    refine ⟨0, _, _, _, _, _, _, w_start_0 w M0 _ _ r hr inv_M0 rfl, by decide, m_start_0 u N0 r hr rfl (weigh0 r hr), by decide, ?_⟩
    unfold mBack
    rw [u2_ne (by decide), u2_ne (by decide), u2_ne (by decide), thr_u2]
theorem a_stop (hl : ∀ e, l.admits e → e.platform.stackTraces = false) (w : wC G V) (u : wR G' U) (x b : Int32) : agV l G G' U N0 y_J_stop b_J_stop 4 hs_stop [.ref (V.1 0 0 0), .int x, .int b] (wBs0 G V) y_M_stop b_M_stop 4 [.ref (U.1 43), .int x, .int b] := by
  by_cases h : lIsR x = 0
  · exact ⟨1, _, _, _, _, _, _, w_stop_1 hl w M0 _ _ x b h, by decide, m_stop_1 u N0 x b h, by decide, thr_u2 _ _⟩
  · have hx := lIsR_nI h
    have hr := lIsR_lt h
    generalize x.toNatClampNeg = r at hx hr
    subst hx
    exact ⟨2, _, _, _, _, _, _, w_stop_2 hl w M0 _ _ r hr b rfl, by decide, m_stop_2 u N0 r hr b rfl, by decide, thr_u2 _ _⟩
theorem a_ask (hl : ∀ e, l.admits e → e.platform.stackTraces = false) (w : wC G V) (u : wR G' U) (x : Int32) : agV l G G' U N0 y_J_ask b_J_ask 3 hs_ask [.ref (V.1 0 0 0), .int x] (wBs0 G V) y_M_ask b_M_ask 2 [.ref (U.1 43), .int x] := by
  by_cases h : lIsR x = 0
  · exact ⟨1, _, _, _, _, _, _, w_ask_1 hl w M0 _ _ x h, by decide, m_ask_1 u N0 x h, by decide, thr_u2 _ _⟩
  · have hx := lIsR_nI h
    have hr := lIsR_lt h
    generalize x.toNatClampNeg = r at hx hr
    subst hx
    exact ⟨2, _, _, _, _, _, _, w_ask_2 hl w M0 _ _ r hr rfl, by decide, m_ask_2 u N0 r hr rfl, by decide, thr_u2 _ _⟩
theorem a_open (hl : ∀ e, l.admits e → e.platform.stackTraces = false) (w : wC G V) (u : wR G' U) (x y tx rx m : Int32) : agV l G G' U N0 y_J_open b_J_open 7 hs_open [.ref (V.1 0 0 0), .int x, .int y, .int tx, .int rx, .int m] (wBs0 G V) y_M_open b_M_open 8 [.ref (U.1 43), .int x, .int y, .int tx, .int rx, .int m] := by
  by_cases h : lIsR x = 0 ∨ lIsR y = 0 ∨ y = x
  · exact ⟨1, _, _, _, _, _, _, w_open_1 hl w M0 _ _ x y tx rx m h, by decide, m_open_1 u N0 x y tx rx m (by rcases h with h | h | h; exact Or.inl h; exact Or.inr (Or.inl h); exact Or.inr (Or.inr h.symm)), by decide, thr_u2 _ _⟩
  · have h1 : ¬ lIsR x = 0 := fun q => h (Or.inl q)
    have h2 : ¬ lIsR y = 0 := fun q => h (Or.inr (Or.inl q))
    have h3 : ¬ y = x := fun q => h (Or.inr (Or.inr q))
    have hx := lIsR_nI h1
    have hr := lIsR_lt h1
    have hy := lIsR_nI h2
    have hs := lIsR_lt h2
    generalize x.toNatClampNeg = r at hx hr
    generalize y.toNatClampNeg = s at hy hs
    subst hx
    subst hy
    have hrs : ¬ s = r := fun q => h3 (by rw [q])
    exact ⟨2, _, _, _, _, _, _, w_open_2 hl w M0 _ _ r hr s hs tx rx m hrs rfl, by decide, m_open_2 u N0 r hr s hs tx rx m (fun q => hrs q.symm) rfl, by decide, thr_u2 _ _⟩
theorem a_change (hl : ∀ e, l.admits e → e.platform.stackTraces = false) (w : wC G V) (u : wR G' U) (x y tx rx : Int32) : agV l G G' U N0 y_J_change b_J_change 6 hs_change [.ref (V.1 0 0 0), .int x, .int y, .int tx, .int rx] (wBs0 G V) y_M_change b_M_change 9 [.ref (U.1 43), .int x, .int y, .int tx, .int rx] := by
  by_cases h : lIsR x = 0 ∨ lIsR y = 0
  · exact ⟨1, _, _, _, _, _, _, w_change_1 hl w M0 _ _ x y tx rx h, by decide, m_change_1 u N0 x y tx rx h, by decide, thr_u2 _ _⟩
  · have h1 : ¬ lIsR x = 0 := fun q => h (Or.inl q)
    have h2 : ¬ lIsR y = 0 := fun q => h (Or.inr q)
    have hx := lIsR_nI h1
    have hr := lIsR_lt h1
    have hy := lIsR_nI h2
    have hs := lIsR_lt h2
    generalize x.toNatClampNeg = r at hx hr
    generalize y.toNatClampNeg = s at hy hs
    subst hx
    subst hy
    exact ⟨2, _, _, _, _, _, _, w_change_2 hl w M0 _ _ r hr s hs tx rx (Or.inl rfl), by decide, m_change_2 u N0 r hr s hs tx rx rfl, by decide, thr_u2 _ _⟩
theorem a_type (w : wC G V) (u : wR G' U) (word : Int64) (x : Int32) : agI l G G' V M0 (fun n => n) (60, 61) U N0 .boolean y_L_type b_L_type 5 [.ref (V.1 0 0 0), .long word, .int x] y_M_type b_M_type 5 [.ref (U.1 43), .long word, .int x] := by
  by_cases h1 : x < 1
  · have e : tyOk M0 x = 0 := by unfold tyOk; rw [if_pos h1]
    have c := c_L_type (l := l) w M0 (fun n => n) (60, 61) word x
    rw [e] at c
    exact ⟨0, _, _, _, _, _, _, c, by decide, m_type_no u N0 word x (Or.inl h1), by decide⟩
  · by_cases h2 : 8 < x
    · have e : tyOk M0 x = 0 := by unfold tyOk; rw [if_neg h1, if_pos h2]
      have c := c_L_type (l := l) w M0 (fun n => n) (60, 61) word x
      rw [e] at c
      exact ⟨0, _, _, _, _, _, _, c, by decide, m_type_no u N0 word x (Or.inr (Or.inl h2)), by decide⟩
    · obtain ⟨n, hn0, hn8, rfl⟩ := tyOk_n h1 h2
      have e : tyOk M0 (nI n) = 1 := by
        unfold tyOk
        rw [if_neg h1, if_neg h2, if_pos (show M0 9 62 0 1 + nI n ≤ 40 from by show (0 : Int32) + nI n ≤ 40; rw [Int32.zero_add]; exact nI_le (a := n) (b := 40) (by omega) (by decide))]
      have c := c_L_type (l := l) w M0 (fun n => n) (60, 61) word (nI n)
      rw [e] at c
      exact ⟨1, _, _, _, _, _, _, c, by decide, m_type_0 u N0 word n 0 hn0 hn8 rfl (by omega), by decide⟩
theorem a_router (w : wC G V) (u : wR G' U) (x y : Int32) : agI l G G' V M0 (fun n => n) (60, 61) U N0 .int y_L_router b_L_router 3 [.ref (V.1 0 0 0), .int x, .int y] y_M_router b_M_router 4 [.ref (U.1 43), .int x, .int y] := by
  have c := c_L_router (l := l) w M0 (fun n => n) (60, 61) x y
  by_cases h : lIsR x = 0
  · have e : lRouter M0 x y = -1 := by unfold lRouter; rw [if_pos h]
    rw [e] at c
    exact ⟨-1, _, _, _, _, _, _, c, by decide, m_router_no u N0 x y (Or.inl h), by decide⟩
  · have hx := lIsR_nI h
    have hr := lIsR_lt h
    by_cases h7 : y < 0 ∨ ¬ y ≤ 7
    · have e : lRouter M0 x y = -1 := by
        unfold lRouter rTell
        have hne : ∀ k : Int32, 0 ≤ k → k ≤ 7 → ¬ y = k := fun k g1 g2 q => by
          subst q
          rcases h7 with q | q
          · exact absurd q (i_nlt.mpr g1)
          · exact q g2
        rw [if_neg h, if_neg (hne 0 (by decide) (by decide)), if_neg (hne 1 (by decide) (by decide)), if_neg (hne 2 (by decide) (by decide)), if_neg (hne 3 (by decide) (by decide)), if_neg (hne 4 (by decide) (by decide)), if_neg (hne 5 (by decide) (by decide)), if_neg (hne 6 (by decide) (by decide)), if_neg (hne 7 (by decide) (by decide))]
      rw [e] at c
      exact ⟨-1, _, _, _, _, _, _, c, by decide, m_router_no u N0 x y (Or.inr h7), by decide⟩
    · have h0 : ¬ y < 0 := fun q => h7 (Or.inl q)
      have h8 : y ≤ 7 := Classical.not_not.mp (fun q => h7 (Or.inr q))
      have e : lRouter M0 x y = 0 := by
        obtain ⟨j, hj, rfl⟩ := nI_bel 8 (by decide) h0 (by rw [Int32.le_iff_toInt_le] at h8; rw [Int32.lt_iff_toInt_lt]; have e0 : (7 : Int32).toInt = 7 := rfl; have e1 : (nI 8).toInt = 8 := rfl; omega)
        unfold lRouter rTell
        rw [if_neg h]
        match j, hj with
        | 0, _ => rfl
        | 1, _ => rfl
        | 2, _ => rfl
        | 3, _ => rfl
        | 4, _ => rfl
        | 5, _ => rfl
        | 6, _ => rfl
        | 7, _ => rfl
        | n + 8, h => exact absurd h (by omega)
      rw [e] at c
      have m := m_router_off (l := l) u N0 x.toNatClampNeg hr y rfl h0 h8
      have e2 : mRoff N0 x.toNatClampNeg y = 0 := by
        unfold mRoff
        split
        · rfl
        split
        · rfl
        split
        · rfl
        split
        · rfl
        split
        · rfl
        split
        · rfl
        split <;> rfl
      rw [e2, ← hx] at m
      exact ⟨0, _, _, _, _, _, _, c, by decide, m, by decide⟩
theorem a_session (w : wC G V) (u : wR G' U) (x y z : Int32) : agI l G G' V M0 (fun n => n) (60, 61) U N0 .int y_L_session b_L_session 5 [.ref (V.1 0 0 0), .int x, .int y, .int z] y_M_session b_M_session 5 [.ref (U.1 43), .int x, .int y, .int z] := by
  have c := c_L_session (l := l) w M0 (fun n => n) (60, 61) x y z
  have e : lSession M0 x y z = -1 := by
    unfold lSession
    split
    · rfl
    split
    · rfl
    rw [if_pos (by rfl)]
  rw [e] at c
  by_cases h : lIsR x = 0 ∨ lIsR y = 0
  · exact ⟨-1, _, _, _, _, _, _, c, by decide, m_session_no u N0 x y z h, by decide⟩
  · have h1 : ¬ lIsR x = 0 := fun q => h (Or.inl q)
    have h2 : ¬ lIsR y = 0 := fun q => h (Or.inr q)
    have m := m_session_off (l := l) u N0 x.toNatClampNeg (lIsR_lt h1) y.toNatClampNeg (lIsR_lt h2) z rfl
    rw [← lIsR_nI h1, ← lIsR_nI h2] at m
    exact ⟨-1, _, _, _, _, _, _, c, by decide, m, by decide⟩
theorem a_port (w : wC G V) (u : wR G' U) (x : Int32) : agI l G G' V M0 (fun n => n) (60, 61) U N0 .int y_L_port b_L_port 2 [.ref (V.1 0 0 0), .int x] y_M_port b_M_port 2 [.ref (U.1 43), .int x] := by
  have c := c_L_port (l := l) w M0 (fun n => n) (60, 61) x
  have e : wPlace M0 x = -1 := by
    unfold wPlace
    by_cases h0 : x < 0
    · rw [if_pos h0]
    · by_cases h1 : 16 ≤ x
      · rw [if_neg h0, if_pos h1]
      · rw [if_neg h0, if_neg h1]
        obtain ⟨j, hj, rfl⟩ := nI_bel 16 (by decide) h0 (i_nle.mp h1)
        rw [nI_clamp (by omega)]
        show plf 16 j = -1
        unfold plf
        rw [if_pos hj]
  rw [e] at c
  by_cases h : x < 0 ∨ ¬ x ≤ 14
  · exact ⟨-1, _, _, _, _, _, _, c, by decide, m_port_no u N0 x h, by decide⟩
  · have h0 : ¬ x < 0 := fun q => h (Or.inl q)
    have h8 : x ≤ 14 := Classical.not_not.mp (fun q => h (Or.inr q))
    obtain ⟨j, hj, rfl⟩ := nI_bel 15 (by decide) h0 (by rw [Int32.le_iff_toInt_le] at h8; rw [Int32.lt_iff_toInt_lt]; have e0 : (14 : Int32).toInt = 14 := rfl; have e1 : (nI 15).toInt = 15 := rfl; omega)
    have m := m_port_0 (l := l) u N0 j hj
    have e2 : N0 10 j = -1 := by
      show plf 15 j = -1
      unfold plf
      rw [if_pos hj]
    rw [e2] at m
    exact ⟨-1, _, _, _, _, _, _, c, by decide, m, by decide⟩
theorem a_flying (w : wC G V) (u : wR G' U) : agI l G G' V M0 (fun n => n) (60, 61) U N0 .int y_L_flying b_L_flying 1 [.ref (V.1 0 0 0)] y_M_flying b_M_flying 1 [.ref (U.1 43)] :=
  ⟨0, _, _, _, _, _, _, c_L_flying w M0 _ _, by decide, m_flying u N0, by decide⟩
theorem a_frame (w : wC G V) (u : wR G' U) (x y : Int32) : agI l G G' V M0 (fun n => n) (60, 61) U N0 .int y_L_frame b_L_frame 4 [.ref (V.1 0 0 0), .int x, .int y] y_M_frame b_M_frame 3 [.ref (U.1 43), .int x, .int y] := by
  have c := c_L_frame (l := l) w M0 (fun n => n) (60, 61) (fun n h => by show n < 63; omega) x y
  have e : lFrame M0 (fun n => n) x y = -1 := by
    unfold lFrame
    by_cases h0 : x < 0
    · rw [if_pos h0]
    · rw [if_neg h0, if_pos (show M0 6 0 0 2 ≤ x from i_nlt.mp h0)]
  rw [e] at c
  exact ⟨-1, _, _, _, _, _, _, c, by decide, m_frame_no u N0 x y rfl, by decide⟩
end AG
/-- nobody on, nothing flying: a tick moves the clock alone -/
def qt (σ : zS) : Prop := (∀ i, σ.1 2 i 0 4 = 0) ∧ σ.1 6 0 0 2 = 0
theorem rtL_off : ∀ (n r : Nat) (σ : zS), qt σ → rtL n r σ = σ := by
  intro n
  induction n with
  | zero => intro r σ h; rfl
  | succ n ih =>
    intro r σ h
    have e : rtS σ r = σ := by unfold rtS; rw [if_pos (h.1 r)]
    show rtL n (r + 1) (rtS σ r) = σ
    rw [e]
    exact ih _ _ h
theorem qt_ck {σ : zS} (h : qt σ) : qt (ckS σ) := ⟨fun i => by unfold ckS; dsimp only; rw [up_ne (by simp)]; exact h.1 i, by unfold ckS; dsimp only; rw [up_self]; exact h.2⟩
theorem one_off {σ : zS} (h : qt σ) : oneS σ = ckS σ := by
  have h1 := qt_ck h
  have e : nDue (ckS σ) = 0 := by
    unfold nDue cDue
    rw [if_pos (show (ckS σ).1 6 0 0 2 ≤ nI 0 from by rw [h1.2]; decide)]
    rfl
  unfold oneS
  rw [e]
  exact rtL_off 5 0 _ h1
theorem ti_off : ∀ (n : Nat) (σ : zS), qt σ → (tiL n σ).1 6 0 0 3 = σ.1 6 0 0 3 + nI n := by
  intro n
  induction n with
  | zero => intro σ _; show σ.1 6 0 0 3 = _ + nI 0; rw [nI_0, Int32.add_zero]
  | succ n ih =>
    intro σ h
    show (tiL n (oneS σ)).1 6 0 0 3 = _
    rw [one_off h, ih _ (qt_ck h)]
    unfold ckS
    dsimp only
    rw [up_self]
    show σ.1 6 0 0 3 + 1 + nI n = _
    rw [Int32.add_assoc, ← nI_1, Int32.add_comm (1 : Int32)]
theorem qt_0 (P : Nat → Nat) (D : Nat × Nat) : qt (M0, P, D) := ⟨fun i => rfl, rfl⟩
