/-! THE WHOLE: the public calls, where they return -/
def lIsR (x : Int32) : Int32 := if x < 0 then 0 else if 5 ≤ x then 0 else 1
def lRate (x : Int32) : Int32 := if x < 1 then 0 else if 1000 < x then 0 else 1
theorem lIsR_in {x : Int32} (h : ¬ lIsR x = 0) : vp_in x 5 := by
  unfold lIsR at h
  by_cases h1 : x < 0
  · rw [if_pos h1] at h; exact absurd rfl h
  · by_cases h2 : (5 : Int32) ≤ x
    · rw [if_neg h1, if_pos h2] at h; exact absurd rfl h
    · exact vp_inc h1 h2 rfl
theorem lIsR_lt {x : Int32} (h : ¬ lIsR x = 0) : x.toNatClampNeg < 5 := Nat.not_le.mp fun q => lIsR_in h (Or.inr q)
theorem lIsR_nI {x : Int32} (h : ¬ lIsR x = 0) : x = nI x.toNatClampNeg := by
  obtain ⟨j, hj, rfl⟩ := vp_in_of (lIsR_in h) (by decide)
  rw [nI_clamp (by omega)]
def lRouter (M : zM) (x what : Int32) : Int32 := if lIsR x = 0 then -1 else rTell M x.toNatClampNeg what
def lSession (M : zM) (x y what : Int32) : Int32 := if lIsR x = 0 then -1 else if lIsR y = 0 then -1 else if M 5 x.toNatClampNeg y.toNatClampNeg 2 = 0 then -1 else sTell (M 5 x.toNatClampNeg y.toNatClampNeg) what
def lFrame (M : zM) (P : Nat → Nat) (x y : Int32) : Int32 := if x < 0 then -1 else if M 6 0 0 2 ≤ x then -1 else if ¬ x < 60 then -1 else if y = -1 then M 9 (P x.toNatClampNeg) 0 8 - M 6 0 0 3 else if y = -2 then M 9 (P x.toNatClampNeg) 0 2 else if y = -3 then M 9 (P x.toNatClampNeg) 0 3 else if y = -4 then M 9 (P x.toNatClampNeg) 0 4 else if y = -5 then M 9 (P x.toNatClampNeg) 0 1 else if y = -6 then M 9 (P x.toNatClampNeg) 0 7 else fByte (M 9 (P x.toNatClampNeg) 0) (M 10 (P x.toNatClampNeg) 0) y
/-- a frame is handed out; a tick -/
def hoStep (k r : Nat) (σ : zS) : zS := if (σ.1 9 k 0 7 >>> (nI r &&& 31)) &&& 1 = 0 then σ else if rMinds σ.1 r k = 0 then σ else heS σ r k
def hoL (k : Nat) : Nat → Nat → zS → zS
  | 0, _, σ => σ
  | n + 1, r, σ => hoL k n (r + 1) (hoStep k r σ)
def hoS (σ : zS) (k : Nat) : zS := hoL k 5 0 σ
theorem inv_hoStep {σ : zS} {k r : Nat} (h : Inv σ.1 σ.2.1 σ.2.2) : Inv (hoStep k r σ).1 (hoStep k r σ).2.1 (hoStep k r σ).2.2 := by
  unfold hoStep
  split
  · exact h
  · split
    · exact h
    · exact Inv.he h
theorem inv_hoL {k : Nat} : ∀ (n r : Nat) (σ : zS), Inv σ.1 σ.2.1 σ.2.2 → Inv (hoL k n r σ).1 (hoL k n r σ).2.1 (hoL k n r σ).2.2 := by
  intro n
  induction n with
  | zero => intro r σ h; exact h
  | succ n ih => intro r σ h; exact ih (r + 1) _ (inv_hoStep h)
def tkS (σ : zS) : zS := (tkM σ.1 σ.2.1 (cnt σ.1), tkP σ.1 σ.2.1 σ.2.2 (cnt σ.1), tkD σ.1 σ.2.1 σ.2.2 (cnt σ.1))
theorem inv_tkS {σ : zS} (h : Inv σ.1 σ.2.1 σ.2.2) : Inv (tkS σ).1 (tkS σ).2.1 (tkS σ).2.2 := by
  obtain ⟨h1, h2, h3, h4, h5⟩ := id h
  unfold tkS
  dsimp only
  unfold tkM tkP tkD
  by_cases hc : kDue σ.1 σ.2.1 (cnt σ.1) (cnt σ.1) 0 < cnt σ.1
  · rw [if_pos hc, if_pos hc, if_pos hc]
    have e : up σ.1 6 0 0 2 (nI (cnt σ.1 - 1)) 6 0 0 2 = nI (cnt σ.1 - 1) := by rw [up_self]; rfl
    have ec := cnt_nI (by omega) e
    refine ⟨h1, h3 _ (by omega), fun n hn => ?_, by rw [ec]; exact e, by rw [ec]; omega⟩
    by_cases q : n = cnt σ.1 - 1
    · subst q; rw [va_up_self]; exact h2
    · rw [va_up_ne _ _ q]
      unfold pShift
      split
      · exact h3 _ (by omega)
      · exact h3 n hn
  · rw [if_neg hc, if_neg hc, if_neg hc]
    exact h
def duL : Nat → zS → zS
  | 0, σ => σ
  | n + 1, σ => duL n (hoS (tkS σ) (tkS σ).2.2.2)
theorem inv_duL : ∀ (n : Nat) (σ : zS), Inv σ.1 σ.2.1 σ.2.2 → Inv (duL n σ).1 (duL n σ).2.1 (duL n σ).2.2 := by
  intro n
  induction n with
  | zero => intro σ h; exact h
  | succ n ih => intro σ h; exact ih _ (inv_hoL 5 0 _ (inv_tkS h))
def rtL : Nat → Nat → zS → zS
  | 0, _, σ => σ
  | n + 1, r, σ => rtL n (r + 1) (rtS σ r)
theorem inv_rtL : ∀ (n r : Nat) (σ : zS), Inv σ.1 σ.2.1 σ.2.2 → Inv (rtL n r σ).1 (rtL n r σ).2.1 (rtL n r σ).2.2 := by
  intro n
  induction n with
  | zero => intro r σ h; exact h
  | succ n ih => intro r σ h; exact ih (r + 1) _ (Inv.rt h)
def ckS (σ : zS) : zS := (up σ.1 6 0 0 3 (σ.1 6 0 0 3 + 1), σ.2.1, σ.2.2)
theorem inv_ckS {σ : zS} (h : Inv σ.1 σ.2.1 σ.2.2) : Inv (ckS σ).1 (ckS σ).2.1 (ckS σ).2.2 := h.of (by unfold ckS; dsimp only; rw [up_self]; rfl)
def nDue (σ : zS) : Nat := (cDue σ.1 σ.2.1 60 0 0).toNatClampNeg
theorem cDue_nI (M : zM) (P : Nat → Nat) : ∀ (n i a : Nat), ∃ b, a ≤ b ∧ b ≤ a + n ∧ cDue M P n i (nI a) = nI b := by
  intro n
  induction n with
  | zero => intro i a; exact ⟨a, Nat.le_refl _, Nat.le_refl _, rfl⟩
  | succ n ih =>
    intro i a
    unfold cDue
    split
    · exact ⟨a, Nat.le_refl _, by omega, rfl⟩
    · split
      · exact ⟨a, Nat.le_refl _, by omega, rfl⟩
      · split
        · rw [nI_1]
          obtain ⟨b, h1, h2, h3⟩ := ih (i + 1) (a + 1)
          exact ⟨b, by omega, by omega, h3⟩
        · obtain ⟨b, h1, h2, h3⟩ := ih (i + 1) a
          exact ⟨b, by omega, by omega, h3⟩
theorem nDue_eq (σ : zS) : cDue σ.1 σ.2.1 60 0 0 = nI (nDue σ) ∧ nDue σ ≤ 60 := by
  obtain ⟨b, -, h2, h3⟩ := cDue_nI σ.1 σ.2.1 60 0 0
  have h3 : cDue σ.1 σ.2.1 60 0 0 = nI b := h3
  have e : nDue σ = b := by unfold nDue; rw [h3]; exact nI_clamp (by omega)
  rw [e]
  exact ⟨h3, by omega⟩
def oneS (σ : zS) : zS := rtL 5 0 (duL (nDue (ckS σ)) (ckS σ))
theorem inv_oneS {σ : zS} (h : Inv σ.1 σ.2.1 σ.2.2) : Inv (oneS σ).1 (oneS σ).2.1 (oneS σ).2.2 := by
  have h1 := inv_duL (nDue (ckS σ)) (ckS σ) (inv_ckS h)
  have h2 := inv_rtL 5 0 (duL (nDue (ckS σ)) (ckS σ)) h1
  unfold oneS
  exact h2
def tiL : Nat → zS → zS
  | 0, σ => σ
  | n + 1, σ => tiL n (oneS σ)
/-- the tape -/
def tyB (word : Int64) (k : Nat) : Int32 := (word.toUInt64 >>> ((8 * nI k).toInt64.toUInt64 &&& Int64.toUInt64 63)).toInt64.toInt32
def tyL (word : Int64) : Nat → zM → zM
  | 0, M => M
  | k + 1, M => tyL word k (fPut M 62 (tyB word k))
def dn : Nat → Int32
  | 0 => -1
  | k + 1 => nI k
theorem dn_s (k : Nat) : nI k + (-1) = dn k := by
  cases k with
  | zero => rfl
  | succ k => exact pk_m1 k
theorem dn_p {n : Nat} (h : 0 < n) : nI n - 1 = dn n := by
  obtain ⟨z, rfl⟩ : ∃ z, n = z + 1 := ⟨n - 1, by omega⟩
  exact nI_pred z
def tyOk (M : zM) (x : Int32) : Int32 := if x < 1 then 0 else if 8 < x then 0 else if M 9 62 0 1 + x ≤ 40 then 1 else 0
def tyM (M : zM) (word : Int64) (x : Int32) : zM := if tyOk M x = 0 then M else tyL word x.toNatClampNeg M
theorem tyOk_n {x : Int32} (h1 : ¬ x < 1) (h2 : ¬ 8 < x) : ∃ n, 0 < n ∧ n ≤ 8 ∧ x = nI n := by
  have h0 : ¬ x < 0 := by
    rw [Int32.lt_iff_toInt_lt] at h1 ⊢
    rw [show (1 : Int32).toInt = 1 from rfl] at h1
    rw [Int32.toInt_zero]
    omega
  obtain ⟨j, hj, rfl⟩ := nI_of h0
  refine ⟨j, ?_, ?_, rfl⟩
  · rcases Nat.eq_zero_or_pos j with q | q
    · subst q; exact absurd (by decide) h1
    · exact q
  · rcases Nat.lt_or_ge 8 j with q | q
    · exact absurd (nI_lt (a := 8) (b := j) q hj) h2
    · exact q
set_option maxRecDepth 100000 in
set_option maxHeartbeats 4000000 in
theorem c_L_isRouter {l : Launch} {G : zG} {V : zV} (w : wC G V) (M : zM) (P : Nat → Nat) (D : Nat × Nat) (x : Int32) : zF l y_L_isRouter b_L_isRouter 1 (some .boolean) 0 0 G [.int x] (eC V M P D) (some (.int (lIsR x))) (eC V M P D) := by
  refine zF.ofZ (by decide) w.2.2.2.2 (Nat.le_of_ble_eq_true rfl) (fun X hXl hN hr C => ?_)
  subst hXl
  show Z X G (zA G) 1 _ (eC V M P D) 0 [(0, .int x)] []
  refine Z_iload_n C 0 d_L_isRouter_0 rfl rfl ?_
  refine Z_if_lt (tgt := 13) C d_L_isRouter_1 (by decide) (fun c1 => ?_) (fun c1 => ?_)
  · skip
    refine Z_iconst (v := 0) C d_L_isRouter_13 (by decide) ?_
    exact Z_zret C hN hr (by decide) d_L_isRouter_14 (by simp [lIsR, c1]) (zeq (rfl))
  · skip
    refine Z_iload_n C 0 d_L_isRouter_4 rfl rfl ?_
    refine Z_iconst (v := 5) C d_L_isRouter_5 (by decide) ?_
    refine Z_icmp_ge (tgt := 13) C d_L_isRouter_6 (by decide) (fun c6 => ?_) (fun c6 => ?_)
    · skip
      refine Z_iconst (v := 0) C d_L_isRouter_13 (by decide) ?_
      exact Z_zret C hN hr (by decide) d_L_isRouter_14 (by simp [lIsR, c1, c6]) (zeq (rfl))
    · skip
      refine Z_iconst (v := 1) C d_L_isRouter_9 (by decide) ?_
      refine Z_goto (tgt := 14) C d_L_isRouter_10 (by decide) ?_
      exact Z_zret C hN hr (by decide) d_L_isRouter_14 (by simp [lIsR, c1, c6]) (zeq (rfl))
set_option maxRecDepth 100000 in
set_option maxHeartbeats 4000000 in
theorem c_L_isRate {l : Launch} {G : zG} {V : zV} (w : wC G V) (M : zM) (P : Nat → Nat) (D : Nat × Nat) (x : Int32) : zF l y_L_isRate b_L_isRate 1 (some .boolean) 0 0 G [.int x] (eC V M P D) (some (.int (lRate x))) (eC V M P D) := by
  refine zF.ofZ (by decide) w.2.2.2.2 (Nat.le_of_ble_eq_true rfl) (fun X hXl hN hr C => ?_)
  subst hXl
  show Z X G (zA G) 1 _ (eC V M P D) 0 [(0, .int x)] []
  refine Z_iload_n C 0 d_L_isRate_0 rfl rfl ?_
  refine Z_iconst (v := 1) C d_L_isRate_1 (by decide) ?_
  refine Z_icmp_lt (tgt := 16) C d_L_isRate_2 (by decide) (fun c2 => ?_) (fun c2 => ?_)
  · skip
    refine Z_iconst (v := 0) C d_L_isRate_16 (by decide) ?_
    exact Z_zret C hN hr (by decide) d_L_isRate_17 (by simp [lRate, c2]) (zeq (rfl))
  · skip
    refine Z_iload_n C 0 d_L_isRate_5 rfl rfl ?_
    refine Z_sipush (v := 1000) C d_L_isRate_6 (by decide) ?_
    refine Z_icmp_gt (tgt := 16) C d_L_isRate_9 (by decide) (fun c9 => ?_) (fun c9 => ?_)
    · skip
      refine Z_iconst (v := 0) C d_L_isRate_16 (by decide) ?_
      exact Z_zret C hN hr (by decide) d_L_isRate_17 (by simp [lRate, c2, c9]) (zeq (rfl))
    · skip
      refine Z_iconst (v := 1) C d_L_isRate_12 (by decide) ?_
      refine Z_goto (tgt := 17) C d_L_isRate_13 (by decide) ?_
      exact Z_zret C hN hr (by decide) d_L_isRate_17 (by simp [lRate, c2, c9]) (zeq (rfl))
set_option maxRecDepth 100000 in
set_option maxHeartbeats 4000000 in
theorem c_L_flying {l : Launch} {G : zG} {V : zV} (w : wC G V) (M : zM) (P : Nat → Nat) (D : Nat × Nat)  : zF l y_L_flying b_L_flying 1 (some .int) 0 0 G [.ref (V.1 0 0 0)] (eC V M P D) (some (.int (M 6 0 0 2))) (eC V M P D) := by
  refine zF.ofZ (by decide) w.2.2.2.2 (Nat.le_of_ble_eq_true rfl) (fun X hXl hN hr C => ?_)
  subst hXl
  show Z X G (zA G) 1 _ (eC V M P D) 0 [(0, .ref (V.1 0 0 0))] []
  refine Z_aload_n C 0 d_L_flying_0 rfl rfl ?_
  refine C_gL C w 0 (by decide) fl_L_17 rfl rfl d_L_flying_1 ?_
  refine C_gW C w 2 (by decide) fl_L_169 rfl rfl d_L_flying_4 ?_
  exact Z_iret C hN hr d_L_flying_7 (rfl) (zeq (rfl))
set_option maxRecDepth 100000 in
set_option maxHeartbeats 4000000 in
theorem c_L_port {l : Launch} {G : zG} {V : zV} (w : wC G V) (M : zM) (P : Nat → Nat) (D : Nat × Nat) (x : Int32) : zF l y_L_port b_L_port 2 (some .int) 1 21 G [.ref (V.1 0 0 0), .int x] (eC V M P D) (some (.int (wPlace M x))) (eC V M P D) := by
  refine zF.ofZ (by decide) w.2.2.2.2 (Nat.le_of_ble_eq_true rfl) (fun X hXl hN hr C => ?_)
  subst hXl
  show Z X G (zA G) 2 _ (eC V M P D) 0 [(0, .ref (V.1 0 0 0)), (1, .int x)] []
  refine Z_aload_n C 0 d_L_port_0 rfl rfl ?_
  refine C_gL C w 0 (by decide) fl_L_17 rfl rfl d_L_port_1 ?_
  refine Z_iload_n C 1 d_L_port_4 rfl rfl ?_
  refine C_cWv C w mi_W_placeOf ml_L_166 (c_W_placeOf w _ _ _ _) rfl rfl (by decide) rfl (Nat.le_of_ble_eq_true rfl) d_L_port_5 ?_
  exact Z_iret C hN hr d_L_port_8 (rfl) (zeq (rfl))
set_option maxRecDepth 100000 in
set_option maxHeartbeats 4000000 in
theorem c_L_router {l : Launch} {G : zG} {V : zV} (w : wC G V) (M : zM) (P : Nat → Nat) (D : Nat × Nat) (x what : Int32) : zF l y_L_router b_L_router 3 (some .int) 2 43 G [.ref (V.1 0 0 0), .int x, .int what] (eC V M P D) (some (.int (lRouter M x what))) (eC V M P D) := by
  refine zF.ofZ (by decide) w.2.2.2.2 (Nat.le_of_ble_eq_true rfl) (fun X hXl hN hr C => ?_)
  subst hXl
  show Z X G (zA G) 3 _ (eC V M P D) 0 [(0, .ref (V.1 0 0 0)), (1, .int x), (2, .int what)] []
  refine Z_iload_n C 1 d_L_router_0 rfl rfl ?_
  refine C_csv C ms_L_isRouter ml_L_32 (c_L_isRouter w _ _ _ _) rfl (by decide) rfl (Nat.le_of_ble_eq_true rfl) d_L_router_1 ?_
  refine Z_if_eq (tgt := 20) C d_L_router_4 (by decide) (fun c4 => ?_) (fun c4 => ?_)
  · skip
    refine Z_iconst (v := (-1)) C d_L_router_20 (by decide) ?_
    exact Z_iret C hN hr d_L_router_21 (by simp [lRouter, c4]) (zeq (rfl))
  · have hr5 := lIsR_lt c4
    refine Z_aload_n C 0 d_L_router_7 rfl rfl ?_
    refine C_gL C w 1 (by decide) fl_L_21 rfl rfl d_L_router_8 ?_
    refine Z_iload_n C 1 d_L_router_11 rfl rfl ?_
    refine C_ldQ C w _ rfl (lIsR_in c4) d_L_router_12 ?_
    refine Z_iload_n C 2 d_L_router_13 rfl rfl ?_
    refine C_cRv C w (by assumption) mi_R_tell ml_L_161 (c_R_tell w _ _ _ _ (by assumption) _) rfl rfl (by decide) rfl (Nat.le_of_ble_eq_true rfl) d_L_router_14 ?_
    refine Z_goto (tgt := 21) C d_L_router_17 (by decide) ?_
    exact Z_iret C hN hr d_L_router_21 (by simp [lRouter, c4]) (zeq (rfl))
set_option maxRecDepth 100000 in
set_option maxHeartbeats 4000000 in
theorem c_L_session {l : Launch} {G : zG} {V : zV} (w : wC G V) (M : zM) (P : Nat → Nat) (D : Nat × Nat) (x y what : Int32) : zF l y_L_session b_L_session 5 (some .int) 1 21 G [.ref (V.1 0 0 0), .int x, .int y, .int what] (eC V M P D) (some (.int (lSession M x y what))) (eC V M P D) := by
  refine zF.ofZ (by decide) w.2.2.2.2 (Nat.le_of_ble_eq_true rfl) (fun X hXl hN hr C => ?_)
  subst hXl
  show Z X G (zA G) 5 _ (eC V M P D) 0 [(0, .ref (V.1 0 0 0)), (1, .int x), (2, .int y), (3, .int what)] []
  refine Z_iload_n C 1 d_L_session_0 rfl rfl ?_
  refine C_csv C ms_L_isRouter ml_L_32 (c_L_isRouter w _ _ _ _) rfl (by decide) rfl (Nat.le_of_ble_eq_true rfl) d_L_session_1 ?_
  refine Z_if_eq (tgt := 14) C d_L_session_4 (by decide) (fun c4 => ?_) (fun c4 => ?_)
  · skip
    refine Z_iconst (v := (-1)) C d_L_session_14 (by decide) ?_
    exact Z_iret C hN hr d_L_session_15 (by simp [lSession, c4]) (zeq (rfl))
  · have hr5 := lIsR_lt c4
    refine Z_iload_n C 2 d_L_session_7 rfl rfl ?_
    refine C_csv C ms_L_isRouter ml_L_32 (c_L_isRouter w _ _ _ _) rfl (by decide) rfl (Nat.le_of_ble_eq_true rfl) d_L_session_8 ?_
    refine Z_if_ne (tgt := 16) C d_L_session_11 (by decide) (fun c11 => ?_) (fun c11 => ?_)
    · have hs5 := lIsR_lt c11
      refine Z_aload_n C 0 d_L_session_16 rfl rfl ?_
      refine C_gL C w 1 (by decide) fl_L_21 rfl rfl d_L_session_17 ?_
      refine Z_iload_n C 1 d_L_session_20 rfl rfl ?_
      refine C_ldQ C w _ rfl (lIsR_in c4) d_L_session_21 ?_
      refine C_gR C w (by assumption) 3 (by decide) fl_L_87 rfl rfl d_L_session_22 ?_
      refine Z_iload_n C 2 d_L_session_25 rfl rfl ?_
      refine C_ldX C w (by assumption) _ rfl (lIsR_in c11) d_L_session_26 ?_
      refine Z_astore C d_L_session_27 (by decide) rfl ?_
      refine Z_aload C 0 d_L_session_29 rfl ?_
      refine C_gS C w (by assumption) (by assumption) 2 (by decide) fl_L_97 rfl rfl d_L_session_31 ?_
      refine Z_if_eq (tgt := 46) C d_L_session_34 (by decide) (fun c34 => ?_) (fun c34 => ?_)
      · skip
        refine Z_iconst (v := (-1)) C d_L_session_46 (by decide) ?_
        exact Z_iret C hN hr d_L_session_47 (by simp [lSession, c4, c11, c34]) (zeq (rfl))
      · skip
        refine Z_aload C 0 d_L_session_37 rfl ?_
        refine Z_iload_n C 4 d_L_session_39 rfl rfl ?_
        refine C_cSv C w (by assumption) (by assumption) mi_S_tell ml_L_165 (c_S_tell w _ _ _ _ _ (by assumption) (by assumption) _) rfl rfl (by decide) rfl (Nat.le_of_ble_eq_true rfl) d_L_session_40 ?_
        refine Z_goto (tgt := 47) C d_L_session_43 (by decide) ?_
        exact Z_iret C hN hr d_L_session_47 (by simp [lSession, c4, c11, c34]) (zeq (rfl))
    · skip
      refine Z_iconst (v := (-1)) C d_L_session_14 (by decide) ?_
      exact Z_iret C hN hr d_L_session_15 (by simp [lSession, c4, c11]) (zeq (rfl))
set_option maxRecDepth 100000 in
set_option maxHeartbeats 4000000 in
theorem c_L_frame {l : Launch} {G : zG} {V : zV} (w : wC G V) (M : zM) (P : Nat → Nat) (D : Nat × Nat) (hPP : ∀ n, n < 60 → P n < 63) (x y : Int32) : zF l y_L_frame b_L_frame 4 (some .int) 1 21 G [.ref (V.1 0 0 0), .int x, .int y] (eC V M P D) (some (.int (lFrame M P x y))) (eC V M P D) := by
  refine zF.ofZ (by decide) w.2.2.2.2 (Nat.le_of_ble_eq_true rfl) (fun X hXl hN hr C => ?_)
  subst hXl
  show Z X G (zA G) 4 _ (eC V M P D) 0 [(0, .ref (V.1 0 0 0)), (1, .int x), (2, .int y)] []
  refine Z_iload_n C 1 d_L_frame_0 rfl rfl ?_
  refine Z_if_lt (tgt := 21) C d_L_frame_1 (by decide) (fun c1 => ?_) (fun c1 => ?_)
  · skip
    refine Z_iconst (v := (-1)) C d_L_frame_21 (by decide) ?_
    exact Z_iret C hN hr d_L_frame_22 (by first | (simp [lFrame, c1]; done) | (unfold lFrame; rw [if_neg c1, if_neg c12, if_neg (not_not_intro c18)]; simp [c34]; done) | (simp only [List.forall_mem_nil, and_true] at c34; obtain ⟨a6, a5, a4, a3, a2, a1⟩ := c34; unfold lFrame; rw [if_neg c1, if_neg c12, if_neg (not_not_intro c18), if_neg a1, if_neg a2, if_neg a3, if_neg a4, if_neg a5, if_neg a6])) (zeq (rfl))
  · skip
    refine Z_iload_n C 1 d_L_frame_4 rfl rfl ?_
    refine Z_aload_n C 0 d_L_frame_5 rfl rfl ?_
    refine C_gL C w 0 (by decide) fl_L_17 rfl rfl d_L_frame_6 ?_
    refine C_gW C w 2 (by decide) fl_L_169 rfl rfl d_L_frame_9 ?_
    refine Z_icmp_ge (tgt := 21) C d_L_frame_12 (by decide) (fun c12 => ?_) (fun c12 => ?_)
    · skip
      refine Z_iconst (v := (-1)) C d_L_frame_21 (by decide) ?_
      exact Z_iret C hN hr d_L_frame_22 (by first | (simp [lFrame, c1, c12]; done) | (unfold lFrame; rw [if_neg c1, if_neg c12, if_neg (not_not_intro c18)]; simp [c34]; done) | (simp only [List.forall_mem_nil, and_true] at c34; obtain ⟨a6, a5, a4, a3, a2, a1⟩ := c34; unfold lFrame; rw [if_neg c1, if_neg c12, if_neg (not_not_intro c18), if_neg a1, if_neg a2, if_neg a3, if_neg a4, if_neg a5, if_neg a6])) (zeq (rfl))
    · skip
      refine Z_iload_n C 1 d_L_frame_15 rfl rfl ?_
      refine Z_bipush (v := 60) C d_L_frame_16 (by decide) ?_
      refine Z_icmp_lt (tgt := 23) C d_L_frame_18 (by decide) (fun c18 => ?_) (fun c18 => ?_)
      · have hv : vp_in x 60 := vp_inc c1 (Int32.not_le.mpr c18) rfl
        have hpx : P x.toNatClampNeg < 63 := hPP _ (Nat.not_le.mp fun q => hv (Or.inr q))
        refine Z_aload_n C 0 d_L_frame_23 rfl rfl ?_
        refine C_gL C w 0 (by decide) fl_L_17 rfl rfl d_L_frame_24 ?_
        refine C_gW C w 1 (by decide) fl_L_172 rfl rfl d_L_frame_27 ?_
        refine Z_iload_n C 1 d_L_frame_30 rfl rfl ?_
        refine C_ldY C w _ rfl hv d_L_frame_31 ?_
        refine Z_astore_n C d_L_frame_32 rfl (by decide) rfl ?_
        refine Z_iload_n C 3 d_L_frame_33 rfl rfl ?_
        refine Z_tsw C d_L_frame_34 [((-6), 105), ((-5), 100), ((-4), 95), ((-3), 90), ((-2), 85), ((-1), 72)] 110 (by decide +kernel) (by decide +kernel) (by decide) ?_ ?_
        · simp only [List.forall_mem_cons]
          refine ⟨fun c34 => ?_, fun c34 => ?_, fun c34 => ?_, fun c34 => ?_, fun c34 => ?_, fun c34 => ?_, fun _ h => absurd h List.not_mem_nil⟩
          · skip
            refine Z_aload_n C 0 d_L_frame_105 rfl rfl ?_
            refine C_gF C w (by assumption) 7 (by decide) fl_L_182 rfl rfl d_L_frame_106 ?_
            exact Z_iret C hN hr d_L_frame_109 (by first | (simp [lFrame, c1, c12, c18, c34]; done) | (unfold lFrame; rw [if_neg c1, if_neg c12, if_neg (not_not_intro c18)]; simp [c34]; done) | (simp only [List.forall_mem_nil, and_true] at c34; obtain ⟨a6, a5, a4, a3, a2, a1⟩ := c34; unfold lFrame; rw [if_neg c1, if_neg c12, if_neg (not_not_intro c18), if_neg a1, if_neg a2, if_neg a3, if_neg a4, if_neg a5, if_neg a6])) (zeq (rfl))
          · skip
            refine Z_aload_n C 0 d_L_frame_100 rfl rfl ?_
            refine C_gF C w (by assumption) 1 (by decide) fl_L_136 rfl rfl d_L_frame_101 ?_
            exact Z_iret C hN hr d_L_frame_104 (by first | (simp [lFrame, c1, c12, c18, c34]; done) | (unfold lFrame; rw [if_neg c1, if_neg c12, if_neg (not_not_intro c18)]; simp [c34]; done) | (simp only [List.forall_mem_nil, and_true] at c34; obtain ⟨a6, a5, a4, a3, a2, a1⟩ := c34; unfold lFrame; rw [if_neg c1, if_neg c12, if_neg (not_not_intro c18), if_neg a1, if_neg a2, if_neg a3, if_neg a4, if_neg a5, if_neg a6])) (zeq (rfl))
          · skip
            refine Z_aload_n C 0 d_L_frame_95 rfl rfl ?_
            refine C_gF C w (by assumption) 4 (by decide) fl_L_179 rfl rfl d_L_frame_96 ?_
            exact Z_iret C hN hr d_L_frame_99 (by first | (simp [lFrame, c1, c12, c18, c34]; done) | (unfold lFrame; rw [if_neg c1, if_neg c12, if_neg (not_not_intro c18)]; simp [c34]; done) | (simp only [List.forall_mem_nil, and_true] at c34; obtain ⟨a6, a5, a4, a3, a2, a1⟩ := c34; unfold lFrame; rw [if_neg c1, if_neg c12, if_neg (not_not_intro c18), if_neg a1, if_neg a2, if_neg a3, if_neg a4, if_neg a5, if_neg a6])) (zeq (rfl))
          · skip
            refine Z_aload_n C 0 d_L_frame_90 rfl rfl ?_
            refine C_gF C w (by assumption) 3 (by decide) fl_L_148 rfl rfl d_L_frame_91 ?_
            exact Z_iret C hN hr d_L_frame_94 (by first | (simp [lFrame, c1, c12, c18, c34]; done) | (unfold lFrame; rw [if_neg c1, if_neg c12, if_neg (not_not_intro c18)]; simp [c34]; done) | (simp only [List.forall_mem_nil, and_true] at c34; obtain ⟨a6, a5, a4, a3, a2, a1⟩ := c34; unfold lFrame; rw [if_neg c1, if_neg c12, if_neg (not_not_intro c18), if_neg a1, if_neg a2, if_neg a3, if_neg a4, if_neg a5, if_neg a6])) (zeq (rfl))
          · skip
            refine Z_aload_n C 0 d_L_frame_85 rfl rfl ?_
            refine C_gF C w (by assumption) 2 (by decide) fl_L_145 rfl rfl d_L_frame_86 ?_
            exact Z_iret C hN hr d_L_frame_89 (by first | (simp [lFrame, c1, c12, c18, c34]; done) | (unfold lFrame; rw [if_neg c1, if_neg c12, if_neg (not_not_intro c18)]; simp [c34]; done) | (simp only [List.forall_mem_nil, and_true] at c34; obtain ⟨a6, a5, a4, a3, a2, a1⟩ := c34; unfold lFrame; rw [if_neg c1, if_neg c12, if_neg (not_not_intro c18), if_neg a1, if_neg a2, if_neg a3, if_neg a4, if_neg a5, if_neg a6])) (zeq (rfl))
          · skip
            refine Z_aload_n C 0 d_L_frame_72 rfl rfl ?_
            refine C_gF C w (by assumption) 8 (by decide) fl_L_176 rfl rfl d_L_frame_73 ?_
            refine Z_aload_n C 1 d_L_frame_76 rfl rfl ?_
            refine C_gL C w 0 (by decide) fl_L_17 rfl rfl d_L_frame_77 ?_
            refine C_gW C w 3 (by decide) fl_L_118 rfl rfl d_L_frame_80 ?_
            refine Z_isub C d_L_frame_83 ?_
            exact Z_iret C hN hr d_L_frame_84 (by first | (simp [lFrame, c1, c12, c18, c34]; done) | (unfold lFrame; rw [if_neg c1, if_neg c12, if_neg (not_not_intro c18)]; simp [c34]; done) | (simp only [List.forall_mem_nil, and_true] at c34; obtain ⟨a6, a5, a4, a3, a2, a1⟩ := c34; unfold lFrame; rw [if_neg c1, if_neg c12, if_neg (not_not_intro c18), if_neg a1, if_neg a2, if_neg a3, if_neg a4, if_neg a5, if_neg a6])) (zeq (rfl))
        · intro c34
          simp only [List.forall_mem_cons] at c34
          refine Z_aload_n C 0 d_L_frame_110 rfl rfl ?_
          refine Z_iload_n C 3 d_L_frame_111 rfl rfl ?_
          refine C_cFv C w (by assumption) mi_F_byteAt ml_L_185 (c_F_byteAt w _ _ _ _ (by assumption) _) rfl rfl (by decide) rfl (Nat.le_of_ble_eq_true rfl) d_L_frame_112 ?_
          exact Z_iret C hN hr d_L_frame_115 (by first | (simp [lFrame, c1, c12, c18, c34]; done) | (unfold lFrame; rw [if_neg c1, if_neg c12, if_neg (not_not_intro c18)]; simp [c34]; done) | (simp only [List.forall_mem_nil, and_true] at c34; obtain ⟨a6, a5, a4, a3, a2, a1⟩ := c34; unfold lFrame; rw [if_neg c1, if_neg c12, if_neg (not_not_intro c18), if_neg a1, if_neg a2, if_neg a3, if_neg a4, if_neg a5, if_neg a6])) (zeq (rfl))
      · skip
        refine Z_iconst (v := (-1)) C d_L_frame_21 (by decide) ?_
        exact Z_iret C hN hr d_L_frame_22 (by first | (simp [lFrame, c1, c12, c18]; done) | (unfold lFrame; rw [if_neg c1, if_neg c12, if_neg (not_not_intro c18)]; simp [c34]; done) | (simp only [List.forall_mem_nil, and_true] at c34; obtain ⟨a6, a5, a4, a3, a2, a1⟩ := c34; unfold lFrame; rw [if_neg c1, if_neg c12, if_neg (not_not_intro c18), if_neg a1, if_neg a2, if_neg a3, if_neg a4, if_neg a5, if_neg a6])) (zeq (rfl))
set_option maxRecDepth 100000 in
set_option maxHeartbeats 4000000 in
theorem c_L_handOut {l : Launch} {G : zG} {V : zV} (w : wC G V) (M : zM) (P : Nat → Nat) (D : Nat × Nat) (k : Nat) (hk : k < 63) (hI : Inv M P D) : zF l y_L_handOut b_L_handOut 3 none 6 127 G [.ref (V.1 0 0 0), .ref (V.1 9 k 0)] (eC V M P D) none (eC V (hoS (M, P, D) k).1 (hoS (M, P, D) k).2.1 (hoS (M, P, D) k).2.2) := by
  refine zF.ofZ (by decide) w.2.2.2.2 (Nat.le_of_ble_eq_true rfl) (fun X hXl hN hr C => ?_)
  subst hXl
  show Z X G (zA G) 3 _ (eC V M P D) 0 [(0, .ref (V.1 0 0 0)), (1, .ref (V.1 9 k 0))] []
  refine Z_iconst (v := 0) C d_L_handOut_0 (by decide) ?_
  refine Z_istore_n C d_L_handOut_1 rfl (by decide) rfl ?_
  have hlp : ∀ (n r : Nat) (σ : zS), r + n = 5 → Inv σ.1 σ.2.1 σ.2.2 → hoL k n r σ = hoS (M, P, D) k → Z X G (zA G) 3 (zQ X G none (eC V (hoS (M, P, D) k).1 (hoS (M, P, D) k).2.1 (hoS (M, P, D) k).2.2)) (eC V σ.1 σ.2.1 σ.2.2) 2 [(2, .int (nI r)), (0, .ref (V.1 0 0 0)), (1, .ref (V.1 9 k 0))] [] := by
    intro n
    induction n with
    | zero =>
      intro r σ h1 h2 h3
      refine Z_iload_n C 0 d_L_handOut_2 rfl rfl ?_
      refine Z_iconst (v := 5) C d_L_handOut_3 (by decide) ?_
      refine Z_icmp_ge (tgt := 48) C d_L_handOut_4 (by decide) (fun c4 => ?_) (fun c4 => ?_)
      · skip
        exact Z_vret C hN hr d_L_handOut_48 rfl (zeq (by rw [← h3]; rfl))
      · exact absurd (nI_le (a := 5) (b := r) (by omega) (by omega)) c4 --stop
    | succ n ih =>
      intro r σ h1 h2 h3
      have hr5 : r < 5 := by omega
      refine Z_iload_n C 0 d_L_handOut_2 rfl rfl ?_
      refine Z_iconst (v := 5) C d_L_handOut_3 (by decide) ?_
      refine Z_icmp_ge (tgt := 48) C d_L_handOut_4 (by decide) (fun c4 => ?_) (fun c4 => ?_)
      · exact absurd c4 (nI_ge (a := r) (b := 5) (by omega) (by decide)) --stop
      · skip
        refine Z_aload_n C 2 d_L_handOut_7 rfl rfl ?_
        refine C_gF C w (by assumption) 7 (by decide) fl_L_182 rfl rfl d_L_handOut_8 ?_
        refine Z_iload_n C 0 d_L_handOut_11 rfl rfl ?_
        refine Z_ishr C d_L_handOut_12 ?_
        refine Z_iconst (v := 1) C d_L_handOut_13 (by decide) ?_
        refine Z_iand C d_L_handOut_14 ?_
        refine Z_if_eq (tgt := 42) C d_L_handOut_15 (by decide) (fun c15 => ?_) (fun c15 => ?_)
        · skip
          refine Z_iinc 0 C d_L_handOut_42 rfl (nI_1 r) (by decide) rfl ?_
          refine Z_goto (tgt := 2) C d_L_handOut_45 (by decide) ?_
          have hq := ih (r + 1) (hoStep k r σ) (by omega) (inv_hoStep h2) h3
          unfold hoStep at hq
          first | (rw [if_pos c15] at hq; exact hq) | (rw [if_neg c15, if_pos c28] at hq; exact hq) | (rw [if_neg c15, if_neg c28] at hq; exact hq)
        · skip
          refine Z_aload_n C 1 d_L_handOut_18 rfl rfl ?_
          refine C_gL C w 1 (by decide) fl_L_21 rfl rfl d_L_handOut_19 ?_
          refine Z_iload_n C 0 d_L_handOut_22 rfl rfl ?_
          refine C_ldQ C w r (nI_clamp (by omega)) (vp_in_nI (by omega) (by decide)) d_L_handOut_23 ?_
          refine Z_aload_n C 2 d_L_handOut_24 rfl rfl ?_
          refine C_cRv C w (by assumption) mi_R_minds ml_L_188 (c_R_minds w _ _ _ _ (by assumption) _ (by assumption)) rfl rfl (by decide) rfl (Nat.le_of_ble_eq_true rfl) d_L_handOut_25 ?_
          refine Z_if_eq (tgt := 42) C d_L_handOut_28 (by decide) (fun c28 => ?_) (fun c28 => ?_)
          · skip
            refine Z_iinc 0 C d_L_handOut_42 rfl (nI_1 r) (by decide) rfl ?_
            refine Z_goto (tgt := 2) C d_L_handOut_45 (by decide) ?_
            have hq := ih (r + 1) (hoStep k r σ) (by omega) (inv_hoStep h2) h3
            unfold hoStep at hq
            first | (rw [if_pos c15] at hq; exact hq) | (rw [if_neg c15, if_pos c28] at hq; exact hq) | (rw [if_neg c15, if_neg c28] at hq; exact hq)
          · skip
            refine Z_aload_n C 1 d_L_handOut_31 rfl rfl ?_
            refine C_gL C w 1 (by decide) fl_L_21 rfl rfl d_L_handOut_32 ?_
            refine Z_iload_n C 0 d_L_handOut_35 rfl rfl ?_
            refine C_ldQ C w r (nI_clamp (by omega)) (vp_in_nI (by omega) (by decide)) d_L_handOut_36 ?_
            refine Z_aload_n C 2 d_L_handOut_37 rfl rfl ?_
            refine C_cRv C w (by assumption) mi_R_hear ml_L_157 (c_R_hear w σ.1 σ.2.1 σ.2.2 r hr5 k hk h2) rfl rfl (by decide) rfl (Nat.le_of_ble_eq_true rfl) d_L_handOut_38 ?_
            refine Z_pop C d_L_handOut_41 rfl ?_
            refine Z_iinc 0 C d_L_handOut_42 rfl (nI_1 r) (by decide) rfl ?_
            refine Z_goto (tgt := 2) C d_L_handOut_45 (by decide) ?_
            have hq := ih (r + 1) (hoStep k r σ) (by omega) (inv_hoStep h2) h3
            unfold hoStep at hq
            first | (rw [if_pos c15] at hq; exact hq) | (rw [if_neg c15, if_pos c28] at hq; exact hq) | (rw [if_neg c15, if_neg c28] at hq; exact hq)
  exact hlp 5 0 (M, P, D) rfl hI rfl
set_option maxRecDepth 100000 in
set_option maxHeartbeats 4000000 in
theorem c_L_tick {l : Launch} {G : zG} {V : zV} (w : wC G V) (M : zM) (P : Nat → Nat) (D : Nat × Nat) (n : Nat) (hn1 : 1 ≤ n) (hn4 : n ≤ 400) (hI : Inv M P D) : zF l y_L_tick b_L_tick 5 (some .int) 7 149 G [.ref (V.1 0 0 0), .int (nI n)] (eC V M P D) (some (.int ((tiL n (M, P, D)).1 6 0 0 3))) (eC V (tiL n (M, P, D)).1 (tiL n (M, P, D)).2.1 (tiL n (M, P, D)).2.2) := by
  refine zF.ofZ (by decide) w.2.2.2.2 (Nat.le_of_ble_eq_true rfl) (fun X hXl hN hr C => ?_)
  subst hXl
  show Z X G (zA G) 5 _ (eC V M P D) 0 [(0, .ref (V.1 0 0 0)), (1, .int (nI n))] []
  refine Z_iload_n C 1 d_L_tick_0 rfl rfl ?_
  refine Z_iconst (v := 1) C d_L_tick_1 (by decide) ?_
  refine Z_icmp_lt (tgt := 12) C d_L_tick_2 (by decide) (fun c2 => ?_) (fun c2 => ?_)
  · exact absurd c2 (nI_nlt (a := n) (b := 1) (by omega) (by omega)) --stop
  · skip
    refine Z_iload_n C 1 d_L_tick_5 rfl rfl ?_
    refine Z_sipush (v := 400) C d_L_tick_6 (by decide) ?_
    refine Z_icmp_le (tgt := 22) C d_L_tick_9 (by decide) (fun c9 => ?_) (fun c9 => ?_)
    · skip
      refine Z_iconst (v := 0) C d_L_tick_22 (by decide) ?_
      refine Z_istore_n C d_L_tick_23 rfl (by decide) rfl ?_
      have hrt : ∀ (i : Nat) (due : Int32) (σ1 : zS), (∀ (x4 : Int32), Z X G (zA G) 5 (zQ X G (some (.int ((tiL n (M, P, D)).1 6 0 0 3))) (eC V (tiL n (M, P, D)).1 (tiL n (M, P, D)).2.1 (tiL n (M, P, D)).2.2)) (eC V σ1.1 σ1.2.1 σ1.2.2) 101 [(4, .int x4), (3, .int due), (2, .int (nI i)), (0, .ref (V.1 0 0 0)), (1, .int (nI n))] []) → ∀ (m r : Nat) (σ : zS), r + m = 5 → Inv σ.1 σ.2.1 σ.2.2 → rtL m r σ = σ1 → Z X G (zA G) 5 (zQ X G (some (.int ((tiL n (M, P, D)).1 6 0 0 3))) (eC V (tiL n (M, P, D)).1 (tiL n (M, P, D)).2.1 (tiL n (M, P, D)).2.2)) (eC V σ.1 σ.2.1 σ.2.2) 79 [(4, .int (nI r)), (3, .int due), (2, .int (nI i)), (0, .ref (V.1 0 0 0)), (1, .int (nI n))] [] := by
        intro i due σ1 hx m
        induction m with
        | zero =>
          intro r σ h1 h2 h3
          subst h3
          refine Z_iload C 0 d_L_tick_79 rfl ?_
          refine Z_iconst (v := 5) C d_L_tick_81 (by decide) ?_
          refine Z_icmp_ge (tgt := 101) C d_L_tick_82 (by decide) (fun c82 => ?_) (fun c82 => ?_)
          · skip
            exact hx _
          · exact absurd (nI_le (a := 5) (b := r) (by omega) (by omega)) c82 --stop
        | succ m ih =>
          intro r σ h1 h2 h3
          have hr5 : r < 5 := by omega
          refine Z_iload C 0 d_L_tick_79 rfl ?_
          refine Z_iconst (v := 5) C d_L_tick_81 (by decide) ?_
          refine Z_icmp_ge (tgt := 101) C d_L_tick_82 (by decide) (fun c82 => ?_) (fun c82 => ?_)
          · exact absurd c82 (nI_ge (a := r) (b := 5) (by omega) (by decide)) --stop
          · skip
            refine Z_aload_n C 3 d_L_tick_85 rfl rfl ?_
            refine C_gL C w 1 (by decide) fl_L_21 rfl rfl d_L_tick_86 ?_
            refine Z_iload C 0 d_L_tick_89 rfl ?_
            refine C_ldQ C w r (nI_clamp (by omega)) (vp_in_nI (by omega) (by decide)) d_L_tick_91 ?_
            refine C_cRn C w (by assumption) mi_R_runTimers ml_L_133 (c_R_runTimers w σ.1 σ.2.1 σ.2.2 r hr5 h2) rfl rfl (by decide) rfl (Nat.le_of_ble_eq_true rfl) d_L_tick_92 ?_
            refine Z_iinc 0 C d_L_tick_95 rfl (nI_1 r) (by decide) rfl ?_
            refine Z_goto (tgt := 79) C d_L_tick_98 (by decide) ?_
            exact ih (r + 1) (rtS σ r) (by omega) (Inv.rt h2) h3
      have hdu : ∀ (i d : Nat) (σ1 : zS), d ≤ 60 → (∀ (x4 : Int32), Z X G (zA G) 5 (zQ X G (some (.int ((tiL n (M, P, D)).1 6 0 0 3))) (eC V (tiL n (M, P, D)).1 (tiL n (M, P, D)).2.1 (tiL n (M, P, D)).2.2)) (eC V σ1.1 σ1.2.1 σ1.2.2) 76 [(4, .int x4), (3, .int (nI d)), (2, .int (nI i)), (0, .ref (V.1 0 0 0)), (1, .int (nI n))] []) → ∀ (m k : Nat) (σ : zS), k + m = d → Inv σ.1 σ.2.1 σ.2.2 → duL m σ = σ1 → Z X G (zA G) 5 (zQ X G (some (.int ((tiL n (M, P, D)).1 6 0 0 3))) (eC V (tiL n (M, P, D)).1 (tiL n (M, P, D)).2.1 (tiL n (M, P, D)).2.2)) (eC V σ.1 σ.2.1 σ.2.2) 53 [(4, .int (nI k)), (3, .int (nI d)), (2, .int (nI i)), (0, .ref (V.1 0 0 0)), (1, .int (nI n))] [] := by
        intro i d σ1 hd60 hx m
        induction m with
        | zero =>
          intro k σ h1 h2 h3
          subst h3
          refine Z_iload C 0 d_L_tick_53 rfl ?_
          refine Z_iload_n C 1 d_L_tick_55 rfl rfl ?_
          refine Z_icmp_ge (tgt := 76) C d_L_tick_56 (by decide) (fun c56 => ?_) (fun c56 => ?_)
          · skip
            exact hx _
          · exact absurd (nI_le (by omega) (by omega)) c56 --stop
        | succ m ih =>
          intro k σ h1 h2 h3
          obtain ⟨q1, q2, q3, q4, q5⟩ := id h2
          have h4 := inv_tkS h2
          refine Z_iload C 0 d_L_tick_53 rfl ?_
          refine Z_iload_n C 1 d_L_tick_55 rfl rfl ?_
          refine Z_icmp_ge (tgt := 76) C d_L_tick_56 (by decide) (fun c56 => ?_) (fun c56 => ?_)
          · exact absurd c56 (nI_ge (a := k) (b := d) (by omega) (by omega)) --stop
          · skip
            refine Z_aload_n C 3 d_L_tick_59 rfl rfl ?_
            refine Z_aload_n C 3 d_L_tick_60 rfl rfl ?_
            refine C_gL C w 0 (by decide) fl_L_17 rfl rfl d_L_tick_61 ?_
            refine C_cWv C w mi_W_takeDue ml_L_125 (c_W_takeDue w σ.1 σ.2.1 σ.2.2 (cnt σ.1) q4 q5 q3 q2) rfl rfl (by decide) rfl (Nat.le_of_ble_eq_true rfl) d_L_tick_64 ?_
            refine C_cLn C w mi_L_handOut ml_L_129 (c_L_handOut w _ _ _ (tkS σ).2.2.2 h4.2.1 h4) rfl rfl (by decide) rfl (Nat.le_of_ble_eq_true rfl) d_L_tick_67 ?_
            refine Z_iinc 0 C d_L_tick_70 rfl (nI_1 k) (by decide) rfl ?_
            refine Z_goto (tgt := 53) C d_L_tick_73 (by decide) ?_
            exact ih (k + 1) (hoS (tkS σ) (tkS σ).2.2.2) (by omega) (inv_hoL 5 0 _ h4) h3
      have hti : ∀ (m i : Nat) (σ : zS), i + m = n → Inv σ.1 σ.2.1 σ.2.2 → tiL m σ = tiL n (M, P, D) → ∀ (lv : List (Nat × Value)), lv_pick lv [0, 1, 2] = [(2, .int (nI i)), (0, .ref (V.1 0 0 0)), (1, .int (nI n))] → Z X G (zA G) 5 (zQ X G (some (.int ((tiL n (M, P, D)).1 6 0 0 3))) (eC V (tiL n (M, P, D)).1 (tiL n (M, P, D)).2.1 (tiL n (M, P, D)).2.2)) (eC V σ.1 σ.2.1 σ.2.2) 24 lv [] := by
        intro m
        induction m with
        | zero =>
          intro i σ h1 h2 h3 lv hlv
          refine zlv [0, 1, 2] hlv ?_
          refine Z_iload_n C 0 d_L_tick_24 rfl rfl ?_
          refine Z_iload_n C 2 d_L_tick_25 rfl rfl ?_
          refine Z_icmp_ge (tgt := 107) C d_L_tick_26 (by decide) (fun c26 => ?_) (fun c26 => ?_)
          · skip
            refine Z_aload_n C 1 d_L_tick_107 rfl rfl ?_
            refine C_gL C w 0 (by decide) fl_L_17 rfl rfl d_L_tick_108 ?_
            refine C_gW C w 3 (by decide) fl_L_118 rfl rfl d_L_tick_111 ?_
            exact Z_iret C hN hr d_L_tick_114 (by rw [← h3]; rfl) (zeq (by rw [← h3]; rfl))
          · exact absurd (nI_le (by omega) (by omega)) c26 --stop
        | succ m ih =>
          intro i σ h1 h2 h3 lv hlv
          refine zlv [0, 1, 2] hlv ?_
          obtain ⟨q1, q2, q3, q4, q5⟩ := id h2
          have e9 := nDue_eq (ckS σ)
          refine Z_iload_n C 0 d_L_tick_24 rfl rfl ?_
          refine Z_iload_n C 2 d_L_tick_25 rfl rfl ?_
          refine Z_icmp_ge (tgt := 107) C d_L_tick_26 (by decide) (fun c26 => ?_) (fun c26 => ?_)
          · exact absurd c26 (nI_ge (a := i) (b := n) (by omega) (by omega)) --stop
          · skip
            refine Z_aload_n C 1 d_L_tick_29 rfl rfl ?_
            refine C_gL C w 0 (by decide) fl_L_17 rfl rfl d_L_tick_30 ?_
            refine Z_dup C d_L_tick_33 rfl ?_
            refine C_gW C w 3 (by decide) fl_L_118 rfl rfl d_L_tick_34 ?_
            refine Z_iconst (v := 1) C d_L_tick_37 (by decide) ?_
            refine Z_iadd C d_L_tick_38 ?_
            refine C_pW C w 3 (by decide) fl_L_118 rfl rfl rfl rfl rfl d_L_tick_39 ?_
            refine Z_aload_n C 1 d_L_tick_42 rfl rfl ?_
            refine C_gL C w 0 (by decide) fl_L_17 rfl rfl d_L_tick_43 ?_
            refine C_cWv C w mi_W_countDue ml_L_121 (c_W_countDue w _ _ _ q3) rfl rfl (by decide) rfl (Nat.le_of_ble_eq_true rfl) d_L_tick_46 ?_
            refine zst (st' := [.int (nI (nDue (ckS σ)))]) (by rw [← e9.1]; rfl) ?_
            refine Z_istore_n C d_L_tick_49 rfl (by decide) rfl ?_
            refine Z_iconst (v := 0) C d_L_tick_50 (by decide) ?_
            refine Z_istore C d_L_tick_51 (by decide) rfl ?_
            refine hdu i (nDue (ckS σ)) (duL (nDue (ckS σ)) (ckS σ)) e9.2 (fun x4 => ?_) (nDue (ckS σ)) 0 (ckS σ) (by omega) (inv_ckS h2) rfl
            refine Z_iconst (v := 0) C d_L_tick_76 (by decide) ?_
            refine Z_istore C d_L_tick_77 (by decide) rfl ?_
            refine hrt i _ (oneS σ) (fun x4 => ?_) 5 0 (duL (nDue (ckS σ)) (ckS σ)) rfl (inv_duL _ _ (inv_ckS h2)) (by unfold oneS; rfl)
            refine zlv [2, 3, 4] (lv' := [(2, .int (nI i)), (0, .ref (V.1 0 0 0)), (1, .int (nI n))]) rfl ?_
            refine Z_iinc 0 C d_L_tick_101 rfl (nI_1 i) (by decide) rfl ?_
            refine Z_goto (tgt := 24) C d_L_tick_104 (by decide) ?_
            exact ih (i + 1) (oneS σ) (by omega) (inv_oneS h2) h3 _ rfl
      exact hti n 0 (M, P, D) (by omega) hI rfl _ rfl
    · exact absurd (nI_le (a := n) (b := 400) (by omega) (by omega)) c9 --stop
set_option maxRecDepth 100000 in
set_option maxHeartbeats 4000000 in
theorem c_L_type {l : Launch} {G : zG} {V : zV} (w : wC G V) (M : zM) (P : Nat → Nat) (D : Nat × Nat) (word : Int64) (x : Int32) : zF l y_L_type b_L_type 5 (some .boolean) 1 21 G [.ref (V.1 0 0 0), .long word, .int x] (eC V M P D) (some (.int (tyOk M x))) (eC V (tyM M word x) P D) := by
  refine zF.ofZ (by decide) w.2.2.2.2 (Nat.le_of_ble_eq_true rfl) (fun X hXl hN hr C => ?_)
  subst hXl
  show Z X G (zA G) 5 _ (eC V M P D) 0 [(0, .ref (V.1 0 0 0)), (1, .long word), (3, .int x)] []
  have h62 : 62 < 63 := by decide
  refine Z_iload_n C 2 d_L_type_0 rfl rfl ?_
  refine Z_iconst (v := 1) C d_L_type_1 (by decide) ?_
  refine Z_icmp_lt (tgt := 25) C d_L_type_2 (by decide) (fun c2 => ?_) (fun c2 => ?_)
  · skip
    refine Z_iconst (v := 0) C d_L_type_25 (by decide) ?_
    exact Z_zret C hN hr (by decide) d_L_type_26 (by simp [tyOk, c2]) (zeq (by apply eC_M; simp [tyM, tyOk, c2]))
  · skip
    refine Z_iload_n C 2 d_L_type_5 rfl rfl ?_
    refine Z_bipush (v := 8) C d_L_type_6 (by decide) ?_
    refine Z_icmp_gt (tgt := 25) C d_L_type_8 (by decide) (fun c8 => ?_) (fun c8 => ?_)
    · skip
      refine Z_iconst (v := 0) C d_L_type_25 (by decide) ?_
      exact Z_zret C hN hr (by decide) d_L_type_26 (by simp [tyOk, c2, c8]) (zeq (by apply eC_M; simp [tyM, tyOk, c2, c8]))
    · skip
      refine Z_aload_n C 0 d_L_type_11 rfl rfl ?_
      refine C_gL C w 2 (by decide) fl_L_28 rfl rfl d_L_type_12 ?_
      refine C_gF C w (by assumption) 1 (by decide) fl_L_136 rfl rfl d_L_type_15 ?_
      refine Z_iload_n C 2 d_L_type_18 rfl rfl ?_
      refine Z_iadd C d_L_type_19 ?_
      refine Z_bipush (v := 40) C d_L_type_20 (by decide) ?_
      refine Z_icmp_le (tgt := 27) C d_L_type_22 (by decide) (fun c22 => ?_) (fun c22 => ?_)
      · skip
        refine Z_iload_n C 2 d_L_type_27 rfl rfl ?_
        refine Z_iconst (v := 1) C d_L_type_28 (by decide) ?_
        refine Z_isub C d_L_type_29 ?_
        refine Z_istore C d_L_type_30 (by decide) rfl ?_
        have hlp : ∀ (k : Nat) (M1 : zM), k ≤ 8 → tyL word k M1 = tyM M word x → Z X G (zA G) 5 (zQ X G (some (.int (tyOk M x))) (eC V (tyM M word x) P D)) (eC V M1 P D) 32 [(4, .int (dn k)), (0, .ref (V.1 0 0 0)), (1, .long word), (3, .int x)] [] := by
          intro k
          induction k with
          | zero =>
            intro M1 hk8 h3
            refine Z_iload C 0 d_L_type_32 rfl ?_
            refine Z_if_lt (tgt := 58) C d_L_type_34 (by decide) (fun c34 => ?_) (fun c34 => ?_)
            · skip
              refine Z_iconst (v := 1) C d_L_type_58 (by decide) ?_
              exact Z_zret C hN hr (by decide) d_L_type_59 (by rw [tyOk, if_neg c2, if_neg c8, if_pos c22]) (zeq (by rw [← h3]; rfl))
            · exact absurd (by decide) c34 --stop
          | succ k ih =>
            intro M1 hk8 h3
            refine Z_iload C 0 d_L_type_32 rfl ?_
            refine Z_if_lt (tgt := 58) C d_L_type_34 (by decide) (fun c34 => ?_) (fun c34 => ?_)
            · exact absurd c34 (nI_pos (n := k) (by omega)) --stop
            · skip
              refine Z_aload_n C 1 d_L_type_37 rfl rfl ?_
              refine C_gL C w 2 (by decide) fl_L_28 rfl rfl d_L_type_38 ?_
              refine Z_lload_n C 2 d_L_type_41 rfl rfl ?_
              refine Z_bipush (v := 8) C d_L_type_42 (by decide) ?_
              refine Z_iload C 0 d_L_type_44 rfl ?_
              refine Z_imul C d_L_type_46 ?_
              refine Z_lushr C d_L_type_47 ?_
              refine Z_l2i C d_L_type_48 ?_
              refine C_cFn C w (by assumption) mi_F_put ml_L_139 (c_F_put w _ _ _ 62 (by decide) _) rfl rfl (by decide) rfl (Nat.le_of_ble_eq_true rfl) d_L_type_49 ?_
              refine Z_iinc 0 C d_L_type_52 rfl (dn_s k) (by decide) rfl ?_
              refine Z_goto (tgt := 32) C d_L_type_55 (by decide) ?_
              exact ih (fPut M1 62 (tyB word k)) (by omega) h3
        obtain ⟨n, hn1, hn2, hn3⟩ := tyOk_n c2 c8
        have hq := hlp n M hn2 (by rw [tyM, if_neg (by rw [tyOk, if_neg c2, if_neg c8, if_pos c22]; decide), hn3, nI_clamp (by omega)])
        rw [← dn_p hn1, ← hn3] at hq
        exact hq
      · skip
        refine Z_iconst (v := 0) C d_L_type_25 (by decide) ?_
        exact Z_zret C hN hr (by decide) d_L_type_26 (by simp [tyOk, c2, c8, c22]) (zeq (by apply eC_M; simp [tyM, tyOk, c2, c8, c22]))

