section ZNl
variable {X : zX} {G : zG} {A : Nat → Prop} {nL : Nat} {Q : State → Prop} {K : zK} {pc : Nat} {lv : List (Nat × Value)} {st : List Value} {cc : ByteArray} {own : String} {fr lo : Nat}
theorem Z_aload_nN (C : zC X G A cc nL own fr lo) (j : Nat) {k : Fin 4} {i : Nat} (hd : decode cc pc = .ok (.aload_n k, 1)) (hi : (k : Nat) = i) (hx : lv[j]? = some (i, .null)) (k : Z X G A nL Q K (pc + 1) lv (.null :: st)) : Z X G A nL Q K pc lv st := fun f H locs ls hf hP hS hl => lv_aload_nN C.1.1 C.1.2.1 hd hi (lv_at hl j hx) (k f H locs ls hf hP hS hl)
theorem Z_astore_nN {lv' : List (Nat × Value)} (C : zC X G A cc nL own fr lo) {k : Fin 4} {i : Nat} (hd : decode cc pc = .ok (.astore_n k, 1)) (hi : (k : Nat) = i) (hn : i < nL) (he : (i, Value.null) :: lv.filter (fun q => !(q.1 == i) && !(q.1 + 1 == i && q.2.category == 2)) = lv') (k : Z X G A nL Q K (pc + 1) lv' st) : Z X G A nL Q K pc lv (.null :: st) := fun f H locs ls hf hP hS hl => lv_astore_nN C.1.1 C.1.2.1 hd hi hl hn he (fun ls hl => k f H locs ls hf hP hS hl)
end ZNl
theorem rMeant_lt {M : zM} {i k s : Nat} : ∀ n s0, rMeant M i k n s0 = some s → s < s0 + n := by
  intro n
  induction n with
  | zero => intro s0 h; cases h
  | succ n ih =>
    intro s0 h
    unfold rMeant at h
    repeat' split at h
    all_goals first | (have := ih (s0 + 1) h; omega) | (cases h; omega)
/-! what a router hears; its timers -/
def hp1 (M : zM) (i k s : Nat) : zM := rw4 M 5 i s (sLearn (M 5 i s) (M 9 k 0) (M 10 k 0))
def hp2 (σ : zS) (i k s : Nat) : zS := if (by_ (hp1 σ.1 i k s) k 1 &&& 32) = 0 then (hp1 σ.1 i k s, σ.2.1, σ.2.2) else pkS (hp1 σ.1 i k s, σ.2.1, σ.2.2) i s 16
def hp3 (σ : zS) (i k s : Nat) : zS := if sChanged (σ.1 5 i s) (σ.1 9 k 0) (σ.1 10 k 0) = 0 then hp2 σ i k s else (rw4 (hp2 σ i k s).1 5 i s (sHurry ((hp2 σ i k s).1 5 i s)), (hp2 σ i k s).2.1, (hp2 σ i k s).2.2)
def hpT (M : zM) (i k : Nat) : Option Nat := if rWhole M k = 0 then none else rMeant M i k 5 0
def hpS (σ : zS) (i k : Nat) : zS := match hpT σ.1 i k with
  | none => σ
  | some s => hp3 σ i k s
def hpR (M : zM) (i k : Nat) : Int32 := match hpT M i k with
  | none => 0
  | some _ => 1
theorem hpT_lt {M : zM} {i k s : Nat} (h : hpT M i k = some s) : s < 5 := by
  unfold hpT at h
  split at h
  · cases h
  · have := rMeant_lt 5 0 h; omega
theorem inv_hp2 {σ : zS} {i k s : Nat} (h : Inv σ.1 σ.2.1 σ.2.2) : Inv (hp2 σ i k s).1 (hp2 σ i k s).2.1 (hp2 σ i k s).2.2 := by
  have h1 : Inv (hp1 σ.1 i k s) σ.2.1 σ.2.2 := h.of rfl
  unfold hp2
  split
  · exact h1
  · exact Inv.pk (σ := (hp1 σ.1 i k s, σ.2.1, σ.2.2)) h1
theorem Inv.hp {σ : zS} {i k : Nat} (h : Inv σ.1 σ.2.1 σ.2.2) : Inv (hpS σ i k).1 (hpS σ i k).2.1 (hpS σ i k).2.2 := by
  unfold hpS
  split
  · exact h
  · unfold hp3
    split
    · exact inv_hp2 h
    · exact (inv_hp2 h).of rfl
def he1 (M : zM) (i : Nat) : zM := up M 2 i 0 8 (M 2 i 0 8 + 1)
def heS (σ : zS) (i k : Nat) : zS := if σ.1 9 k 0 2 = 1 then (if rFor σ.1 i k = 0 then σ else if he1 σ.1 i 2 i 0 4 = 2 then haS (he1 σ.1 i, σ.2.1, σ.2.2) i k else (hbM (he1 σ.1 i) i k, σ.2.1, σ.2.2)) else if σ.1 9 k 0 2 = 2 then hpS σ i k else if σ.1 9 k 0 2 = 3 then (if ¬ σ.1 2 i 0 4 = 2 then σ else if σ.1 9 k 0 3 = 9 then σ else seS σ i 4 9 (σ.1 9 k 0 3)) else if σ.1 9 k 0 2 = 4 then (up σ.1 2 i 0 10 (σ.1 9 k 0 5), σ.2.1, σ.2.2) else σ
def heR (M : zM) (i k : Nat) : Int32 := if M 9 k 0 2 = 1 then (if rFor M i k = 0 then 0 else 1) else if M 9 k 0 2 = 2 then hpR M i k else 0
theorem Inv.he {σ : zS} {i k : Nat} (h : Inv σ.1 σ.2.1 σ.2.2) : Inv (heS σ i k).1 (heS σ i k).2.1 (heS σ i k).2.2 := by
  have h1 : Inv (he1 σ.1 i) σ.2.1 σ.2.2 := h.of rfl
  unfold heS
  split
  · split
    · exact h
    · split
      · exact Inv.ha (σ := (he1 σ.1 i, σ.2.1, σ.2.2)) h1
      · exact h1.of (by unfold hbM; repeat' split
                        all_goals rfl)
  · split
    · exact Inv.hp h
    · split
      · split
        · exact h
        · split
          · exact h
          · exact Inv.se h
      · split
        · exact h.of rfl
        · exact h
/-- a session's timers -/
def rs1 (M : zM) (i j : Nat) : zM := rw4 M 5 i j (sDetect (M 5 i j))
def rs2 (M : zM) (i j : Nat) : zM := rw4 (rs1 M i j) 5 i j (sFires (rs1 M i j 5 i j))
def rs3 (σ : zS) (i j : Nat) : zS := pkS (rs2 σ.1 i j, σ.2.1, σ.2.2) i j (if rs2 σ.1 i j 5 i j 13 = 0 then 0 else 32)
def rsS (σ : zS) (i j : Nat) : zS := if sFired (rs1 σ.1 i j 5 i j) = 0 then (rs2 σ.1 i j, σ.2.1, σ.2.2) else (up (rs3 σ i j).1 5 i j 16 (sPause ((rs3 σ i j).1 5 i j)), (rs3 σ i j).2.1, (rs3 σ i j).2.2)
theorem Inv.rs {σ : zS} {i j : Nat} (h : Inv σ.1 σ.2.1 σ.2.2) : Inv (rsS σ i j).1 (rsS σ i j).2.1 (rsS σ i j).2.2 := by
  have h1 : Inv (rs2 σ.1 i j) σ.2.1 σ.2.2 := h.of rfl
  have h2 : Inv (rs3 σ i j).1 (rs3 σ i j).2.1 (rs3 σ i j).2.2 := Inv.pk (σ := (rs2 σ.1 i j, σ.2.1, σ.2.2)) h1
  unfold rsS
  split
  · exact h1
  · exact h2.of rfl
def rtStep (i s : Nat) (σ : zS) : zS := if σ.1 5 i s 2 = 0 then σ else rsS σ i s
def rtl (i : Nat) : Nat → Nat → zS → zS
  | 0, _, σ => σ
  | n + 1, s, σ => rtl i n (s + 1) (rtStep i s σ)
def rt1 (M : zM) (i : Nat) : zM := up M 2 i 0 5 (M 2 i 0 5 - 1)
def rt2 (σ : zS) (i : Nat) : zS := if 0 < rt1 σ.1 i 2 i 0 5 then (rt1 σ.1 i, σ.2.1, σ.2.2) else tfS (rt1 σ.1 i, σ.2.1, σ.2.2) i
def rtS (σ : zS) (i : Nat) : zS := if σ.1 2 i 0 4 = 0 then σ else rtl i 5 0 (rt2 σ i)
theorem inv_rt2 {σ : zS} {i : Nat} (h : Inv σ.1 σ.2.1 σ.2.2) : Inv (rt2 σ i).1 (rt2 σ i).2.1 (rt2 σ i).2.2 := by
  have h1 : Inv (rt1 σ.1 i) σ.2.1 σ.2.2 := h.of rfl
  unfold rt2
  split
  · exact h1
  · exact Inv.tf (σ := (rt1 σ.1 i, σ.2.1, σ.2.2)) h1
theorem inv_rtStep {σ : zS} {i s : Nat} (h : Inv σ.1 σ.2.1 σ.2.2) : Inv (rtStep i s σ).1 (rtStep i s σ).2.1 (rtStep i s σ).2.2 := by
  unfold rtStep
  split
  · exact h
  · exact Inv.rs h
theorem inv_rtl {i : Nat} : ∀ (n s : Nat) (σ : zS), Inv σ.1 σ.2.1 σ.2.2 → Inv (rtl i n s σ).1 (rtl i n s σ).2.1 (rtl i n s σ).2.2 := by
  intro n
  induction n with
  | zero => intro s σ h; exact h
  | succ n ih => intro s σ h; exact ih (s + 1) _ (inv_rtStep h)
theorem Inv.rt {σ : zS} {i : Nat} (h : Inv σ.1 σ.2.1 σ.2.2) : Inv (rtS σ i).1 (rtS σ i).2.1 (rtS σ i).2.2 := by
  unfold rtS
  split
  · exact h
  · exact inv_rtl 5 0 _ (inv_rt2 h)
theorem hpR_n (M : zM) (i k : Nat) : narrow .boolean (.int (hpR M i k)) = .int (hpR M i k) := by
  unfold hpR
  split
  · decide
  · decide

set_option maxRecDepth 100000 in
set_option maxHeartbeats 4000000 in
theorem c_R_hearPacket {l : Launch} {G : zG} {V : zV} (w : wC G V) (M : zM) (P : Nat → Nat) (D : Nat × Nat) (i : Nat) (hi : i < 5) (k : Nat) (hk : k < 63) (hI : Inv M P D) : zF l y_R_hearPacket b_R_hearPacket 4 (some .boolean) 4 83 G [.ref (V.1 2 i 0), .ref (V.1 9 k 0)] (eC V M P D) (some (.int (hpR M i k))) (eC V (hpS (M, P, D) i k).1 (hpS (M, P, D) i k).2.1 (hpS (M, P, D) i k).2.2) := by
  refine zF.ofZ (by decide) w.2.2.2.2 (Nat.le_of_ble_eq_true rfl) (fun X hXl hN hr C => ?_)
  subst hXl
  show Z X G (zA G) 4 _ (eC V M P D) 0 [(0, .ref (V.1 2 i 0)), (1, .ref (V.1 9 k 0))] []
  refine Z_aload_n C 1 d_R_hearPacket_0 rfl rfl ?_
  refine C_csv C ms_R_isWhole ml_R_191 (c_R_isWhole w _ _ _ _ (by assumption)) rfl (by decide) rfl (Nat.le_of_ble_eq_true rfl) d_R_hearPacket_1 ?_
  refine Z_if_eq (tgt := 15) C d_R_hearPacket_4 (by decide) (fun c4 => ?_) (fun c4 => ?_)
  · skip
    have hT : hpT M i k = none := by unfold hpT; rw [if_pos c4]
    refine Z_null C d_R_hearPacket_15 ?_
    refine Z_astore_nN C d_R_hearPacket_16 rfl (by decide) rfl ?_
    refine Z_aload_nN C 0 d_R_hearPacket_17 rfl rfl ?_
    refine Z_ifnonnullN C d_R_hearPacket_18 ?_
    refine Z_iconst (v := 0) C d_R_hearPacket_21 (by decide) ?_
    exact Z_zret C hN hr (by decide) d_R_hearPacket_22 (by unfold hpR; rw [hT]) (zeq (by unfold hpS; simp only [hT]))
  · skip
    refine Z_aload_n C 0 d_R_hearPacket_7 rfl rfl ?_
    refine Z_aload_n C 1 d_R_hearPacket_8 rfl rfl ?_
    refine C_cRv C w (by assumption) mi_R_sessionMeant ml_R_194 (c_R_sessionMeant w _ _ _ _ (by assumption) _ (by assumption)) rfl rfl (by decide) rfl (Nat.le_of_ble_eq_true rfl) d_R_hearPacket_9 ?_
    rcases hm : rMeant M i k 5 0 with _ | s
    · have hT : hpT M i k = none := by unfold hpT; rw [if_neg c4, hm]
      refine zst (st' := [.null]) rfl ?_
      refine Z_goto (tgt := 16) C d_R_hearPacket_12 (by decide) ?_
      refine Z_astore_nN C d_R_hearPacket_16 rfl (by decide) rfl ?_
      refine Z_aload_nN C 0 d_R_hearPacket_17 rfl rfl ?_
      refine Z_ifnonnullN C d_R_hearPacket_18 ?_
      refine Z_iconst (v := 0) C d_R_hearPacket_21 (by decide) ?_
      exact Z_zret C hN hr (by decide) d_R_hearPacket_22 (by unfold hpR; rw [hT]) (zeq (by unfold hpS; simp only [hT]))
    · have hT : hpT M i k = some s := by unfold hpT; rw [if_neg c4, hm]
      have hs : s < 5 := hpT_lt hT
      have hw : hpS (M, P, D) i k = hp3 (M, P, D) i k s := by unfold hpS; simp only [hT]
      refine zst (st' := [.ref (V.1 5 i s)]) rfl ?_
      refine Z_goto (tgt := 16) C d_R_hearPacket_12 (by decide) ?_
      refine Z_astore_n C d_R_hearPacket_16 rfl (by decide) rfl ?_
      refine Z_aload_n C 0 d_R_hearPacket_17 rfl rfl ?_
      refine Z_ifnonnull (tgt := 23) C d_R_hearPacket_18 (by decide) ?_
      refine Z_aload_n C 0 d_R_hearPacket_23 rfl rfl ?_
      refine Z_aload_n C 2 d_R_hearPacket_24 rfl rfl ?_
      refine C_cSv C w (by assumption) (by assumption) mi_S_learn ml_R_198 (c_S_learn w _ _ _ _ _ (by assumption) (by assumption) _ (by assumption)) rfl rfl (by decide) rfl (Nat.le_of_ble_eq_true rfl) d_R_hearPacket_25 ?_
      refine Z_istore_n C d_R_hearPacket_28 rfl (by decide) rfl ?_
      refine Z_aload_n C 3 d_R_hearPacket_29 rfl rfl ?_
      refine Z_iconst (v := 1) C d_R_hearPacket_30 (by decide) ?_
      refine C_cFv C w (by assumption) mi_F_byteAt ml_R_162 (c_F_byteAt w _ _ _ _ (by assumption) _) rfl rfl (by decide) rfl (Nat.le_of_ble_eq_true rfl) d_R_hearPacket_31 ?_
      refine Z_bipush (v := 32) C d_R_hearPacket_34 (by decide) ?_
      refine Z_iand C d_R_hearPacket_36 ?_
      refine Z_if_eq (tgt := 47) C d_R_hearPacket_37 (by decide) (fun c37 => ?_) (fun c37 => ?_)
      · have c37 : (by_ (hp1 M i k s) k 1 &&& 32) = 0 := c37
        refine zKk (K' := eC V (hp2 (M, P, D) i k s).1 (hp2 (M, P, D) i k s).2.1 (hp2 (M, P, D) i k s).2.2) (zeq (by unfold hp2; dsimp only; first | (rw [if_pos c37]; done) | (rw [if_neg c37]; done) | (rw [if_pos c37]; rfl) | (rw [if_neg c37]; rfl))) ?_
        refine Z_iload_n C 0 d_R_hearPacket_47 rfl rfl ?_
        refine Z_if_eq (tgt := 55) C d_R_hearPacket_48 (by decide) (fun c48 => ?_) (fun c48 => ?_)
        · skip
          refine Z_iconst (v := 1) C d_R_hearPacket_55 (by decide) ?_
          exact Z_zret C hN hr (by decide) d_R_hearPacket_56 (by unfold hpR; rw [hT]) (zeq (by rw [hw]; unfold hp3; dsimp only; first | (rw [if_pos c48]; done) | (rw [if_neg c48]; done) | (rw [if_pos c48]; rfl) | (rw [if_neg c48]; rfl)))
        · skip
          refine Z_aload_n C 1 d_R_hearPacket_51 rfl rfl ?_
          refine C_cSn C w (by assumption) (by assumption) mi_S_hurrySend ml_R_205 (c_S_hurrySend w _ _ _ _ _ (by assumption) (by assumption)) rfl rfl (by decide) rfl (Nat.le_of_ble_eq_true rfl) d_R_hearPacket_52 ?_
          refine Z_iconst (v := 1) C d_R_hearPacket_55 (by decide) ?_
          exact Z_zret C hN hr (by decide) d_R_hearPacket_56 (by unfold hpR; rw [hT]) (zeq (by rw [hw]; unfold hp3; dsimp only; first | (rw [if_pos c48]; done) | (rw [if_neg c48]; done) | (rw [if_pos c48]; rfl) | (rw [if_neg c48]; rfl)))
      · have c37 : ¬ (by_ (hp1 M i k s) k 1 &&& 32) = 0 := c37
        refine Z_aload_n C 2 d_R_hearPacket_40 rfl rfl ?_
        refine Z_aload_n C 1 d_R_hearPacket_41 rfl rfl ?_
        refine Z_bipush (v := 16) C d_R_hearPacket_42 (by decide) ?_
        refine C_cRn C w (by assumption) mi_R_sendPacket ml_R_201 (c_R_sendPacket w (hp1 M i k s) _ _ i s hi hs 16 (hI.of rfl)) rfl rfl (by decide) rfl (Nat.le_of_ble_eq_true rfl) d_R_hearPacket_44 ?_
        refine zKk (K' := eC V (hp2 (M, P, D) i k s).1 (hp2 (M, P, D) i k s).2.1 (hp2 (M, P, D) i k s).2.2) (zeq (by unfold hp2; dsimp only; first | (rw [if_pos c37]; done) | (rw [if_neg c37]; done) | (rw [if_pos c37]; rfl) | (rw [if_neg c37]; rfl))) ?_
        refine Z_iload_n C 0 d_R_hearPacket_47 rfl rfl ?_
        refine Z_if_eq (tgt := 55) C d_R_hearPacket_48 (by decide) (fun c48 => ?_) (fun c48 => ?_)
        · skip
          refine Z_iconst (v := 1) C d_R_hearPacket_55 (by decide) ?_
          exact Z_zret C hN hr (by decide) d_R_hearPacket_56 (by unfold hpR; rw [hT]) (zeq (by rw [hw]; unfold hp3; dsimp only; first | (rw [if_pos c48]; done) | (rw [if_neg c48]; done) | (rw [if_pos c48]; rfl) | (rw [if_neg c48]; rfl)))
        · skip
          refine Z_aload_n C 1 d_R_hearPacket_51 rfl rfl ?_
          refine C_cSn C w (by assumption) (by assumption) mi_S_hurrySend ml_R_205 (c_S_hurrySend w _ _ _ _ _ (by assumption) (by assumption)) rfl rfl (by decide) rfl (Nat.le_of_ble_eq_true rfl) d_R_hearPacket_52 ?_
          refine Z_iconst (v := 1) C d_R_hearPacket_55 (by decide) ?_
          exact Z_zret C hN hr (by decide) d_R_hearPacket_56 (by unfold hpR; rw [hT]) (zeq (by rw [hw]; unfold hp3; dsimp only; first | (rw [if_pos c48]; done) | (rw [if_neg c48]; done) | (rw [if_pos c48]; rfl) | (rw [if_neg c48]; rfl)))
set_option maxRecDepth 100000 in
set_option maxHeartbeats 4000000 in
theorem c_R_hear {l : Launch} {G : zG} {V : zV} (w : wC G V) (M : zM) (P : Nat → Nat) (D : Nat × Nat) (i : Nat) (hi : i < 5) (k : Nat) (hk : k < 63) (hI : Inv M P D) : zF l y_R_hear b_R_hear 2 (some .boolean) 5 106 G [.ref (V.1 2 i 0), .ref (V.1 9 k 0)] (eC V M P D) (some (.int (heR M i k))) (eC V (heS (M, P, D) i k).1 (heS (M, P, D) i k).2.1 (heS (M, P, D) i k).2.2) := by
  refine zF.ofZ (by decide) w.2.2.2.2 (Nat.le_of_ble_eq_true rfl) (fun X hXl hN hr C => ?_)
  subst hXl
  show Z X G (zA G) 2 _ (eC V M P D) 0 [(0, .ref (V.1 2 i 0)), (1, .ref (V.1 9 k 0))] []
  refine Z_aload_n C 1 d_R_hear_0 rfl rfl ?_
  refine C_gF C w (by assumption) 2 (by decide) fl_R_133 rfl rfl d_R_hear_1 ?_
  refine Z_tsw C d_R_hear_4 [(1, 36), (2, 79), (3, 85), (4, 115)] 125 (by decide +kernel) (by decide +kernel) (by decide) ?_ ?_
  · simp only [List.forall_mem_cons]
    refine ⟨fun c4 => ?_, fun c4 => ?_, fun c4 => ?_, fun c4 => ?_, fun _ h => absurd h List.not_mem_nil⟩
    · skip
      refine Z_aload_n C 0 d_R_hear_36 rfl rfl ?_
      refine Z_aload_n C 1 d_R_hear_37 rfl rfl ?_
      refine C_cRv C w (by assumption) mi_R_isForUs ml_R_136 (c_R_isForUs w _ _ _ _ (by assumption) _ (by assumption)) rfl rfl (by decide) rfl (Nat.le_of_ble_eq_true rfl) d_R_hear_38 ?_
      refine Z_if_ne (tgt := 46) C d_R_hear_41 (by decide) (fun c41 => ?_) (fun c41 => ?_)
      · skip
        refine Z_aload_n C 0 d_R_hear_46 rfl rfl ?_
        refine Z_dup C d_R_hear_47 rfl ?_
        refine C_gR C w (by assumption) 8 (by decide) fl_R_50 rfl rfl d_R_hear_48 ?_
        refine Z_iconst (v := 1) C d_R_hear_51 (by decide) ?_
        refine Z_iadd C d_R_hear_52 ?_
        refine C_pR C w (by assumption) 8 (by decide) fl_R_50 rfl rfl rfl rfl rfl d_R_hear_53 ?_
        refine Z_aload_n C 0 d_R_hear_56 rfl rfl ?_
        refine C_gR C w (by assumption) 4 (by decide) fl_R_34 rfl rfl d_R_hear_57 ?_
        refine Z_iconst (v := 2) C d_R_hear_60 (by decide) ?_
        refine Z_icmp_ne (tgt := 72) C d_R_hear_61 (by decide) (fun c61 => ?_) (fun c61 => ?_)
        · have c61 : ¬ he1 M i 2 i 0 4 = 2 := c61
          refine Z_aload_n C 0 d_R_hear_72 rfl rfl ?_
          refine Z_aload_n C 1 d_R_hear_73 rfl rfl ?_
          refine C_cRn C w (by assumption) mi_R_hearAsBackup ml_R_144 (c_R_hearAsBackup w (he1 M i) _ _ i hi k hk) rfl rfl (by decide) rfl (Nat.le_of_ble_eq_true rfl) d_R_hear_74 ?_
          refine Z_iconst (v := 1) C d_R_hear_77 (by decide) ?_
          exact Z_zret C hN hr (by first | decide | exact hpR_n _ _ _) d_R_hear_78 (by unfold heR; simp [c4, c4, c41, c61]) (zeq (by unfold heS; simp [c4, c4, c41, c61]; try rfl))
        · have c61 : he1 M i 2 i 0 4 = 2 := c61
          refine Z_aload_n C 0 d_R_hear_64 rfl rfl ?_
          refine Z_aload_n C 1 d_R_hear_65 rfl rfl ?_
          refine C_cRn C w (by assumption) mi_R_hearAsActive ml_R_140 (c_R_hearAsActive w (he1 M i) _ _ i hi k hk (hI.of rfl)) rfl rfl (by decide) rfl (Nat.le_of_ble_eq_true rfl) d_R_hear_66 ?_
          refine Z_goto (tgt := 77) C d_R_hear_69 (by decide) ?_
          refine Z_iconst (v := 1) C d_R_hear_77 (by decide) ?_
          exact Z_zret C hN hr (by first | decide | exact hpR_n _ _ _) d_R_hear_78 (by unfold heR; simp [c4, c4, c41, c61]) (zeq (by unfold heS; simp [c4, c4, c41, c61]; try rfl))
      · skip
        refine Z_iconst (v := 0) C d_R_hear_44 (by decide) ?_
        exact Z_zret C hN hr (by first | decide | exact hpR_n _ _ _) d_R_hear_45 (by unfold heR; simp [c4, c4, c41]) (zeq (by unfold heS; simp [c4, c4, c41]; try rfl))
    · skip
      refine Z_aload_n C 0 d_R_hear_79 rfl rfl ?_
      refine Z_aload_n C 1 d_R_hear_80 rfl rfl ?_
      refine C_cRv C w (by assumption) mi_R_hearPacket ml_R_147 (c_R_hearPacket w _ _ _ _ (by assumption) _ (by assumption) (by assumption)) rfl rfl (by decide) rfl (Nat.le_of_ble_eq_true rfl) d_R_hear_81 ?_
      exact Z_zret C hN hr (by first | decide | exact hpR_n _ _ _) d_R_hear_84 (by unfold heR; simp [c4, c4]) (zeq (by unfold heS; simp [c4, c4]; try rfl))
    · skip
      refine Z_aload_n C 0 d_R_hear_85 rfl rfl ?_
      refine C_gR C w (by assumption) 4 (by decide) fl_R_34 rfl rfl d_R_hear_86 ?_
      refine Z_iconst (v := 2) C d_R_hear_89 (by decide) ?_
      refine Z_icmp_ne (tgt := 113) C d_R_hear_90 (by decide) (fun c90 => ?_) (fun c90 => ?_)
      · skip
        refine Z_iconst (v := 0) C d_R_hear_113 (by decide) ?_
        exact Z_zret C hN hr (by first | decide | exact hpR_n _ _ _) d_R_hear_114 (by unfold heR; simp [c4, c4, c90]) (zeq (by unfold heS; simp [c4, c4, c90]; try rfl))
      · skip
        refine Z_aload_n C 1 d_R_hear_93 rfl rfl ?_
        refine C_gF C w (by assumption) 3 (by decide) fl_R_150 rfl rfl d_R_hear_94 ?_
        refine Z_bipush (v := 9) C d_R_hear_97 (by decide) ?_
        refine Z_icmp_eq (tgt := 113) C d_R_hear_99 (by decide) (fun c99 => ?_) (fun c99 => ?_)
        · skip
          refine Z_iconst (v := 0) C d_R_hear_113 (by decide) ?_
          exact Z_zret C hN hr (by first | decide | exact hpR_n _ _ _) d_R_hear_114 (by unfold heR; simp [c4, c4, c90, c99]) (zeq (by unfold heS; simp [c4, c4, c90, c99]; try rfl))
        · skip
          refine Z_aload_n C 0 d_R_hear_102 rfl rfl ?_
          refine Z_iconst (v := 4) C d_R_hear_103 (by decide) ?_
          refine Z_bipush (v := 9) C d_R_hear_104 (by decide) ?_
          refine Z_aload_n C 1 d_R_hear_106 rfl rfl ?_
          refine C_gF C w (by assumption) 3 (by decide) fl_R_150 rfl rfl d_R_hear_107 ?_
          refine C_cRn C w (by assumption) mi_R_sendEmpty ml_R_74 (c_R_sendEmpty w _ _ _ i hi 4 9 _ (by decide) hI) rfl rfl (by decide) rfl (Nat.le_of_ble_eq_true rfl) d_R_hear_110 ?_
          refine Z_iconst (v := 0) C d_R_hear_113 (by decide) ?_
          exact Z_zret C hN hr (by first | decide | exact hpR_n _ _ _) d_R_hear_114 (by unfold heR; simp [c4, c4, c90, c99]) (zeq (by unfold heS; simp [c4, c4, c90, c99]; try rfl))
    · skip
      refine Z_aload_n C 0 d_R_hear_115 rfl rfl ?_
      refine Z_aload_n C 1 d_R_hear_116 rfl rfl ?_
      refine C_gF C w (by assumption) 5 (by decide) fl_R_153 rfl rfl d_R_hear_117 ?_
      refine C_pR C w (by assumption) 10 (by decide) fl_R_56 rfl rfl rfl rfl rfl d_R_hear_120 ?_
      refine Z_iconst (v := 0) C d_R_hear_123 (by decide) ?_
      exact Z_zret C hN hr (by first | decide | exact hpR_n _ _ _) d_R_hear_124 (by unfold heR; simp [c4, c4]) (zeq (by unfold heS; simp [c4, c4]; try rfl))
  · intro c4
    simp only [List.forall_mem_cons] at c4
    refine Z_iconst (v := 0) C d_R_hear_125 (by decide) ?_
    exact Z_zret C hN hr (by first | decide | exact hpR_n _ _ _) d_R_hear_126 (by unfold heR; simp [c4, c4]) (zeq (by unfold heS; simp [c4, c4]; try rfl))
set_option maxRecDepth 100000 in
set_option maxHeartbeats 4000000 in
theorem c_R_runSession {l : Launch} {G : zG} {V : zV} (w : wC G V) (M : zM) (P : Nat → Nat) (D : Nat × Nat) (i j : Nat) (hi : i < 5) (hj : j < 5) (hI : Inv M P D) : zF l y_R_runSession b_R_runSession 2 none 3 68 G [.ref (V.1 2 i 0), .ref (V.1 5 i j)] (eC V M P D) none (eC V (rsS (M, P, D) i j).1 (rsS (M, P, D) i j).2.1 (rsS (M, P, D) i j).2.2) := by
  refine zF.ofZ (by decide) w.2.2.2.2 (Nat.le_of_ble_eq_true rfl) (fun X hXl hN hr C => ?_)
  subst hXl
  show Z X G (zA G) 2 _ (eC V M P D) 0 [(0, .ref (V.1 2 i 0)), (1, .ref (V.1 5 i j))] []
  refine Z_aload_n C 1 d_R_runSession_0 rfl rfl ?_
  refine C_cSn C w (by assumption) (by assumption) mi_S_runDetect ml_R_215 (c_S_runDetect w _ _ _ _ _ (by assumption) (by assumption)) rfl rfl (by decide) rfl (Nat.le_of_ble_eq_true rfl) d_R_runSession_1 ?_
  refine Z_aload_n C 1 d_R_runSession_4 rfl rfl ?_
  refine C_cSv C w (by assumption) (by assumption) mi_S_sendFires ml_R_218 (c_S_sendFires w _ _ _ _ _ (by assumption) (by assumption)) rfl rfl (by decide) rfl (Nat.le_of_ble_eq_true rfl) d_R_runSession_5 ?_
  refine Z_if_eq (tgt := 37) C d_R_runSession_8 (by decide) (fun c8 => ?_) (fun c8 => ?_)
  · have c8 : sFired (rs1 M i j 5 i j) = 0 := c8
    exact Z_vret C hN hr d_R_runSession_37 rfl (zeq (by unfold rsS; dsimp only; first | (rw [if_pos c8]; done) | (rw [if_neg c8]; done) | (rw [if_pos c8]; rfl) | (rw [if_neg c8]; rfl)))
  · have c8 : ¬ sFired (rs1 M i j 5 i j) = 0 := c8
    refine Z_aload_n C 0 d_R_runSession_11 rfl rfl ?_
    refine Z_aload_n C 1 d_R_runSession_12 rfl rfl ?_
    refine Z_aload_n C 1 d_R_runSession_13 rfl rfl ?_
    refine C_gS C w (by assumption) (by assumption) 13 (by decide) fl_R_222 rfl rfl d_R_runSession_14 ?_
    refine Z_if_eq (tgt := 25) C d_R_runSession_17 (by decide) (fun c17 => ?_) (fun c17 => ?_)
    · have c17 : rs2 M i j 5 i j 13 = 0 := c17
      refine Z_iconst (v := 0) C d_R_runSession_25 (by decide) ?_
      refine zst (st' := [.int (if rs2 M i j 5 i j 13 = 0 then 0 else 32), .ref (V.1 5 i j), .ref (V.1 2 i 0)]) (by first | (rw [if_pos c17]) | (rw [if_neg c17])) ?_
      refine C_cRn C w (by assumption) mi_R_sendPacket ml_R_201 (c_R_sendPacket w (rs2 M i j) _ _ i j hi hj _ (hI.of rfl)) rfl rfl (by decide) rfl (Nat.le_of_ble_eq_true rfl) d_R_runSession_26 ?_
      refine Z_aload_n C 1 d_R_runSession_29 rfl rfl ?_
      refine Z_aload_n C 1 d_R_runSession_30 rfl rfl ?_
      refine C_cSv C w (by assumption) (by assumption) mi_S_sendPause ml_R_225 (c_S_sendPause w _ _ _ _ _ (by assumption) (by assumption)) rfl rfl (by decide) rfl (Nat.le_of_ble_eq_true rfl) d_R_runSession_31 ?_
      refine C_pS C w (by assumption) (by assumption) 16 (by decide) fl_R_228 rfl rfl rfl rfl rfl d_R_runSession_34 ?_
      exact Z_vret C hN hr d_R_runSession_37 rfl (zeq (by unfold rsS; dsimp only; first | (rw [if_pos c8]; done) | (rw [if_neg c8]; done) | (rw [if_pos c8]; rfl) | (rw [if_neg c8]; rfl)))
    · have c17 : ¬ rs2 M i j 5 i j 13 = 0 := c17
      refine Z_bipush (v := 32) C d_R_runSession_20 (by decide) ?_
      refine Z_goto (tgt := 26) C d_R_runSession_22 (by decide) ?_
      refine zst (st' := [.int (if rs2 M i j 5 i j 13 = 0 then 0 else 32), .ref (V.1 5 i j), .ref (V.1 2 i 0)]) (by first | (rw [if_pos c17]) | (rw [if_neg c17])) ?_
      refine C_cRn C w (by assumption) mi_R_sendPacket ml_R_201 (c_R_sendPacket w (rs2 M i j) _ _ i j hi hj _ (hI.of rfl)) rfl rfl (by decide) rfl (Nat.le_of_ble_eq_true rfl) d_R_runSession_26 ?_
      refine Z_aload_n C 1 d_R_runSession_29 rfl rfl ?_
      refine Z_aload_n C 1 d_R_runSession_30 rfl rfl ?_
      refine C_cSv C w (by assumption) (by assumption) mi_S_sendPause ml_R_225 (c_S_sendPause w _ _ _ _ _ (by assumption) (by assumption)) rfl rfl (by decide) rfl (Nat.le_of_ble_eq_true rfl) d_R_runSession_31 ?_
      refine C_pS C w (by assumption) (by assumption) 16 (by decide) fl_R_228 rfl rfl rfl rfl rfl d_R_runSession_34 ?_
      exact Z_vret C hN hr d_R_runSession_37 rfl (zeq (by unfold rsS; dsimp only; first | (rw [if_pos c8]; done) | (rw [if_neg c8]; done) | (rw [if_pos c8]; rfl) | (rw [if_neg c8]; rfl)))
set_option maxRecDepth 100000 in
set_option maxHeartbeats 4000000 in
theorem c_R_runTimers {l : Launch} {G : zG} {V : zV} (w : wC G V) (M : zM) (P : Nat → Nat) (D : Nat × Nat) (i : Nat) (hi : i < 5) (hI : Inv M P D) : zF l y_R_runTimers b_R_runTimers 2 none 5 108 G [.ref (V.1 2 i 0)] (eC V M P D) none (eC V (rtS (M, P, D) i).1 (rtS (M, P, D) i).2.1 (rtS (M, P, D) i).2.2) := by
  refine zF.ofZ (by decide) w.2.2.2.2 (Nat.le_of_ble_eq_true rfl) (fun X hXl hN hr C => ?_)
  subst hXl
  show Z X G (zA G) 2 _ (eC V M P D) 0 [(0, .ref (V.1 2 i 0))] []
  refine Z_aload_n C 0 d_R_runTimers_0 rfl rfl ?_
  refine C_gR C w (by assumption) 4 (by decide) fl_R_34 rfl rfl d_R_runTimers_1 ?_
  refine Z_if_ne (tgt := 8) C d_R_runTimers_4 (by decide) (fun c4 => ?_) (fun c4 => ?_)
  · skip
    refine Z_aload_n C 0 d_R_runTimers_8 rfl rfl ?_
    refine Z_dup C d_R_runTimers_9 rfl ?_
    refine C_gR C w (by assumption) 5 (by decide) fl_R_37 rfl rfl d_R_runTimers_10 ?_
    refine Z_iconst (v := 1) C d_R_runTimers_13 (by decide) ?_
    refine Z_isub C d_R_runTimers_14 ?_
    refine C_pR C w (by assumption) 5 (by decide) fl_R_37 rfl rfl rfl rfl rfl d_R_runTimers_15 ?_
    refine Z_aload_n C 0 d_R_runTimers_18 rfl rfl ?_
    refine C_gR C w (by assumption) 5 (by decide) fl_R_37 rfl rfl d_R_runTimers_19 ?_
    refine Z_if_gt (tgt := 29) C d_R_runTimers_22 (by decide) (fun c22 => ?_) (fun c22 => ?_)
    · have c22 : 0 < rt1 M i 2 i 0 5 := c22
      refine zKk (K' := eC V (rt2 (M, P, D) i).1 (rt2 (M, P, D) i).2.1 (rt2 (M, P, D) i).2.2) (zeq (by unfold rt2; dsimp only; first | (rw [if_pos c22]; done) | (rw [if_neg c22]; done) | (rw [if_pos c22]; rfl) | (rw [if_neg c22]; rfl))) ?_
      refine Z_iconst (v := 0) C d_R_runTimers_29 (by decide) ?_
      refine Z_istore_n C d_R_runTimers_30 rfl (by decide) rfl ?_
      have hlp : ∀ (n s : Nat) (σ : zS), s + n = 5 → Inv σ.1 σ.2.1 σ.2.2 → rtl i n s σ = rtS (M, P, D) i → Z X G (zA G) 2 (zQ X G none (eC V (rtS (M, P, D) i).1 (rtS (M, P, D) i).2.1 (rtS (M, P, D) i).2.2)) (eC V σ.1 σ.2.1 σ.2.2) 31 [(1, .int (nI s)), (0, .ref (V.1 2 i 0))] [] := by
        intro n
        induction n with
        | zero =>
          intro s σ h1 h2 h3
          refine Z_iload_n C 0 d_R_runTimers_31 rfl rfl ?_
          refine Z_iconst (v := 5) C d_R_runTimers_32 (by decide) ?_
          refine Z_icmp_ge (tgt := 64) C d_R_runTimers_33 (by decide) (fun c33 => ?_) (fun c33 => ?_)
          · skip
            exact Z_vret C hN hr d_R_runTimers_64 rfl (zeq (by rw [← h3]; rfl))
          · exact absurd (nI_le (a := 5) (b := s) (by omega) (by omega)) c33 --stop
        | succ n ih =>
          intro s σ h1 h2 h3
          have hs : s < 5 := by omega
          refine Z_iload_n C 0 d_R_runTimers_31 rfl rfl ?_
          refine Z_iconst (v := 5) C d_R_runTimers_32 (by decide) ?_
          refine Z_icmp_ge (tgt := 64) C d_R_runTimers_33 (by decide) (fun c33 => ?_) (fun c33 => ?_)
          · exact absurd c33 (nI_ge (a := s) (b := 5) (by omega) (by decide)) --stop
          · skip
            refine Z_aload_n C 1 d_R_runTimers_36 rfl rfl ?_
            refine C_gR C w (by assumption) 3 (by decide) fl_R_27 rfl rfl d_R_runTimers_37 ?_
            refine Z_iload_n C 0 d_R_runTimers_40 rfl rfl ?_
            refine C_ldX C w (by assumption) s (nI_clamp (by omega)) (vp_in_nI (by omega) (by decide)) d_R_runTimers_41 ?_
            refine C_gS C w (by assumption) (by assumption) 2 (by decide) fl_R_69 rfl rfl d_R_runTimers_42 ?_
            refine Z_if_eq (tgt := 58) C d_R_runTimers_45 (by decide) (fun c45 => ?_) (fun c45 => ?_)
            · skip
              refine Z_iinc 0 C d_R_runTimers_58 rfl (nI_1 s) (by decide) rfl ?_
              refine Z_goto (tgt := 31) C d_R_runTimers_61 (by decide) ?_
              have e : rtStep i s σ = rtStep i s σ := rfl
              have hq := ih (s + 1) (rtStep i s σ) (by omega) (inv_rtStep h2) h3
              unfold rtStep at hq
              first | (rw [if_pos c45] at hq; exact hq) | (rw [if_neg c45] at hq; exact hq)
            · skip
              refine Z_aload_n C 1 d_R_runTimers_48 rfl rfl ?_
              refine Z_aload_n C 1 d_R_runTimers_49 rfl rfl ?_
              refine C_gR C w (by assumption) 3 (by decide) fl_R_27 rfl rfl d_R_runTimers_50 ?_
              refine Z_iload_n C 0 d_R_runTimers_53 rfl rfl ?_
              refine C_ldX C w (by assumption) s (nI_clamp (by omega)) (vp_in_nI (by omega) (by decide)) d_R_runTimers_54 ?_
              refine C_cRn C w (by assumption) mi_R_runSession ml_R_211 (c_R_runSession w σ.1 σ.2.1 σ.2.2 i s hi hs h2) rfl rfl (by decide) rfl (Nat.le_of_ble_eq_true rfl) d_R_runTimers_55 ?_
              refine Z_iinc 0 C d_R_runTimers_58 rfl (nI_1 s) (by decide) rfl ?_
              refine Z_goto (tgt := 31) C d_R_runTimers_61 (by decide) ?_
              have e : rtStep i s σ = rtStep i s σ := rfl
              have hq := ih (s + 1) (rtStep i s σ) (by omega) (inv_rtStep h2) h3
              unfold rtStep at hq
              first | (rw [if_pos c45] at hq; exact hq) | (rw [if_neg c45] at hq; exact hq)
      exact hlp 5 0 (rt2 (M, P, D) i) rfl (inv_rt2 hI) (by unfold rtS; rw [if_neg c4])
    · have c22 : ¬ 0 < rt1 M i 2 i 0 5 := c22
      refine Z_aload_n C 0 d_R_runTimers_25 rfl rfl ?_
      refine C_cRn C w (by assumption) mi_R_timerFires ml_R_208 (c_R_timerFires w (rt1 M i) _ _ i hi (hI.of rfl)) rfl rfl (by decide) rfl (Nat.le_of_ble_eq_true rfl) d_R_runTimers_26 ?_
      refine zKk (K' := eC V (rt2 (M, P, D) i).1 (rt2 (M, P, D) i).2.1 (rt2 (M, P, D) i).2.2) (zeq (by unfold rt2; dsimp only; first | (rw [if_pos c22]; done) | (rw [if_neg c22]; done) | (rw [if_pos c22]; rfl) | (rw [if_neg c22]; rfl))) ?_
      refine Z_iconst (v := 0) C d_R_runTimers_29 (by decide) ?_
      refine Z_istore_n C d_R_runTimers_30 rfl (by decide) rfl ?_
      have hlp : ∀ (n s : Nat) (σ : zS), s + n = 5 → Inv σ.1 σ.2.1 σ.2.2 → rtl i n s σ = rtS (M, P, D) i → Z X G (zA G) 2 (zQ X G none (eC V (rtS (M, P, D) i).1 (rtS (M, P, D) i).2.1 (rtS (M, P, D) i).2.2)) (eC V σ.1 σ.2.1 σ.2.2) 31 [(1, .int (nI s)), (0, .ref (V.1 2 i 0))] [] := by
        intro n
        induction n with
        | zero =>
          intro s σ h1 h2 h3
          refine Z_iload_n C 0 d_R_runTimers_31 rfl rfl ?_
          refine Z_iconst (v := 5) C d_R_runTimers_32 (by decide) ?_
          refine Z_icmp_ge (tgt := 64) C d_R_runTimers_33 (by decide) (fun c33 => ?_) (fun c33 => ?_)
          · skip
            exact Z_vret C hN hr d_R_runTimers_64 rfl (zeq (by rw [← h3]; rfl))
          · exact absurd (nI_le (a := 5) (b := s) (by omega) (by omega)) c33 --stop
        | succ n ih =>
          intro s σ h1 h2 h3
          have hs : s < 5 := by omega
          refine Z_iload_n C 0 d_R_runTimers_31 rfl rfl ?_
          refine Z_iconst (v := 5) C d_R_runTimers_32 (by decide) ?_
          refine Z_icmp_ge (tgt := 64) C d_R_runTimers_33 (by decide) (fun c33 => ?_) (fun c33 => ?_)
          · exact absurd c33 (nI_ge (a := s) (b := 5) (by omega) (by decide)) --stop
          · skip
            refine Z_aload_n C 1 d_R_runTimers_36 rfl rfl ?_
            refine C_gR C w (by assumption) 3 (by decide) fl_R_27 rfl rfl d_R_runTimers_37 ?_
            refine Z_iload_n C 0 d_R_runTimers_40 rfl rfl ?_
            refine C_ldX C w (by assumption) s (nI_clamp (by omega)) (vp_in_nI (by omega) (by decide)) d_R_runTimers_41 ?_
            refine C_gS C w (by assumption) (by assumption) 2 (by decide) fl_R_69 rfl rfl d_R_runTimers_42 ?_
            refine Z_if_eq (tgt := 58) C d_R_runTimers_45 (by decide) (fun c45 => ?_) (fun c45 => ?_)
            · skip
              refine Z_iinc 0 C d_R_runTimers_58 rfl (nI_1 s) (by decide) rfl ?_
              refine Z_goto (tgt := 31) C d_R_runTimers_61 (by decide) ?_
              have e : rtStep i s σ = rtStep i s σ := rfl
              have hq := ih (s + 1) (rtStep i s σ) (by omega) (inv_rtStep h2) h3
              unfold rtStep at hq
              first | (rw [if_pos c45] at hq; exact hq) | (rw [if_neg c45] at hq; exact hq)
            · skip
              refine Z_aload_n C 1 d_R_runTimers_48 rfl rfl ?_
              refine Z_aload_n C 1 d_R_runTimers_49 rfl rfl ?_
              refine C_gR C w (by assumption) 3 (by decide) fl_R_27 rfl rfl d_R_runTimers_50 ?_
              refine Z_iload_n C 0 d_R_runTimers_53 rfl rfl ?_
              refine C_ldX C w (by assumption) s (nI_clamp (by omega)) (vp_in_nI (by omega) (by decide)) d_R_runTimers_54 ?_
              refine C_cRn C w (by assumption) mi_R_runSession ml_R_211 (c_R_runSession w σ.1 σ.2.1 σ.2.2 i s hi hs h2) rfl rfl (by decide) rfl (Nat.le_of_ble_eq_true rfl) d_R_runTimers_55 ?_
              refine Z_iinc 0 C d_R_runTimers_58 rfl (nI_1 s) (by decide) rfl ?_
              refine Z_goto (tgt := 31) C d_R_runTimers_61 (by decide) ?_
              have e : rtStep i s σ = rtStep i s σ := rfl
              have hq := ih (s + 1) (rtStep i s σ) (by omega) (inv_rtStep h2) h3
              unfold rtStep at hq
              first | (rw [if_pos c45] at hq; exact hq) | (rw [if_neg c45] at hq; exact hq)
      exact hlp 5 0 (rt2 (M, P, D) i) rfl (inv_rt2 hI) (by unfold rtS; rw [if_neg c4])
  · skip
    exact Z_vret C hN hr d_R_runTimers_7 rfl (zeq (by unfold rtS; rw [if_pos c4]))

