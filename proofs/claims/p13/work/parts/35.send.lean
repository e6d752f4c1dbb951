/-! THE ROUTER, part B: what it sends. The state as a triple -/
abbrev zS : Type := zM × (Nat → Nat) × (Nat × Nat)
def cnt (M : zM) : Nat := (M 6 0 0 2).toNatClampNeg
/-- the frames' numbers are frames; the count is 0 to 60 -/
def Inv (M : zM) (P : Nat → Nat) (D : Nat × Nat) : Prop := D.1 < 63 ∧ D.2 < 63 ∧ (∀ n, n < 60 → P n < 63) ∧ M 6 0 0 2 = nI (cnt M) ∧ cnt M ≤ 60
theorem Inv.of {M M' : zM} {P : Nat → Nat} {D : Nat × Nat} (h : Inv M P D) (e : M' 6 0 0 2 = M 6 0 0 2) : Inv M' P D := by
  obtain ⟨h1, h2, h3, h4, h5⟩ := h
  have hc : cnt M' = cnt M := by unfold cnt; rw [e]
  exact ⟨h1, h2, h3, by rw [hc, e]; exact h4, by rw [hc]; exact h5⟩
theorem cnt_nI {n : Nat} (h : n < 2 ^ 31) {M : zM} (e : M 6 0 0 2 = nI n) : cnt M = n := by unfold cnt; rw [e]; exact nI_clamp h
theorem Inv.cy {M : zM} {P : Nat → Nat} {D : Nat × Nat} {s : Nat} {port delay : Int32} (h : Inv M P D) : Inv (cyM M D.1 (cnt M) s port delay) (cyP P D (cnt M)) (cyD P D (cnt M)) := by
  obtain ⟨h1, h2, h3, h4, h5⟩ := h
  unfold cyM cyP cyD
  by_cases hc : cnt M = 60
  · rw [if_pos hc, if_pos hc, if_pos hc]
    exact ⟨h1, h2, h3, h4, h5⟩
  · rw [if_neg hc, if_neg hc, if_neg hc]
    have e : up (up (up (up M 7 0 0 s port) 9 D.1 0 7 (cyPorts (up M 7 0 0 s port) (M 9 D.1 0 4) port)) 9 D.1 0 8 (M 6 0 0 3 + delay)) 6 0 0 2 (nI (cnt M + 1)) 6 0 0 2 = nI (cnt M + 1) := by rw [up_self]; rfl
    have ec := cnt_nI (by omega) e
    refine ⟨h3 _ (by omega), h2, fun n hn => ?_, by rw [ec]; exact e, by rw [ec]; omega⟩
    by_cases q : n = cnt M
    · subst q; rw [va_up_self]; exact h1
    · rw [va_up_ne _ _ q]; exact h3 n hn
def sdS (σ : zS) (i s : Nat) : zS := if (σ.1 3 i 0 7 &&& 1) = 0 then (cyM (up σ.1 2 i 0 9 (σ.1 2 i 0 9 + 1)) σ.2.2.1 (cnt σ.1) s (nI i) (σ.1 3 i 0 6), cyP σ.2.1 σ.2.2 (cnt σ.1), cyD σ.2.1 σ.2.2 (cnt σ.1)) else (up σ.1 2 i 0 9 (σ.1 2 i 0 9 + 1), σ.2.1, σ.2.2)
theorem Inv.sd {σ : zS} {i s : Nat} (h : Inv σ.1 σ.2.1 σ.2.2) : Inv (sdS σ i s).1 (sdS σ i s).2.1 (sdS σ i s).2.2 := by
  unfold sdS
  by_cases c : (σ.1 3 i 0 7 &&& 1) = 0
  · rw [if_pos c]
    exact (h.of (M' := up σ.1 2 i 0 9 (σ.1 2 i 0 9 + 1)) rfl).cy
  · rw [if_neg c]
    exact h.of rfl
theorem Inv.sd' {M : zM} {P : Nat → Nat} {D : Nat × Nat} {i s : Nat} (h : Inv M P D) : Inv (sdS (M, P, D) i s).1 (sdS (M, P, D) i s).2.1 (sdS (M, P, D) i s).2.2 := Inv.sd (σ := (M, P, D)) h
theorem fPut_k {M : zM} {k κ a b : Nat} {v : Int32} (h9 : κ ≠ 9) (h10 : κ ≠ 10) : fPut M k v κ a b = M κ a b := by
  unfold fPut
  split
  · rfl
  · split
    · rfl
    · rw [up_ne (fun z => h9 z.1), up_ne (fun z => h10 z.1)]
theorem fPut_f {M : zM} {k f : Nat} {v : Int32} (h : f ≠ 1) : fPut M k v 9 k 0 f = M 9 k 0 f := by
  unfold fPut
  split
  · rfl
  · split
    · rfl
    · rw [up_self]; simp [upd, h, up]
theorem fPut2_k {M : zM} {k κ a b : Nat} {v : Int32} (h9 : κ ≠ 9) (h10 : κ ≠ 10) : fPut2 M k v κ a b = M κ a b := by unfold fPut2; rw [fPut_k h9 h10, fPut_k h9 h10]
theorem fPut2_f {M : zM} {k f : Nat} {v : Int32} (h : f ≠ 1) : fPut2 M k v 9 k 0 f = M 9 k 0 f := by unfold fPut2; rw [fPut_f h, fPut_f h]
theorem fPut4_k {M : zM} {k κ a b : Nat} {v : Int32} (h9 : κ ≠ 9) (h10 : κ ≠ 10) : fPut4 M k v κ a b = M κ a b := by unfold fPut4; rw [fPut_k h9 h10, fPut_k h9 h10, fPut_k h9 h10, fPut_k h9 h10]
theorem fPut4_f {M : zM} {k f : Nat} {v : Int32} (h : f ≠ 1) : fPut4 M k v 9 k 0 f = M 9 k 0 f := by unfold fPut4; rw [fPut_f h, fPut_f h, fPut_f h, fPut_f h]
theorem fCheck_k {M : zM} {k κ a b : Nat} {x : Int32} (h10 : κ ≠ 10) : fCheck M k x κ a b = M κ a b := by
  unfold fCheck
  split
  · rfl
  · split
    · rfl
    · split
      · rfl
      · rw [up_ne (fun z => h10 z.1), up_ne (fun z => h10 z.1)]
theorem wNew_3 {M : zM} {d : Nat} {a b c e : Int32} : wNew M d a b c e 9 d 0 3 = b := by unfold wNew; simp [up_self, upd]
theorem wNew_4 {M : zM} {d : Nat} {a b c e : Int32} : wNew M d a b c e 9 d 0 4 = c := by unfold wNew; simp [up_self, upd]
def seS (σ : zS) (i : Nat) (kind : Int32) (s : Nat) (to : Int32) : zS := sdS (wNew σ.1 σ.2.2.1 kind (nI s) to (σ.1 3 i 0 4), σ.2.1, σ.2.2) i s
def ad1 (M : zM) (d i : Nat) : zM := fPut (wNew M d 1 9 15 (M 3 i 0 4)) d 49
def ad2 (M : zM) (d i : Nat) (pr : Int32) : zM := fPut (fPut (fPut (ad1 M d i) d (ad1 M d i 3 i 0 3)) d pr) d 1
def ad3 (M : zM) (d i : Nat) (pr : Int32) : zM := fPut2 (fPut2 (ad2 M d i pr) d (ad2 M d i pr 3 i 0 1)) d 0
def ad4 (M : zM) (d i : Nat) (pr : Int32) : zM := fCheck (fPut4 (ad3 M d i pr) d (ad3 M d i pr 3 i 0 5)) d 6
theorem ad4_k {M : zM} {d i κ a b : Nat} {pr : Int32} (h9 : κ ≠ 9) (h10 : κ ≠ 10) : ad4 M d i pr κ a b = M κ a b := by
  unfold ad4 ad3 ad2 ad1
  rw [fCheck_k h10, fPut4_k h9 h10, fPut2_k h9 h10, fPut2_k h9 h10, fPut_k h9 h10, fPut_k h9 h10, fPut_k h9 h10, fPut_k h9 h10]
  unfold wNew
  rw [up_ne (fun z => h9 z.1), up_ne (fun z => h9 z.1), up_ne (fun z => h9 z.1), up_ne (fun z => h9 z.1), up_ne (fun z => h9 z.1), up_ne (fun z => h9 z.1)]
theorem ad4_c (M : zM) (d i : Nat) (pr : Int32) : ad4 M d i pr 6 0 0 2 = M 6 0 0 2 := by rw [ad4_k (by decide) (by decide)]
theorem inv_ad4 {M : zM} {P : Nat → Nat} {D : Nat × Nat} {d i : Nat} {pr : Int32} (h : Inv M P D) : Inv (ad4 M d i pr) P D := Inv.of h (ad4_c M d i pr)
theorem ad4_3 {M : zM} {d i : Nat} {pr : Int32} : ad4 M d i pr 9 d 0 3 = nI 9 := by
  unfold ad4 ad3 ad2 ad1
  rw [fCheck_k (by decide), fPut4_f (by decide), fPut2_f (by decide), fPut2_f (by decide), fPut_f (by decide), fPut_f (by decide), fPut_f (by decide), fPut_f (by decide), wNew_3]
  rfl
theorem ad4_4 {M : zM} {d i : Nat} {pr : Int32} : ad4 M d i pr 9 d 0 4 = nI 15 := by
  unfold ad4 ad3 ad2 ad1
  rw [fCheck_k (by decide), fPut4_f (by decide), fPut2_f (by decide), fPut2_f (by decide), fPut_f (by decide), fPut_f (by decide), fPut_f (by decide), fPut_f (by decide), wNew_4]
  rfl
def adS (σ : zS) (i : Nat) (pr : Int32) : zS := sdS (ad4 σ.1 σ.2.2.1 i pr, σ.2.1, σ.2.2) i 9
theorem Inv.ad {σ : zS} {i : Nat} {pr : Int32} (h : Inv σ.1 σ.2.1 σ.2.2) : Inv (adS σ i pr).1 (adS σ i pr).2.1 (adS σ i pr).2.2 := by
  have h' : Inv (ad4 σ.1 σ.2.2.1 i pr) σ.2.1 σ.2.2 := inv_ad4 h
  unfold adS
  exact Inv.sd' h'
theorem Inv.se {σ : zS} {i s : Nat} {kind to : Int32} (h : Inv σ.1 σ.2.1 σ.2.2) : Inv (seS σ i kind s to).1 (seS σ i kind s to).2.1 (seS σ i kind s to).2.2 := Inv.sd (h.of rfl)
/-- a session's packet -/
def pk1 (M : zM) (d i j : Nat) (flag : Int32) : zM := fPut (wNew M d 2 (nI i) (nI j) (M 3 i 0 4)) d (32 + wNew M d 2 (nI i) (nI j) (M 3 i 0 4) 5 i j 6)
def pk2 (M : zM) (d i j : Nat) (flag : Int32) : zM := fPut (pk1 M d i j flag) d (64 * pk1 M d i j flag 5 i j 3 + flag)
def pk3 (M : zM) (d i j : Nat) (flag : Int32) : zM := fPut (fPut (pk2 M d i j flag) d (pk2 M d i j flag 5 i j 9)) d 24
def pk4 (M : zM) (d i j : Nat) (flag : Int32) : zM := fPut4 (pk3 M d i j flag) d (nI (16 * i + j + 1))
def pk5 (M : zM) (d i j : Nat) (flag : Int32) : zM := fPut4 (pk4 M d i j flag) d (pk4 M d i j flag 5 i j 5)
def pk6 (M : zM) (d i j : Nat) (flag : Int32) : zM := fPut4 (pk5 M d i j flag) d (sSlowed (pk5 M d i j flag 5 i j) (pk5 M d i j flag 5 i j 7))
def pk7 (M : zM) (d i j : Nat) (flag : Int32) : zM := fPut4 (fPut4 (pk6 M d i j flag) d (pk6 M d i j flag 5 i j 8)) d 0
theorem pk7_k {M : zM} {d i j κ a b : Nat} {flag : Int32} (h9 : κ ≠ 9) (h10 : κ ≠ 10) : pk7 M d i j flag κ a b = M κ a b := by
  unfold pk7 pk6 pk5 pk4 pk3 pk2 pk1
  rw [fPut4_k h9 h10, fPut4_k h9 h10, fPut4_k h9 h10, fPut4_k h9 h10, fPut4_k h9 h10, fPut_k h9 h10, fPut_k h9 h10, fPut_k h9 h10, fPut_k h9 h10]
  unfold wNew
  rw [up_ne (fun z => h9 z.1), up_ne (fun z => h9 z.1), up_ne (fun z => h9 z.1), up_ne (fun z => h9 z.1), up_ne (fun z => h9 z.1), up_ne (fun z => h9 z.1)]
theorem pk7_c (M : zM) (d i j : Nat) (flag : Int32) : pk7 M d i j flag 6 0 0 2 = M 6 0 0 2 := by rw [pk7_k (by decide) (by decide)]
theorem inv_pk7 {M : zM} {P : Nat → Nat} {D : Nat × Nat} {d i j : Nat} {flag : Int32} (h : Inv M P D) : Inv (pk7 M d i j flag) P D := Inv.of h (pk7_c M d i j flag)
theorem pk7_3 {M : zM} {d i j : Nat} {flag : Int32} : pk7 M d i j flag 9 d 0 3 = nI i := by
  unfold pk7 pk6 pk5 pk4 pk3 pk2 pk1
  rw [fPut4_f (by decide), fPut4_f (by decide), fPut4_f (by decide), fPut4_f (by decide), fPut4_f (by decide), fPut_f (by decide), fPut_f (by decide), fPut_f (by decide), fPut_f (by decide), wNew_3]
theorem pk7_4 {M : zM} {d i j : Nat} {flag : Int32} : pk7 M d i j flag 9 d 0 4 = nI j := by
  unfold pk7 pk6 pk5 pk4 pk3 pk2 pk1
  rw [fPut4_f (by decide), fPut4_f (by decide), fPut4_f (by decide), fPut4_f (by decide), fPut4_f (by decide), fPut_f (by decide), fPut_f (by decide), fPut_f (by decide), fPut_f (by decide), wNew_4]
def pkS (σ : zS) (i j : Nat) (flag : Int32) : zS := sdS (pk7 σ.1 σ.2.2.1 i j flag, σ.2.1, σ.2.2) i i
theorem Inv.pk {σ : zS} {i j : Nat} {flag : Int32} (h : Inv σ.1 σ.2.1 σ.2.2) : Inv (pkS σ i j flag).1 (pkS σ i j flag).2.1 (pkS σ i j flag).2.2 := by
  have h' : Inv (pk7 σ.1 σ.2.2.1 i j flag) σ.2.1 σ.2.2 := inv_pk7 h
  unfold pkS
  exact Inv.sd' h'
/-- comes to be ACTIVE -/
def ac1 (σ : zS) (i : Nat) : zS := seS (adS σ i (rWeighed σ.1 i)) i 3 9 15
def acS (σ : zS) (i : Nat) : zS := (up (up (up (ac1 σ i).1 2 i 0 5 ((ac1 σ i).1 3 i 0 1)) 2 i 0 4 2) 2 i 0 7 (up (up (ac1 σ i).1 2 i 0 5 ((ac1 σ i).1 3 i 0 1)) 2 i 0 4 2 2 i 0 7 + 1), (ac1 σ i).2.1, (ac1 σ i).2.2)
theorem Inv.ac {σ : zS} {i : Nat} (h : Inv σ.1 σ.2.1 σ.2.2) : Inv (acS σ i).1 (acS σ i).2.1 (acS σ i).2.2 := by
  have h1 := Inv.ad (i := i) (pr := rWeighed σ.1 i) h
  have h2 : Inv (ac1 σ i).1 (ac1 σ i).2.1 (ac1 σ i).2.2 := Inv.se (σ := adS σ i (rWeighed σ.1 i)) h1
  unfold acS
  exact Inv.of h2 rfl
def wkS (σ : zS) (i : Nat) : zS := if rWeighed (up σ.1 2 i 0 6 (σ.1 3 i 0 1)) i = 255 then acS (up σ.1 2 i 0 6 (σ.1 3 i 0 1), σ.2.1, σ.2.2) i else (rBackup (up σ.1 2 i 0 6 (σ.1 3 i 0 1)) i, σ.2.1, σ.2.2)
def gbS (σ : zS) (i : Nat) : zS := if σ.1 2 i 0 4 = 2 then adS σ i 0 else σ
def hbM (M : zM) (i k : Nat) : zM := if by_ M k 2 = 0 then up M 2 i 0 5 (imx 1 (rSkew M i)) else if M 3 i 0 2 = 0 then rBackup (up M 2 i 0 6 (rIvl M k)) i else if by_ M k 2 < rWeighed M i then M else rBackup (up M 2 i 0 6 (rIvl M k)) i
def haB (M : zM) (i k : Nat) : Bool := decide (rWeighed M i < by_ M k 2) || (decide (by_ M k 2 = rWeighed M i) && decide (¬ rAbove (M 9 k 0 5) (M 3 i 0 4) = 0))
def haS (σ : zS) (i k : Nat) : zS := if by_ σ.1 k 2 = 0 then (up (adS σ i (rWeighed σ.1 i)).1 2 i 0 5 ((adS σ i (rWeighed σ.1 i)).1 3 i 0 1), (adS σ i (rWeighed σ.1 i)).2.1, (adS σ i (rWeighed σ.1 i)).2.2) else if haB σ.1 i k = true then (rBackup (up σ.1 2 i 0 6 (rIvl σ.1 k)) i, σ.2.1, σ.2.2) else adS σ i (rWeighed σ.1 i)
def tfS (σ : zS) (i : Nat) : zS := if σ.1 2 i 0 4 = 1 then acS σ i else (up (adS σ i (rWeighed σ.1 i)).1 2 i 0 5 ((adS σ i (rWeighed σ.1 i)).1 3 i 0 1), (adS σ i (rWeighed σ.1 i)).2.1, (adS σ i (rWeighed σ.1 i)).2.2)
theorem Inv.wk {σ : zS} {i : Nat} (h : Inv σ.1 σ.2.1 σ.2.2) : Inv (wkS σ i).1 (wkS σ i).2.1 (wkS σ i).2.2 := by
  unfold wkS
  split
  · exact Inv.ac (h.of rfl)
  · exact h.of rfl
theorem Inv.gb {σ : zS} {i : Nat} (h : Inv σ.1 σ.2.1 σ.2.2) : Inv (gbS σ i).1 (gbS σ i).2.1 (gbS σ i).2.2 := by
  unfold gbS
  split
  · exact Inv.ad h
  · exact h
theorem Inv.ha {σ : zS} {i k : Nat} (h : Inv σ.1 σ.2.1 σ.2.2) : Inv (haS σ i k).1 (haS σ i k).2.1 (haS σ i k).2.2 := by
  unfold haS
  split
  · exact (Inv.ad h).of rfl
  · split
    · exact h.of rfl
    · exact Inv.ad h
theorem Inv.tf {σ : zS} {i : Nat} (h : Inv σ.1 σ.2.1 σ.2.2) : Inv (tfS σ i).1 (tfS σ i).2.1 (tfS σ i).2.2 := by
  unfold tfS
  split
  · exact Inv.ac h
  · exact (Inv.ad h).of rfl
set_option maxRecDepth 100000 in
set_option maxHeartbeats 4000000 in
theorem c_R_sendDraft {l : Launch} {G : zG} {V : zV} (w : wC G V) (M : zM) (P : Nat → Nat) (D : Nat × Nat) (i : Nat) (hi : i < 5) (s : Nat) (hI : Inv M P D) (hs : M 9 D.1 0 3 = nI s) (hs16 : s < 16) : zF l y_R_sendDraft b_R_sendDraft 1 none 1 25 G [.ref (V.1 2 i 0)] (eC V M P D) none (eC V (sdS (M, P, D) i s).1 (sdS (M, P, D) i s).2.1 (sdS (M, P, D) i s).2.2) := by
  refine zF.ofZ (by decide) w.2.2.2.2 (Nat.le_of_ble_eq_true rfl) (fun X hXl hN hr C => ?_)
  subst hXl
  show Z X G (zA G) 1 _ (eC V M P D) 0 [(0, .ref (V.1 2 i 0))] []
  obtain ⟨hD1, hD2, hPP, hc, hc60⟩ := id hI
  refine Z_aload_n C 0 d_R_sendDraft_0 rfl rfl ?_
  refine Z_dup C d_R_sendDraft_1 rfl ?_
  refine C_gR C w (by assumption) 9 (by decide) fl_R_53 rfl rfl d_R_sendDraft_2 ?_
  refine Z_iconst (v := 1) C d_R_sendDraft_5 (by decide) ?_
  refine Z_iadd C d_R_sendDraft_6 ?_
  refine C_pR C w (by assumption) 9 (by decide) fl_R_53 rfl rfl rfl rfl rfl d_R_sendDraft_7 ?_
  refine Z_aload_n C 0 d_R_sendDraft_10 rfl rfl ?_
  refine C_gR C w (by assumption) 2 (by decide) fl_R_21 rfl rfl d_R_sendDraft_11 ?_
  refine Z_bipush (v := 7) C d_R_sendDraft_14 (by decide) ?_
  refine C_ldG C w (by assumption) 7 (by decide) (by unfold vp_in; decide) d_R_sendDraft_16 ?_
  refine Z_iconst (v := 1) C d_R_sendDraft_17 (by decide) ?_
  refine Z_iand C d_R_sendDraft_18 ?_
  refine Z_if_ne (tgt := 40) C d_R_sendDraft_19 (by decide) (fun c19 => ?_) (fun c19 => ?_)
  · have c19 : ¬ (M 3 i 0 7 &&& 1) = 0 := c19
    exact Z_vret C hN hr d_R_sendDraft_40 rfl (zeq (by unfold sdS; dsimp only; first | (rw [if_pos c19]; rfl) | rw [if_neg c19]))
  · have c19 : (M 3 i 0 7 &&& 1) = 0 := c19
    refine Z_aload_n C 0 d_R_sendDraft_22 rfl rfl ?_
    refine C_gR C w (by assumption) 1 (by decide) fl_R_15 rfl rfl d_R_sendDraft_23 ?_
    refine Z_aload_n C 0 d_R_sendDraft_26 rfl rfl ?_
    refine C_gR C w (by assumption) 0 (by decide) fl_R_9 rfl rfl d_R_sendDraft_27 ?_
    refine Z_aload_n C 0 d_R_sendDraft_30 rfl rfl ?_
    refine C_gR C w (by assumption) 2 (by decide) fl_R_21 rfl rfl d_R_sendDraft_31 ?_
    refine Z_bipush (v := 6) C d_R_sendDraft_34 (by decide) ?_
    refine C_ldG C w (by assumption) 6 (by decide) (by unfold vp_in; decide) d_R_sendDraft_36 ?_
    refine C_cWn C w mi_W_carryDraft ml_R_127 (c_W_carryDraft w _ _ _ _ _ (cnt M) s hc hc60 hD1 hPP hs hs16) rfl rfl (by decide) rfl (Nat.le_of_ble_eq_true rfl) d_R_sendDraft_37 ?_
    exact Z_vret C hN hr d_R_sendDraft_40 rfl (zeq (by unfold sdS; dsimp only; first | (rw [if_pos c19]; rfl) | rw [if_neg c19]))
set_option maxRecDepth 100000 in
set_option maxHeartbeats 4000000 in
theorem c_R_sendEmpty {l : Launch} {G : zG} {V : zV} (w : wC G V) (M : zM) (P : Nat → Nat) (D : Nat × Nat) (i : Nat) (hi : i < 5) (kind : Int32) (s : Nat) (to : Int32) (hs16 : s < 16) (hI : Inv M P D) : zF l y_R_sendEmpty b_R_sendEmpty 4 none 2 45 G [.ref (V.1 2 i 0), .int kind, .int (nI s), .int to] (eC V M P D) none (eC V (seS (M, P, D) i kind s to).1 (seS (M, P, D) i kind s to).2.1 (seS (M, P, D) i kind s to).2.2) := by
  refine zF.ofZ (by decide) w.2.2.2.2 (Nat.le_of_ble_eq_true rfl) (fun X hXl hN hr C => ?_)
  subst hXl
  show Z X G (zA G) 4 _ (eC V M P D) 0 [(0, .ref (V.1 2 i 0)), (1, .int kind), (2, .int (nI s)), (3, .int to)] []
  obtain ⟨hD1, hD2, hPP, hc, hc60⟩ := id hI
  refine Z_aload_n C 0 d_R_sendEmpty_0 rfl rfl ?_
  refine C_gR C w (by assumption) 1 (by decide) fl_R_15 rfl rfl d_R_sendEmpty_1 ?_
  refine Z_iload_n C 1 d_R_sendEmpty_4 rfl rfl ?_
  refine Z_iload_n C 2 d_R_sendEmpty_5 rfl rfl ?_
  refine Z_iload_n C 3 d_R_sendEmpty_6 rfl rfl ?_
  refine Z_aload_n C 0 d_R_sendEmpty_7 rfl rfl ?_
  refine C_gR C w (by assumption) 2 (by decide) fl_R_21 rfl rfl d_R_sendEmpty_8 ?_
  refine Z_iconst (v := 4) C d_R_sendEmpty_11 (by decide) ?_
  refine C_ldG C w (by assumption) 4 (by decide) (by unfold vp_in; decide) d_R_sendEmpty_12 ?_
  refine C_cWv C w mi_W_newDraft ml_R_81 (c_W_newDraft w _ _ _ (by assumption) _ _ _ _) rfl rfl (by decide) rfl (Nat.le_of_ble_eq_true rfl) d_R_sendEmpty_13 ?_
  refine Z_pop C d_R_sendEmpty_16 rfl ?_
  refine Z_aload_n C 0 d_R_sendEmpty_17 rfl rfl ?_
  refine C_cRn C w (by assumption) mi_R_sendDraft ml_R_101 (c_R_sendDraft w _ _ _ i hi s (hI.of rfl) wNew_3 hs16) rfl rfl (by decide) rfl (Nat.le_of_ble_eq_true rfl) d_R_sendEmpty_18 ?_
  exact Z_vret C hN hr d_R_sendEmpty_21 rfl (zeq (rfl))
set_option maxRecDepth 100000 in
set_option maxHeartbeats 4000000 in
theorem c_R_advertise {l : Launch} {G : zG} {V : zV} (w : wC G V) (M : zM) (P : Nat → Nat) (D : Nat × Nat) (i : Nat) (hi : i < 5) (pr : Int32) (hI : Inv M P D) : zF l y_R_advertise b_R_advertise 3 none 2 45 G [.ref (V.1 2 i 0), .int pr] (eC V M P D) none (eC V (adS (M, P, D) i pr).1 (adS (M, P, D) i pr).2.1 (adS (M, P, D) i pr).2.2) := by
  refine zF.ofZ (by decide) w.2.2.2.2 (Nat.le_of_ble_eq_true rfl) (fun X hXl hN hr C => ?_)
  subst hXl
  show Z X G (zA G) 3 _ (eC V M P D) 0 [(0, .ref (V.1 2 i 0)), (1, .int pr)] []
  obtain ⟨hD1, hD2, hPP, hc, hc60⟩ := id hI
  refine Z_aload_n C 0 d_R_advertise_0 rfl rfl ?_
  refine C_gR C w (by assumption) 1 (by decide) fl_R_15 rfl rfl d_R_advertise_1 ?_
  refine Z_iconst (v := 1) C d_R_advertise_4 (by decide) ?_
  refine Z_bipush (v := 9) C d_R_advertise_5 (by decide) ?_
  refine Z_bipush (v := 15) C d_R_advertise_7 (by decide) ?_
  refine Z_aload_n C 0 d_R_advertise_9 rfl rfl ?_
  refine C_gR C w (by assumption) 2 (by decide) fl_R_21 rfl rfl d_R_advertise_10 ?_
  refine Z_iconst (v := 4) C d_R_advertise_13 (by decide) ?_
  refine C_ldG C w (by assumption) 4 (by decide) (by unfold vp_in; decide) d_R_advertise_14 ?_
  refine C_cWv C w mi_W_newDraft ml_R_81 (c_W_newDraft w _ _ _ (by assumption) _ _ _ _) rfl rfl (by decide) rfl (Nat.le_of_ble_eq_true rfl) d_R_advertise_15 ?_
  refine Z_astore_n C d_R_advertise_18 rfl (by decide) rfl ?_
  refine Z_aload_n C 0 d_R_advertise_19 rfl rfl ?_
  refine Z_bipush (v := 49) C d_R_advertise_20 (by decide) ?_
  refine C_cFn C w (by assumption) mi_F_put ml_R_87 (c_F_put w _ _ _ _ (by assumption) _) rfl rfl (by decide) rfl (Nat.le_of_ble_eq_true rfl) d_R_advertise_22 ?_
  refine Z_aload_n C 0 d_R_advertise_25 rfl rfl ?_
  refine Z_aload_n C 1 d_R_advertise_26 rfl rfl ?_
  refine C_gR C w (by assumption) 2 (by decide) fl_R_21 rfl rfl d_R_advertise_27 ?_
  refine Z_iconst (v := 3) C d_R_advertise_30 (by decide) ?_
  refine C_ldG C w (by assumption) 3 (by decide) (by unfold vp_in; decide) d_R_advertise_31 ?_
  refine C_cFn C w (by assumption) mi_F_put ml_R_87 (c_F_put w _ _ _ _ (by assumption) _) rfl rfl (by decide) rfl (Nat.le_of_ble_eq_true rfl) d_R_advertise_32 ?_
  refine Z_aload_n C 0 d_R_advertise_35 rfl rfl ?_
  refine Z_iload_n C 2 d_R_advertise_36 rfl rfl ?_
  refine C_cFn C w (by assumption) mi_F_put ml_R_87 (c_F_put w _ _ _ _ (by assumption) _) rfl rfl (by decide) rfl (Nat.le_of_ble_eq_true rfl) d_R_advertise_37 ?_
  refine Z_aload_n C 0 d_R_advertise_40 rfl rfl ?_
  refine Z_iconst (v := 1) C d_R_advertise_41 (by decide) ?_
  refine C_cFn C w (by assumption) mi_F_put ml_R_87 (c_F_put w _ _ _ _ (by assumption) _) rfl rfl (by decide) rfl (Nat.le_of_ble_eq_true rfl) d_R_advertise_42 ?_
  refine Z_aload_n C 0 d_R_advertise_45 rfl rfl ?_
  refine Z_aload_n C 1 d_R_advertise_46 rfl rfl ?_
  refine C_gR C w (by assumption) 2 (by decide) fl_R_21 rfl rfl d_R_advertise_47 ?_
  refine Z_iconst (v := 1) C d_R_advertise_50 (by decide) ?_
  refine C_ldG C w (by assumption) 1 (by decide) (by unfold vp_in; decide) d_R_advertise_51 ?_
  refine C_cFn C w (by assumption) mi_F_putTwo ml_R_92 (c_F_putTwo w _ _ _ _ (by assumption) _) rfl rfl (by decide) rfl (Nat.le_of_ble_eq_true rfl) d_R_advertise_52 ?_
  refine Z_aload_n C 0 d_R_advertise_55 rfl rfl ?_
  refine Z_iconst (v := 0) C d_R_advertise_56 (by decide) ?_
  refine C_cFn C w (by assumption) mi_F_putTwo ml_R_92 (c_F_putTwo w _ _ _ _ (by assumption) _) rfl rfl (by decide) rfl (Nat.le_of_ble_eq_true rfl) d_R_advertise_57 ?_
  refine Z_aload_n C 0 d_R_advertise_60 rfl rfl ?_
  refine Z_aload_n C 1 d_R_advertise_61 rfl rfl ?_
  refine C_gR C w (by assumption) 2 (by decide) fl_R_21 rfl rfl d_R_advertise_62 ?_
  refine Z_iconst (v := 5) C d_R_advertise_65 (by decide) ?_
  refine C_ldG C w (by assumption) 5 (by decide) (by unfold vp_in; decide) d_R_advertise_66 ?_
  refine C_cFn C w (by assumption) mi_F_putFour ml_R_95 (c_F_putFour w _ _ _ _ (by assumption) _) rfl rfl (by decide) rfl (Nat.le_of_ble_eq_true rfl) d_R_advertise_67 ?_
  refine Z_aload_n C 0 d_R_advertise_70 rfl rfl ?_
  refine Z_bipush (v := 6) C d_R_advertise_71 (by decide) ?_
  refine C_cFn C w (by assumption) mi_F_putCheckAt ml_R_98 (c_F_putCheckAt w _ _ _ _ (by assumption) _ (by decide)) rfl rfl (by decide) rfl (Nat.le_of_ble_eq_true rfl) d_R_advertise_73 ?_
  refine Z_aload_n C 1 d_R_advertise_76 rfl rfl ?_
  refine C_cRn C w (by assumption) mi_R_sendDraft ml_R_101 (c_R_sendDraft w (ad4 M D.1 i pr) _ _ i hi 9 (inv_ad4 hI) ad4_3 (by decide)) rfl rfl (by decide) rfl (Nat.le_of_ble_eq_true rfl) d_R_advertise_77 ?_
  exact Z_vret C hN hr d_R_advertise_80 rfl (zeq (rfl))
set_option maxRecDepth 100000 in
set_option maxHeartbeats 4000000 in
theorem c_R_sendPacket {l : Launch} {G : zG} {V : zV} (w : wC G V) (M : zM) (P : Nat → Nat) (D : Nat × Nat) (i j : Nat) (hi : i < 5) (hj : j < 5) (flag : Int32) (hI : Inv M P D) : zF l y_R_sendPacket b_R_sendPacket 4 none 2 45 G [.ref (V.1 2 i 0), .ref (V.1 5 i j), .int flag] (eC V M P D) none (eC V (pkS (M, P, D) i j flag).1 (pkS (M, P, D) i j flag).2.1 (pkS (M, P, D) i j flag).2.2) := by
  refine zF.ofZ (by decide) w.2.2.2.2 (Nat.le_of_ble_eq_true rfl) (fun X hXl hN hr C => ?_)
  subst hXl
  show Z X G (zA G) 4 _ (eC V M P D) 0 [(0, .ref (V.1 2 i 0)), (1, .ref (V.1 5 i j)), (2, .int flag)] []
  obtain ⟨hD1, hD2, hPP, hc, hc60⟩ := id hI
  refine Z_aload_n C 0 d_R_sendPacket_0 rfl rfl ?_
  refine C_gR C w (by assumption) 1 (by decide) fl_R_15 rfl rfl d_R_sendPacket_1 ?_
  refine Z_iconst (v := 2) C d_R_sendPacket_4 (by decide) ?_
  refine Z_aload_n C 0 d_R_sendPacket_5 rfl rfl ?_
  refine C_gR C w (by assumption) 0 (by decide) fl_R_9 rfl rfl d_R_sendPacket_6 ?_
  refine Z_aload_n C 1 d_R_sendPacket_9 rfl rfl ?_
  refine C_gS C w (by assumption) (by assumption) 1 (by decide) fl_R_104 rfl rfl d_R_sendPacket_10 ?_
  refine Z_aload_n C 0 d_R_sendPacket_13 rfl rfl ?_
  refine C_gR C w (by assumption) 2 (by decide) fl_R_21 rfl rfl d_R_sendPacket_14 ?_
  refine Z_iconst (v := 4) C d_R_sendPacket_17 (by decide) ?_
  refine C_ldG C w (by assumption) 4 (by decide) (by unfold vp_in; decide) d_R_sendPacket_18 ?_
  refine C_cWv C w mi_W_newDraft ml_R_81 (c_W_newDraft w _ _ _ (by assumption) _ _ _ _) rfl rfl (by decide) rfl (Nat.le_of_ble_eq_true rfl) d_R_sendPacket_19 ?_
  refine Z_astore_n C d_R_sendPacket_22 rfl (by decide) rfl ?_
  refine Z_aload_n C 0 d_R_sendPacket_23 rfl rfl ?_
  refine Z_bipush (v := 32) C d_R_sendPacket_24 (by decide) ?_
  refine Z_aload_n C 2 d_R_sendPacket_26 rfl rfl ?_
  refine C_gS C w (by assumption) (by assumption) 6 (by decide) fl_R_107 rfl rfl d_R_sendPacket_27 ?_
  refine Z_iadd C d_R_sendPacket_30 ?_
  refine C_cFn C w (by assumption) mi_F_put ml_R_87 (c_F_put w _ _ _ _ (by assumption) _) rfl rfl (by decide) rfl (Nat.le_of_ble_eq_true rfl) d_R_sendPacket_31 ?_
  refine Z_aload_n C 0 d_R_sendPacket_34 rfl rfl ?_
  refine Z_bipush (v := 64) C d_R_sendPacket_35 (by decide) ?_
  refine Z_aload_n C 2 d_R_sendPacket_37 rfl rfl ?_
  refine C_gS C w (by assumption) (by assumption) 3 (by decide) fl_R_73 rfl rfl d_R_sendPacket_38 ?_
  refine Z_imul C d_R_sendPacket_41 ?_
  refine Z_iload_n C 3 d_R_sendPacket_42 rfl rfl ?_
  refine Z_iadd C d_R_sendPacket_43 ?_
  refine C_cFn C w (by assumption) mi_F_put ml_R_87 (c_F_put w _ _ _ _ (by assumption) _) rfl rfl (by decide) rfl (Nat.le_of_ble_eq_true rfl) d_R_sendPacket_44 ?_
  refine Z_aload_n C 0 d_R_sendPacket_47 rfl rfl ?_
  refine Z_aload_n C 2 d_R_sendPacket_48 rfl rfl ?_
  refine C_gS C w (by assumption) (by assumption) 9 (by decide) fl_R_110 rfl rfl d_R_sendPacket_49 ?_
  refine C_cFn C w (by assumption) mi_F_put ml_R_87 (c_F_put w _ _ _ _ (by assumption) _) rfl rfl (by decide) rfl (Nat.le_of_ble_eq_true rfl) d_R_sendPacket_52 ?_
  refine Z_aload_n C 0 d_R_sendPacket_55 rfl rfl ?_
  refine Z_bipush (v := 24) C d_R_sendPacket_56 (by decide) ?_
  refine C_cFn C w (by assumption) mi_F_put ml_R_87 (c_F_put w _ _ _ _ (by assumption) _) rfl rfl (by decide) rfl (Nat.le_of_ble_eq_true rfl) d_R_sendPacket_58 ?_
  refine Z_aload_n C 0 d_R_sendPacket_61 rfl rfl ?_
  refine Z_aload_n C 2 d_R_sendPacket_62 rfl rfl ?_
  refine C_gS C w (by assumption) (by assumption) 0 (by decide) fl_R_113 rfl rfl d_R_sendPacket_63 ?_
  refine C_cFn C w (by assumption) mi_F_putFour ml_R_95 (c_F_putFour w _ _ _ _ (by assumption) _) rfl rfl (by decide) rfl (Nat.le_of_ble_eq_true rfl) d_R_sendPacket_66 ?_
  refine Z_aload_n C 0 d_R_sendPacket_69 rfl rfl ?_
  refine Z_aload_n C 2 d_R_sendPacket_70 rfl rfl ?_
  refine C_gS C w (by assumption) (by assumption) 5 (by decide) fl_R_114 rfl rfl d_R_sendPacket_71 ?_
  refine C_cFn C w (by assumption) mi_F_putFour ml_R_95 (c_F_putFour w _ _ _ _ (by assumption) _) rfl rfl (by decide) rfl (Nat.le_of_ble_eq_true rfl) d_R_sendPacket_74 ?_
  refine Z_aload_n C 0 d_R_sendPacket_77 rfl rfl ?_
  refine Z_aload_n C 2 d_R_sendPacket_78 rfl rfl ?_
  refine Z_aload_n C 2 d_R_sendPacket_79 rfl rfl ?_
  refine C_gS C w (by assumption) (by assumption) 7 (by decide) fl_R_117 rfl rfl d_R_sendPacket_80 ?_
  refine C_cSv C w (by assumption) (by assumption) mi_S_slowed ml_R_120 (c_S_slowed w _ _ _ _ _ (by assumption) (by assumption) _) rfl rfl (by decide) rfl (Nat.le_of_ble_eq_true rfl) d_R_sendPacket_83 ?_
  refine C_cFn C w (by assumption) mi_F_putFour ml_R_95 (c_F_putFour w _ _ _ _ (by assumption) _) rfl rfl (by decide) rfl (Nat.le_of_ble_eq_true rfl) d_R_sendPacket_86 ?_
  refine Z_aload_n C 0 d_R_sendPacket_89 rfl rfl ?_
  refine Z_aload_n C 2 d_R_sendPacket_90 rfl rfl ?_
  refine C_gS C w (by assumption) (by assumption) 8 (by decide) fl_R_124 rfl rfl d_R_sendPacket_91 ?_
  refine C_cFn C w (by assumption) mi_F_putFour ml_R_95 (c_F_putFour w _ _ _ _ (by assumption) _) rfl rfl (by decide) rfl (Nat.le_of_ble_eq_true rfl) d_R_sendPacket_94 ?_
  refine Z_aload_n C 0 d_R_sendPacket_97 rfl rfl ?_
  refine Z_iconst (v := 0) C d_R_sendPacket_98 (by decide) ?_
  refine C_cFn C w (by assumption) mi_F_putFour ml_R_95 (c_F_putFour w _ _ _ _ (by assumption) _) rfl rfl (by decide) rfl (Nat.le_of_ble_eq_true rfl) d_R_sendPacket_99 ?_
  refine Z_aload_n C 1 d_R_sendPacket_102 rfl rfl ?_
  refine C_cRn C w (by assumption) mi_R_sendDraft ml_R_101 (c_R_sendDraft w (pk7 M D.1 i j flag) _ _ i hi i (inv_pk7 hI) pk7_3 (by omega)) rfl rfl (by decide) rfl (Nat.le_of_ble_eq_true rfl) d_R_sendPacket_103 ?_
  exact Z_vret C hN hr d_R_sendPacket_106 rfl (zeq (rfl))
set_option maxRecDepth 100000 in
set_option maxHeartbeats 4000000 in
theorem c_R_becomeActive {l : Launch} {G : zG} {V : zV} (w : wC G V) (M : zM) (P : Nat → Nat) (D : Nat × Nat) (i : Nat) (hi : i < 5) (hI : Inv M P D) : zF l y_R_becomeActive b_R_becomeActive 1 none 3 68 G [.ref (V.1 2 i 0)] (eC V M P D) none (eC V (acS (M, P, D) i).1 (acS (M, P, D) i).2.1 (acS (M, P, D) i).2.2) := by
  refine zF.ofZ (by decide) w.2.2.2.2 (Nat.le_of_ble_eq_true rfl) (fun X hXl hN hr C => ?_)
  subst hXl
  show Z X G (zA G) 1 _ (eC V M P D) 0 [(0, .ref (V.1 2 i 0))] []
  refine Z_aload_n C 0 d_R_becomeActive_0 rfl rfl ?_
  refine Z_aload_n C 0 d_R_becomeActive_1 rfl rfl ?_
  refine C_cRv C w (by assumption) mi_R_weighed ml_R_40 (c_R_weighed w _ _ _ _ (by assumption)) rfl rfl (by decide) rfl (Nat.le_of_ble_eq_true rfl) d_R_becomeActive_2 ?_
  refine C_cRn C w (by assumption) mi_R_advertise ml_R_65 (c_R_advertise w _ _ _ _ (by assumption) _ (by assumption)) rfl rfl (by decide) rfl (Nat.le_of_ble_eq_true rfl) d_R_becomeActive_5 ?_
  refine Z_aload_n C 0 d_R_becomeActive_8 rfl rfl ?_
  refine Z_iconst (v := 3) C d_R_becomeActive_9 (by decide) ?_
  refine Z_bipush (v := 9) C d_R_becomeActive_10 (by decide) ?_
  refine Z_bipush (v := 15) C d_R_becomeActive_12 (by decide) ?_
  refine C_cRn C w (by assumption) mi_R_sendEmpty ml_R_74 (c_R_sendEmpty w _ _ _ i hi 3 9 15 (by decide) (Inv.ad (σ := (M, P, D)) hI)) rfl rfl (by decide) rfl (Nat.le_of_ble_eq_true rfl) d_R_becomeActive_14 ?_
  refine Z_aload_n C 0 d_R_becomeActive_17 rfl rfl ?_
  refine Z_aload_n C 0 d_R_becomeActive_18 rfl rfl ?_
  refine C_gR C w (by assumption) 2 (by decide) fl_R_21 rfl rfl d_R_becomeActive_19 ?_
  refine Z_iconst (v := 1) C d_R_becomeActive_22 (by decide) ?_
  refine C_ldG C w (by assumption) 1 (by decide) (by unfold vp_in; decide) d_R_becomeActive_23 ?_
  refine C_pR C w (by assumption) 5 (by decide) fl_R_37 rfl rfl rfl rfl rfl d_R_becomeActive_24 ?_
  refine Z_aload_n C 0 d_R_becomeActive_27 rfl rfl ?_
  refine Z_iconst (v := 2) C d_R_becomeActive_28 (by decide) ?_
  refine C_pR C w (by assumption) 4 (by decide) fl_R_34 rfl rfl rfl rfl rfl d_R_becomeActive_29 ?_
  refine Z_aload_n C 0 d_R_becomeActive_32 rfl rfl ?_
  refine Z_dup C d_R_becomeActive_33 rfl ?_
  refine C_gR C w (by assumption) 7 (by decide) fl_R_47 rfl rfl d_R_becomeActive_34 ?_
  refine Z_iconst (v := 1) C d_R_becomeActive_37 (by decide) ?_
  refine Z_iadd C d_R_becomeActive_38 ?_
  refine C_pR C w (by assumption) 7 (by decide) fl_R_47 rfl rfl rfl rfl rfl d_R_becomeActive_39 ?_
  exact Z_vret C hN hr d_R_becomeActive_42 rfl (zeq (rfl))
set_option maxRecDepth 100000 in
set_option maxHeartbeats 4000000 in
theorem c_R_wake {l : Launch} {G : zG} {V : zV} (w : wC G V) (M : zM) (P : Nat → Nat) (D : Nat × Nat) (i : Nat) (hi : i < 5) (hI : Inv M P D) : zF l y_R_wake b_R_wake 1 none 4 88 G [.ref (V.1 2 i 0)] (eC V M P D) none (eC V (wkS (M, P, D) i).1 (wkS (M, P, D) i).2.1 (wkS (M, P, D) i).2.2) := by
  refine zF.ofZ (by decide) w.2.2.2.2 (Nat.le_of_ble_eq_true rfl) (fun X hXl hN hr C => ?_)
  subst hXl
  show Z X G (zA G) 1 _ (eC V M P D) 0 [(0, .ref (V.1 2 i 0))] []
  refine Z_aload_n C 0 d_R_wake_0 rfl rfl ?_
  refine Z_aload_n C 0 d_R_wake_1 rfl rfl ?_
  refine C_gR C w (by assumption) 2 (by decide) fl_R_21 rfl rfl d_R_wake_2 ?_
  refine Z_iconst (v := 1) C d_R_wake_5 (by decide) ?_
  refine C_ldG C w (by assumption) 1 (by decide) (by unfold vp_in; decide) d_R_wake_6 ?_
  refine C_pR C w (by assumption) 6 (by decide) fl_R_44 rfl rfl rfl rfl rfl d_R_wake_7 ?_
  refine Z_aload_n C 0 d_R_wake_10 rfl rfl ?_
  refine C_cRv C w (by assumption) mi_R_weighed ml_R_40 (c_R_weighed w _ _ _ _ (by assumption)) rfl rfl (by decide) rfl (Nat.le_of_ble_eq_true rfl) d_R_wake_11 ?_
  refine Z_sipush (v := 255) C d_R_wake_14 (by decide) ?_
  refine Z_icmp_ne (tgt := 27) C d_R_wake_17 (by decide) (fun c17 => ?_) (fun c17 => ?_)
  · skip
    refine Z_aload_n C 0 d_R_wake_27 rfl rfl ?_
    refine C_cRn C w (by assumption) mi_R_becomeBackup ml_R_62 (c_R_becomeBackup w _ _ _ _ (by assumption)) rfl rfl (by decide) rfl (Nat.le_of_ble_eq_true rfl) d_R_wake_28 ?_
    exact Z_vret C hN hr d_R_wake_31 rfl (zeq (by unfold wkS; first | rw [if_pos c17] | rw [if_neg c17]))
  · skip
    refine Z_aload_n C 0 d_R_wake_20 rfl rfl ?_
    refine C_cRn C w (by assumption) mi_R_becomeActive ml_R_59 (c_R_becomeActive w _ _ _ i hi (hI.of rfl)) rfl rfl (by decide) rfl (Nat.le_of_ble_eq_true rfl) d_R_wake_21 ?_
    refine Z_goto (tgt := 31) C d_R_wake_24 (by decide) ?_
    exact Z_vret C hN hr d_R_wake_31 rfl (zeq (by unfold wkS; first | rw [if_pos c17] | rw [if_neg c17]))
set_option maxRecDepth 100000 in
set_option maxHeartbeats 4000000 in
theorem c_R_sayGoodbye {l : Launch} {G : zG} {V : zV} (w : wC G V) (M : zM) (P : Nat → Nat) (D : Nat × Nat) (i : Nat) (hi : i < 5) (hI : Inv M P D) : zF l y_R_sayGoodbye b_R_sayGoodbye 1 none 3 67 G [.ref (V.1 2 i 0)] (eC V M P D) none (eC V (gbS (M, P, D) i).1 (gbS (M, P, D) i).2.1 (gbS (M, P, D) i).2.2) := by
  refine zF.ofZ (by decide) w.2.2.2.2 (Nat.le_of_ble_eq_true rfl) (fun X hXl hN hr C => ?_)
  subst hXl
  show Z X G (zA G) 1 _ (eC V M P D) 0 [(0, .ref (V.1 2 i 0))] []
  refine Z_aload_n C 0 d_R_sayGoodbye_0 rfl rfl ?_
  refine C_gR C w (by assumption) 4 (by decide) fl_R_34 rfl rfl d_R_sayGoodbye_1 ?_
  refine Z_iconst (v := 2) C d_R_sayGoodbye_4 (by decide) ?_
  refine Z_icmp_ne (tgt := 13) C d_R_sayGoodbye_5 (by decide) (fun c5 => ?_) (fun c5 => ?_)
  · skip
    exact Z_vret C hN hr d_R_sayGoodbye_13 rfl (zeq (by unfold gbS; first | rw [if_pos c5] | rw [if_neg c5]))
  · skip
    refine Z_aload_n C 0 d_R_sayGoodbye_8 rfl rfl ?_
    refine Z_iconst (v := 0) C d_R_sayGoodbye_9 (by decide) ?_
    refine C_cRn C w (by assumption) mi_R_advertise ml_R_65 (c_R_advertise w _ _ _ _ (by assumption) _ (by assumption)) rfl rfl (by decide) rfl (Nat.le_of_ble_eq_true rfl) d_R_sayGoodbye_10 ?_
    exact Z_vret C hN hr d_R_sayGoodbye_13 rfl (zeq (by unfold gbS; first | rw [if_pos c5] | rw [if_neg c5]))
set_option maxRecDepth 100000 in
set_option maxHeartbeats 4000000 in
theorem c_R_hearAsBackup {l : Launch} {G : zG} {V : zV} (w : wC G V) (M : zM) (P : Nat → Nat) (D : Nat × Nat) (i : Nat) (hi : i < 5) (k : Nat) (hk : k < 63) : zF l y_R_hearAsBackup b_R_hearAsBackup 3 none 3 62 G [.ref (V.1 2 i 0), .ref (V.1 9 k 0)] (eC V M P D) none (eC V (hbM M i k) P D) := by
  refine zF.ofZ (by decide) w.2.2.2.2 (Nat.le_of_ble_eq_true rfl) (fun X hXl hN hr C => ?_)
  subst hXl
  show Z X G (zA G) 3 _ (eC V M P D) 0 [(0, .ref (V.1 2 i 0)), (1, .ref (V.1 9 k 0))] []
  refine Z_aload_n C 1 d_R_hearAsBackup_0 rfl rfl ?_
  refine Z_iconst (v := 2) C d_R_hearAsBackup_1 (by decide) ?_
  refine C_cFv C w (by assumption) mi_F_byteAt ml_R_162 (c_F_byteAt w _ _ _ _ (by assumption) _) rfl rfl (by decide) rfl (Nat.le_of_ble_eq_true rfl) d_R_hearAsBackup_2 ?_
  refine Z_istore_n C d_R_hearAsBackup_5 rfl (by decide) rfl ?_
  refine Z_iload_n C 0 d_R_hearAsBackup_6 rfl rfl ?_
  refine Z_if_ne (tgt := 25) C d_R_hearAsBackup_7 (by decide) (fun c7 => ?_) (fun c7 => ?_)
  · skip
    refine Z_aload_n C 1 d_R_hearAsBackup_25 rfl rfl ?_
    refine C_gR C w (by assumption) 2 (by decide) fl_R_21 rfl rfl d_R_hearAsBackup_26 ?_
    refine Z_iconst (v := 2) C d_R_hearAsBackup_29 (by decide) ?_
    refine C_ldG C w (by assumption) 2 (by decide) (by unfold vp_in; decide) d_R_hearAsBackup_30 ?_
    refine Z_if_eq (tgt := 42) C d_R_hearAsBackup_31 (by decide) (fun c31 => ?_) (fun c31 => ?_)
    · skip
      refine Z_aload_n C 1 d_R_hearAsBackup_42 rfl rfl ?_
      refine Z_aload_n C 2 d_R_hearAsBackup_43 rfl rfl ?_
      refine C_csv C ms_R_intervalIn ml_R_178 (c_R_intervalIn w _ _ _ _ (by assumption)) rfl (by decide) rfl (Nat.le_of_ble_eq_true rfl) d_R_hearAsBackup_44 ?_
      refine C_pR C w (by assumption) 6 (by decide) fl_R_44 rfl rfl rfl rfl rfl d_R_hearAsBackup_47 ?_
      refine Z_aload_n C 1 d_R_hearAsBackup_50 rfl rfl ?_
      refine C_cRn C w (by assumption) mi_R_becomeBackup ml_R_62 (c_R_becomeBackup w _ _ _ _ (by assumption)) rfl rfl (by decide) rfl (Nat.le_of_ble_eq_true rfl) d_R_hearAsBackup_51 ?_
      exact Z_vret C hN hr d_R_hearAsBackup_54 rfl (zeq (by apply eC_M; unfold hbM; first | (rw [if_pos c7]; rfl) | (rw [if_neg c7, if_pos c31]) | (rw [if_neg c7, if_neg c31, if_pos c39]) | (rw [if_neg c7, if_neg c31, if_neg c39])))
    · skip
      refine Z_iload_n C 0 d_R_hearAsBackup_34 rfl rfl ?_
      refine Z_aload_n C 1 d_R_hearAsBackup_35 rfl rfl ?_
      refine C_cRv C w (by assumption) mi_R_weighed ml_R_40 (c_R_weighed w _ _ _ _ (by assumption)) rfl rfl (by decide) rfl (Nat.le_of_ble_eq_true rfl) d_R_hearAsBackup_36 ?_
      refine Z_icmp_lt (tgt := 54) C d_R_hearAsBackup_39 (by decide) (fun c39 => ?_) (fun c39 => ?_)
      · skip
        exact Z_vret C hN hr d_R_hearAsBackup_54 rfl (zeq (by apply eC_M; unfold hbM; first | (rw [if_pos c7]; rfl) | (rw [if_neg c7, if_pos c31]) | (rw [if_neg c7, if_neg c31, if_pos c39]) | (rw [if_neg c7, if_neg c31, if_neg c39])))
      · skip
        refine Z_aload_n C 1 d_R_hearAsBackup_42 rfl rfl ?_
        refine Z_aload_n C 2 d_R_hearAsBackup_43 rfl rfl ?_
        refine C_csv C ms_R_intervalIn ml_R_178 (c_R_intervalIn w _ _ _ _ (by assumption)) rfl (by decide) rfl (Nat.le_of_ble_eq_true rfl) d_R_hearAsBackup_44 ?_
        refine C_pR C w (by assumption) 6 (by decide) fl_R_44 rfl rfl rfl rfl rfl d_R_hearAsBackup_47 ?_
        refine Z_aload_n C 1 d_R_hearAsBackup_50 rfl rfl ?_
        refine C_cRn C w (by assumption) mi_R_becomeBackup ml_R_62 (c_R_becomeBackup w _ _ _ _ (by assumption)) rfl rfl (by decide) rfl (Nat.le_of_ble_eq_true rfl) d_R_hearAsBackup_51 ?_
        exact Z_vret C hN hr d_R_hearAsBackup_54 rfl (zeq (by apply eC_M; unfold hbM; first | (rw [if_pos c7]; rfl) | (rw [if_neg c7, if_pos c31]) | (rw [if_neg c7, if_neg c31, if_pos c39]) | (rw [if_neg c7, if_neg c31, if_neg c39])))
  · skip
    refine Z_aload_n C 1 d_R_hearAsBackup_10 rfl rfl ?_
    refine Z_iconst (v := 1) C d_R_hearAsBackup_11 (by decide) ?_
    refine Z_aload_n C 1 d_R_hearAsBackup_12 rfl rfl ?_
    refine C_cRv C w (by assumption) mi_R_skew ml_R_78 (c_R_skew w _ _ _ _ (by assumption)) rfl rfl (by decide) rfl (Nat.le_of_ble_eq_true rfl) d_R_hearAsBackup_13 ?_
    refine Z_mmax C ml_R_172 mx_s ma_i mx_c ⟨Nat.le_of_ble_eq_true rfl, Nat.le_of_ble_eq_true rfl⟩ d_R_hearAsBackup_16 ?_
    refine C_pR C w (by assumption) 5 (by decide) fl_R_37 rfl rfl rfl rfl rfl d_R_hearAsBackup_19 ?_
    refine Z_goto (tgt := 54) C d_R_hearAsBackup_22 (by decide) ?_
    exact Z_vret C hN hr d_R_hearAsBackup_54 rfl (zeq (by apply eC_M; unfold hbM; first | (rw [if_pos c7]; rfl) | (rw [if_neg c7, if_pos c31]) | (rw [if_neg c7, if_neg c31, if_pos c39]) | (rw [if_neg c7, if_neg c31, if_neg c39])))
set_option maxRecDepth 100000 in
set_option maxHeartbeats 4000000 in
theorem c_R_hearAsActive {l : Launch} {G : zG} {V : zV} (w : wC G V) (M : zM) (P : Nat → Nat) (D : Nat × Nat) (i : Nat) (hi : i < 5) (k : Nat) (hk : k < 63) (hI : Inv M P D) : zF l y_R_hearAsActive b_R_hearAsActive 4 none 3 67 G [.ref (V.1 2 i 0), .ref (V.1 9 k 0)] (eC V M P D) none (eC V (haS (M, P, D) i k).1 (haS (M, P, D) i k).2.1 (haS (M, P, D) i k).2.2) := by
  refine zF.ofZ (by decide) w.2.2.2.2 (Nat.le_of_ble_eq_true rfl) (fun X hXl hN hr C => ?_)
  subst hXl
  show Z X G (zA G) 4 _ (eC V M P D) 0 [(0, .ref (V.1 2 i 0)), (1, .ref (V.1 9 k 0))] []
  refine Z_aload_n C 1 d_R_hearAsActive_0 rfl rfl ?_
  refine Z_iconst (v := 2) C d_R_hearAsActive_1 (by decide) ?_
  refine C_cFv C w (by assumption) mi_F_byteAt ml_R_162 (c_F_byteAt w _ _ _ _ (by assumption) _) rfl rfl (by decide) rfl (Nat.le_of_ble_eq_true rfl) d_R_hearAsActive_2 ?_
  refine Z_istore_n C d_R_hearAsActive_5 rfl (by decide) rfl ?_
  refine Z_aload_n C 1 d_R_hearAsActive_6 rfl rfl ?_
  refine C_cRv C w (by assumption) mi_R_weighed ml_R_40 (c_R_weighed w _ _ _ _ (by assumption)) rfl rfl (by decide) rfl (Nat.le_of_ble_eq_true rfl) d_R_hearAsActive_7 ?_
  refine Z_istore_n C d_R_hearAsActive_10 rfl (by decide) rfl ?_
  refine Z_iload_n C 1 d_R_hearAsActive_11 rfl rfl ?_
  refine Z_if_ne (tgt := 33) C d_R_hearAsActive_12 (by decide) (fun c12 => ?_) (fun c12 => ?_)
  · skip
    refine Z_iload_n C 1 d_R_hearAsActive_33 rfl rfl ?_
    refine Z_iload_n C 0 d_R_hearAsActive_34 rfl rfl ?_
    refine Z_icmp_gt (tgt := 59) C d_R_hearAsActive_35 (by decide) (fun c35 => ?_) (fun c35 => ?_)
    · skip
      refine Z_aload_n C 2 d_R_hearAsActive_59 rfl rfl ?_
      refine Z_aload_n C 3 d_R_hearAsActive_60 rfl rfl ?_
      refine C_csv C ms_R_intervalIn ml_R_178 (c_R_intervalIn w _ _ _ _ (by assumption)) rfl (by decide) rfl (Nat.le_of_ble_eq_true rfl) d_R_hearAsActive_61 ?_
      refine C_pR C w (by assumption) 6 (by decide) fl_R_44 rfl rfl rfl rfl rfl d_R_hearAsActive_64 ?_
      refine Z_aload_n C 2 d_R_hearAsActive_67 rfl rfl ?_
      refine C_cRn C w (by assumption) mi_R_becomeBackup ml_R_62 (c_R_becomeBackup w _ _ _ _ (by assumption)) rfl rfl (by decide) rfl (Nat.le_of_ble_eq_true rfl) d_R_hearAsActive_68 ?_
      refine Z_goto (tgt := 79) C d_R_hearAsActive_71 (by decide) ?_
      exact Z_vret C hN hr d_R_hearAsActive_79 rfl (zeq (by unfold haS; first | (rw [if_pos c12]; done) | (rw [if_neg c12, if_pos (by simp [haB, ← Int32.not_le, c12, c35])]; done) | (rw [if_neg c12, if_neg (by simp [haB, ← Int32.not_le, c12, c35])])))
    · skip
      refine Z_iload_n C 1 d_R_hearAsActive_38 rfl rfl ?_
      refine Z_iload_n C 0 d_R_hearAsActive_39 rfl rfl ?_
      refine Z_icmp_ne (tgt := 74) C d_R_hearAsActive_40 (by decide) (fun c40 => ?_) (fun c40 => ?_)
      · skip
        refine Z_aload_n C 2 d_R_hearAsActive_74 rfl rfl ?_
        refine Z_iload_n C 0 d_R_hearAsActive_75 rfl rfl ?_
        refine C_cRn C w (by assumption) mi_R_advertise ml_R_65 (c_R_advertise w _ _ _ _ (by assumption) _ (by assumption)) rfl rfl (by decide) rfl (Nat.le_of_ble_eq_true rfl) d_R_hearAsActive_76 ?_
        exact Z_vret C hN hr d_R_hearAsActive_79 rfl (zeq (by unfold haS; first | (rw [if_pos c12]; done) | (rw [if_neg c12, if_pos (by simp [haB, ← Int32.not_le, c12, c35, c40])]; done) | (rw [if_neg c12, if_neg (by simp [haB, ← Int32.not_le, c12, c35, c40])])))
      · skip
        refine Z_aload_n C 3 d_R_hearAsActive_43 rfl rfl ?_
        refine C_gF C w (by assumption) 5 (by decide) fl_R_153 rfl rfl d_R_hearAsActive_44 ?_
        refine Z_aload_n C 2 d_R_hearAsActive_47 rfl rfl ?_
        refine C_gR C w (by assumption) 2 (by decide) fl_R_21 rfl rfl d_R_hearAsActive_48 ?_
        refine Z_iconst (v := 4) C d_R_hearAsActive_51 (by decide) ?_
        refine C_ldG C w (by assumption) 4 (by decide) (by unfold vp_in; decide) d_R_hearAsActive_52 ?_
        refine C_csv C ms_R_isAbove ml_R_182 (c_R_isAbove w _ _ _ _ _) rfl (by decide) rfl (Nat.le_of_ble_eq_true rfl) d_R_hearAsActive_53 ?_
        refine Z_if_eq (tgt := 74) C d_R_hearAsActive_56 (by decide) (fun c56 => ?_) (fun c56 => ?_)
        · skip
          refine Z_aload_n C 2 d_R_hearAsActive_74 rfl rfl ?_
          refine Z_iload_n C 0 d_R_hearAsActive_75 rfl rfl ?_
          refine C_cRn C w (by assumption) mi_R_advertise ml_R_65 (c_R_advertise w _ _ _ _ (by assumption) _ (by assumption)) rfl rfl (by decide) rfl (Nat.le_of_ble_eq_true rfl) d_R_hearAsActive_76 ?_
          exact Z_vret C hN hr d_R_hearAsActive_79 rfl (zeq (by unfold haS; first | (rw [if_pos c12]; done) | (rw [if_neg c12, if_pos (by simp [haB, ← Int32.not_le, c12, c35, c40, c56])]; done) | (rw [if_neg c12, if_neg (by simp [haB, ← Int32.not_le, c12, c35, c40, c56])])))
        · skip
          refine Z_aload_n C 2 d_R_hearAsActive_59 rfl rfl ?_
          refine Z_aload_n C 3 d_R_hearAsActive_60 rfl rfl ?_
          refine C_csv C ms_R_intervalIn ml_R_178 (c_R_intervalIn w _ _ _ _ (by assumption)) rfl (by decide) rfl (Nat.le_of_ble_eq_true rfl) d_R_hearAsActive_61 ?_
          refine C_pR C w (by assumption) 6 (by decide) fl_R_44 rfl rfl rfl rfl rfl d_R_hearAsActive_64 ?_
          refine Z_aload_n C 2 d_R_hearAsActive_67 rfl rfl ?_
          refine C_cRn C w (by assumption) mi_R_becomeBackup ml_R_62 (c_R_becomeBackup w _ _ _ _ (by assumption)) rfl rfl (by decide) rfl (Nat.le_of_ble_eq_true rfl) d_R_hearAsActive_68 ?_
          refine Z_goto (tgt := 79) C d_R_hearAsActive_71 (by decide) ?_
          exact Z_vret C hN hr d_R_hearAsActive_79 rfl (zeq (by unfold haS; first | (rw [if_pos c12]; done) | (rw [if_neg c12, if_pos (by simp [haB, ← Int32.not_le, c12, c35, c40, c56])]; done) | (rw [if_neg c12, if_neg (by simp [haB, ← Int32.not_le, c12, c35, c40, c56])])))
  · skip
    refine Z_aload_n C 2 d_R_hearAsActive_15 rfl rfl ?_
    refine Z_iload_n C 0 d_R_hearAsActive_16 rfl rfl ?_
    refine C_cRn C w (by assumption) mi_R_advertise ml_R_65 (c_R_advertise w _ _ _ _ (by assumption) _ (by assumption)) rfl rfl (by decide) rfl (Nat.le_of_ble_eq_true rfl) d_R_hearAsActive_17 ?_
    refine Z_aload_n C 2 d_R_hearAsActive_20 rfl rfl ?_
    refine Z_aload_n C 2 d_R_hearAsActive_21 rfl rfl ?_
    refine C_gR C w (by assumption) 2 (by decide) fl_R_21 rfl rfl d_R_hearAsActive_22 ?_
    refine Z_iconst (v := 1) C d_R_hearAsActive_25 (by decide) ?_
    refine C_ldG C w (by assumption) 1 (by decide) (by unfold vp_in; decide) d_R_hearAsActive_26 ?_
    refine C_pR C w (by assumption) 5 (by decide) fl_R_37 rfl rfl rfl rfl rfl d_R_hearAsActive_27 ?_
    refine Z_goto (tgt := 79) C d_R_hearAsActive_30 (by decide) ?_
    exact Z_vret C hN hr d_R_hearAsActive_79 rfl (zeq (by unfold haS; first | (rw [if_pos c12]; done) | (rw [if_neg c12, if_pos (by simp [haB, ← Int32.not_le, c12])]; done) | (rw [if_neg c12, if_neg (by simp [haB, ← Int32.not_le, c12])])))
set_option maxRecDepth 100000 in
set_option maxHeartbeats 4000000 in
theorem c_R_timerFires {l : Launch} {G : zG} {V : zV} (w : wC G V) (M : zM) (P : Nat → Nat) (D : Nat × Nat) (i : Nat) (hi : i < 5) (hI : Inv M P D) : zF l y_R_timerFires b_R_timerFires 1 none 4 88 G [.ref (V.1 2 i 0)] (eC V M P D) none (eC V (tfS (M, P, D) i).1 (tfS (M, P, D) i).2.1 (tfS (M, P, D) i).2.2) := by
  refine zF.ofZ (by decide) w.2.2.2.2 (Nat.le_of_ble_eq_true rfl) (fun X hXl hN hr C => ?_)
  subst hXl
  show Z X G (zA G) 1 _ (eC V M P D) 0 [(0, .ref (V.1 2 i 0))] []
  refine Z_aload_n C 0 d_R_timerFires_0 rfl rfl ?_
  refine C_gR C w (by assumption) 4 (by decide) fl_R_34 rfl rfl d_R_timerFires_1 ?_
  refine Z_iconst (v := 1) C d_R_timerFires_4 (by decide) ?_
  refine Z_icmp_ne (tgt := 15) C d_R_timerFires_5 (by decide) (fun c5 => ?_) (fun c5 => ?_)
  · skip
    refine Z_aload_n C 0 d_R_timerFires_15 rfl rfl ?_
    refine Z_aload_n C 0 d_R_timerFires_16 rfl rfl ?_
    refine C_cRv C w (by assumption) mi_R_weighed ml_R_40 (c_R_weighed w _ _ _ _ (by assumption)) rfl rfl (by decide) rfl (Nat.le_of_ble_eq_true rfl) d_R_timerFires_17 ?_
    refine C_cRn C w (by assumption) mi_R_advertise ml_R_65 (c_R_advertise w _ _ _ _ (by assumption) _ (by assumption)) rfl rfl (by decide) rfl (Nat.le_of_ble_eq_true rfl) d_R_timerFires_20 ?_
    refine Z_aload_n C 0 d_R_timerFires_23 rfl rfl ?_
    refine Z_aload_n C 0 d_R_timerFires_24 rfl rfl ?_
    refine C_gR C w (by assumption) 2 (by decide) fl_R_21 rfl rfl d_R_timerFires_25 ?_
    refine Z_iconst (v := 1) C d_R_timerFires_28 (by decide) ?_
    refine C_ldG C w (by assumption) 1 (by decide) (by unfold vp_in; decide) d_R_timerFires_29 ?_
    refine C_pR C w (by assumption) 5 (by decide) fl_R_37 rfl rfl rfl rfl rfl d_R_timerFires_30 ?_
    exact Z_vret C hN hr d_R_timerFires_33 rfl (zeq (by unfold tfS; first | rw [if_pos c5] | rw [if_neg c5]))
  · skip
    refine Z_aload_n C 0 d_R_timerFires_8 rfl rfl ?_
    refine C_cRn C w (by assumption) mi_R_becomeActive ml_R_59 (c_R_becomeActive w _ _ _ _ (by assumption) (by assumption)) rfl rfl (by decide) rfl (Nat.le_of_ble_eq_true rfl) d_R_timerFires_9 ?_
    refine Z_goto (tgt := 33) C d_R_timerFires_12 (by decide) ?_
    exact Z_vret C hN hr d_R_timerFires_33 rfl (zeq (by unfold tfS; first | rw [if_pos c5] | rw [if_neg c5]))

