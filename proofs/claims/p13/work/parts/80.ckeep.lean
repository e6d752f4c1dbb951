/-! THE OTHER SIDE: what each of its steps leaves alone -/
def I62 (P : Nat → Nat) (D : Nat × Nat) : Prop := D.1 < 62 ∧ D.2 < 62 ∧ ∀ n, n < 60 → P n < 62
def IC (σ : zS) : Prop := Inv σ.1 σ.2.1 σ.2.2 ∧ I62 σ.2.1 σ.2.2
def W0 (M M' : zM) : Prop := M' 6 0 0 3 = M 6 0 0 3 ∧ M' 9 62 0 1 = M 9 62 0 1 ∧ ∀ i j, M' 5 i j 2 = M 5 i j 2 ∧ (M' 5 i j 3 = 0 ↔ M 5 i j 3 = 0)
def Wr (M M' : zM) : Prop := ∀ i, M' 2 i 0 4 = 0 ↔ M 2 i 0 4 = 0
def Cs0 (σ σ' : zS) : Prop := IC σ' ∧ W0 σ.1 σ'.1
def Cs (σ σ' : zS) : Prop := Cs0 σ σ' ∧ Wr σ.1 σ'.1
theorem W0.rf (M : zM) : W0 M M := ⟨rfl, rfl, fun _ _ => ⟨rfl, Iff.rfl⟩⟩
theorem W0.tr {M M1 M2 : zM} (h : W0 M M1) (g : W0 M1 M2) : W0 M M2 := ⟨g.1.trans h.1, g.2.1.trans h.2.1, fun i j => ⟨(g.2.2 i j).1.trans (h.2.2 i j).1, (g.2.2 i j).2.trans (h.2.2 i j).2⟩⟩
theorem Cs0.rf {σ : zS} (h : IC σ) : Cs0 σ σ := ⟨h, W0.rf _⟩
theorem Cs.rf {σ : zS} (h : IC σ) : Cs σ σ := ⟨Cs0.rf h, fun _ => Iff.rfl⟩
theorem Cs0.tr {σ σ1 σ2 : zS} (h : Cs0 σ σ1) (g : Cs0 σ1 σ2) : Cs0 σ σ2 := ⟨g.1, h.2.tr g.2⟩
theorem Cs.tr {σ σ1 σ2 : zS} (h : Cs σ σ1) (g : Cs σ1 σ2) : Cs σ σ2 := ⟨h.1.tr g.1, fun i => (g.2 i).trans (h.2 i)⟩
theorem Cs.ic {σ σ' : zS} (h : Cs σ σ') : IC σ' := h.1.1
theorem cs_m {σ : zS} (h : IC σ) {M' : zM} (e : M' 6 0 0 2 = σ.1 6 0 0 2) (w : W0 σ.1 M') : Cs0 σ (M', σ.2.1, σ.2.2) := ⟨⟨h.1.of e, h.2⟩, w⟩
theorem up_k {M : zM} {κ i j k κ' i' j' : Nat} {v : Int32} (h : κ' ≠ κ) : up M κ i j k v κ' i' j' = M κ' i' j' := up_ne (fun z => h z.1)
theorem rw_k {M : zM} {κ i j κ' i' j' : Nat} {q : Nat → Int32} (h : κ' ≠ κ) : rw4 M κ i j q κ' i' j' = M κ' i' j' := rw4_ne (fun z => h z.1)
/-- a number of a router that isn't its role -/
theorem cs_2 {σ : zS} {i k : Nat} {v : Int32} (h : IC σ) (hk : k ≠ 4) : Cs σ (up σ.1 2 i 0 k v, σ.2.1, σ.2.2) := by
  refine ⟨cs_m h (by rw [up_k (by decide)]) ⟨by rw [up_k (by decide)], by rw [up_k (by decide)], fun a b => by rw [up_k (by decide)]; exact ⟨rfl, Iff.rfl⟩⟩, fun a => ?_⟩
  by_cases e : a = i
  · subst e
    show up σ.1 2 a 0 k v 2 a 0 4 = 0 ↔ _
    rw [up_self, pk_un hk.symm]
  · show up σ.1 2 i 0 k v 2 a 0 4 = 0 ↔ _
    rw [up_ne (fun z => e z.2.1)]
/-- the role -/
theorem cs_r0 {σ : zS} {i : Nat} {v : Int32} (h : IC σ) : Cs0 σ (up σ.1 2 i 0 4 v, σ.2.1, σ.2.2) := cs_m h (by rw [up_k (by decide)]) ⟨by rw [up_k (by decide)], by rw [up_k (by decide)], fun a b => by rw [up_k (by decide)]; exact ⟨rfl, Iff.rfl⟩⟩
theorem role_at {M : zM} {i a : Nat} {v : Int32} (hv : ¬ v = 0) : up M 2 i 0 4 v 2 a 0 4 = 0 ↔ ¬ a = i ∧ M 2 a 0 4 = 0 := by
  by_cases e : a = i
  · subst e; rw [up_self, pk_us]; exact ⟨fun z => absurd z hv, fun z => absurd rfl z.1⟩
  · rw [up_ne (fun z => e z.2.1)]; exact ⟨fun z => ⟨e, z⟩, fun z => z.2⟩
/-- a session's row -/
theorem cs_5 {σ : zS} {i s : Nat} {q : Nat → Int32} (h : IC σ) (h2 : q 2 = σ.1 5 i s 2) (h3 : q 3 = 0 ↔ σ.1 5 i s 3 = 0) : Cs σ (rw4 σ.1 5 i s q, σ.2.1, σ.2.2) := by
  refine ⟨cs_m h (by rw [rw_k (by decide)]) ⟨by rw [rw_k (by decide)], by rw [rw_k (by decide)], fun a b => ?_⟩, fun a => by show rw4 σ.1 5 i s q 2 a 0 4 = 0 ↔ _; rw [rw_k (by decide)]⟩
  by_cases e : a = i ∧ b = s
  · obtain ⟨rfl, rfl⟩ := e
    rw [rw4_self]
    exact ⟨h2, h3⟩
  · rw [rw4_ne (fun z => e z.2)]
    exact ⟨rfl, Iff.rfl⟩
/-- a frame is written -/
def Fdr (d : Nat) (M M' : zM) : Prop := ∀ κ i j, ¬ (κ = 9 ∧ i = d) → ¬ (κ = 10 ∧ i = d) → M' κ i j = M κ i j
theorem Fdr.rf (d : Nat) (M : zM) : Fdr d M M := fun _ _ _ _ _ => rfl
theorem Fdr.tr {d : Nat} {M M1 M2 : zM} (h : Fdr d M M1) (g : Fdr d M1 M2) : Fdr d M M2 := fun κ i j a b => (g κ i j a b).trans (h κ i j a b)
theorem fd_9 {d k : Nat} {M : zM} {v : Int32} : Fdr d M (up M 9 d 0 k v) := fun κ i j a _ => up_ne (fun z => a ⟨z.1, z.2.1⟩)
theorem fd_10 {d k : Nat} {M : zM} {v : Int32} : Fdr d M (up M 10 d 0 k v) := fun κ i j _ b => up_ne (fun z => b ⟨z.1, z.2.1⟩)
theorem fd_put {d : Nat} {M : zM} {v : Int32} : Fdr d M (fPut M d v) := by
  unfold fPut
  split
  · exact Fdr.rf d M
  split
  · exact Fdr.rf d M
  · exact fd_10.tr fd_9
theorem fd_put2 {d : Nat} {M : zM} {v : Int32} : Fdr d M (fPut2 M d v) := fd_put.tr fd_put
theorem fd_put4 {d : Nat} {M : zM} {v : Int32} : Fdr d M (fPut4 M d v) := ((fd_put.tr fd_put).tr fd_put).tr fd_put
theorem fd_check {d : Nat} {M : zM} {x : Int32} : Fdr d M (fCheck M d x) := by
  unfold fCheck
  split
  · exact Fdr.rf d M
  split
  · exact Fdr.rf d M
  split
  · exact Fdr.rf d M
  · exact fd_10.tr fd_10
theorem fd_new {d : Nat} {M : zM} {a b c e : Int32} : Fdr d M (wNew M d a b c e) := ((((fd_9.tr fd_9).tr fd_9).tr fd_9).tr fd_9).tr fd_9
theorem fd_ad4 {d i : Nat} {M : zM} {pr : Int32} : Fdr d M (ad4 M d i pr) := by
  have h1 : Fdr d M (ad1 M d i) := fd_new.tr fd_put
  have h2 : Fdr d M (ad2 M d i pr) := ((h1.tr fd_put).tr fd_put).tr fd_put
  have h3 : Fdr d M (ad3 M d i pr) := (h2.tr fd_put2).tr fd_put2
  exact (h3.tr fd_put4).tr fd_check
theorem fd_pk7 {d i j : Nat} {M : zM} {flag : Int32} : Fdr d M (pk7 M d i j flag) := by
  have h1 : Fdr d M (pk1 M d i j flag) := fd_new.tr fd_put
  have h2 : Fdr d M (pk2 M d i j flag) := h1.tr fd_put
  have h3 : Fdr d M (pk3 M d i j flag) := (h2.tr fd_put).tr fd_put
  have h4 : Fdr d M (pk4 M d i j flag) := h3.tr fd_put4
  have h5 : Fdr d M (pk5 M d i j flag) := h4.tr fd_put4
  have h6 : Fdr d M (pk6 M d i j flag) := h5.tr fd_put4
  exact (h6.tr fd_put4).tr fd_put4
theorem cs_fd {σ : zS} {d : Nat} {M' : zM} (h : IC σ) (hd : d ≠ 62) (f : Fdr d σ.1 M') : Cs σ (M', σ.2.1, σ.2.2) :=
  ⟨cs_m h (by rw [f 6 0 0 (by simp) (by simp)]) ⟨by rw [f 6 0 0 (by simp) (by simp)], by rw [f 9 62 0 (fun z => hd z.2.symm) (by simp)], fun a b => by rw [f 5 a b (by simp) (by simp)]; exact ⟨rfl, Iff.rfl⟩⟩, fun a => by show M' 2 a 0 4 = 0 ↔ _; rw [f 2 a 0 (by simp) (by simp)]⟩
section CK
variable {σ : zS} {i j s k r : Nat} {pr kind to flag : Int32}
theorem cs_sd (h : IC σ) : Cs σ (sdS σ i s) := by
  have hI := Inv.sd (i := i) (s := s) h.1
  obtain ⟨⟨h1, h2, h3, h4, h5⟩, g1, g2, g3⟩ := h
  unfold sdS at hI ⊢
  by_cases c : (σ.1 3 i 0 7 &&& 1) = 0
  · rw [if_pos c] at hI ⊢
    by_cases c6 : cnt σ.1 = 60
    · refine ⟨⟨⟨hI, ?_⟩, ?_⟩, fun a => ?_⟩
      · unfold cyP cyD; dsimp only; rw [if_pos c6, if_pos c6]; exact ⟨g1, g2, g3⟩
      · unfold cyM; dsimp only; rw [if_pos c6]
        exact ⟨by rw [up_k (by decide), up_k (by decide)], by rw [up_k (by decide), up_k (by decide)], fun a b => by rw [up_k (by decide), up_k (by decide)]; exact ⟨rfl, Iff.rfl⟩⟩
      · unfold cyM; dsimp only; rw [if_pos c6, up_k (by decide)]
        by_cases e : a = i
        · subst e; rw [up_self, pk_un (by decide)]
        · rw [up_ne (fun z => e z.2.1)]
    · refine ⟨⟨⟨hI, ?_⟩, ?_⟩, fun a => ?_⟩
      · unfold cyP cyD; dsimp only; rw [if_neg c6, if_neg c6]
        refine ⟨g3 _ (by omega), g2, fun n hn => ?_⟩
        by_cases q : n = cnt σ.1
        · subst q; rw [va_up_self]; exact g1
        · rw [va_up_ne _ _ q]; exact g3 n hn
      · unfold cyM; dsimp only; rw [if_neg c6]
        refine ⟨?_, ?_, fun a b => ?_⟩
        · rw [up_self, pk_un (by decide), up_k (by decide), up_k (by decide), up_k (by decide), up_k (by decide)]
        · rw [up_k (by decide), up_ne (fun z => by omega), up_ne (fun z => by omega), up_k (by decide), up_k (by decide)]
        · rw [up_k (by decide), up_k (by decide), up_k (by decide), up_k (by decide), up_k (by decide)]; exact ⟨rfl, Iff.rfl⟩
      · unfold cyM; dsimp only; rw [if_neg c6, up_k (by decide), up_k (by decide), up_k (by decide), up_k (by decide)]
        by_cases e : a = i
        · subst e; rw [up_self, pk_un (by decide)]
        · rw [up_ne (fun z => e z.2.1)]
  · rw [if_neg c]
    exact cs_2 ⟨⟨h1, h2, h3, h4, h5⟩, g1, g2, g3⟩ (by decide)
theorem cs_se (h : IC σ) : Cs σ (seS σ i kind s to) := by
  have h1 := cs_fd (M' := wNew σ.1 σ.2.2.1 kind (nI s) to (σ.1 3 i 0 4)) h (by have := h.2.1; omega) fd_new
  exact h1.tr (cs_sd h1.ic)
theorem cs_ad (h : IC σ) : Cs σ (adS σ i pr) := by
  have h1 := cs_fd (M' := ad4 σ.1 σ.2.2.1 i pr) h (by have := h.2.1; omega) fd_ad4
  exact h1.tr (cs_sd h1.ic)
theorem cs_pk (h : IC σ) : Cs σ (pkS σ i j flag) := by
  have h1 := cs_fd (M' := pk7 σ.1 σ.2.2.1 i j flag) h (by have := h.2.1; omega) fd_pk7
  exact h1.tr (cs_sd h1.ic)
theorem cs_ac1 (h : IC σ) : Cs σ (ac1 σ i) := by
  have h1 := cs_ad (i := i) (pr := rWeighed σ.1 i) h
  exact h1.tr (cs_se h1.ic)
theorem cs_ac0 (h : IC σ) : Cs0 σ (acS σ i) ∧ ∀ a, ((acS σ i).1 2 a 0 4 = 0 ↔ ¬ a = i ∧ σ.1 2 a 0 4 = 0) := by
  have h1 := cs_ac1 (i := i) h
  have h2 := h1.tr (cs_2 (i := i) (k := 5) (v := (ac1 σ i).1 3 i 0 1) h1.ic (by decide))
  have h3 := cs_r0 (i := i) (v := 2) h2.ic
  have h4 := cs_2 (i := i) (k := 7) (v := up (up (ac1 σ i).1 2 i 0 5 ((ac1 σ i).1 3 i 0 1)) 2 i 0 4 2 2 i 0 7 + 1) h3.1 (by decide)
  refine ⟨(h2.1.tr h3).tr h4.1, fun a => (h4.2 a).trans ((role_at (by decide)).trans ?_)⟩
  exact ⟨fun z => ⟨z.1, (h2.2 a).mp z.2⟩, fun z => ⟨z.1, (h2.2 a).mpr z.2⟩⟩
theorem cs_ac (h : IC σ) (h4 : ¬ σ.1 2 i 0 4 = 0) : Cs σ (acS σ i) := by
  obtain ⟨g0, g1⟩ := cs_ac0 (i := i) h
  exact ⟨g0, fun a => (g1 a).trans ⟨fun z => z.2, fun z => ⟨fun e => h4 (e ▸ z), z⟩⟩⟩
theorem cs_back0 (h : IC σ) : Cs0 σ (rBackup σ.1 i, σ.2.1, σ.2.2) ∧ ∀ a, (rBackup σ.1 i 2 a 0 4 = 0 ↔ ¬ a = i ∧ σ.1 2 a 0 4 = 0) := by
  have h2 := cs_2 (i := i) (k := 5) (v := 3 * σ.1 2 i 0 6 + rSkew σ.1 i) h (by decide)
  have h3 := cs_r0 (i := i) (v := 1) h2.ic
  refine ⟨h2.1.tr h3, fun a => (role_at (by decide)).trans ?_⟩
  exact ⟨fun z => ⟨z.1, (h2.2 a).mp z.2⟩, fun z => ⟨z.1, (h2.2 a).mpr z.2⟩⟩
theorem cs_back (h : IC σ) (h4 : ¬ σ.1 2 i 0 4 = 0) : Cs σ (rBackup σ.1 i, σ.2.1, σ.2.2) := by
  obtain ⟨g0, g1⟩ := cs_back0 (i := i) h
  exact ⟨g0, fun a => (g1 a).trans ⟨fun z => z.2, fun z => ⟨fun e => h4 (e ▸ z), z⟩⟩⟩
theorem cs_kb (h : IC σ) (h4 : ¬ σ.1 2 i 0 4 = 0) {v : Int32} : Cs σ (rBackup (up σ.1 2 i 0 6 v) i, σ.2.1, σ.2.2) := by
  have h1 := cs_2 (i := i) (k := 6) (v := v) h (by decide)
  exact h1.tr (cs_back (σ := (up σ.1 2 i 0 6 v, σ.2.1, σ.2.2)) h1.ic (fun z => h4 ((h1.2 i).mp z)))
theorem cs_hb (h : IC σ) (h4 : ¬ σ.1 2 i 0 4 = 0) : Cs σ (hbM σ.1 i k, σ.2.1, σ.2.2) := by
  unfold hbM
  split
  · exact cs_2 h (by decide)
  split
  · exact cs_kb h h4
  split
  · exact Cs.rf h
  · exact cs_kb h h4
theorem cs_ad5 (h : IC σ) : Cs σ (up (adS σ i pr).1 2 i 0 5 ((adS σ i pr).1 3 i 0 1), (adS σ i pr).2.1, (adS σ i pr).2.2) := by
  have h1 := cs_ad (i := i) (pr := pr) h
  exact h1.tr (cs_2 h1.ic (by decide))
theorem cs_ha (h : IC σ) (h4 : ¬ σ.1 2 i 0 4 = 0) : Cs σ (haS σ i k) := by
  unfold haS
  split
  · exact cs_ad5 h
  split
  · exact cs_kb h h4
  · exact cs_ad h
theorem cs_tf (h : IC σ) (h4 : ¬ σ.1 2 i 0 4 = 0) : Cs σ (tfS σ i) := by
  unfold tfS
  split
  · exact cs_ac h h4
  · exact cs_ad5 h
theorem fall_2 (q : Nat → Int32) (why : Int32) : sFall q why 2 = q 2 := by
  unfold sFall
  split <;> rfl
theorem fall_3 (q : Nat → Int32) (why : Int32) : sFall q why 3 = 0 ↔ q 3 = 0 := by
  unfold sFall
  split
  · rename_i h
    show (1 : Int32) = 0 ↔ _
    refine ⟨fun z => absurd z (by decide), fun z => ?_⟩
    rcases h with h | h <;> rw [z] at h <;> exact absurd h (by decide)
  · exact Iff.rfl
theorem follow_2 (q : Nat → Int32) : sFollow q 2 = q 2 := by
  unfold sFollow sComeUp
  split
  · rfl
  split
  · exact fall_2 q 3
  split
  · split
    · rfl
    split <;> rfl
  split
  · split <;> rfl
  split
  · exact fall_2 q 3
  · rfl
theorem follow_3 (q : Nat → Int32) : sFollow q 3 = 0 ↔ q 3 = 0 := by
  unfold sFollow sComeUp
  split
  · exact Iff.rfl
  rename_i h0
  split
  · exact fall_3 q 3
  split
  · split
    · show (2 : Int32) = 0 ↔ _; exact ⟨fun z => absurd z (by decide), fun z => absurd z h0⟩
    split
    · show (3 : Int32) = 0 ↔ _; exact ⟨fun z => absurd z (by decide), fun z => absurd z h0⟩
    · exact Iff.rfl
  split
  · split
    · exact Iff.rfl
    · show (3 : Int32) = 0 ↔ _; exact ⟨fun z => absurd z (by decide), fun z => absurd z h0⟩
  split
  · exact fall_3 q 3
  · exact Iff.rfl
theorem learn2_at (q p b : Nat → Int32) : sLearn2 q p b 2 = q 2 ∧ sLearn2 q p b 3 = q 3 := by
  unfold sLearn2
  split
  · exact ⟨rfl, rfl⟩
  split
  · exact ⟨rfl, rfl⟩
  · exact ⟨rfl, rfl⟩
theorem learn_2 (q p b : Nat → Int32) : sLearn q p b 2 = q 2 := by
  unfold sLearn
  rw [follow_2, pk_un (by decide)]
  exact (learn2_at q p b).1
theorem learn_3 (q p b : Nat → Int32) : sLearn q p b 3 = 0 ↔ q 3 = 0 := by
  unfold sLearn
  rw [follow_3, pk_un (by decide), (learn2_at q p b).2]
theorem hurry_at (q : Nat → Int32) : sHurry q 2 = q 2 ∧ sHurry q 3 = q 3 := by
  unfold sHurry
  split <;> exact ⟨rfl, rfl⟩
theorem detect_2 (q : Nat → Int32) : sDetect q 2 = q 2 := by
  unfold sDetect
  split
  · split
    · rw [fall_2]; rfl
    · rfl
  · rfl
theorem detect_3 (q : Nat → Int32) : sDetect q 3 = 0 ↔ q 3 = 0 := by
  unfold sDetect
  split
  · split
    · rw [fall_3]; exact Iff.rfl
    · exact Iff.rfl
  · exact Iff.rfl
theorem fires_at (q : Nat → Int32) : sFires q 2 = q 2 ∧ sFires q 3 = q 3 := by
  unfold sFires
  split <;> exact ⟨rfl, rfl⟩
theorem cs_hp1 (h : IC σ) : Cs σ (hp1 σ.1 i k s, σ.2.1, σ.2.2) := cs_5 h (learn_2 _ _ _) (learn_3 _ _ _)
theorem cs_hp2 (h : IC σ) : Cs σ (hp2 σ i k s) := by
  have h1 := cs_hp1 (i := i) (k := k) (s := s) h
  unfold hp2
  split
  · exact h1
  · exact h1.tr (cs_pk h1.ic)
theorem cs_hp3 (h : IC σ) : Cs σ (hp3 σ i k s) := by
  have h1 := cs_hp2 (i := i) (k := k) (s := s) h
  unfold hp3
  split
  · exact h1
  · exact h1.tr (cs_5 h1.ic (hurry_at _).1 (by rw [(hurry_at _).2]))
theorem cs_hp (h : IC σ) : Cs σ (hpS σ i k) := by
  unfold hpS
  split
  · exact Cs.rf h
  · exact cs_hp3 h
theorem cs_he (h : IC σ) (h4 : ¬ σ.1 2 i 0 4 = 0) : Cs σ (heS σ i k) := by
  unfold heS
  split
  · split
    · exact Cs.rf h
    have h1 : Cs σ (he1 σ.1 i, σ.2.1, σ.2.2) := cs_2 h (by decide)
    have h5 : ¬ he1 σ.1 i 2 i 0 4 = 0 := fun z => h4 ((h1.2 i).mp z)
    split
    · exact h1.tr (cs_ha h1.ic h5)
    · exact h1.tr (cs_hb h1.ic h5)
  split
  · exact cs_hp h
  split
  · split
    · exact Cs.rf h
    split
    · exact Cs.rf h
    · exact cs_se h
  split
  · exact cs_2 h (by decide)
  · exact Cs.rf h
theorem cs_rs1 (h : IC σ) : Cs σ (rs1 σ.1 i j, σ.2.1, σ.2.2) := cs_5 h (detect_2 _) (detect_3 _)
theorem cs_rs2 (h : IC σ) : Cs σ (rs2 σ.1 i j, σ.2.1, σ.2.2) := by
  have h1 := cs_rs1 (i := i) (j := j) h
  exact h1.tr (cs_5 (σ := (rs1 σ.1 i j, σ.2.1, σ.2.2)) h1.ic (fires_at _).1 (by rw [(fires_at _).2]))
theorem cs_rs (h : IC σ) : Cs σ (rsS σ i j) := by
  have h2 := cs_rs2 (i := i) (j := j) h
  unfold rsS
  split
  · exact h2
  · have h3 : Cs σ (rs3 σ i j) := h2.tr (cs_pk h2.ic)
    exact h3.tr (cs_5 h3.ic (by rw [pk_un (by decide)]) (by rw [pk_un (by decide)]))
theorem cs_rtl : ∀ (n s : Nat) {σ : zS}, IC σ → Cs σ (rtl i n s σ) := by
  intro n
  induction n with
  | zero => intro s σ h; exact Cs.rf h
  | succ n ih =>
    intro s σ h
    have h1 : Cs σ (rtStep i s σ) := by
      unfold rtStep
      split
      · exact Cs.rf h
      · exact cs_rs h
    exact h1.tr (ih (s + 1) h1.ic)
theorem cs_rt (h : IC σ) : Cs σ (rtS σ i) := by
  unfold rtS
  split
  · exact Cs.rf h
  rename_i h4
  have h1 : Cs σ (rt1 σ.1 i, σ.2.1, σ.2.2) := cs_2 h (by decide)
  have h2 : Cs σ (rt2 σ i) := by
    unfold rt2
    split
    · exact h1
    · exact h1.tr (cs_tf h1.ic (fun z => h4 ((h1.2 i).mp z)))
  exact h2.tr (cs_rtl 5 0 h2.ic)
theorem minds_ne (h : ¬ rMinds σ.1 r k = 0) : ¬ σ.1 2 r 0 4 = 0 := fun z => h (by unfold rMinds; rw [if_pos z])
theorem cs_hoL : ∀ (n r : Nat) {σ : zS}, IC σ → Cs σ (hoL k n r σ) := by
  intro n
  induction n with
  | zero => intro r σ h; exact Cs.rf h
  | succ n ih =>
    intro r σ h
    have h1 : Cs σ (hoStep k r σ) := by
      unfold hoStep
      split
      · exact Cs.rf h
      split
      · exact Cs.rf h
      · rename_i hm
        exact cs_he h (minds_ne hm)
    exact h1.tr (ih (r + 1) h1.ic)
theorem cs_tk (h : IC σ) : Cs σ (tkS σ) := by
  have hI := inv_tkS h.1
  obtain ⟨⟨h1, h2, h3, h4, h5⟩, g1, g2, g3⟩ := id h
  unfold tkS at hI ⊢
  dsimp only at hI ⊢
  unfold tkM tkP tkD at hI ⊢
  by_cases hc : kDue σ.1 σ.2.1 (cnt σ.1) (cnt σ.1) 0 < cnt σ.1
  · rw [if_pos hc, if_pos hc, if_pos hc] at hI ⊢
    refine ⟨⟨⟨hI, g1, g3 _ (by omega), fun n hn => ?_⟩, ?_⟩, fun a => ?_⟩
    · by_cases q : n = cnt σ.1 - 1
      · subst q
        show va_up _ _ σ.2.2.2 _ < 62
        rw [va_up_self]
        exact g2
      · show va_up _ _ σ.2.2.2 _ < 62
        rw [va_up_ne _ _ q]
        unfold pShift
        split
        · exact g3 _ (by omega)
        · exact g3 n hn
    · refine ⟨?_, ?_, fun a b => ?_⟩
      · show up σ.1 6 0 0 2 (nI (cnt σ.1 - 1)) 6 0 0 3 = _
        rw [up_self, pk_un (by decide)]
      · show up σ.1 6 0 0 2 (nI (cnt σ.1 - 1)) 9 62 0 1 = _
        rw [up_k (by decide)]
      · show up σ.1 6 0 0 2 (nI (cnt σ.1 - 1)) 5 a b 2 = _ ∧ (up σ.1 6 0 0 2 (nI (cnt σ.1 - 1)) 5 a b 3 = 0 ↔ _)
        rw [up_k (by decide)]
        exact ⟨rfl, Iff.rfl⟩
    · show up σ.1 6 0 0 2 (nI (cnt σ.1 - 1)) 2 a 0 4 = 0 ↔ _
      rw [up_k (by decide)]
  · rw [if_neg hc, if_neg hc, if_neg hc]
    exact Cs.rf h
theorem cs_duL : ∀ (n : Nat) {σ : zS}, IC σ → Cs σ (duL n σ) := by
  intro n
  induction n with
  | zero => intro σ h; exact Cs.rf h
  | succ n ih =>
    intro σ h
    have h1 := cs_tk h
    have h2 : Cs σ (hoS (tkS σ) (tkS σ).2.2.2) := h1.tr (cs_hoL 5 0 h1.ic)
    exact h2.tr (ih h2.ic)
theorem cs_rtL : ∀ (n r : Nat) {σ : zS}, IC σ → Cs σ (rtL n r σ) := by
  intro n
  induction n with
  | zero => intro r σ h; exact Cs.rf h
  | succ n ih =>
    intro r σ h
    have h1 := cs_rt (i := r) h
    exact h1.tr (ih (r + 1) h1.ic)
end CK
/-- as W0, but the clock has moved by d -/
def Wd (d : Int32) (M M' : zM) : Prop := M' 6 0 0 3 = M 6 0 0 3 + d ∧ M' 9 62 0 1 = M 9 62 0 1 ∧ (∀ i j, M' 5 i j 2 = M 5 i j 2 ∧ (M' 5 i j 3 = 0 ↔ M 5 i j 3 = 0)) ∧ Wr M M'
theorem c_one {σ : zS} (h : IC σ) : IC (oneS σ) ∧ Wd 1 σ.1 (oneS σ).1 := by
  have h0 : IC (ckS σ) := ⟨inv_ckS h.1, h.2⟩
  have h1 := cs_duL (nDue (ckS σ)) h0
  have h2 : Cs (ckS σ) (oneS σ) := h1.tr (cs_rtL 5 0 h1.ic)
  refine ⟨h2.ic, ?_, ?_, fun i j => ?_, fun i => ?_⟩
  · rw [h2.1.2.1]
    show up σ.1 6 0 0 3 (σ.1 6 0 0 3 + 1) 6 0 0 3 = _
    rw [up_self, pk_us]
  · rw [h2.1.2.2.1]
    show up σ.1 6 0 0 3 (σ.1 6 0 0 3 + 1) 9 62 0 1 = _
    rw [up_k (by decide)]
  · have h3 := h2.1.2.2.2 i j
    have e : (ckS σ).1 5 i j = σ.1 5 i j := by show up σ.1 6 0 0 3 (σ.1 6 0 0 3 + 1) 5 i j = _; rw [up_k (by decide)]
    rw [e] at h3
    exact h3
  · have h3 := h2.2 i
    have e : (ckS σ).1 2 i 0 = σ.1 2 i 0 := by show up σ.1 6 0 0 3 (σ.1 6 0 0 3 + 1) 2 i 0 = _; rw [up_k (by decide)]
    rw [e] at h3
    exact h3
theorem c_ti : ∀ (n : Nat) {σ : zS}, IC σ → IC (tiL n σ) ∧ Wd (nI n) σ.1 (tiL n σ).1 := by
  intro n
  induction n with
  | zero => intro σ h; exact ⟨h, by show σ.1 6 0 0 3 = _ + nI 0; rw [nI_0, Int32.add_zero], rfl, fun _ _ => ⟨rfl, Iff.rfl⟩, fun _ => Iff.rfl⟩
  | succ n ih =>
    intro σ h
    obtain ⟨h1, a1, a2, a3, a4⟩ := c_one h
    obtain ⟨h2, b1, b2, b3, b4⟩ := ih h1
    refine ⟨h2, ?_, b2.trans a2, fun i j => ⟨(b3 i j).1.trans (a3 i j).1, (b3 i j).2.trans (a3 i j).2⟩, fun i => (b4 i).trans (a4 i)⟩
    show (tiL n (oneS σ)).1 6 0 0 3 = _
    rw [b1, a1, Int32.add_assoc, ← nI_1, Int32.add_comm (1 : Int32)]
