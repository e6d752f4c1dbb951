/-! THE REFERENCE: what holds all along (IV); what a step leaves alone (Go) -/
theorem mFold_le : ∀ (n v : Nat), v < 2 ^ 31 → v < n → ∃ w, w ≤ 65535 ∧ mFold n (nI v) = nI w := by
  intro n
  induction n with
  | zero => intro v _ h; omega
  | succ n ih =>
    intro v hv hn
    by_cases hc : v ≤ 65535
    · exact ⟨v, hc, mFold_fix (nI_le (a := v) (b := 65535) hc (by omega)) _⟩
    · have h1 : 65535 < v := by omega
      obtain ⟨e, hlt⟩ := fold_lt h1 hv
      unfold mFold
      rw [if_neg (fun z => hc (by
        rw [Int32.le_iff_toInt_le] at z
        have q := nI_lt (a := 65535) (b := v) h1 hv
        rw [Int32.lt_iff_toInt_lt] at q
        have e0 : (65535 : Int32).toInt = (nI 65535).toInt := rfl
        omega)), e]
      exact ih _ (by omega) (by omega)
theorem mSum_le {q : Nat → Int32} {x : Int32} (h : Byt q 12) : ∃ w, w ≤ 65535 ∧ mSum q x = nI w := mFold_le _ _ (mSN_lt h) (by omega)
def isB (v : Int32) : Prop := v = nI v.toNatClampNeg ∧ v.toNatClampNeg < 256
theorem isB_nI {n : Nat} (h : n < 256) : isB (nI n) := by unfold isB; rw [nI_clamp (by omega)]; exact ⟨rfl, h⟩
theorem Byt.up {q : Nat → Int32} {n k : Nat} {v : Int32} (h : Byt q n) (hv : isB v) : Byt (upd q k v) n := by
  intro j hj
  unfold mbt
  by_cases e : j = k
  · subst e; rw [pk_us]; exact hv
  · rw [pk_un e]; exact h j hj
theorem Byt.le {q : Nat → Int32} {n m : Nat} (h : Byt q n) (hm : m ≤ n) : Byt q m := fun k hk => h k (by omega)
theorem Byt.at {q : Nat → Int32} {n k : Nat} (h : Byt q n) (hk : k < n) : isB (q k) := h k hk
def FrG (N : zR) : Prop := ∀ f, f < 60 → (∃ a, a < 15 ∧ N 31 f = nI a) ∧ ∃ z, z ≤ 40 ∧ N 35 f = nI z
def IV (N : zR) : Prop := InvR N ∧ (∀ r, r < 5 → ¬ N 2 (10 * r + 6) = 0) ∧ FrG N ∧ Byt (N 36) 2400 ∧ Byt (N 37) 40 ∧ Byt (N 39) 40 ∧ Byt (N 41) 40 ∧ ∃ j, j ≤ 40 ∧ N 43 42 = nI j
def Kp (N N' : zR) : Prop := (N' 43 1 = N 43 1 ∧ N' 2 = N 2) ∧ fly N ≤ fly N' ∧ (∀ k, k < fly N → N' 29 k = N 29 k) ∧ ∀ k, fly N ≤ k → k < fly N' → ¬ N' 29 k = N 43 1
def Sm (N N' : zR) : Prop := N' 43 42 = N 43 42 ∧ N' 43 0 = N 43 0 ∧ N' 11 = N 11 ∧ ∀ i, N' 12 i = 0 ↔ N 12 i = 0
/-- all but the roles -/
def Go0 (N N' : zR) : Prop := IV N' ∧ Kp N N' ∧ Sm N N'
def Go (N N' : zR) : Prop := Go0 N N' ∧ ∀ r, N' 3 r = 0 ↔ N 3 r = 0
theorem Kp.rf (N : zR) : Kp N N := ⟨⟨rfl, rfl⟩, Nat.le_refl _, fun _ _ => rfl, fun k h1 h2 => by omega⟩
theorem Kp.tr {N N1 N2 : zR} (h : Kp N N1) (g : Kp N1 N2) : Kp N N2 := by
  obtain ⟨⟨h1, h2⟩, h3, h4, h5⟩ := h
  obtain ⟨⟨g1, g2⟩, g3, g4, g5⟩ := g
  refine ⟨⟨g1.trans h1, g2.trans h2⟩, Nat.le_trans h3 g3, fun k hk => (g4 k (by omega)).trans (h4 k hk), fun k ha hb => ?_⟩
  by_cases hc : k < fly N1
  · rw [g4 k hc]; exact h5 k ha hc
  · rw [← h1]; exact g5 k (by omega) hb
theorem Sm.rf (N : zR) : Sm N N := ⟨rfl, rfl, rfl, fun _ => Iff.rfl⟩
theorem Sm.tr {N N1 N2 : zR} (h : Sm N N1) (g : Sm N1 N2) : Sm N N2 := ⟨g.1.trans h.1, g.2.1.trans h.2.1, g.2.2.1.trans h.2.2.1, fun i => (g.2.2.2 i).trans (h.2.2.2 i)⟩
theorem Go0.rf {N : zR} (h : IV N) : Go0 N N := ⟨h, Kp.rf N, Sm.rf N⟩
theorem Go.rf {N : zR} (h : IV N) : Go N N := ⟨Go0.rf h, fun _ => Iff.rfl⟩
theorem Go0.tr {N N1 N2 : zR} (h : Go0 N N1) (g : Go0 N1 N2) : Go0 N N2 := ⟨g.1, h.2.1.tr g.2.1, h.2.2.tr g.2.2⟩
theorem Go.tr {N N1 N2 : zR} (h : Go N N1) (g : Go N1 N2) : Go N N2 := ⟨h.1.tr g.1, fun r => (g.2 r).trans (h.2 r)⟩
theorem Go.iv {N N' : zR} (h : Go N N') : IV N' := h.1.1
/-- the cells that IV, Kp, Sm look at are as they were, or as good -/
theorem go_gen {N N' : zR} (h : IV N) (e2 : N' 2 = N 2) (e11 : N' 11 = N 11) (e29 : N' 29 = N 29) (e31 : N' 31 = N 31) (e35 : N' 35 = N 35) (e36 : N' 36 = N 36) (e41 : N' 41 = N 41) (h28 : N' 43 28 = N 43 28) (h1 : N' 43 1 = N 43 1) (h42 : N' 43 42 = N 43 42) (h0 : N' 43 0 = N 43 0) (h37 : Byt (N' 37) 40) (h39 : Byt (N' 39) 40) (h12 : ∀ i, N' 12 i = 0 ↔ N 12 i = 0) : Go0 N N' := by
  obtain ⟨i1, i2, i3, i4, i5, i6, i7, i8⟩ := h
  refine ⟨⟨i1.of h28, fun r hr => by rw [e2]; exact i2 r hr, fun f hf => by rw [e31, e35]; exact i3 f hf, by rw [e36]; exact i4, h37, h39, by rw [e41]; exact i7, by rw [h42]; exact i8⟩, ⟨⟨h1, e2⟩, Nat.le_of_eq (fly_of h28).symm, fun k _ => by rw [e29], fun k ha hb => ?_⟩, h42, h0, e11, h12⟩
  rw [fly_of h28] at hb
  omega
def safe (a : Nat) : Bool := !([2, 3, 11, 12, 29, 31, 35, 36, 37, 39, 41, 43].contains a)
theorem go_u {N : zR} {a k : Nat} {v : Int32} (h : IV N) (ha : safe a = true) : Go N (u2 N a k v) := by
  have e : ∀ b, safe b = false → u2 N a k v b = N b := fun b hb => u2_ne (fun q => by subst q; rw [ha] at hb; cases hb)
  have e43 := e 43 rfl
  exact ⟨go_gen h (e 2 rfl) (e 11 rfl) (e 29 rfl) (e 31 rfl) (e 35 rfl) (e 36 rfl) (e 41 rfl) (by rw [e43]) (by rw [e43]) (by rw [e43]) (by rw [e43]) (by rw [e 37 rfl]; exact h.2.2.2.2.1) (by rw [e 39 rfl]; exact h.2.2.2.2.2.1) (fun i => by rw [e 12 rfl]), fun r => by rw [e 3 rfl]⟩
theorem upd_ne0 {q : Nat → Int32} {k : Nat} {v : Int32} (hv : ¬ v = 0) (hq : ¬ q k = 0) : ∀ i, upd q k v i = 0 ↔ q i = 0 := fun i => by
  by_cases e : i = k
  · subst e; rw [pk_us]; exact ⟨fun z => absurd z hv, fun z => absurd z hq⟩
  · rw [pk_un e]
/-- a role is set: all else stands -/
theorem go_r0 {N : zR} {r : Nat} {v : Int32} (h : IV N) : Go0 N (u2 N 3 r v) := by
  have e : ∀ b, ¬ b = 3 → u2 N 3 r v b = N b := fun b hb => u2_ne hb
  exact go_gen h (e 2 (by decide)) (e 11 (by decide)) (e 29 (by decide)) (e 31 (by decide)) (e 35 (by decide)) (e 36 (by decide)) (e 41 (by decide)) (by rw [e 43 (by decide)]) (by rw [e 43 (by decide)]) (by rw [e 43 (by decide)]) (by rw [e 43 (by decide)]) (by rw [e 37 (by decide)]; exact h.2.2.2.2.1) (by rw [e 39 (by decide)]; exact h.2.2.2.2.2.1) (fun i => by rw [e 12 (by decide)])
theorem go_r {N : zR} {r : Nat} {v : Int32} (h : IV N) (hv : ¬ v = 0) (hr : ¬ N 3 r = 0) : Go N (u2 N 3 r v) := ⟨go_r0 h, by rw [u2_self]; exact upd_ne0 hv hr⟩
theorem go_s {N : zR} {i : Nat} {v : Int32} (h : IV N) (hv : ¬ v = 0) (hr : ¬ N 12 i = 0) : Go N (u2 N 12 i v) := by
  have e : ∀ b, ¬ b = 12 → u2 N 12 i v b = N b := fun b hb => u2_ne hb
  exact ⟨go_gen h (e 2 (by decide)) (e 11 (by decide)) (e 29 (by decide)) (e 31 (by decide)) (e 35 (by decide)) (e 36 (by decide)) (e 41 (by decide)) (by rw [e 43 (by decide)]) (by rw [e 43 (by decide)]) (by rw [e 43 (by decide)]) (by rw [e 43 (by decide)]) (by rw [e 37 (by decide)]; exact h.2.2.2.2.1) (by rw [e 39 (by decide)]; exact h.2.2.2.2.2.1) (by rw [u2_self]; exact upd_ne0 hv hr), fun r => by rw [e 3 (by decide)]⟩
theorem go_f {N : zR} {f : Nat} {v : Int32} (h : IV N) (h0 : f ≠ 0) (h1 : f ≠ 1) (h28 : f ≠ 28) (h42 : f ≠ 42) : Go N (u2 N 43 f v) := by
  have e : ∀ b, ¬ b = 43 → u2 N 43 f v b = N b := fun b hb => u2_ne hb
  have g : ∀ j, j ≠ f → u2 N 43 f v 43 j = N 43 j := fun j hj => by rw [u2_self, pk_un hj]
  exact ⟨go_gen h (e 2 (by decide)) (e 11 (by decide)) (e 29 (by decide)) (e 31 (by decide)) (e 35 (by decide)) (e 36 (by decide)) (e 41 (by decide)) (g _ h28.symm) (g _ h1.symm) (g _ h42.symm) (g _ h0.symm) (by rw [e 37 (by decide)]; exact h.2.2.2.2.1) (by rw [e 39 (by decide)]; exact h.2.2.2.2.2.1) (fun i => by rw [e 12 (by decide)]), fun r => by rw [e 3 (by decide)]⟩
theorem go_37 {N : zR} {k : Nat} {v : Int32} (h : IV N) (hv : isB v) : Go N (u2 N 37 k v) := by
  have e : ∀ b, ¬ b = 37 → u2 N 37 k v b = N b := fun b hb => u2_ne hb
  exact ⟨go_gen h (e 2 (by decide)) (e 11 (by decide)) (e 29 (by decide)) (e 31 (by decide)) (e 35 (by decide)) (e 36 (by decide)) (e 41 (by decide)) (by rw [e 43 (by decide)]) (by rw [e 43 (by decide)]) (by rw [e 43 (by decide)]) (by rw [e 43 (by decide)]) (by rw [u2_self]; exact h.2.2.2.2.1.up hv) (by rw [e 39 (by decide)]; exact h.2.2.2.2.2.1) (fun i => by rw [e 12 (by decide)]), fun r => by rw [e 3 (by decide)]⟩
theorem go_39 {N : zR} {k : Nat} {v : Int32} (h : IV N) (hv : isB v) : Go N (u2 N 39 k v) := by
  have e : ∀ b, ¬ b = 39 → u2 N 39 k v b = N b := fun b hb => u2_ne hb
  exact ⟨go_gen h (e 2 (by decide)) (e 11 (by decide)) (e 29 (by decide)) (e 31 (by decide)) (e 35 (by decide)) (e 36 (by decide)) (e 41 (by decide)) (by rw [e 43 (by decide)]) (by rw [e 43 (by decide)]) (by rw [e 43 (by decide)]) (by rw [e 43 (by decide)]) (by rw [e 37 (by decide)]; exact h.2.2.2.2.1) (by rw [u2_self]; exact h.2.2.2.2.2.1.up hv) (fun i => by rw [e 12 (by decide)]), fun r => by rw [e 3 (by decide)]⟩
theorem go_put {N : zR} {b : Int32} (h : IV N) : Go N (mPut N b) := by
  have h1 := go_37 (k := (N 43 38).toNatClampNeg) h (byt_and b)
  exact h1.tr (go_f h1.iv (by decide) (by decide) (by decide) (by decide))
theorem go_many {v : Int32} : ∀ (k : Nat) {N : zR}, IV N → Go N (mpL v k N) := by
  intro k
  induction k with
  | zero => intro N h; exact Go.rf h
  | succ k ih =>
    intro N h
    have h1 := go_put (b := ush v (8 * nI k)) h
    exact h1.tr (ih h1.iv)
/-- a frame is sent: nothing, or one more at the end, not due now -/
theorem ms3_o {N : zR} {r s g f a : Nat} {what wh : Int32} (h : a ∉ [29, 30, 31, 32, 33, 34, 35, 43]) : ms3 N r what s g f wh a = N a := by
  simp only [List.mem_cons, List.not_mem_nil, or_false, not_or] at h
  unfold ms3
  rw [u2_ne h.2.2.2.2.2.2.1, u2_ne h.2.2.2.2.2.1, u2_ne h.2.2.2.2.1, u2_ne h.2.2.2.1, u2_ne h.2.2.1, u2_ne h.2.1, u2_ne h.1, u2_ne h.2.2.2.2.2.2.2]
theorem mcL_36 {f : Nat} : ∀ (n k : Nat) (N : zR), k + n ≤ 40 → Byt (N 37) 40 → Byt (N 36) 2400 → Byt (mcL f n k N 36) 2400 := by
  intro n
  induction n with
  | zero => intro k N _ _ h; exact h
  | succ n ih =>
    intro k N hk h37 h36
    show Byt (mcL f n (k + 1) (u2 N 36 (40 * f + k) (N 37 k)) 36) 2400
    refine ih (k + 1) _ (by omega) (by rw [u2_ne (by decide)]; exact h37) ?_
    rw [u2_self]
    exact h36.up (h37.at (by omega))
theorem i_addne {a d : Int32} (h : ¬ d = 0) : ¬ a + d = a := fun q => h (by
  have e : a + d - a = a - a := by rw [q]
  rw [Int32.sub_self, Int32.add_comm, Int32.add_sub_cancel] at e
  exact e)
theorem go_send {N : zR} {r s g z : Nat} {what : Int32} (h : IV N) (hr : r < 5) (hs : s < 15) (hz : N 43 38 = nI z) (hz40 : z ≤ 40) : Go N (mSend N r what s g (fly N) z) := by
  have h1 : Go N (ms1 N r) := go_u h rfl
  have h2 : Go N (ms2 N r s) := h1.tr (go_u h1.iv rfl)
  unfold mSend
  split
  · exact h1
  split
  · exact h2
  split
  · exact h2
  rename_i hne
  have f28 : ms2 N r s 43 = N 43 := rfl
  have ff : fly (ms2 N r s) = fly N := fly_of (by rw [f28])
  refine h2.tr ?_
  generalize hw : mWhere (ms2 N r s) r g = wh
  have hI2 := h2.iv
  generalize ms2 N r s = M at *
  obtain ⟨i1, i2, i3, i4, i5, i6, i7, i8⟩ := hI2
  have hc : fly M < 60 := by have := i1.2; omega
  rw [← ff]
  have hz' : M 43 38 = nI z := by rw [f28]; exact hz
  have o : ∀ a, a ∉ [29, 30, 31, 32, 33, 34, 35, 36, 43] → mcL (fly M) z 0 (ms3 M r what s g (fly M) wh) a = M a := fun a ha => by
    simp only [List.mem_cons, List.not_mem_nil, or_false, not_or] at ha
    rw [mcL_o _ _ _ _ ha.2.2.2.2.2.2.2.1, ms3_o (by simp only [List.mem_cons, List.not_mem_nil, or_false, not_or]; exact ⟨ha.1, ha.2.1, ha.2.2.1, ha.2.2.2.1, ha.2.2.2.2.1, ha.2.2.2.2.2.1, ha.2.2.2.2.2.2.1, ha.2.2.2.2.2.2.2.2⟩)]
  have e43 : ∀ f, f ≠ 28 → mcL (fly M) z 0 (ms3 M r what s g (fly M) wh) 43 f = M 43 f := fun f hf => by
    rw [mcL_o _ _ _ _ (by decide)]
    unfold ms3
    rw [u2_ne (by decide), u2_ne (by decide), u2_ne (by decide), u2_ne (by decide), u2_ne (by decide), u2_ne (by decide), u2_ne (by decide), u2_self, pk_un hf]
  have e28 : mcL (fly M) z 0 (ms3 M r what s g (fly M) wh) 43 28 = nI (fly M + 1) := by
    rw [mcL_o _ _ _ _ (by decide)]
    unfold ms3
    rw [u2_ne (by decide), u2_ne (by decide), u2_ne (by decide), u2_ne (by decide), u2_ne (by decide), u2_ne (by decide), u2_ne (by decide), u2_self, pk_us, i1.1, nI_1]
  have ef : fly (mcL (fly M) z 0 (ms3 M r what s g (fly M) wh)) = fly M + 1 := (congrArg Int32.toNatClampNeg e28).trans (nI_clamp (by omega))
  have e29 : mcL (fly M) z 0 (ms3 M r what s g (fly M) wh) 29 = upd (M 29) (fly M) (M 43 1 + M 2 (10 * r + 6)) := by
    rw [mcL_o _ _ _ _ (by decide)]
    unfold ms3
    rw [u2_ne (by decide), u2_ne (by decide), u2_ne (by decide), u2_ne (by decide), u2_ne (by decide), u2_ne (by decide), u2_self, u2_ne (by decide), u2_self, pk_un (by decide), u2_ne (by decide)]
  have e31 : mcL (fly M) z 0 (ms3 M r what s g (fly M) wh) 31 = upd (M 31) (fly M) (nI s) := by
    rw [mcL_o _ _ _ _ (by decide)]
    unfold ms3
    rw [u2_ne (by decide), u2_ne (by decide), u2_ne (by decide), u2_ne (by decide), u2_self, u2_ne (by decide), u2_ne (by decide), u2_ne (by decide)]
  have e35 : mcL (fly M) z 0 (ms3 M r what s g (fly M) wh) 35 = upd (M 35) (fly M) (nI z) := by
    rw [mcL_o _ _ _ _ (by decide)]
    unfold ms3
    rw [u2_self, u2_ne (by decide), u2_ne (by decide), u2_ne (by decide), u2_ne (by decide), u2_ne (by decide), u2_ne (by decide), u2_ne (by decide), hz']
  have e36 : Byt (mcL (fly M) z 0 (ms3 M r what s g (fly M) wh) 36) 2400 := mcL_36 z 0 _ (by omega) (by rw [ms3_o (by decide)]; exact i5) (by rw [ms3_o (by decide)]; exact i4)
  generalize mcL (fly M) z 0 (ms3 M r what s g (fly M) wh) = R at *
  refine ⟨⟨⟨⟨by rw [ef]; exact e28, by omega⟩, fun q hq => by rw [o 2 (by decide)]; exact i2 q hq, fun f hf => ?_, e36, by rw [o 37 (by decide)]; exact i5, by rw [o 39 (by decide)]; exact i6, by rw [o 41 (by decide)]; exact i7, by rw [e43 42 (by decide)]; exact i8⟩, ⟨⟨e43 1 (by decide), o 2 (by decide)⟩, by omega, fun k hk => ?_, fun k ha hb => ?_⟩, e43 42 (by decide), e43 0 (by decide), o 11 (by decide), fun i => by rw [o 12 (by decide)]⟩, fun q => by rw [o 3 (by decide)]⟩
  · rw [e31, e35]
    by_cases e : f = fly M
    · subst e; rw [pk_us, pk_us]; exact ⟨⟨s, hs, rfl⟩, z, hz40, rfl⟩
    · rw [pk_un e, pk_un e]; exact i3 f hf
  · rw [e29, pk_un (by omega)]
  · rw [e29, show k = fly M by omega, pk_us]
    exact i_addne (i2 r hr)
