/-! THE REFERENCE: each step keeps IV and leaves alone what Go says -/
section GO
variable {N : zR} {r s g i : Nat} {pr what bits said why by_ hops st goal now rxb : Int32}
theorem go_a1 (h : IV N) : Go N (mA1 N r) := by
  have h1 := go_f (f := 38) (v := 0) h (by decide) (by decide) (by decide) (by decide)
  have h2 := h1.tr (go_put (b := 49) h1.iv)
  exact h2.tr (go_put h2.iv)
theorem go_a2 (h : IV N) : Go N (mA2 N r pr) := by
  have h1 := go_a1 (r := r) h
  have h2 := h1.tr (go_put (b := pr) h1.iv)
  exact h2.tr (go_put h2.iv)
theorem go_a4 (h : IV N) : Go N (mA4 N r pr) := by
  have h1 := go_a2 (r := r) (pr := pr) h
  have h2 := h1.tr (go_many (v := mA2 N r pr 2 (10 * r + 1)) 2 h1.iv)
  have h3 : Go N (mA3 N r pr) := h2.tr (go_many (v := 0) 2 h2.iv)
  exact h3.tr (go_many (v := mA3 N r pr 2 (10 * r + 5)) 4 h3.iv)
theorem ck_b (h : Byt (mA4 N r pr 37) 12) : isB (mCk N r pr >>> ((8 : Int32) &&& 31)) := by
  obtain ⟨w, hw, e⟩ := mSum_le (x := mA4 N r pr 2 (10 * r + 4)) h
  have e2 : mCk N r pr = nI (65535 - w) := by
    unfold mCk
    rw [e]
    exact pk_sub hw
  rw [e2, pk_shrN (by omega) ((8 : Int32) &&& 31) 8 (by decide)]
  exact isB_nI (by omega)
theorem go_a5 (h : IV N) : Go N (mA5 N r pr) := by
  have h1 := go_a4 (r := r) (pr := pr) h
  have h2 := h1.tr (go_37 (k := 6) h1.iv (ck_b (mA4_pb N r pr).2))
  exact h2.tr (go_37 h2.iv (byt_and _))
theorem go_adv (h : IV N) (hr : r < 5) : Go N (mAdv N r pr) := by
  have h1 := go_a5 (r := r) (pr := pr) h
  have h2 := go_send (r := r) (s := 9) (g := 15) (z := 12) (what := 1) h1.iv hr (by decide) (mA5_38 N r pr) (by decide)
  rw [fly_of (mA5_28 N r pr)] at h2
  exact h1.tr h2
theorem go_emp (h : IV N) (hr : r < 5) (hs : s < 15) : Go N (mEmp N r what s g) := by
  have h1 := go_f (f := 38) (v := 0) h (by decide) (by decide) (by decide) (by decide)
  have h2 := go_send (r := r) (s := s) (g := g) (z := 0) (what := what) h1.iv hr hs (by rw [u2_self, pk_us]; rfl) (by decide)
  rw [fly_of (u38_28 N)] at h2
  exact h1.tr h2
theorem go_b4 (h : IV N) : Go N (mB4 N i bits) := by
  have h1 := go_f (f := 38) (v := 0) h (by decide) (by decide) (by decide) (by decide)
  have h2 := h1.tr (go_put (b := 32 + u2 N 43 38 0 15 i) h1.iv)
  have h3 : Go N (mB2 N i bits) := h2.tr (go_put h2.iv)
  have h4 := h3.tr (go_put (b := mB2 N i bits 20 i) h3.iv)
  exact h4.tr (go_put (b := 24) h4.iv)
theorem go_b9 (h : IV N) : Go N (mB9 N r s i bits) := by
  have h4 := go_b4 (i := i) (bits := bits) h
  have h5 : Go N (mB5 N r s i bits) := h4.tr (go_many 4 h4.iv)
  have h6 : Go N (mB6 N r s i bits) := h5.tr (go_many 4 h5.iv)
  have h7 : Go N (mB7 N r s i bits) := h6.tr (go_many 4 h6.iv)
  have h8 : Go N (mB8 N r s i bits) := h7.tr (go_many 4 h7.iv)
  exact h8.tr (go_many 4 h8.iv)
theorem go_pk (h : IV N) (hr : r < 5) : Go N (mPk N r s bits) := by
  have h1 := go_b9 (r := r) (s := s) (i := 5 * r + s) (bits := bits) h
  have h2 := go_send (r := r) (s := r) (g := s) (z := 24) (what := 2) h1.iv hr (by omega) (mB9_pb N r s (5 * r + s) bits).1 (by decide)
  rw [fly_of (mB9_28 N r s (5 * r + s) bits)] at h2
  exact h1.tr h2
theorem go_ac1 (h : IV N) (hr : r < 5) : Go N (mAc1 N r) := by
  have h1 := go_adv (r := r) (pr := mWeighed N r) h hr
  exact h1.tr (go_emp h1.iv hr (by decide))
theorem go_act0 (h : IV N) (hr : r < 5) : Go0 N (mAct N r) ∧ ∀ q, (mAct N r 3 q = 0 ↔ ¬ q = r ∧ N 3 q = 0) := by
  have h1 := go_ac1 (r := r) h hr
  have h2 := h1.tr (go_u (a := 4) (k := r) (v := mAc1 N r 2 (10 * r + 1)) h1.iv rfl)
  have h3 := h2.1.tr (go_r0 (r := r) (v := 2) h2.iv)
  have h4 := go_u (a := 6) (k := r) (v := u2 (u2 (mAc1 N r) 4 r (mAc1 N r 2 (10 * r + 1))) 3 r 2 6 r + 1) h3.1 rfl
  refine ⟨h3.tr h4.1, fun q => ?_⟩
  refine (h4.2 q).trans ?_
  rw [u2_self]
  by_cases e : q = r
  · subst e; rw [pk_us]; exact ⟨fun z => absurd z (by decide), fun z => absurd rfl z.1⟩
  · rw [pk_un e]; exact (h2.2 q).trans ⟨fun z => ⟨e, z⟩, fun z => z.2⟩
theorem go_act (h : IV N) (hr : r < 5) (h3 : ¬ N 3 r = 0) : Go N (mAct N r) := by
  obtain ⟨g0, g1⟩ := go_act0 h hr
  refine ⟨g0, fun q => (g1 q).trans ⟨fun z => z.2, fun z => ⟨fun e => h3 (e ▸ z), z⟩⟩⟩
theorem go_back0 (h : IV N) : Go0 N (mBack N r) ∧ ∀ q, (mBack N r 3 q = 0 ↔ ¬ q = r ∧ N 3 q = 0) := by
  have h1 := go_u (a := 4) (k := r) (v := mMax 1 (3 * N 5 r + mSkew N r)) h rfl
  refine ⟨h1.1.tr (go_r0 h1.iv), fun q => ?_⟩
  unfold mBack
  rw [u2_self]
  by_cases e : q = r
  · subst e; rw [pk_us]; exact ⟨fun z => absurd z (by decide), fun z => absurd rfl z.1⟩
  · rw [pk_un e]; exact (h1.2 q).trans ⟨fun z => ⟨e, z⟩, fun z => z.2⟩
theorem go_back (h : IV N) (h3 : ¬ N 3 r = 0) : Go N (mBack N r) := by
  obtain ⟨g0, g1⟩ := go_back0 (r := r) h
  refine ⟨g0, fun q => (g1 q).trans ⟨fun z => z.2, fun z => ⟨fun e => h3 (e ▸ z), z⟩⟩⟩
theorem go_tf (h : IV N) (hr : r < 5) (h3 : ¬ N 3 r = 0) : Go N (mTF N r) := by
  unfold mTF
  split
  · exact go_act h hr h3
  · have h1 := go_adv (r := r) (pr := mWeighed N r) h hr
    exact h1.tr (go_u h1.iv rfl)
theorem go_down (h : IV N) (hi : ¬ N 12 i = 0) : Go N (mDown N i why) := by
  have h1 := go_u (a := 15) (k := i) (v := why) h rfl
  exact h1.tr (go_s h1.iv (by decide) (by rw [u2_ne (by decide)]; exact hi))
theorem go_up (h : IV N) (hi : ¬ N 12 i = 0) : Go N (mUp N i) := by
  have h1 := go_s (i := i) (v := 3) h (by decide) hi
  exact h1.tr (go_u h1.iv rfl)
theorem go_turn (h : IV N) (hi : ¬ N 12 i = 0) : Go N (mTurn N i said) := by
  unfold mTurn
  split
  · split
    · exact Go.rf h
    · exact go_down h hi
  split
  · have h1 : Go N (if said = 1 then u2 N 12 i 2 else N) ∧ ¬ (if said = 1 then u2 N 12 i 2 else N) 12 i = 0 := by
      split
      · exact ⟨go_s h (by decide) hi, by rw [u2_self, pk_us]; decide⟩
      · exact ⟨Go.rf h, hi⟩
    split
    · exact h1.1.tr (go_up h1.1.iv h1.2)
    · exact h1.1
  split
  · split
    · exact Go.rf h
    · exact go_up h hi
  split
  · exact go_down h hi
  · exact Go.rf h
theorem go_set (h : IV N) : Go N (mSet N i) := go_u h rfl
theorem go_hurry (h : IV N) : Go N (mHurry N i) := by
  unfold mHurry
  split
  · exact go_set h
  split
  · exact go_set h
  split
  · exact go_set h
  · exact Go.rf h
theorem i_ne0 {x : Int32} (h : ¬ x < 2) : ¬ x = 0 := fun e => h (by rw [e]; decide)
theorem go_fires (h : IV N) : Go N (mFires N i) := by
  have h1 := go_u (a := 14) (k := i) (v := 0) h rfl
  unfold mFires
  split
  · exact h1
  · rename_i h2
    exact h1.tr (go_down h1.iv (i_ne0 h2))
theorem go_adK (h : IV N) : Go N (mAdK N r) := by
  have h1 := go_u (a := 5) (k := r) (v := mAdI N) h rfl
  exact h1.tr (go_u h1.iv rfl)
theorem go_adS (h : IV N) (hr : r < 5) (h3 : ¬ N 3 r = 0) : Go N (mAdS N r hops by_) := by
  have h1 : Go N (mAd1 N r) := go_u h rfl
  have h3' : ¬ mAd1 N r 3 r = 0 := h3
  unfold mAdS
  split
  · exact Go.rf h
  refine h1.tr ?_
  have hI := h1.iv
  generalize mAd1 N r = M at *
  unfold mAdT
  split
  · unfold mAdB
    split
    · exact go_u hI rfl
    split
    · exact go_adK hI
    split
    · exact Go.rf hI
    · exact go_adK hI
  · unfold mAdA
    split
    · have h4 := go_adv (r := r) (pr := mWeighed M r) hI hr
      exact h4.tr (go_u h4.iv rfl)
    split
    · exact go_adv hI hr
    · have h4 := go_u (a := 5) (k := r) (v := mAdI M) hI rfl
      exact h4.tr (go_back h4.iv (by rw [u2_ne (by decide)]; exact h3'))
theorem go_k5 (h : IV N) : Go N (mK5 N i) := by
  have h1 : Go N (mK1 N i) := go_u h rfl
  have h2 := h1.tr (go_u (a := 13) (k := i) (v := mSaid N) h1.iv rfl)
  have h3 : Go N (mK3 N i) := h2.tr (go_u h2.iv rfl)
  have h4 : Go N (mK4 N i) := h3.tr (go_u h3.iv rfl)
  exact h4.tr (go_u h4.iv rfl)
theorem go_k6 (h : IV N) : Go N (mK6 N i) := by
  unfold mK6
  split
  · exact Go.rf h
  split
  · exact Go.rf h
  have h1 := go_u (a := 24) (k := i) (v := 0) h rfl
  have h2 := h1.tr (go_u (a := 18) (k := i) (v := u2 N 24 i 0 16 i) h1.iv rfl)
  exact h2.tr (go_u h2.iv rfl)
theorem mK6_12 (N : zR) (i : Nat) : mK6 N i 12 = N 12 := by
  unfold mK6
  split
  · rfl
  split <;> rfl
theorem go_pkT (h : IV N) (hr : r < 5) : Go N (mPkT N r s) := by
  unfold mPkT
  have h5 := go_k5 (i := 5 * r + s) h
  have h6 := h5.tr (go_k6 (i := 5 * r + s) h5.iv)
  have h7 : Go N (mK7 (mK6 (mK5 N (5 * r + s)) (5 * r + s)) (5 * r + s)) := h6.tr (go_u h6.iv rfl)
  have e12 : mK7 (mK6 (mK5 N (5 * r + s)) (5 * r + s)) (5 * r + s) 12 = N 12 := by
    show mK6 (mK5 N (5 * r + s)) (5 * r + s) 12 = N 12
    rw [mK6_12]
    rfl
  have h8 : Go N (mK8 (mK7 (mK6 (mK5 N (5 * r + s)) (5 * r + s)) (5 * r + s)) (5 * r + s) (N 12 (5 * r + s)) (mSaid N)) := by
    unfold mK8
    split
    · exact h7
    · rename_i hne
      exact h7.tr (go_turn h7.iv (by rw [e12]; exact hne))
  generalize mK8 (mK7 (mK6 (mK5 N (5 * r + s)) (5 * r + s)) (5 * r + s)) (5 * r + s) (N 12 (5 * r + s)) (mSaid N) = M at *
  have h9 : Go N (mK9 M r s) := by
    unfold mK9
    split
    · exact h8
    · exact h8.tr (go_pk h8.iv hr)
  unfold mK10
  split
  · exact h9.tr (go_hurry h9.iv)
  split
  · exact h9
  · exact h9.tr (go_hurry h9.iv)
theorem go_pkS (h : IV N) (hr : r < 5) : Go N (mPkS N r hops st) := by
  unfold mPkS
  split
  · exact Go.rf h
  · exact go_pkT h hr
theorem mReG_ne (hg : ¬ mReG N r goal = 0) : ¬ N 3 r = 0 := fun z => hg (by unfold mReG; rw [if_pos z])
theorem go_re {a : Nat} (h : IV N) (hr : r < 5) (ha : a < 15) : Go N (mRe N r what a goal by_) := by
  unfold mRe
  split
  · exact Go.rf h
  rename_i hg
  have h3 := mReG_ne hg
  split
  · exact go_adS h hr h3
  split
  · exact go_pkS h hr
  split
  · split
    · exact Go.rf h
    split
    · exact go_emp h hr (by decide)
    · exact Go.rf h
  split
  · exact go_u h rfl
  · exact Go.rf h
end GO
