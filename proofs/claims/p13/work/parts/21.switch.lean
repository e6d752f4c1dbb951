/-- a tableswitch: a case each, and the rest -/
theorem Z_tsw {X : zX} {G : zG} {A : Nat → Prop} {nL : Nat} {Q : State → Prop} {K : zK} {pc : Nat} {lv : List (Nat × Value)} {st : List Value} {cc : ByteArray} {own : String} {fr lo : Nat} (C : zC X G A cc nL own fr lo) {dflt l h : Int} {offs : Array Int} {len : Nat} {x : Int32} (hd : decode cc pc = .ok (.tableswitch dflt l h offs, len)) (ks : List (Int32 × Nat)) (dt : Nat)
    (h1 : ks.all (fun p => decide (l ≤ p.1.toInt) && decide (p.1.toInt ≤ h) && decide (offs[(p.1.toInt - l).toNat]? = some ((p.2 : Int) - (pc : Int)))) = true) (h2 : (List.range (h + 1 - l).toNat).all (fun n => ks.any (fun p => decide (p.1.toInt = l + n))) = true) (h3 : (pc : Int) + dflt = (dt : Int))
    (kk : ∀ p ∈ ks, x = p.1 → Z X G A nL Q K p.2 lv st) (kd : (∀ p ∈ ks, ¬ x = p.1) → Z X G A nL Q K dt lv st) : Z X G A nL Q K pc lv (.int x :: st) := by
  have hk : ∀ p ∈ ks, l ≤ p.1.toInt ∧ p.1.toInt ≤ h ∧ offs[(p.1.toInt - l).toNat]? = some ((p.2 : Int) - (pc : Int)) := fun p hp => by
    have := List.all_eq_true.mp h1 p hp
    simp only [Bool.and_eq_true, decide_eq_true_eq] at this
    exact ⟨this.1.1, this.1.2, this.2⟩
  intro f H locs ls hf hP hS hl
  by_cases a1 : x.toInt < l ∨ h < x.toInt
  · exact lv_tableOut C.1.1 C.1.2.1 hd a1 h3 (kd (fun p hp e => by have := hk p hp; rw [e] at a1; omega) f H locs ls hf hP hS hl)
  · have b1 : ¬ x.toInt < l := fun q => a1 (Or.inl q)
    have b2 : ¬ h < x.toInt := fun q => a1 (Or.inr q)
    have h4 := List.all_eq_true.mp h2 (x.toInt - l).toNat (List.mem_range.mpr (by omega))
    obtain ⟨p, hp, he⟩ := List.any_eq_true.mp h4
    have he := of_decide_eq_true he
    have hx : x = p.1 := Int32.toInt_inj.mp (by rw [he]; omega)
    obtain ⟨-, -, q3⟩ := hk p hp
    exact lv_tableIn (tgt := p.2) C.1.1 C.1.2.1 hd b1 b2 (by rw [hx]; exact q3) (by omega) (kk p hp hx f H locs ls hf hP hS hl)
theorem vp_inc {x m : Int32} {n : Nat} (h0 : ¬ x < 0) (h1 : ¬ m ≤ x) (hm : m.toInt = n) : vp_in x n := by
  rw [vp_in_iff]
  rw [Int32.lt_iff_toInt_lt, Int32.toInt_zero] at h0
  rw [Int32.le_iff_toInt_le, hm] at h1
  omega
