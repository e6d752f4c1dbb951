section RZ
variable {X : zX} {G : zG} {A : Nat → Prop} {nL : Nat} {Q : State → Prop} {K K' : zK} {pc : Nat} {lv : List (Nat × Value)} {st rest As : List Value} {cc bytes : ByteArray} {own : String} {fr lo fr' lo' : Nat} {U : zU} {N : zR} {index n maxL : Nat} {y : MethodName} {v : Value} {ret : Option FieldType} {x z : Int32}
theorem Z_zald (C : zC X G A cc nL own fr lo) {a t0 n : Nat} {cA : ClassId} {g : Nat → Int32} {i : Int32} (ha : a ∈ G.2.2.2) (hm : ∀ f, K f → f a = .inl (cA, n, .inl g)) (ht : G.2.2.1[t0]? = some (cA, .boolean)) (hin : vp_in i n) (hd : decode cc pc = .ok (.baload, 1)) (kk : Z X G A nL Q K (pc + 1) lv (.int (g i.toNatClampNeg) :: st)) : Z X G A nL Q K pc lv (.int i :: .ref a :: st) := fun f H locs ls hf hP hS hl => by
  obtain ⟨q0, hq⟩ := va_pl_get (X := []) (f := f) ha
  rw [hm f hf] at hq
  exact va_zald C.1.1 C.1.2.1 C.2.1 hP q0 t0 hq ht hin hd (kk f H locs ls hf hP hS hl)
theorem Z_zast (C : zC X G A cc nL own fr lo) {a t0 n : Nat} {cA : ClassId} {g : Nat → Int32} {i x : Int32} (ha : a ∈ G.2.2.2) (hm : ∀ f, K f → f a = .inl (cA, n, .inl g)) (ht : G.2.2.1[t0]? = some (cA, .boolean)) (hin : vp_in i n) (hK : ∀ f, K f → K' (va_up f a (.inl (cA, n, .inl (upd g i.toNatClampNeg (vp_nar .boolean x)))))) (hd : decode cc pc = .ok (.bastore, 1)) (kk : Z X G A nL Q K' (pc + 1) lv st) : Z X G A nL Q K pc lv (.int x :: .int i :: .ref a :: st) := fun f H locs ls hf hP hS hl => by
  obtain ⟨q0, hq⟩ := va_pl_get (X := []) (f := f) ha
  have hD : va_D A (va_pl G.2.2.2 f) := zD C.2.2.1 C.2.2.2.1
  have hq0 := hq
  rw [hm f hf] at hq
  refine va_zast C.1.1 C.1.2.1 C.2.1 hP hD hS q0 t0 hq ht hin hd (fun H1 locs1 hP1 hD1 hS1 => ?_)
  have e := va_pl_set (X := []) (e := .inl (cA, n, .inl (upd g i.toNatClampNeg (vp_nar .boolean x)))) hD ha hq0
  simp only [List.nil_append] at e
  rw [e] at hP1
  exact kk _ H1 locs1 ls (hK f hf) hP1 hS1 hl
theorem R_zld (a : Nat) (C : zC X G A cc nL own fr lo) (w : wR G U) (ha : arrM a = true) (h43 : (decide (a = 43) || decide (¬ (a = 11 ∨ a = 24))) = false) (n : Nat) (hn : x.toNatClampNeg = n) (hin : vp_in x (lenM a)) (hd : decode cc pc = .ok (.baload, 1)) (kk : Z X G A nL Q (eR U N) (pc + 1) lv (.int (N a n) :: st)) : Z X G A nL Q (eR U N) pc lv (.int x :: .ref (U.1 a) :: st) := by
  subst hn
  simp only [Bool.or_eq_false_iff, decide_eq_false_iff_not, Classical.not_not] at h43
  exact Z_zald (t0 := 1) (cA := U.2.2) (n := lenM a) C (w.2.2.1 a (Or.inr ha)) (fun f hf => by rw [hf a (Or.inr ha)]; unfold ceM clM; rw [if_neg h43.1, if_pos h43.2]) (by rw [w.2.1]; rfl) hin hd kk
theorem R_zst (a : Nat) (C : zC X G A cc nL own fr lo) (w : wR G U) (ha : arrM a = true) (h43 : (decide (a = 43) || decide (¬ (a = 11 ∨ a = 24))) = false) (n : Nat) (hn : x.toNatClampNeg = n) (hin : vp_in x (lenM a)) (hz : vp_nar .boolean z = z) (hd : decode cc pc = .ok (.bastore, 1)) (kk : Z X G A nL Q (eR U (u2 N a n z)) (pc + 1) lv st) : Z X G A nL Q (eR U N) pc lv (.int z :: .int x :: .ref (U.1 a) :: st) := by
  subst hn
  simp only [Bool.or_eq_false_iff, decide_eq_false_iff_not, Classical.not_not] at h43
  exact Z_zast (t0 := 1) (cA := U.2.2) (n := lenM a) C (w.2.2.1 a (Or.inr ha)) (fun f hf => by rw [hf a (Or.inr ha)]; unfold ceM clM; rw [if_neg h43.1, if_pos h43.2]) (by rw [w.2.1]; rfl) hin (eR_up w (Or.inr ha) (by unfold ceM clM; rw [if_neg h43.1, if_pos h43.2, hz])) hd kk
theorem C_cMv (C : zC X G A cc nL own fr lo) (w : wR G U) (mi : zMi y bytes maxL ret n) (hlk : Cond.methodLink own index y ∈ zT) (hM : zF X.l y bytes maxL ret fr' lo' G (.ref (U.1 43) :: As) (eR U N) (some v) K') (hst : st = As.reverse ++ .ref (U.1 43) :: rest) (hy : y.cls = RX5) (hle : fr' + 1 ≤ fr ∧ 19 + maxL + lo' ≤ lo) (hn : As.length = n) (hrm : (rest.map fun v => v.category).sum ≤ 8) (hd : decode cc pc = .ok (.invokevirtual index, 3)) (k : Z X G A nL Q K' (pc + 3) lv (v :: rest)) : Z X G A nL Q (eR U N) pc lv st :=
  Z_callV C mi hlk hM hle (w.2.2.1 43 (Or.inl rfl)) (fun f hf => hf 43 (Or.inl rfl)) (by rw [w.1, hy]; rfl) hn hst hrm hd k
theorem C_cMn (C : zC X G A cc nL own fr lo) (w : wR G U) (mi : zMi y bytes maxL ret n) (hlk : Cond.methodLink own index y ∈ zT) (hM : zF X.l y bytes maxL ret fr' lo' G (.ref (U.1 43) :: As) (eR U N) none K') (hst : st = As.reverse ++ .ref (U.1 43) :: rest) (hy : y.cls = RX5) (hle : fr' + 1 ≤ fr ∧ 19 + maxL + lo' ≤ lo) (hn : As.length = n) (hrm : (rest.map fun v => v.category).sum ≤ 8) (hd : decode cc pc = .ok (.invokevirtual index, 3)) (k : Z X G A nL Q K' (pc + 3) lv rest) : Z X G A nL Q (eR U N) pc lv st :=
  Z_callV C mi hlk hM hle (w.2.2.1 43 (Or.inl rfl)) (fun f hf => hf 43 (Or.inl rfl)) (by rw [w.1, hy]; rfl) hn hst hrm hd k
theorem eR_N {N' : zR} (h : N = N') : eR U N = eR U N' := by rw [h]
end RZ
