/-! a fresh object: its addresses, its state -/
def vad (x κ i j : Nat) : Nat := match κ with
  | 0 => x
  | 1 => x + 128
  | 2 => x + 129 + 8 * i
  | 3 => x + 130 + 8 * i
  | 4 => x + 131 + 8 * i
  | 5 => x + 132 + 8 * i + j
  | 6 => x + 1
  | 7 => x + 2
  | 8 => x + 3
  | 9 => if i < 62 then x + 4 + 2 * i else x + 169
  | _ => if i < 62 then x + 5 + 2 * i else x + 170
abbrev V0 (x : Nat) (cs : zCs) : zV := (vad x, cs.1, cs.2.1, cs.2.2.1, cs.2.2.2)
def M0 : zM := fun κ i _ => match κ with
  | 3 => sef i
  | 7 => plf 16
  | _ => z0
def inv0 (d : Nat) : Nat × Nat × Nat := if d = 0 then (0, 0, 0) else if d = 1 then (6, 0, 0) else if d = 2 then (7, 0, 0) else if d = 3 then (8, 0, 0) else if d < 128 then (if d % 2 = 0 then (9, (d - 4) / 2, 0) else (10, (d - 5) / 2, 0)) else if d = 128 then (1, 0, 0) else if d < 169 then (if (d - 129) % 8 = 0 then (2, (d - 129) / 8, 0) else if (d - 129) % 8 = 1 then (3, (d - 129) / 8, 0) else if (d - 129) % 8 = 2 then (4, (d - 129) / 8, 0) else (5, (d - 129) / 8, (d - 129) % 8 - 3)) else if d = 169 then (9, 62, 0) else (10, 62, 0)
theorem inv0_vad (x κ i j : Nat) (hv : vd κ i j) : inv0 (vad x κ i j - x) = (κ, i, j) := by
  match κ, hv with
  | 0, hv => obtain ⟨rfl, rfl⟩ := hv; show inv0 (x - x) = _; rw [Nat.sub_self]; rfl
  | 1, hv => obtain ⟨rfl, rfl⟩ := hv; show inv0 (x + 128 - x) = _; rw [show x + 128 - x = 128 by omega]; rfl
  | 2, hv =>
    obtain ⟨hi, rfl⟩ := hv
    show inv0 (x + 129 + 8 * i - x) = _
    unfold inv0
    rw [if_neg (by omega), if_neg (by omega), if_neg (by omega), if_neg (by omega), if_neg (by omega), if_neg (by omega), if_pos (by omega), if_pos (by omega), show (x + 129 + 8 * i - x - 129) / 8 = i by omega]
  | 3, hv =>
    obtain ⟨hi, rfl⟩ := hv
    show inv0 (x + 130 + 8 * i - x) = _
    unfold inv0
    rw [if_neg (by omega), if_neg (by omega), if_neg (by omega), if_neg (by omega), if_neg (by omega), if_neg (by omega), if_pos (by omega), if_neg (by omega), if_pos (by omega), show (x + 130 + 8 * i - x - 129) / 8 = i by omega]
  | 4, hv =>
    obtain ⟨hi, rfl⟩ := hv
    show inv0 (x + 131 + 8 * i - x) = _
    unfold inv0
    rw [if_neg (by omega), if_neg (by omega), if_neg (by omega), if_neg (by omega), if_neg (by omega), if_neg (by omega), if_pos (by omega), if_neg (by omega), if_neg (by omega), if_pos (by omega), show (x + 131 + 8 * i - x - 129) / 8 = i by omega]
  | 5, hv =>
    obtain ⟨hi, hj⟩ := hv
    show inv0 (x + 132 + 8 * i + j - x) = _
    unfold inv0
    rw [if_neg (by omega), if_neg (by omega), if_neg (by omega), if_neg (by omega), if_neg (by omega), if_neg (by omega), if_pos (by omega), if_neg (by omega), if_neg (by omega), if_neg (by omega), show (x + 132 + 8 * i + j - x - 129) / 8 = i by omega, show (x + 132 + 8 * i + j - x - 129) % 8 - 3 = j by omega]
  | 6, hv => obtain ⟨rfl, rfl⟩ := hv; show inv0 (x + 1 - x) = _; rw [show x + 1 - x = 1 by omega]; rfl
  | 7, hv => obtain ⟨rfl, rfl⟩ := hv; show inv0 (x + 2 - x) = _; rw [show x + 2 - x = 2 by omega]; rfl
  | 8, hv => obtain ⟨rfl, rfl⟩ := hv; show inv0 (x + 3 - x) = _; rw [show x + 3 - x = 3 by omega]; rfl
  | 9, hv =>
    obtain ⟨hi, rfl⟩ := hv
    show inv0 ((if i < 62 then x + 4 + 2 * i else x + 169) - x) = _
    by_cases h : i < 62
    · rw [if_pos h]
      unfold inv0
      rw [if_neg (by omega), if_neg (by omega), if_neg (by omega), if_neg (by omega), if_pos (by omega), if_pos (by omega), show (x + 4 + 2 * i - x - 4) / 2 = i by omega]
    · rw [if_neg h, show x + 169 - x = 169 by omega]
      obtain rfl : i = 62 := by omega
      rfl
  | 10, hv =>
    obtain ⟨hi, rfl⟩ := hv
    show inv0 ((if i < 62 then x + 5 + 2 * i else x + 170) - x) = _
    by_cases h : i < 62
    · rw [if_pos h]
      unfold inv0
      rw [if_neg (by omega), if_neg (by omega), if_neg (by omega), if_neg (by omega), if_pos (by omega), if_neg (by omega), show (x + 5 + 2 * i - x - 5) / 2 = i by omega]
    · rw [if_neg h, show x + 170 - x = 170 by omega]
      obtain rfl : i = 62 := by omega
      rfl
  | κ + 11, hv => exact hv.elim
theorem vad_in (x κ i j : Nat) (hv : vd κ i j) : x ≤ vad x κ i j ∧ vad x κ i j < x + 171 := by
  match κ, hv with
  | 0, hv => exact ⟨Nat.le_refl x, by show x < x + 171; omega⟩
  | 1, hv => show x ≤ x + 128 ∧ x + 128 < x + 171; omega
  | 2, hv => obtain ⟨hi, -⟩ := hv; show x ≤ x + 129 + 8 * i ∧ x + 129 + 8 * i < x + 171; omega
  | 3, hv => obtain ⟨hi, -⟩ := hv; show x ≤ x + 130 + 8 * i ∧ x + 130 + 8 * i < x + 171; omega
  | 4, hv => obtain ⟨hi, -⟩ := hv; show x ≤ x + 131 + 8 * i ∧ x + 131 + 8 * i < x + 171; omega
  | 5, hv => obtain ⟨hi, hj⟩ := hv; show x ≤ x + 132 + 8 * i + j ∧ x + 132 + 8 * i + j < x + 171; omega
  | 6, hv => show x ≤ x + 1 ∧ x + 1 < x + 171; omega
  | 7, hv => show x ≤ x + 2 ∧ x + 2 < x + 171; omega
  | 8, hv => show x ≤ x + 3 ∧ x + 3 < x + 171; omega
  | 9, hv => obtain ⟨hi, -⟩ := hv; show x ≤ (if i < 62 then x + 4 + 2 * i else x + 169) ∧ (if i < 62 then x + 4 + 2 * i else x + 169) < x + 171; split <;> omega
  | 10, hv => obtain ⟨hi, -⟩ := hv; show x ≤ (if i < 62 then x + 5 + 2 * i else x + 170) ∧ (if i < 62 then x + 5 + 2 * i else x + 170) < x + 171; split <;> omega
  | κ + 11, hv => exact hv.elim
theorem pool_x {x a : Nat} (h : x ≤ a ∧ a < x + 171) : a ∈ [x] ++ List.range' (x + 1) 170 := by
  by_cases e : a = x
  · subst e; exact List.mem_append_left _ List.mem_cons_self
  · exact List.mem_append_right _ (List.mem_range'_1.mpr ⟨by omega, by omega⟩)
theorem pool_nd (x n : Nat) : ([x] ++ List.range' (x + 1) n).Nodup := ext_nodup (by simp) (fun q hq => by simp at hq; omega) n
theorem wC0 {D : va_G} (x : Nat) (cs : zCs) : wC (D, zcl, [(cs.1, .int), (cs.2.1, .object RX0), (cs.2.2.1, .object RX1), (cs.2.2.2, .object RX2)], [x] ++ List.range' (x + 1) 170) (V0 x cs) := by
  refine ⟨rfl, rfl, fun κ i j hv => pool_x (vad_in x κ i j hv), fun κ i j κ' i' j' h h' e => ?_, pool_nd x 170⟩
  have e1 := inv0_vad x κ i j h
  have e2 := inv0_vad x κ' i' j' h'
  have e : vad x κ i j = vad x κ' i' j' := e
  rw [e] at e1
  have e3 := e1.symm.trans e2
  injection e3 with q1 q2
  injection q2 with q2 q3
  exact ⟨q1.symm, q2.symm, q3.symm⟩
section FE
variable {cs : zCs} {x : Nat} {F : Nat → va_E}
theorem FLe_lo {a : Nat} (h1 : x < a) (h2 : a < x + 128) : FLend cs x (x + 1) F a = FW cs (x + 1) (x + 1 + 1) (va_up F (x + 1) (eWi .null .null .null .null)) 62 60 16 (eWi (.ref (x + 1 + 1)) (.ref (x + 1 + 2)) (.ref (x + 1 + 1 + 122)) (.ref (x + 1 + 1 + 124))) a := by
  unfold FLend
  rw [va_up_ne _ _ (by omega), va_up_ne _ _ (by omega), va_up_ne _ _ (by omega)]
  unfold FL
  rw [if_neg (by omega), if_neg (by omega), if_neg (by omega)]
theorem FLe_ro (i m : Nat) (hi : i < 5) (hm : m < 8) : FLend cs x (x + 1) F (x + 129 + 8 * i + m) = rcell cs (x + 1) i m (x + 1 + (128 + 8 * i)) := by
  unfold FLend
  rw [va_up_ne _ _ (by omega), va_up_ne _ _ (by omega), va_up_ne _ _ (by omega)]
  unfold FL
  rw [if_neg (by omega), if_neg (by omega), if_pos (by omega), show (x + 129 + 8 * i + m - (x + 1 + 128)) / 8 = i by omega, show (x + 129 + 8 * i + m - (x + 1 + 128)) % 8 = m by omega]
/-- the same cell: equal, or arrays of references that agree on their places -/
def va_same (e e' : va_E) : Prop := e = e' ∨ ∃ (c : ClassId) (n : Nat) (g g' : Nat → Option Nat), e = eQ c n g ∧ e' = eQ c n g' ∧ ∀ j, j < n → g j = g' j
theorem va_same.at {D : va_G} {cl : List vw_C} {a : Nat} {e e' : va_E} {H : Heap} (h : va_same e e') (h1 : va_at D cl (a, e) H) : va_at D cl (a, e') H := by
  rcases h with rfl | ⟨c, n, g, g', rfl, rfl, hg⟩
  · exact h1
  · have h1 : H[a]? = some (vp_cell c (n, .inr (.inr (.inr (.inr g))))) := h1
    show H[a]? = some (vp_cell c (n, .inr (.inr (.inr (.inr g')))))
    rw [h1, vp_cell_q, vp_cell_q]
    unfold arrV
    congr 3
    funext j
    show va_rf (g j.val) = va_rf (g' j.val)
    rw [hg j.val j.isLt]
theorem zP_same {G : zG} {F F' : Nat → va_E} {H : Heap} (h : ∀ a ∈ G.2.2.2, va_same (F a) (F' a)) (hz : zP G (kE G.2.2.2 F) H) : zP G (kE G.2.2.2 F') H := by
  obtain ⟨f, hf, hP⟩ := hz
  refine ⟨F', fun a _ => rfl, fun k q hk => ?_⟩
  have hm : q ∈ va_pl G.2.2.2 F' := List.mem_of_getElem? hk
  obtain ⟨a, ha, rfl⟩ := List.mem_map.mp hm
  obtain ⟨j, hj⟩ := va_pl_get (X := []) (f := f) ha
  have h2 := hP j _ hj
  rw [hf a ha] at h2
  exact (h a ha).at h2
theorem FLe_val (κ i j : Nat) (hv : vd κ i j) : va_same (FLend cs x (x + 1) F (vad x κ i j)) (ce (V0 x cs) (fun n => n) (60, 61) κ i j (M0 κ i j)) := by
  match κ, hv with
  | 0, hv => refine Or.inl ?_; show FLend cs x (x + 1) F x = _; unfold FLend; rw [va_up_self]; rfl
  | 1, hv =>
    refine Or.inr ⟨cs.2.2.1, 5, ryf (x + 1) 5, fun n => some (x + 129 + 8 * n), ?_, rfl, fun j hj => ?_⟩
    · show FLend cs x (x + 1) F (x + 1 + 127) = _
      unfold FLend
      rw [va_up_ne _ _ (by omega), va_up_ne _ _ (by omega), va_up_ne _ _ (by omega), FL_1 (by omega)]
    · unfold ryf
      rw [if_pos hj, show x + 1 + (128 + 8 * j) = x + 129 + 8 * j by omega]
  | 2, hv =>
    obtain ⟨hi, rfl⟩ := hv
    refine Or.inl ?_
    show FLend cs x (x + 1) F (x + 129 + 8 * i) = _
    rw [show x + 129 + 8 * i = x + 129 + 8 * i + 0 from rfl, FLe_ro i 0 hi (by omega)]
    unfold rcell
    rw [if_pos rfl]
    show eRo (nI i) (.ref (x + 1)) (.ref (x + 1 + (128 + 8 * i) + 1)) (.ref (x + 1 + (128 + 8 * i) + 2)) = eRo (nI i) (.ref (x + 1)) (.ref (x + 130 + 8 * i)) (.ref (x + 131 + 8 * i))
    rw [show x + 1 + (128 + 8 * i) + 1 = x + 130 + 8 * i by omega, show x + 1 + (128 + 8 * i) + 2 = x + 131 + 8 * i by omega]
  | 3, hv =>
    obtain ⟨hi, rfl⟩ := hv
    refine Or.inl ?_
    show FLend cs x (x + 1) F (x + 130 + 8 * i) = _
    rw [show x + 130 + 8 * i = x + 129 + 8 * i + 1 by omega, FLe_ro i 1 hi (by omega)]
    unfold rcell
    rw [if_neg (by omega), if_pos rfl]
    rfl
  | 4, hv =>
    obtain ⟨hi, rfl⟩ := hv
    refine Or.inr ⟨cs.2.2.2, 5, syf (x + 1 + (128 + 8 * i) + 1) 5, fun n => some (x + 132 + 8 * i + n), ?_, rfl, fun j hj => ?_⟩
    · show FLend cs x (x + 1) F (x + 131 + 8 * i) = _
      rw [show x + 131 + 8 * i = x + 129 + 8 * i + 2 by omega, FLe_ro i 2 hi (by omega)]
      unfold rcell
      rw [if_neg (by omega), if_neg (by omega), if_pos rfl]
    · unfold syf
      rw [if_pos hj, show x + 1 + (128 + 8 * i) + 1 + (2 + j) = x + 132 + 8 * i + j by omega]
  | 5, hv =>
    obtain ⟨hi, hj⟩ := hv
    refine Or.inl ?_
    show FLend cs x (x + 1) F (x + 132 + 8 * i + j) = _
    rw [show x + 132 + 8 * i + j = x + 129 + 8 * i + (3 + j) by omega, FLe_ro i (3 + j) hi (by omega)]
    unfold rcell
    rw [if_neg (by omega), if_neg (by omega), if_neg (by omega), show 3 + j - 3 = j by omega]
    rfl
  | 6, hv =>
    refine Or.inl ?_
    show FLend cs x (x + 1) F (x + 1) = _
    rw [FLe_lo (by omega) (by omega)]
    unfold FW
    rw [if_pos rfl]
    rfl
  | 7, hv =>
    refine Or.inl ?_
    show FLend cs x (x + 1) F (x + 2) = _
    rw [FLe_lo (by omega) (by omega)]
    unfold FW
    rw [if_neg (by omega), if_pos (by omega)]
    rfl
  | 8, hv =>
    refine Or.inr ⟨cs.2.1, 60, wyf (x + 1 + 1) 60, fun n => some (if n < 62 then x + 4 + 2 * n else x + 169), ?_, rfl, fun j hj => ?_⟩
    · show FLend cs x (x + 1) F (x + 1 + 1 + 1) = _
      rw [FLe_lo (by omega) (by omega), FW_1 (by omega)]
    · unfold wyf
      show (if j < 60 then some (x + 1 + 1 + (2 + 2 * j)) else none) = some (if j < 62 then x + 4 + 2 * j else x + 169)
      rw [if_pos hj, if_pos (show j < 62 by omega), show x + 1 + 1 + (2 + 2 * j) = x + 4 + 2 * j by omega]
  | 9, hv =>
    obtain ⟨hi, rfl⟩ := hv
    refine Or.inl ?_
    by_cases h : i < 62
    · show FLend cs x (x + 1) F (if i < 62 then x + 4 + 2 * i else x + 169) = eFr (.ref (if i < 62 then x + 5 + 2 * i else x + 170))
      rw [if_pos h, if_pos h, FLe_lo (by omega) (by omega)]
      unfold FW
      rw [if_neg (by omega), if_neg (by omega), if_neg (by omega), if_pos (by omega), if_pos (by omega), show x + 4 + 2 * i + 1 = x + 5 + 2 * i by omega]
    · obtain rfl : i = 62 := by omega
      show FLend cs x (x + 1) F (x + 169) = eFr (.ref (x + 170))
      unfold FLend
      rw [va_up_ne _ _ (by omega), va_up_self]
  | 10, hv =>
    obtain ⟨hi, rfl⟩ := hv
    refine Or.inl ?_
    by_cases h : i < 62
    · show FLend cs x (x + 1) F (if i < 62 then x + 5 + 2 * i else x + 170) = eI cs.1 40 z0
      rw [if_pos h, FLe_lo (by omega) (by omega)]
      unfold FW
      rw [if_neg (by omega), if_neg (by omega), if_neg (by omega), if_pos (by omega), if_neg (by omega)]
    · obtain rfl : i = 62 := by omega
      show FLend cs x (x + 1) F (x + 170) = eI cs.1 40 z0
      unfold FLend
      rw [va_up_ne _ _ (by omega), va_up_ne _ _ (by omega), va_up_self]
  | κ + 11, hv => exact hv.elim
theorem vad_of {a : Nat} (h : x ≤ a ∧ a < x + 171) : vd (inv0 (a - x)).1 (inv0 (a - x)).2.1 (inv0 (a - x)).2.2 ∧ vad x (inv0 (a - x)).1 (inv0 (a - x)).2.1 (inv0 (a - x)).2.2 = a := by
  unfold inv0
  by_cases h0 : a - x = 0
  · rw [if_pos h0]; exact ⟨⟨rfl, rfl⟩, by show x = a; omega⟩
  rw [if_neg h0]
  by_cases h1 : a - x = 1
  · rw [if_pos h1]; exact ⟨⟨rfl, rfl⟩, by show x + 1 = a; omega⟩
  rw [if_neg h1]
  by_cases h2 : a - x = 2
  · rw [if_pos h2]; exact ⟨⟨rfl, rfl⟩, by show x + 2 = a; omega⟩
  rw [if_neg h2]
  by_cases h3 : a - x = 3
  · rw [if_pos h3]; exact ⟨⟨rfl, rfl⟩, by show x + 3 = a; omega⟩
  rw [if_neg h3]
  by_cases h4 : a - x < 128
  · rw [if_pos h4]
    by_cases h5 : (a - x) % 2 = 0
    · rw [if_pos h5]
      exact ⟨⟨by show (a - x - 4) / 2 < 63; omega, rfl⟩, by show (if (a - x - 4) / 2 < 62 then x + 4 + 2 * ((a - x - 4) / 2) else x + 169) = a; rw [if_pos (by omega)]; omega⟩
    · rw [if_neg h5]
      exact ⟨⟨by show (a - x - 5) / 2 < 63; omega, rfl⟩, by show (if (a - x - 5) / 2 < 62 then x + 5 + 2 * ((a - x - 5) / 2) else x + 170) = a; rw [if_pos (by omega)]; omega⟩
  rw [if_neg h4]
  by_cases h5 : a - x = 128
  · rw [if_pos h5]; exact ⟨⟨rfl, rfl⟩, by show x + 128 = a; omega⟩
  rw [if_neg h5]
  by_cases h6 : a - x < 169
  · rw [if_pos h6]
    by_cases m0 : (a - x - 129) % 8 = 0
    · rw [if_pos m0]; exact ⟨⟨by show (a - x - 129) / 8 < 5; omega, rfl⟩, by show x + 129 + 8 * ((a - x - 129) / 8) = a; omega⟩
    rw [if_neg m0]
    by_cases m1 : (a - x - 129) % 8 = 1
    · rw [if_pos m1]; exact ⟨⟨by show (a - x - 129) / 8 < 5; omega, rfl⟩, by show x + 130 + 8 * ((a - x - 129) / 8) = a; omega⟩
    rw [if_neg m1]
    by_cases m2 : (a - x - 129) % 8 = 2
    · rw [if_pos m2]; exact ⟨⟨by show (a - x - 129) / 8 < 5; omega, rfl⟩, by show x + 131 + 8 * ((a - x - 129) / 8) = a; omega⟩
    rw [if_neg m2]
    exact ⟨⟨by show (a - x - 129) / 8 < 5; omega, by show (a - x - 129) % 8 - 3 < 5; omega⟩, by show x + 132 + 8 * ((a - x - 129) / 8) + ((a - x - 129) % 8 - 3) = a; omega⟩
  rw [if_neg h6]
  by_cases h7 : a - x = 169
  · rw [if_pos h7]; exact ⟨⟨by show 62 < 63; omega, rfl⟩, by show x + 169 = a; omega⟩
  rw [if_neg h7]
  exact ⟨⟨by show 62 < 63; omega, rfl⟩, by show x + 170 = a; omega⟩
theorem fresh_C {D : va_G} {H : Heap} (hz : zP (D, zcl, [(cs.1, .int), (cs.2.1, .object RX0), (cs.2.2.1, .object RX1), (cs.2.2.2, .object RX2)], [x] ++ List.range' (x + 1) 170) (kE ([x] ++ List.range' (x + 1) 170) (FLend cs x (x + 1) F)) H) :
    zP (D, zcl, [(cs.1, .int), (cs.2.1, .object RX0), (cs.2.2.1, .object RX1), (cs.2.2.2, .object RX2)], [x] ++ List.range' (x + 1) 170) (eC (V0 x cs) M0 (fun n => n) (60, 61)) H := by
  have h1 := zP_same (F' := fun a => ce (V0 x cs) (fun n => n) (60, 61) (inv0 (a - x)).1 (inv0 (a - x)).2.1 (inv0 (a - x)).2.2 (M0 (inv0 (a - x)).1 (inv0 (a - x)).2.1 (inv0 (a - x)).2.2)) (fun a ha => by
    have hr : x ≤ a ∧ a < x + 171 := by
      rcases List.mem_append.mp ha with h | h
      · simp at h; omega
      · have := List.mem_range'_1.mp h; omega
    obtain ⟨v1, v2⟩ := vad_of hr
    have h3 := FLe_val (cs := cs) (x := x) (F := F) _ _ _ v1
    rw [v2] at h3
    exact h3) hz
  obtain ⟨f, hf, hP⟩ := h1
  refine ⟨f, fun κ i j hv => ?_, hP⟩
  have h2 := hf _ (pool_x (vad_in x κ i j hv))
  dsimp only at h2
  rw [inv0_vad x κ i j hv] at h2
  exact h2
end FE
