/-! a fresh reference -/
theorem arr_lt {a : Nat} (h : arrM a = true) : a < 42 := by
  by_cases hl : a < 42
  · exact hl
  · exfalso
    obtain ⟨n, rfl⟩ : ∃ n, a = n + 42 := ⟨a - 42, by omega⟩
    have : arrM (n + 42) = false := rfl
    rw [this] at h
    cases h
theorem arr_ok : ∀ a, a < 42 → arrM a = true → fldM (rkM a) = a ∧ rkM a < 37 ∧ ((rkM a = 9 ∨ rkM a = 22) ↔ (a = 11 ∨ a = 24)) ∧ (rkM a = 0 ↔ a = 2) ∧ (rkM a = 8 ↔ a = 10) := by decide +kernel
theorem arr_inj : ∀ a, a < 42 → ∀ b, b < 42 → arrM a = true → arrM b = true → rkM a = rkM b → b = a := by decide +kernel
abbrev U0 (y : Nat) (cu : ClassId × ClassId) : zU := (fun a => if a = 43 then y else y + 1 + rkM a, cu.1, cu.2)
def N0 : zR := fun a => if a = 2 then msf 5 else if a = 10 then plf 15 else z0
theorem U0_arr {y : Nat} {cu : ClassId × ClassId} {a : Nat} (h : arrM a = true) : (U0 y cu).1 a = y + 1 + rkM a := by
  have := arr_lt h
  show (if a = 43 then y else y + 1 + rkM a) = _
  rw [if_neg (by omega)]
theorem pool_y {y a n : Nat} (h : y ≤ a ∧ a < y + 1 + n) : a ∈ [y] ++ List.range' (y + 1) n := by
  by_cases e : a = y
  · subst e; exact List.mem_append_left _ List.mem_cons_self
  · exact List.mem_append_right _ (List.mem_range'_1.mpr ⟨by omega, by omega⟩)
theorem wR0 {D : va_G} (y : Nat) (cu : ClassId × ClassId) : wR (D, [(RX5, TXM, 43)], [(cu.1, .int), (cu.2, .boolean)], [y] ++ List.range' (y + 1) 37) (U0 y cu) := by
  refine ⟨rfl, rfl, fun a hv => ?_, fun a b ha hb e => ?_, pool_nd y 37⟩
  · rcases hv with rfl | h
    · exact pool_y ⟨Nat.le_refl y, by show y < y + 1 + 37; omega⟩
    · rw [U0_arr h]
      have := (arr_ok a (arr_lt h) h).2.1
      exact pool_y ⟨by omega, by omega⟩
  · rcases ha with rfl | h
    · rcases hb with rfl | h'
      · rfl
      · rw [U0_arr h'] at e
        have e : y = y + 1 + rkM b := e
        omega
    · rcases hb with rfl | h'
      · rw [U0_arr h] at e
        have e : y + 1 + rkM a = y := e
        omega
      · rw [U0_arr h, U0_arr h'] at e
        exact arr_inj a (arr_lt h) b (arr_lt h') h h' (by omega)
theorem fresh_M {D : va_G} {y : Nat} {cu : ClassId × ClassId} {F : Nat → va_E} {H : Heap} (hz : zP (D, [(RX5, TXM, 43)], [(cu.1, .int), (cu.2, .boolean)], [y] ++ List.range' (y + 1) 37) (kE ([y] ++ List.range' (y + 1) 37) (FG cu y (y + 1) F (msf 5) (plf 15))) H) :
    zP (D, [(RX5, TXM, 43)], [(cu.1, .int), (cu.2, .boolean)], [y] ++ List.range' (y + 1) 37) (eR (U0 y cu) N0) H := by
  obtain ⟨f, hf, hP⟩ := hz
  refine ⟨f, fun a hv => ?_, hP⟩
  rcases hv with rfl | h
  · have h1 := hf y (pool_y ⟨Nat.le_refl y, by omega⟩)
    show f y = _
    rw [h1, FG_h (by omega)]
    rfl
  · have hl := arr_lt h
    obtain ⟨o1, o2, o3, o4, o5⟩ := arr_ok a hl h
    rw [U0_arr h, hf _ (pool_y ⟨by omega, by omega⟩)]
    unfold ceM
    rw [if_neg (by omega)]
    unfold FG N0
    by_cases h2 : a = 2
    · subst h2; rw [if_pos (show y + 1 + rkM 2 = y + 1 from by have := o4.mpr rfl; omega), if_pos rfl]; rfl
    · rw [if_neg (by have := mt o4.mp h2; omega), if_neg h2]
      by_cases h10 : a = 10
      · subst h10; rw [if_pos (show y + 1 + rkM 10 = y + 1 + 8 from by have := o5.mpr rfl; omega), if_pos rfl]; rfl
      · rw [if_neg (by have := mt o5.mp h10; omega), if_neg h10]
        unfold FM
        rw [if_neg (by omega), if_pos (by omega), show y + 1 + rkM a - (y + 1) = rkM a by omega]
        show Sum.inl (if rkM a = 9 ∨ rkM a = 22 then cu.2 else cu.1, lenM (fldM (rkM a)), Sum.inl z0) = Sum.inl (clM (U0 y cu) a, lenM a, Sum.inl z0)
        rw [o1]
        unfold clM
        by_cases h11 : a = 11 ∨ a = 24
        · rw [if_pos h11, if_pos (o3.mpr h11)]
        · rw [if_neg h11, if_neg (fun q => h11 (o3.mp q))]
