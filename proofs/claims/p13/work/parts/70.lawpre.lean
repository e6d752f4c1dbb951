/-! THE LAW'S START: what its tables and the Statement give -/
theorem ac_prim {s : State} {args : Array Value} {ty : FieldType} (hob : ∀ C, ¬ ty = .object C) (h : (Cond.arrayClass ty).before args s = true) : ∃ cA, ArrOfT s cA ty ∧ va_RA s cA ty := by
  obtain ⟨c, k, comp, h1, h2, h3⟩ := Cond.arrayClass_spec h
  refine ⟨c, fun n z => ⟨fun k h => (by cases h), k, h2, comp, h3⟩, ?_⟩
  revert hob h1
  cases ty with
  | object C => intro hob; exact absurd rfl (hob C)
  | _ => intro _ h; exact h
theorem ac_obj {s : State} {args : Array Value} {C : String} (h : (Cond.arrayOver (.object C)).before args s = true) : ∃ cA, ArrOfT s cA (.object C) ∧ va_RA s cA (.object C) := by
  obtain ⟨comp, c, k, h1, h2, h3, h4, h5⟩ := Cond.arrayOver_spec h
  exact ⟨c, fun n z => ⟨fun k h => (by cases h), k, h3, comp, h4⟩, k, comp, h3, h4, h1, h5⟩
theorem zT_of {args : Array Value} {s : State} (hts : ∀ w ∈ lw_tbl, w.before args s = true) : ∀ w ∈ zT, w.before args s = true := fun w h => hts w (List.mem_filter.mp h).1
theorem law_K {args : Array Value} {s : State} (hts : ∀ w ∈ lw_tbl, w.before args s = true) : ∃ (D : va_G) (cs : zCs), va_K D zcl [(cs.1, .int), (cs.2.1, .object RX0), (cs.2.2.1, .object RX1), (cs.2.2.2, .object RX2)] s := by
  have hz := zT_of hts
  obtain ⟨c0, i0, k0⟩ := u_known hz in_F (hz _ im_F)
  obtain ⟨c1, i1, k1⟩ := u_known hz in_R (hz _ im_R)
  obtain ⟨c2, i2, k2⟩ := u_known hz in_S (hz _ im_S)
  obtain ⟨c3, i3, k3⟩ := u_known hz in_W (hz _ im_W)
  obtain ⟨c4, i4, k4⟩ := u_known hz in_L (hz _ im_L)
  obtain ⟨a0, p0, q0⟩ := ac_prim (fun C h => by cases h) (hz _ ac_int)
  obtain ⟨a1, p1, q1⟩ := ac_obj (hts _ ao_F)
  obtain ⟨a2, p2, q2⟩ := ac_obj (hts _ ao_R)
  obtain ⟨a3, p3, q3⟩ := ac_obj (hts _ ao_S)
  refine ⟨(fun n => match n with | 0 => c0 | 1 => c1 | 2 => c2 | 3 => c3 | _ => c4, fun n => match n with | 0 => i0 | 1 => i1 | 2 => i2 | 3 => i3 | _ => i4), (a0, a1, a2, a3), fun c q h => ?_, fun k q h => ?_⟩
  · match c, h with
    | 0, h => cases h; exact k0
    | 1, h => cases h; exact k1
    | 2, h => cases h; exact k2
    | 3, h => cases h; exact k3
    | 4, h => cases h; exact k4
    | c + 5, h => simp at h
  · match k, h with
    | 0, h => cases h; exact ⟨p0, q0⟩
    | 1, h => cases h; exact ⟨p1, q1⟩
    | 2, h => cases h; exact ⟨p2, q2⟩
    | 3, h => cases h; exact ⟨p3, q3⟩
    | k + 4, h => simp at h
theorem law_KM {args : Array Value} {s : State} (hts : ∀ w ∈ lw_tbl, w.before args s = true) : ∃ (D : va_G) (cu : ClassId × ClassId), va_K D [(RX5, TXM, 43)] [(cu.1, .int), (cu.2, .boolean)] s := by
  have hz := zT_of hts
  obtain ⟨c0, i0, k0⟩ := u_known hz in_M (hz _ im_M)
  obtain ⟨a0, p0, q0⟩ := ac_prim (fun C h => by cases h) (hz _ ac_int)
  obtain ⟨a1, p1, q1⟩ := ac_prim (fun C h => by cases h) (hz _ ac_boolean)
  refine ⟨(fun _ => c0, fun _ => i0), (a0, a1), fun c q h => ?_, fun k q h => ?_⟩
  · match c, h with
    | 0, h => cases h; exact k0
    | c + 1, h => simp at h
  · match k, h with
    | 0, h => cases h; exact ⟨p0, q0⟩
    | 1, h => cases h; exact ⟨p1, q1⟩
    | k + 2, h => simp at h
theorem law_aOk {args : Array Value} {s : State} (hts : ∀ w ∈ lw_tbl, w.before args s = true) : aOk s := ⟨va_AO.of (hts _ ao_F), va_AO.of (hts _ ao_R), va_AO.of (hts _ ao_S)⟩
theorem sr_any {w : Cond} (h : tIsS w = true) {a b : Array Value} {s : State} (hw : w.before a s = true) : w.before b s = true := by
  cases w with
  | stringRef x y z => exact hw
  | _ => simp [tIsS] at h
theorem ca_any {w : Cond} (h : tIsC w = true) {a b : Array Value} {s : State} (hw : w.before a s = true) : w.before b s = true := by
  cases w with
  | castable x y => exact hw
  | declares x => exact hw
  | _ => simp [tIsC] at h
theorem ls_UN : Cond.laysStatic Bundle.tN "UNASSIGNED_STACK" Bundle.steD ∈ lw_tbl := by decide +kernel
theorem ls_SU : Cond.laysStatic Bundle.tN "SUPPRESSED_SENTINEL" Bundle.listD ∈ lw_tbl := by decide +kernel
theorem ls_LE : Cond.laysStatic RX4 "LEAST" "[I" ∈ lw_tbl := by decide +kernel
theorem ls_MO : Cond.laysStatic RX4 "MOST" "[I" ∈ lw_tbl := by decide +kernel
theorem law_tOk {args : Array Value} {s : State} (hts : ∀ w ∈ lw_tbl, w.before args s = true) (hgv : (Jvm.Cond.and given_1 narrow_1).before args s = true) : tOk s s.heap := by
  have hs := flat_of_before _ hgv
  exact ⟨fun w hw a => sr_any (List.mem_filter.mp hw).2 (hts w (List.mem_filter.mp hw).1), fun w hw a => ca_any (List.mem_filter.mp hw).2 (hts w (List.mem_filter.mp hw).1),
    tSt.of (hts _ ls_UN) (hs _ (by decide +kernel)), tSt.of (hts _ ls_SU) (hs _ (by decide +kernel))⟩
theorem law_nOk {args : Array Value} {s : State} (hts : ∀ w ∈ lw_tbl, w.before args s = true) (hgv : (Jvm.Cond.and given_1 narrow_1).before args s = true) : nOk s := by
  have hs := flat_of_before _ hgv
  have hz := zT_of hts
  have key : ∀ a b, (Cond.not (Cond.castable a b)).before args s = true → (∃ c, s.vm.findClass a = some c) → (∃ c, s.vm.findClass b = some c) → ∃ c1 c2, s.vm.findClass a = some c1 ∧ s.vm.findClass b = some c2 ∧ s.vm.assignable c1 c2 = false := by
    intro a b h ha hb
    obtain ⟨c1, h1⟩ := ha
    obtain ⟨c2, h2⟩ := hb
    refine ⟨c1, c2, h1, h2, ?_⟩
    simpa [Cond.before, Cond.holds, Cond.value, h1, h2] using h
  have f1 : ∃ c, s.vm.findClass "java/lang/IndexOutOfBoundsException" = some c := by
    obtain ⟨c1, c2, e1, e2, e3⟩ := Cond.castable_spec ((law_tOk hts hgv).2.1 _ ca_IndexOutOfBoundsException args)
    exact ⟨c1, e1⟩
  have f2 : ∃ c, s.vm.findClass "java/lang/IllegalArgumentException" = some c := by
    obtain ⟨c1, c2, e1, e2, e3⟩ := Cond.castable_spec ((law_tOk hts hgv).2.1 _ ca_IllegalArgumentException args)
    exact ⟨c1, e1⟩
  have f3 : ∃ c, s.vm.findClass "java/lang/IllegalStateException" = some c := by
    obtain ⟨c1, c2, e1, e2, e3⟩ := Cond.castable_spec ((law_tOk hts hgv).2.1 _ ca_IllegalStateException args)
    exact ⟨c1, e1⟩
  intro p hp
  simp only [ncP, List.mem_cons, List.not_mem_nil, or_false] at hp
  rcases hp with rfl | rfl | rfl | rfl | rfl | rfl
  · exact key _ _ (hs _ (by decide +kernel)) f2 f1
  · exact key _ _ (hs _ (by decide +kernel)) f3 f1
  · exact key _ _ (hs _ (by decide +kernel)) f1 f2
  · exact key _ _ (hs _ (by decide +kernel)) f3 f2
  · exact key _ _ (hs _ (by decide +kernel)) f1 f3
  · exact key _ _ (hs _ (by decide +kernel)) f2 f3
theorem st_one {args : Array Value} {s : State} {A : Nat → Prop} {n : String} {f : Nat → Int32} (hA : ∀ a : Nat, a < s.heap.size → ¬ A a) (hls : (Cond.laysStatic RX4 n "[I").before args s = true) (hini : (Cond.initialized RX4).before args s = true)
    (h1 : (Cond.arrayOf (.static RX4 n "[I") .int).before args s = true) (h2 : (Cond.eq (.length (.static RX4 n "[I")) (.int 10)).before args s = true) (h3 : ∀ j, j < 10 → (Cond.eq (.elem (.static RX4 n "[I") (.int (Int32.ofNat j))) (.int (f j))).before args s = true) : ∃ t : Nat, va_Z RX4 n "[I" (.ref t) A s s.heap ∧ va_T .int t 10 (fun j => .int (f j)) A s s.heap := by
  have ev : ∀ (tm : Term) (v : Int32), (Cond.eq tm (.int v)).before args s = true → tm.eval args s none [] s = some (.int v) := fun tm v h => by
    cases he : tm.eval args s none [] s with
    | none => simp [Cond.before, Cond.holds, Cond.value, he] at h
    | some x =>
      simp [Cond.before, Cond.holds, Cond.value, he, Term.eval] at h
      cases x <;> simp_all
  obtain ⟨t, g1, g2⟩ := va_Tof (N := 10) (f := fun j => .int (f j)) (A := A) (by decide) h1 (ev _ _ h2) (fun j hj => ev _ _ (h3 j hj)) hA
  exact ⟨t, va_Zref hls hini g1 hA, g2⟩
theorem law_stOk {args : Array Value} {s : State} {A : Nat → Prop} (hts : ∀ w ∈ lw_tbl, w.before args s = true) (hgv : (Jvm.Cond.and given_1 narrow_1).before args s = true) (hA : ∀ a : Nat, a < s.heap.size → ¬ A a) : stOk A s s.heap := by
  have hs := flat_of_before _ hgv
  have hz := zT_of hts
  obtain ⟨t1, a1, b1⟩ := st_one (n := "LEAST") (f := leF) hA (hts _ ls_LE) (hz _ iz_L) (hs _ (by decide +kernel)) (hs _ (by decide +kernel)) (fun j hj => by
    match j, hj with
    | 0, _ => exact hs _ (by decide +kernel)
    | 1, _ => exact hs _ (by decide +kernel)
    | 2, _ => exact hs _ (by decide +kernel)
    | 3, _ => exact hs _ (by decide +kernel)
    | 4, _ => exact hs _ (by decide +kernel)
    | 5, _ => exact hs _ (by decide +kernel)
    | 6, _ => exact hs _ (by decide +kernel)
    | 7, _ => exact hs _ (by decide +kernel)
    | 8, _ => exact hs _ (by decide +kernel)
    | 9, _ => exact hs _ (by decide +kernel)
    | n + 10, h => exact absurd h (by omega))
  obtain ⟨t2, a2, b2⟩ := st_one (n := "MOST") (f := moF) hA (hts _ ls_MO) (hz _ iz_L) (hs _ (by decide +kernel)) (hs _ (by decide +kernel)) (fun j hj => by
    match j, hj with
    | 0, _ => exact hs _ (by decide +kernel)
    | 1, _ => exact hs _ (by decide +kernel)
    | 2, _ => exact hs _ (by decide +kernel)
    | 3, _ => exact hs _ (by decide +kernel)
    | 4, _ => exact hs _ (by decide +kernel)
    | 5, _ => exact hs _ (by decide +kernel)
    | 6, _ => exact hs _ (by decide +kernel)
    | 7, _ => exact hs _ (by decide +kernel)
    | 8, _ => exact hs _ (by decide +kernel)
    | 9, _ => exact hs _ (by decide +kernel)
    | n + 10, h => exact absurd h (by omega))
  exact ⟨t1, t2, ⟨a1, b1⟩, a2, b2⟩
