/-! METHODS THAT THROW: nothing old is written; a fresh object of class E flies -/
abbrev nA : Nat → Prop := fun _ => False
/-- a static of references that nobody writes -/
def tSt (C n d : String) (U : State) (H : Heap) : Prop := ∃ (c : ClassId) (k : Class) (i : Nat) (f : Field) (a : Nat) (cell : Cell) (v : Value), U.vm.findClass C = some c ∧ U.fieldFound? C n d = some (c, k, i, f) ∧ f.isStatic = true ∧ k.statics = some a ∧ H[a]? = some cell ∧ cell.vm.isStatics = true ∧ cell.cls = c ∧ f.slot < cell.slots.size ∧ k.staticTypes[f.slot]? = some f.type ∧ cell.slots[f.slot]? = some v ∧ v.isRef = true
theorem tSt.of {args : Array Value} {s : State} {C n d : String} (hl : (Cond.laysStatic C n d).before args s = true) (hr : (Cond.isRef (.static C n d)).before args s = true) : tSt C n d s s.heap := by
  obtain ⟨c, k, i, f, a, cell, h1, h2, h3, h4, h5, h6, h7, h8, h9⟩ := Cond.laysStatic_spec hl
  cases hv : (Term.static C n d).eval args s none [] s with
  | none => simp [Cond.before, Cond.holds, Cond.value, hv] at hr
  | some v =>
    obtain ⟨-, a', cell', g1, g2, -, g3⟩ := Term.static_spec h2 hv
    cases h4.symm.trans g1
    cases h5.symm.trans g2
    refine ⟨c, k, i, f, a, cell, v, h1, h2, h3, h4, h5, h6, h7, h8, h9, g3, ?_⟩
    simp only [Cond.before, Cond.holds, Cond.value, hv] at hr
    cases v <;> first | rfl | simp at hr
theorem tSt.moved {C n d : String} {u U : State} {H : Heap} (hvm : u.vm.Alike U.vm) (h : tSt C n d u H) : tSt C n d U H := by
  obtain ⟨c, k, i, f, a, cell, v, h1, h2, h3, h4, h5, h6, h7, h8, h9, h10⟩ := h
  obtain ⟨k', hi', he⟩ := State.fieldFound?_setVm hvm h2
  exact ⟨c, k', i, f, a, cell, v, by rw [hvm.findClass]; exact h1, hi', h3, by rw [he]; exact h4, h5, h6, h7, h8, by rw [he]; exact h9, h10⟩
theorem tSt.kept {C n d : String} {U : State} {H H1 : Heap} (h : tSt C n d U H) (hq : ∀ (a : Nat) (cell : Cell), H[a]? = some cell → cell.vm.isStatics = true → H1[a]? = H[a]?) : tSt C n d U H1 := by
  obtain ⟨c, k, i, f, a, cell, v, h1, h2, h3, h4, h5, h6, h7⟩ := h
  exact ⟨c, k, i, f, a, cell, v, h1, h2, h3, h4, by rw [hq a cell h5 h6]; exact h5, h6, h7⟩
theorem tSt.lays {args : Array Value} {s : State} {C n d : String} (h : tSt C n d s s.heap) : (Cond.laysStatic C n d).before args s = true := by
  obtain ⟨c, k, i, f, a, cell, v, h1, h2, h3, h4, h5, h6, h7, h8, h9, h10⟩ := h
  exact Cond.laysStatic_of h1 h2 h3 h4 h5 h6 h7 h8 h9
theorem tSt.isRef {args : Array Value} {s : State} {C n d : String} (h : tSt C n d s s.heap) : (Cond.isRef (.static C n d)).before args s = true := by
  obtain ⟨c, k, i, f, a, cell, v, h1, h2, h3, h4, h5, h6, h7, h8, h9, h10, h11⟩ := h
  have hev : (Term.static C n d).eval args s none [] s = some v := by
    simp [Term.eval, State.fieldNamed?, h2, h3, h4, h5, h6, h10]
  simp only [Cond.before, Cond.holds, Cond.value, hev]
  cases v <;> first | rfl | simp [Value.isRef] at h11
def tIsS : Cond → Bool
  | .stringRef .. => true
  | _ => false
def tIsC : Cond → Bool
  | .castable .. => true
  | .declares _ => true
  | _ => false
def tSR : List Cond := lw_tbl.filter tIsS
def tCa : List Cond := lw_tbl.filter tIsC
theorem tSR_in {w : Cond} (i : Nat) (h : lw_tbl[i]? = some w) (g : tIsS w = true) : w ∈ tSR := List.mem_filter.mpr ⟨List.mem_of_getElem? h, g⟩
theorem tCa_in {w : Cond} (i : Nat) (h : lw_tbl[i]? = some w) (g : tIsC w = true) : w ∈ tCa := List.mem_filter.mpr ⟨List.mem_of_getElem? h, g⟩
abbrev sUN : String × String × String := (Bundle.tN, "UNASSIGNED_STACK", Bundle.steD)
abbrev sSU : String × String × String := (Bundle.tN, "SUPPRESSED_SENTINEL", Bundle.listD)
/-- what making an exception needs of the tables and the heap beside the good words -/
def tOk (U : State) (H : Heap) : Prop := (∀ w ∈ tSR, ∀ args, w.before args U = true) ∧ (∀ w ∈ tCa, ∀ args, w.before args U = true) ∧ tSt Bundle.tN "UNASSIGNED_STACK" Bundle.steD U H ∧ tSt Bundle.tN "SUPPRESSED_SENTINEL" Bundle.listD U H
theorem sr_warm {s U : State} (hW : s.WarmedH U.vm) {w : Cond} (hw : tIsS w = true) (h : ∀ args, w.before args s = true) : ∀ args, w.before args U = true := by
  intro args
  cases w with
  | stringRef a b c =>
    have h1 := Cond.stringRef_warmed hW (h args)
    first
      | exact va_tabs rfl (rfl : (s.setVm U.vm).vm = U.vm) h1
      | (simp only [Cond.before, Cond.holds, Cond.value, State.names, State.poolOf?, State.resolvedAt?, State.vm_setVm] at h1 ⊢; exact h1)
  | _ => simp [tIsS] at hw
theorem ca_warm {s U : State} (hvm : s.vm.Alike U.vm) {w : Cond} (hw : tIsC w = true) (h : ∀ args, w.before args s = true) : ∀ args, w.before args U = true := by
  intro args
  cases w with
  | castable a b =>
    have h1 := h args
    simp only [Cond.before, Cond.holds, Cond.value] at h1 ⊢
    rw [hvm.findClass, hvm.findClass]
    cases ha : s.vm.findClass a with
    | none => simp [ha] at h1
    | some x =>
      cases hb : s.vm.findClass b with
      | none => simp [ha, hb] at h1
      | some y =>
        simp only [ha, hb] at h1 ⊢
        rw [hvm.assignable]
        exact h1
  | declares x => exact va_tabs rfl (rfl : (s.setVm U.vm).vm = U.vm) (by rw [Cond.declares_setVm hvm]; exact h args)
  | _ => simp [tIsC] at hw
theorem tOk.warm {s U : State} {H : Heap} (hW : s.WarmedH U.vm) (h : tOk s H) : tOk U H :=
  ⟨fun w hw => sr_warm hW (List.mem_filter.mp hw).2 (h.1 w hw), fun w hw => ca_warm hW.alike (List.mem_filter.mp hw).2 (h.2.1 w hw), h.2.2.1.moved hW.alike, h.2.2.2.moved hW.alike⟩
theorem tOk.same {s U : State} {H : Heap} (hv : U.vm = s.vm) (h : tOk s H) : tOk U H := h.warm (by rw [hv]; exact State.WarmedH.refl s)
theorem tOk.kept {U : State} {H H1 : Heap} (h : tOk U H) (hq : ∀ (a : Nat) (cell : Cell), H[a]? = some cell → cell.vm.isStatics = true → H1[a]? = H[a]?) : tOk U H1 := ⟨h.1, h.2.1, h.2.2.1.kept hq, h.2.2.2.kept hq⟩
def tPost (E : String) : Array Value → State → Addr → State → Prop := fun _ s0 x t => (s0.heap.size ≤ x ∧ ∃ ce, t.heap[x]? = some ce ∧ ce.vm.isStatics = false ∧ t.vm.findClass E = some ce.cls) ∧ s0.heap.size ≤ t.heap.size ∧ ∀ q, q < s0.heap.size → t.heap[q]? = s0.heap[q]?
/-- method y, where B holds of the state: it throws an E -/
def zTh (l : Launch) (y : MethodName) (cc : ByteArray) (nL : Nat) (ret : Option FieldType) (fr lo : Nat) (As : List Value) (B : State → Prop) (E : String) : Prop :=
  MetT l y (zWs y cc nL ret) (iRm fr lo 1 6) (va_Pc As (fun U => B U ∧ tOk U U.heap)) (tPost E) 1 6 nA
abbrev tQ (X : zX) (E : String) : State → Prop := MQT X.below (tPost E) X.args X.s 1 6 nA
def tC (X : zX) : Prop := zN X ∧ X.e.platform.stackTraces = false ∧ X.c.exceptionTable.isEmpty = true ∧ tOk X.s X.s.heap ∧ (1 ≤ X.R.cells ∧ 6 ≤ X.R.slots)
theorem zTh.ofJ {l : Launch} {y : MethodName} {fr lo : Nat} {As : List Value} {B : State → Prop} {B' : Heap → Prop} {E : String} {cc : ByteArray} {nL : Nat} {ret : Option FieldType} (hl : ∀ e, l.admits e → e.platform.stackTraces = false)
    (hy : plainName y.cls = true) (hE : (lg_sl As).length ≤ nL) (hB : ∀ U, B U → B' U.heap)
    (body : ∀ X : zX, X.l = l → jC X cc nL y.cls fr lo → tC X → B X.s → J X nA nL (tQ X E) B' 0 (lv_args 0 As) []) : zTh l y cc nL ret fr lo As B E := by
  refine MetT.ofW (cc := cc) (maxL := nL) (ret := ret) (ws' := zT) hy rfl ?_
  intro p e s m args below meth c s₁ Bd hml hv
  obtain ⟨rfl, hb, hok⟩ := hv
  have hts := atoms_spec (ws := zWs y cc nL ret) Bd.pre
  have hown : s.vm.findClass y.cls = some m.cls := findClass_of_methodNamed Bd.named
  have hent := lv_entry As (n := nL) hE
  rw [lg_entry_eq]
  exact body (p, l, e, (headSpec (zWs y cc nL ret) (iRm fr lo 1 6)).room, s, m, As.toArray, below, meth, c, 0, 0) rfl ⟨⟨Bd.exec, Bd.bytes, hml, hown, fun w h => hts w (List.mem_cons_of_mem _ h)⟩, Bd.notSynchronized, Nat.zero_le _, Nat.zero_le _, Nat.le_refl _, Nat.le_refl _⟩ ⟨⟨rfl, rfl⟩, hl e Bd.admits, Bd.noHandlers (hts _ List.mem_cons_self), hok, Nat.le_refl _, Nat.le_refl _⟩ hb s.heap [] _ (hB s hb) va_S.rf hent
section ZT
variable {X : zX} {B : Heap → Prop} {nL : Nat} {pc : Nat} {lv : List (Nat × Value)} {cc : ByteArray} {own : String} {fr lo : Nat}
/-- the words of an exception class's making -/
def tAt (own : String) (i3 : Nat) (E : String) (names : List String) : Prop := ∀ w ∈ Bundle.ownAtoms own i3 E names, w ∈ zT ∨ w ∈ tCa ∨ w = .laysStatic Bundle.tN "UNASSIGNED_STACK" Bundle.steD ∨ w = .laysStatic Bundle.tN "SUPPRESSED_SENTINEL" Bundle.listD ∨ w = .isRef (.static Bundle.tN "UNASSIGNED_STACK" Bundle.steD) ∨ w = .isRef (.static Bundle.tN "SUPPRESSED_SENTINEL" Bundle.listD)
theorem J_throw {E : String} {names : List String} {i1 i2 i3 : Nat} {text : String} (C : jC X cc nL own fr lo) (t : tC X) (hE : Bundle.fit E = true) (hns : ∀ n ∈ names, Bundle.fit n = true) (hat : tAt own i3 E names) (hcl : Cond.classLink own i1 E ∈ zT) (hini : Cond.initialized E ∈ zT) (hinst : Cond.instantiable E 6 ∈ zT) (hsr : Cond.stringRef own i2 text ∈ tSR)
    (hR : names.length + 4 ≤ fr ∧ 13 * (names.length + 1) + 43 ≤ lo) (hd0 : decode cc pc = .ok (.new i1, 3)) (hd3 : decode cc (pc + 3) = .ok (.dup, 1)) (hd4 : decode cc (pc + 3 + 1) = .ok (.ldc i2, 2)) (hd6 : decode cc (pc + 3 + 1 + 2) = .ok (.invokespecial i3, 3)) (hd9 : decode cc (pc + 3 + 1 + 2 + 3) = .ok (.athrow, 1)) : J X nA nL (tQ X E) B pc lv [] := by
  intro H locs ls hB hS hl
  obtain ⟨hN, htr, hout, hok, hr1, hr2⟩ := t
  obtain ⟨p, l, e, R, s, m, args, below, meth, c, n1, n2⟩ := X
  obtain ⟨z1, z2⟩ := hN
  dsimp only at z1 z2
  subst z1; subst z2
  obtain ⟨⟨hx, hb, hml, hown, hts⟩, hlk, -, -, hfr, hlo⟩ := C
  dsimp only [zX.m, zX.c, zX.s, zX.args, zX.meth, zX.R, zX.e, zX.below, zX.cells, zX.slots] at *
  have hlocs0 : locs = [] := by
    cases locs with
    | nil => rfl
    | cons a r => exact (hS.2.2 a List.mem_cons_self).elim
  subst hlocs0
  suffices hgo : H.size = s.heap.size → W p l e R s m args below meth c H [] 0 0 (tQ (p, l, e, R, s, m, args, below, meth, c, 0, 0) E) (F0 m pc ls []) from fun T0 hT XX => hgo (by
    have h1 : T0.heap.size ≤ s.heap.size + 0 := XX.heapSize
    rw [hT] at h1
    have h2 := hS.1
    omega) T0 hT XX
  intro hsz
  have hall : ∀ a ∈ Bundle.ownAtoms own i3 E names, a.before args s = true := fun w hw => by
    rcases hat w hw with h | h | h | h | h | h
    · exact hts w h
    · exact hok.2.1 w h args
    · rw [h]; exact hok.2.2.1.lays
    · rw [h]; exact hok.2.2.2.lays
    · rw [h]; exact hok.2.2.1.isRef
    · rw [h]; exact hok.2.2.2.isRef
  refine W.newc hx hb hown (hts _ hcl) (hts _ hinst) (hts _ hini) rfl hd0 (by omega) (by omega) (fun cC kC h1 h2 h3 h4 => ?_)
  refine lv_dup hx hb hd3 rfl ?_
  intro T1 hT1 X1
  have hsr' := hok.1 _ hsr args
  obtain ⟨k, cf, i, sa, -, -, -, -, -, hev⟩ := Cond.stringRef_spec hown hsr'
  have stp := X1.ldcString hx hown hsr' hev (g := F0 m (pc + 3 + 1) ls [.ref H.size, .ref H.size]) rfl (by rw [hb]; exact hd4)
  obtain ⟨U, st, hrun, hend, hW, hsame, ce, hce, ho⟩ := X1.ctorThrowS hx htr (own := own) (cls := E) (names := names) (ic := i3) hown hE hns hall (fun x hx => by cases hx) (a := H.size) h1 h2 (by rw [hT1, Array.getElem?_push_size] <;> rfl) (by omega) (msg := .ref sa) rfl
    (g := F0 m (pc + 3 + 1 + 2) ls [.ref sa, .ref H.size, .ref H.size]) rfl (hl.1.trans hml.symm) rfl rfl (rest := []) rfl (by rw [hb]; exact hd6) (by rw [hb]; exact hd9) (covers_of_empty hout _) (by omega) (by show 2 * 0 + 1 + _ ≤ _; omega) hlk
  refine ⟨U, stp U st, H.size, hrun, hend, ⟨⟨Nat.le_of_eq hsz.symm, ce, hce, by rw [ho.vm]; rfl, by rw [hW.alike.findClass]; exact ho.cls⟩, hsame.2.1, fun q hq => ?_⟩, hW, [], hsame, fun q hq => by cases hq⟩
  obtain ⟨cq, hcq⟩ : ∃ cq, s.heap[q]? = some cq := ⟨_, Array.getElem?_eq_getElem hq⟩
  obtain ⟨c', g1, g2, g3, g4⟩ := hsame.2.2.2.2.2 q cq hcq
  have hse : c'.slots = cq.slots := Array.ext_getElem? (fun i => g4 i (by simp))
  have g1' : U.heap[q]? = some c' := g1
  rw [g1', hcq, g2, hse]
end ZT
