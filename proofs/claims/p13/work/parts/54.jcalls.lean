/-! J: reads, calls over a pool, calls that throw and are caught, wrappers with handlers, constructors -/
theorem zP.kept {G : zG} {K : zK} {H H' : Heap} (h : zP G K H) (hq : ∀ q ∈ G.2.2.2, q < H.size → H'[q]? = H[q]?) : zP G K H' := by
  obtain ⟨f, hf, hP⟩ := h
  refine ⟨f, hf, hP.kept (fun k q hk => ?_)⟩
  have hm : q ∈ va_pl G.2.2.2 f := List.mem_of_getElem? hk
  obtain ⟨a, ha, rfl⟩ := List.mem_map.mp hm
  exact hq a ha (hP k _ hk).lt
theorem zP.lt {G : zG} {K : zK} {H : Heap} (h : zP G K H) : ∀ q ∈ G.2.2.2, q < H.size := by
  obtain ⟨f, hf, hP⟩ := h
  exact fun q hq => va_pl_lt (X := []) hP hq
section JM
variable {X : zX} {G : zG} {A : Nat → Prop} {nL : Nat} {Q : State → Prop} {B B' : Heap → Prop} {K K' : zK} {pc : Nat} {lv : List (Nat × Value)} {st rest As : List Value} {cc bytes : ByteArray} {own : String} {fr lo fr' lo' mc' ms' : Nat} {y : MethodName} {w : Option Value} {n b index maxL : Nat} {ret : Option FieldType}
theorem J_get (C : jC X cc nL own fr lo) (hK : va_K G.1 G.2.1 G.2.2.1 X.s) (hB : ∀ H, B H → zP G K H) {ref CN : String} {T : u_T} {N ci index a : Nat} {fs : List Value} (k : Nat) {v : Value} (ha : a ∈ G.2.2.2) (hm : ∀ f, K f → f a = .inr (ci, fs)) (hc : G.2.1[ci]? = some (CN, T, N)) (hin : ∀ w ∈ u_ws CN T N, w ∈ zT) (hk : k < N) (hlink : Cond.fieldLink own index ref (T k).2.1 (T k).2.2.1 ∈ zT) (href : (T k).1 = ref) (hv : fs[k]? = some v) (hd : decode cc pc = .ok (.getfield index, 3)) (kk : J X A nL Q B (pc + 3) lv (v :: st)) : J X A nL Q B pc lv (.ref a :: st) := fun H locs ls hb hS hl => by
  obtain ⟨f, hf, hP⟩ := hB H hb
  obtain ⟨q0, hq⟩ := va_pl_get (X := []) (f := f) ha
  rw [hm f hf] at hq
  exact va_get C.1.1 C.1.2.1 C.1.2.2.2.2 hin C.1.2.2.2.1 hK hP q0 hq hc k hk (C.1.2.2.2.2 _ hlink) (fun x h => by rw [← href]; exact h) hv hd (kk H locs ls hb hS hl)
theorem J_aald (C : jC X cc nL own fr lo) (hK : va_K G.1 G.2.1 G.2.2.1 X.s) (hB : ∀ H, B H → zP G K H) {a t0 n : Nat} {cA : ClassId} {CN : String} {g : Nat → Option Nat} {i : Int32} (ha : a ∈ G.2.2.2) (hm : ∀ f, K f → f a = .inl (cA, n, .inr (.inr (.inr (.inr g))))) (ht : G.2.2.1[t0]? = some (cA, .object CN)) (hin : vp_in i n) (hd : decode cc pc = .ok (.aaload, 1)) (kk : J X A nL Q B (pc + 1) lv (va_rf (g i.toNatClampNeg) :: st)) : J X A nL Q B pc lv (.int i :: .ref a :: st) := fun H locs ls hb hS hl => by
  obtain ⟨f, hf, hP⟩ := hB H hb
  obtain ⟨q0, hq⟩ := va_pl_get (X := []) (f := f) ha
  rw [hm f hf] at hq
  exact va_aldq C.1.1 C.1.2.1 hK hP q0 t0 hq ht hin hd (kk H locs ls hb hS hl)
theorem jBack {H : Heap} {locs : List Loc} {ls : Array Slot} {A1 : Nat → Prop} (hA : ∀ q, A1 q → A q) (hS : va_S A X.s.heap H locs) (hl : lv_has ls nL lv) {P : State → Prop}
    (hr : va_Run X.1 X.2.1 X.2.2.1 X.2.2.2.1 X.2.2.2.2.1 X.2.2.2.2.2.1 X.2.2.2.2.2.2.1 X.2.2.2.2.2.2.2.1 X.2.2.2.2.2.2.2.2.1 X.2.2.2.2.2.2.2.2.2.1 H locs X.2.2.2.2.2.2.2.2.2.2.1 X.2.2.2.2.2.2.2.2.2.2.2 mc' ms' (F0 X.m pc ls st) rest (fun s0 oc t => (oc = .returned w ∧ P t) ∧ va_F A1 s0 t) A1)
    (hP : ∀ t H', t.heap = H' → P t → H.size ≤ H'.size → H'.size ≤ X.s.heap.size + (X.cells + mc') → (∀ q, q < H.size → ¬ A1 q → H'[q]? = H[q]?) → B' H')
    (k : J (X.more mc' ms') A nL Q B' (pc + 3) lv (w.toList ++ rest)) : zW X H locs Q (F0 X.m pc ls st) := by
  intro T hT XX
  obtain ⟨v, st₀, t, T', L, h0, X', hL, e1, e2, ⟨⟨hv, hp⟩, hz, hk⟩, stp⟩ := hr T hT XX
  cases hv
  rw [h0] at hz hk
  have hS' : va_S A X.s.heap T'.heap (locs ++ L) := ⟨Nat.le_trans hS.1 (by rw [e1]; exact hz), fun q h1 h2 => by
      rw [e1, hk q (Nat.lt_of_lt_of_le h1 hS.1) (fun z => h2 (hA q z))]; exact hS.2.1 q h1 h2, fun q hq => by
      rcases List.mem_append.mp hq with h | h
      · exact hS.2.2 q h
      · exact hA _ (hL q h)⟩
  obtain ⟨t2, a1, b1⟩ := k T'.heap (locs ++ L) ls (hP t _ e1.symm hp (by rw [e1]; exact hz) X'.heapSize (fun q h1 h2 => by rw [e1]; exact hk q h1 h2)) hS' hl T' rfl X'
  exact ⟨t2, stp t2 a1, b1⟩
theorem J_callV (C : jC X cc nL own fr lo) (hK : va_K G.1 G.2.1 G.2.2.1 X.s) (hN : G.2.2.2.Nodup) (hA : ∀ q ∈ G.2.2.2, A q) (hB : ∀ H, B H → zP G K H) (hB' : ∀ H H', B H → H.size ≤ H'.size → (∀ q, q < H.size → q ∉ G.2.2.2 → H'[q]? = H[q]?) → zP G K' H' → B' H')
    (mi : zMi y bytes maxL ret n) (hlk : Cond.methodLink own index y ∈ zT) (hM : zF X.l y bytes maxL ret fr' lo' G (.ref b :: As) K w K') (hle : fr' + 1 ≤ fr ∧ 19 + maxL + lo' ≤ lo)
    {ci N : Nat} {T : u_T} {fs : List Value} (hb : b ∈ G.2.2.2) (hm : ∀ f, K f → f b = .inr (ci, fs)) (hcl : G.2.1[ci]? = some (y.cls, T, N)) (hn : As.length = n) (hst : st = As.reverse ++ .ref b :: rest) (hrm : (rest.map fun v => v.category).sum ≤ 8) (hd : decode cc pc = .ok (.invokevirtual index, 3))
    (k : J X A nL Q B' (pc + 3) lv (w.toList ++ rest)) : J X A nL Q B pc lv st := by
  intro H locs ls hbb hS hl
  obtain ⟨f, hf, hP⟩ := hB H hbb
  have Cz : zC X G A cc nL own fr lo := C.z hK hN hA
  obtain ⟨q0, hq⟩ := va_pl_get (X := []) (f := f) hb
  rw [hm f hf] at hq
  have hcw := zCB Cz mi.2.2.1 mi.2.2.2.1 mi.2.2.2.2.1 mi.2.2.2.2.2 hlk hle
  exact jBack (mc' := 0) (ms' := 0) (P := zPre G K') hA hS hl (va_runV (As := As) (rest := rest) Cz.1 hM ⟨hcw, Cz.1.2.2.2.2 _ mi.1, Cz.1.2.2.2.2 _ mi.2.1⟩ ⟨zPre.blind, va_recv hK hP hcl hq, zPre.at Cz hf hP⟩ rfl hn hl.1 hst (lv_room hrm) hd ⟨Cz.2.2.2.2.2.1, Cz.2.2.2.2.2.2.1⟩)
    (fun t H' ht hp h1 _ h2 => hB' H H' hbb h1 h2 (by obtain ⟨⟨f', q1, q2⟩, -⟩ := hp; exact ⟨f', q1, by rw [← ht]; exact q2⟩)) k
theorem J_callS (C : jC X cc nL own fr lo) (hK : va_K G.1 G.2.1 G.2.2.1 X.s) (hN : G.2.2.2.Nodup) (hA : ∀ q ∈ G.2.2.2, A q) (hB : ∀ H, B H → zP G K H) (hB' : ∀ H H', B H → H.size ≤ H'.size → (∀ q, q < H.size → q ∉ G.2.2.2 → H'[q]? = H[q]?) → zP G K' H' → B' H')
    (mi : zMs y bytes maxL ret n) (hlk : Cond.methodLink own index y ∈ zT) (hM : zF X.l y bytes maxL ret fr' lo' G As K w K') (hle : fr' + 1 ≤ fr ∧ 19 + maxL + lo' ≤ lo)
    (hn : As.length = n) (hst : st = As.reverse ++ rest) (hrm : (rest.map fun v => v.category).sum ≤ 8) (hd : decode cc pc = .ok (.invokestatic index, 3))
    (k : J X A nL Q B' (pc + 3) lv (w.toList ++ rest)) : J X A nL Q B pc lv st := by
  intro H locs ls hbb hS hl
  obtain ⟨f, hf, hP⟩ := hB H hbb
  have Cz : zC X G A cc nL own fr lo := C.z hK hN hA
  have hcw := zCB Cz mi.2.1 mi.2.2.1 mi.2.2.2.1 mi.2.2.2.2 hlk hle
  exact jBack (mc' := 0) (ms' := 0) (P := zPre G K') hA hS hl (va_runS (As := As) (rest := rest) Cz.1 hM ⟨hcw, Cz.1.2.2.2.2 _ mi.1⟩ ⟨zPre.blind, zPre.at Cz hf hP⟩ rfl hn hl.1 hst (lv_room hrm) hd ⟨Cz.2.2.2.2.2.1, Cz.2.2.2.2.2.2.1⟩)
    (fun t H' ht hp h1 _ h2 => hB' H H' hbb h1 h2 (by obtain ⟨⟨f', q1, q2⟩, -⟩ := hp; exact ⟨f', q1, by rw [← ht]; exact q2⟩)) k
/-- a static method that touches no cell -/
abbrev zG0 (G : zG) : zG := (G.1, [], [], [])
theorem zG0_K (G : zG) (s : State) : va_K (zG0 G).1 (zG0 G).2.1 (zG0 G).2.2.1 s := ⟨fun c q h => by simp at h, fun c q h => by simp at h⟩
theorem zG0_P (G : zG) (H : Heap) : zP (zG0 G) (fun _ => True) H := ⟨fun _ => .inr (0, []), trivial, fun k q h => by simp [va_pl] at h⟩
theorem J_callP (C : jC X cc nL own fr lo) (hB : ∀ H H', B H → H.size ≤ H'.size → (∀ q, q < H.size → H'[q]? = H[q]?) → B H') (mi : zMs y bytes maxL ret n) (hlk : Cond.methodLink own index y ∈ zT) (hM : zF X.l y bytes maxL ret fr' lo' (zG0 G) As (fun _ => True) w (fun _ => True)) (hle : fr' + 1 ≤ fr ∧ 19 + maxL + lo' ≤ lo)
    (hn : As.length = n) (hst : st = As.reverse ++ rest) (hrm : (rest.map fun v => v.category).sum ≤ 8) (hd : decode cc pc = .ok (.invokestatic index, 3))
    (k : J X A nL Q B (pc + 3) lv (w.toList ++ rest)) : J X A nL Q B pc lv st :=
  J_callS (G := zG0 G) C (zG0_K G _) List.nodup_nil (fun q h => by cases h) (fun H _ => zG0_P G H) (fun H H' h1 h2 h3 _ => hB H H' h1 h2 (fun q hq => h3 q hq (by simp))) mi hlk hM hle hn hst hrm hd k
/-! a call that throws, caught in the caller's own method -/
theorem J_callT {Bp : State → Prop} {E name : String} {cT : ClassId} (C : jC X cc nL own fr lo) (mi : zMi y bytes maxL ret n) (hlk : Cond.methodLink own index y ∈ zT) (hM : zTh X.l y bytes maxL ret fr' lo' (.ref b :: As) Bp E) (hle : fr' + 1 ≤ fr ∧ 19 + maxL + lo' ≤ lo) (hrc : X.cells + 1 ≤ X.R.cells ∧ X.slots + 6 ≤ X.R.slots)
    (hrecv : ∀ H, B H → ∃ cell : Cell, H[b]? = some cell ∧ cell.vm.isStatics = false ∧ X.s.vm.findClass y.cls = some cell.cls) (hbl : ∀ U g mk a, Bp U → Bp (U.calling g mk a)) (hp : ∀ U : State, B U.heap → X.s.WarmedH U.vm → (∀ q, q < X.s.heap.size → ¬ A q → U.heap[q]? = X.s.heap[q]?) → Bp U)
    (hok : tOk X.s X.s.heap) (hst0 : ∀ (a : Nat) (cell : Cell), X.s.heap[a]? = some cell → cell.vm.isStatics = true → ¬ A a) (hB' : ∀ H H', B H → H.size ≤ H'.size → (∀ q, q < H.size → H'[q]? = H[q]?) → B' H')
    (pre : List hEn) (x : ExceptionTableEntry) (tail : List ExceptionTableEntry) (hsplit : X.c.exceptionTable.toList = pre.map (·.1) ++ x :: tail)
    (hpre : ∀ z ∈ pre, covers z.1 pc = true ∧ z.1.catchType ≠ 0 ∧ Cond.classLink own z.1.catchType z.2 ∈ zT ∧ ∃ cY, X.s.vm.findClass z.2 = some cY ∧ ∀ cE, X.s.vm.findClass E = some cE → X.s.vm.assignable cE cY = false)
    (hx : covers x pc = true) (h0 : x.catchType ≠ 0) (hxl : Cond.classLink own x.catchType name ∈ zT) (hcT : X.s.vm.findClass name = some cT) (hfit : ∀ cE, X.s.vm.findClass E = some cE → X.s.vm.assignable cE cT = true)
    (hn : As.length = n) (hst : st = As.reverse ++ .ref b :: rest) (hrm : (rest.map fun v => v.category).sum ≤ 8) (hd : decode cc pc = .ok (.invokevirtual index, 3))
    (k : ∀ q : Nat, J (X.more 1 6) A nL Q B' x.handlerPc lv [.ref q]) : J X A nL Q B pc lv st := by
  intro H locs ls hbb hS hl T hT XX
  obtain ⟨hxx, hb, hml, hown, hts⟩ := C.1
  have good : ∀ w ∈ zWs y bytes maxL ret, w ∈ zT ∧ ((w.onTables && w.keeps) = true ∨ ∃ ty, w = .arrayClass ty) := by
    intro w hw
    have h1 : w ∈ zT := by
      rcases List.mem_cons.mp hw with h | h
      · rw [h]; exact mi.2.2.2.1
      · exact h
    exact ⟨h1, good_of_word (List.mem_filter.mp h1).2⟩
  have hcb : CallB X.R X.s X.args own index y bytes maxL ret (zWs y bytes maxL ret) (iRm fr' lo' 1 6) 1 6 n := by
    have e1 := C.2.2.2.2.1
    have e2 := C.2.2.2.2.2
    refine ⟨rfl, rfl, ?_, ?_, pay_in hts good, List.mem_cons_self, hts _ mi.2.2.2.1, hts _ mi.2.2.1, mi.2.2.2.2.1, fun sig h => ?_, hts _ hlk⟩
    · show fr' + 1 ≤ _; omega
    · show 8 + (maxL + 11) + lo' ≤ _; omega
    · have h2 := mi.2.2.2.2.2
      rw [h] at h2
      exact (Option.some.inj h2).symm
  obtain ⟨mk, methM, hnamed, hmethM, hstM, habM⟩ := Cond.instanceMethod_spec (hts _ mi.1)
  obtain ⟨methM', cM, hmethM', -, -, -, -, -, -, hsigM⟩ := Cond.code_spec hnamed (hts _ mi.2.2.2.1)
  cases hmethM.symm.trans hmethM'
  obtain ⟨c2, r2, m2, q1, q2, q3, q4, kP, hkP, hkPi⟩ := Cond.selects_spec (hts _ mi.2.1)
  obtain ⟨cellB, hcB, hoB, hclB⟩ := hrecv H hbb
  cases hclB.symm.trans q1
  cases (State.methodFound?_of_named hnamed mi.2.2.2.2.1).symm.trans q2
  cases hnamed.symm.trans q3
  have hselP : selectMethod X.e.platform X.s.vm cellB.cls mk = .method mk := by rw [Launch.admits_selectMethod XX.admits]; exact q4
  obtain ⟨vm₁, X₁, hstep₁⟩ := XX.invokevirtual hxx hown (hts _ hlk) hnamed hmethM hstM hkP hkPi mi.2.2.2.2.1 (a := b) (cell := cellB) (by rw [hT]; exact hcB)
    (fun z h => by rw [h] at hoB; cases hoB) hselP hmethM habM hkP hkPi (g := F0 X.m pc ls st) rfl (argsL := As) (rest := rest) (hn.trans (hcb.2.2.2.2.2.2.2.2.2.1 _ hsigM)) hst (by rw [hb]; exact hd)
  have hkeep : ∀ (a : Nat) (cell : Cell), X.s.heap[a]? = some cell → cell.vm.isStatics = true → H[a]? = X.s.heap[a]? := fun a cell h1 h2 => hS.2.1 a (Array.getElem?_eq_some_iff.mp h1).1 (hst0 a cell h1 h2)
  have hTH : (T.setVm vm₁).heap = H := hT
  have hbl' : FrameBlind (va_Pc (.ref b :: As) (fun U => Bp U ∧ tOk U U.heap)) := fun a U g mk q => by
    obtain ⟨z0, z1, z2⟩ := q
    exact ⟨z0, hbl _ _ _ _ z1, tOk.same (s := U) (U := U.calling g mk a) (H := U.heap) rfl z2⟩
  obtain ⟨a, st₀, t, T', L, g0, X', hL, e1, e2, ⟨⟨r1, ce, r2, r3, r4⟩, r5, r6⟩, hsteps⟩ := callT hcb hM hbl' X₁ (g := { F0 X.m pc ls st with stack := rest }) rfl (hl.1.trans hml.symm) (by rw [hb]; exact hd) (lv_room hrm) (X₁.named hnamed) (a := (Value.ref b :: As).toArray)
    ⟨hrc.1, hrc.2, rfl, hp _ (by rw [hTH]; exact hbb) X₁.warmed (by rw [hTH]; exact hS.2.1), by rw [hTH]; exact (hok.warm X₁.warmed).kept hkeep⟩
  have hL0 : L = [] := by
    cases L with
    | nil => rfl
    | cons z zs => exact (hL z List.mem_cons_self).elim
  subst hL0
  rw [g0, hTH] at r1 r5 r6
  have hE : X.s.vm.findClass E = some ce.cls := by rw [← X'.warmed.alike.findClass, e2]; exact r4
  obtain ⟨vm', X2, hcaught⟩ := hd_caught X' (a := a) (g := { F0 X.m pc ls st with stack := rest }) rfl hown (by rw [e1]; exact r2) r3 pre x name tail (cT := cT) hsplit
    (fun z hz => by obtain ⟨z1, z2, z3, cY, z4, z5⟩ := hpre z hz; exact ⟨z1, z2, hts _ z3, cY, z4, z5 _ hE⟩) hx h0 (hts _ hxl) hcT (hfit _ hE)
  have hS' : va_S A X.s.heap T'.heap (locs ++ []) := by
    rw [List.append_nil]
    exact ⟨Nat.le_trans hS.1 (by rw [e1]; exact r5), fun q h1 h2 => by rw [e1, r6 q (Nat.lt_of_lt_of_le h1 hS.1)]; exact hS.2.1 q h1 h2, hS.2.2⟩
  obtain ⟨t2, a1, b1⟩ := k a T'.heap (locs ++ []) ls (hB' H T'.heap hbb (by rw [e1]; exact r5) (fun q hq => by rw [e1]; exact r6 q hq)) hS' hl (T'.setVm vm') rfl X2
  exact ⟨t2, hstep₁ _ (fun acts => by rw [doInvoke_state]; exact hsteps.trans (hcaught _ a1)), b1⟩
/-! methods with handlers of their own -/
abbrev wWs (y : MethodName) (cc : ByteArray) (nL : Nat) (ret : Option FieldType) (hs : List (Nat × Nat × Nat × Nat)) : List Cond := Cond.codeWith y cc nL ret hs :: zT
def mkEn (t : Nat × Nat × Nat × Nat) : ExceptionTableEntry := { startPc := t.1, endPc := t.2.1, handlerPc := t.2.2.1, catchType := t.2.2.2 }
theorem mkEn_list {es : List ExceptionTableEntry} {hs : List (Nat × Nat × Nat × Nat)} (h : es.map (fun h => (h.startPc, h.endPc, h.handlerPc, h.catchType)) = hs) : es = hs.map mkEn := by
  rw [← h, List.map_map]
  have : (mkEn ∘ fun h : ExceptionTableEntry => (h.startPc, h.endPc, h.handlerPc, h.catchType)) = id := by
    funext x
    cases x
    rfl
  rw [this, List.map_id]
/-- static method y with handlers: from B (and what exceptions need) it answers w, the heap has B', only cells of A1 and new ones changed -/
def wPost (w : Option Value) (A1 : Nat → Prop) (B : Heap → Prop) : Array Value → State → Outcome → State → Prop := fun _ s0 oc t => (oc = .returned w ∧ B t.heap) ∧ va_F A1 s0 t
def wF (l : Launch) (y : MethodName) (cc : ByteArray) (nL : Nat) (ret : Option FieldType) (hs : List (Nat × Nat × Nat × Nat)) (fr lo : Nat) (As : List Value) (Bs : State → Prop) (A1 : Nat → Prop) (w : Option Value) (B' : Heap → Prop) : Prop :=
  Met l y (wWs y cc nL ret hs) (iRm fr lo 1 6) (va_Pc As (fun U => Bs U ∧ tOk U U.heap)) (wPost w A1 B') 1 6 A1
abbrev wQ (X : zX) (w : Option Value) (A1 : Nat → Prop) (B : Heap → Prop) : State → Prop := MQ X.below (wPost w A1 B) X.args X.s 1 6 A1
def wC' (X : zX) (hs : List (Nat × Nat × Nat × Nat)) : Prop := zN X ∧ X.c.exceptionTable.toList = hs.map mkEn ∧ tOk X.s X.s.heap ∧ (X.R.cells = 1 ∧ X.R.slots = 6)
theorem wF.ofJ {l : Launch} {hs : List (Nat × Nat × Nat × Nat)} {Bs : State → Prop} {A1 : Nat → Prop} (hy : plainName y.cls = true) (hE : (lg_sl As).length ≤ nL) (hB : ∀ U, Bs U → B U.heap)
    (body : ∀ X : zX, X.l = l → X.meth.sig.returnType = ret → jC X cc nL y.cls fr lo → wC' X hs → Bs X.s → J X A1 nL (wQ X w A1 B') B 0 (lv_args 0 As) []) : wF l y cc nL ret hs fr lo As Bs A1 w B' := by
  unfold wF Met
  refine MetFree.of_bodyS (code := cc) (maxLocals := nL) (ret := ret) hy ?_ ?_
  · intro args s m h hn
    obtain ⟨m', meth, c, h0, h1, h2, h3, h4, -, h5, h6, -⟩ := Cond.codeWith_spec (atoms_spec (ws := wWs y cc nL ret hs) h _ List.mem_cons_self)
    cases hn.symm.trans h0
    exact ⟨meth, c, h1, h2, h3, h4, h5, h6⟩
  · intro p e s m args below meth c s₁ Bd hml hP _
    obtain ⟨rfl, hks, hok⟩ := hP
    have hh0 : s₁.heap = s.heap := by rw [Bd.state]; rfl
    have hts := atoms_spec (ws := wWs y cc nL ret hs) Bd.pre
    have hown : s.vm.findClass y.cls = some m.cls := findClass_of_methodNamed Bd.named
    have hent := lv_entry As (n := nL) hE
    obtain ⟨m', meth', c', h0, h1, h2, h3, h4, h7, h5, h6, -⟩ := Cond.codeWith_spec (hts _ List.mem_cons_self)
    cases Bd.named.symm.trans h0
    cases Bd.method.symm.trans h1
    cases (Stand.of_body Bd).code.symm.trans h2
    have K := body (p, l, e, (headSpec (wWs y cc nL ret hs) (iRm fr lo 1 6)).room, s, m, As.toArray, below, meth, c, 0, 0) rfl Bd.returns ⟨⟨Bd.exec, Bd.bytes, hml, hown, fun w h => hts w (List.mem_cons_of_mem _ h)⟩, Bd.notSynchronized, Nat.zero_le _, Nat.zero_le _, Nat.le_refl _, Nat.le_refl _⟩ ⟨⟨rfl, rfl⟩, mkEn_list h7, hok, rfl, rfl⟩ hks s.heap [] _ (hB s hks) va_S.rf hent
    rw [lg_entry_eq]
    obtain ⟨t, a1, o, b1, b2, b3⟩ := K s₁ hh0 (Stand.of_body Bd)
    exact ⟨t, o, a1, b1, b2, ⟨b3.1, b3.2⟩⟩
/-- the answer of a method with handlers: nothing made, or one exception -/
theorem J_wret {A1 : Nat → Prop} {v : Int32} (C : jC X cc nL own fr lo) (hc : X.cells ≤ 1 ∧ X.slots ≤ 6) (hr : X.meth.sig.returnType = some .int) (hd : decode cc pc = .ok (.ireturn, 1)) (hw : w = some (.int v)) (hB : ∀ H, B H → B' H) : J X A1 nL (wQ X w A1 B') B pc lv [.int v] := by
  subst hw
  intro H locs ls hb hS hl
  obtain ⟨p, l, e, R, s, m, args, below, meth, c, n1, n2⟩ := X
  refine W.widen (k := 1) (n := 6) hc.1 hc.2 ?_
  exact W.iret C.1.1 C.1.2.1 hr (fun t ht hW => ⟨⟨rfl, by rw [ht]; exact hB H hb⟩, hS.F ht⟩) hS.2.2 hd C.2.1
end JM
