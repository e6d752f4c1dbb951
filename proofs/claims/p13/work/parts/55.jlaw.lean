/-! J: the law's own calls: a wrapper, a constructor; new; the script -/
section JL
variable {X : zX} {G : zG} {A : Nat → Prop} {nL : Nat} {Q : State → Prop} {B B' : Heap → Prop} {K K' : zK} {pc : Nat} {lv : List (Nat × Value)} {st rest As : List Value} {cc bytes : ByteArray} {own : String} {fr lo fr' lo' mc' ms' : Nat} {y : MethodName} {w : Option Value} {n b index maxL : Nat} {ret : Option FieldType}
theorem jC.more (C : jC X cc nL own fr lo) {i j : Nat} (h : X.cells + i ≤ X.R.cells ∧ X.slots + j ≤ X.R.slots) : jC (X.more i j) cc nL own fr lo := ⟨C.1, C.2.1, h.1, h.2, C.2.2.2.2.1, C.2.2.2.2.2⟩
/-- a call that returns, of a method whose code the words say in whatever way -/
theorem callR {p : Program} {l : Launch} {e : Env} {R : Room} {s : State} {m : MethodId} {args : Array Value} {below : List Frame} {meth : Method} {c : Code} {T : State} {locs : List Loc} {cells slots : Nat} {ws : List Cond} {rm : Room} {Pc : Array Value → State → Prop} {Qc : Array Value → State → Outcome → State → Prop} {free : Addr → Prop}
    (hM : Met l y ws rm Pc Qc rm.cells rm.slots free) (hbl : FrameBlind Pc) (X : Stand p l e R s m args below meth c T locs cells slots) (hfr : rm.frames + 1 ≤ R.frames) (hlo : 8 + (maxL + 11) + rm.locals ≤ R.locals) (hws : ∀ w ∈ ws, ∀ (a' : Array Value) (U : State), s.WarmedH U.vm → w.before a' U = true) (hini : (Cond.initialized y.cls).before args s = true)
    {g : JFrame} (hg : g.method = m) (hsize : g.locals.size = c.maxLocals) {ig : Instr} {len : Nat} (hdg : decode c.code g.pc = .ok (ig, len)) (hW : 2 * g.monitorRoom + (g.stack.map fun v => v.category).sum ≤ 8)
    {mk : MethodId} (hn : T.methodNamed? y = some mk) {methY : Method} {cY : Code} (hmY : T.vm.method? mk = some methY) (hcY : methY.code = some cY) (hlY : cY.maxLocals = maxL) {a : Array Value} (hp : cells + rm.cells ≤ R.cells ∧ slots + rm.slots ≤ R.slots ∧ Pc a T) :
    ∃ (v : Option Value) (st₀ t T' : State) (L : List Loc), st₀.heap = T.heap ∧ Stand p l e R s m args below meth c T' (locs ++ L) (cells + rm.cells) (slots + rm.slots) ∧ (∀ q ∈ L, free q.base) ∧ T'.heap = t.heap ∧ T'.vm = t.vm ∧ Qc a st₀ (.returned v) t ∧
      Steps p.tables e below (doInvoke e (T.setTop g) [] mk a).1 (T'.setTop { g with pc := g.pc + len, stack := v.toList ++ g.stack }) := by
  have h1 : (headSpec ws rm).pre.before a T = true := atoms_intro fun w hw => hws w hw _ _ X.warmed
  have h3 : (Cond.initialized y.cls).before a T = true := word_at X.warmed (Or.inl (by first | rfl | simp [Cond.onTables, Cond.keeps, Cond.steady])) hini
  obtain ⟨kY, hkY, -⟩ := className_of_methodNamed hn
  have hinitY : kY.init = .initialized := Cond.initialized_spec (findClass_of_methodNamed hn) hkY h3
  have h : At T g.method c below := by rw [hg]; exact X.here
  have happ : (headSpec ws rm).appliesLoose y e.platform (T.calling g mk a) = true :=
    Spec.appliesLoose_calling (g := g) h hdg hn hkY hinitY
      (X.room_calling (g := g) (R' := rm) hsize hmY hcY hfr (by rw [hlY]; omega) hp.1 hp.2.1) h1
  obtain ⟨mid, hmid⟩ := h.above
  have hfr2 : (T.setTop g).frames = (.java g :: mid) ++ below := by rw [State.frames_setTop' g h.top, hmid]; rfl
  obtain ⟨o, s₂, hsteps, -, hend, hq⟩ := Steps.callFree hM p X.admits X.cas X.clock (acts := []) hfr2 happ (hbl _ _ _ _ hp.2.2) trivial
  rw [State.frames_setTop' g h.top, X.tail] at hend
  obtain ⟨hq, L, ⟨⟨v, rfl⟩, hW2, hsame⟩, hL⟩ := hq
  obtain ⟨T', X', hWT, hsameT, ht⟩ := X.outOf hg hdg hend hW2 hsame
  refine ⟨v, T.calling g mk a, s₂, T', L, rfl, X', hL, ?_, ?_, hq, ?_⟩
  · rw [ht]; rfl
  · rw [ht]; rfl
  · rw [← ht]; exact hsteps
theorem J_callW {hs : List (Nat × Nat × Nat × Nat)} {Bs : State → Prop} {A1 : Nat → Prop} {Bw' : Heap → Prop} (C : jC X cc nL own fr lo) (hlk : Cond.methodLink own index y ∈ zT) (h1 : Cond.static y ∈ zT) (h2 : Cond.initialized y.cls ∈ zT) (h3 : Cond.codeWith y bytes maxL ret hs ∈ zT) (hy : y.cls ≠ "java/lang/invoke/MethodHandle" ∧ y.cls ≠ "java/lang/invoke/VarHandle") (hnp : (parseMethodDescriptor y.desc).map (fun d => d.parameters.length) = some n)
    (hM : wF X.l y bytes maxL ret hs fr' lo' As Bs A1 w Bw') (hle : fr' + 1 ≤ fr ∧ 19 + maxL + lo' ≤ lo) (hrc : X.cells + 1 ≤ X.R.cells ∧ X.slots + 6 ≤ X.R.slots) (hbl : ∀ U g mk a, Bs U → Bs (U.calling g mk a)) (hBs : ∀ U : State, B U.heap → X.s.WarmedH U.vm → (∀ q, q < X.s.heap.size → ¬ A q → U.heap[q]? = X.s.heap[q]?) → Bs U) (hok : tOk X.s X.s.heap) (hst0 : ∀ (a : Nat) (cell : Cell), X.s.heap[a]? = some cell → cell.vm.isStatics = true → ¬ A a)
    (hA : ∀ q, A1 q → A q) (hB' : ∀ H H', B H → H.size ≤ H'.size → (∀ q, q < H.size → ¬ A1 q → H'[q]? = H[q]?) → Bw' H' → B' H')
    (hn : As.length = n) (hst : st = As.reverse ++ rest) (hrm : (rest.map fun v => v.category).sum ≤ 8) (hd : decode cc pc = .ok (.invokestatic index, 3))
    (k : J (X.more 1 6) A nL Q B' (pc + 3) lv (w.toList ++ rest)) : J X A nL Q B pc lv st := by
  intro H locs ls hbb hS hl T hT XX
  obtain ⟨hxx, hb, hml, hown, hts⟩ := C.1
  obtain ⟨mk, methM, cM, hnamed, hmethM, hcM, -, hlM, -, -, -, hsigM⟩ := Cond.codeWith_spec (hts _ h3)
  have hstatic : methM.isStatic = true := Cond.static_spec hnamed hmethM (hts _ h1)
  obtain ⟨kP, hkP, -⟩ := className_of_methodNamed hnamed
  have hinitP : kP.init = .initialized := Cond.initialized_spec (findClass_of_methodNamed hnamed) hkP (hts _ h2)
  have hlen : As.length = methM.sig.parameters.length := by
    have h4 := hnp
    rw [hsigM] at h4
    rw [hn]
    exact (Option.some.inj h4).symm
  obtain ⟨vm₁, X₁, hstep₁⟩ := XX.invokestatic hxx hown (hts _ hlk) hnamed hmethM hstatic hkP hinitP hy (g := F0 X.m pc ls st) rfl (argsL := As) (rest := rest) hlen hst (by rw [hb]; exact hd)
  have hkeep : ∀ (a : Nat) (cell : Cell), X.s.heap[a]? = some cell → cell.vm.isStatics = true → H[a]? = X.s.heap[a]? := fun a cell g1 g2 => hS.2.1 a (Array.getElem?_eq_some_iff.mp g1).1 (hst0 a cell g1 g2)
  have hTH : (T.setVm vm₁).heap = H := hT
  have good : ∀ w ∈ wWs y bytes maxL ret hs, w ∈ zT ∧ ((w.onTables && w.keeps) = true ∨ ∃ ty, w = .arrayClass ty) := by
    intro w hw
    have h1 : w ∈ zT := by
      rcases List.mem_cons.mp hw with h | h
      · rw [h]; exact h3
      · exact h
    exact ⟨h1, good_of_word (List.mem_filter.mp h1).2⟩
  have hmT : (T.setVm vm₁).vm.method? mk = some methM := by
    rw [X₁.warmed.alike.method?]; exact hmethM
  obtain ⟨v, st₀, t, T', L, g0, X', hL, e1, e2, ⟨⟨r0, r1⟩, r5, r6⟩, hsteps⟩ := callR (rm := iRm fr' lo' 1 6) (maxL := maxL) (Pc := va_Pc As (fun U => Bs U ∧ tOk U U.heap)) (Qc := wPost w A1 Bw') (free := A1) hM
    (fun a U g mk q => by obtain ⟨z0, z1, z3⟩ := q; exact ⟨z0, hbl _ _ _ _ z1, tOk.same (s := U) (U := U.calling g mk a) (H := U.heap) rfl z3⟩) X₁ (Nat.le_trans hle.1 C.2.2.2.2.1) (Nat.le_trans (show 8 + (maxL + 11) + lo' ≤ lo by have := hle.2; omega) C.2.2.2.2.2) (pay_in hts good) (hts _ h2)
    (g := { F0 X.m pc ls st with stack := rest }) rfl (hl.1.trans hml.symm) (by rw [hb]; exact hd) (lv_room hrm) (X₁.named hnamed) hmT hcM hlM (a := As.toArray) ⟨hrc.1, hrc.2, rfl, hBs _ (by rw [hTH]; exact hbb) X₁.warmed (by rw [hTH]; exact hS.2.1), by rw [hTH]; exact (hok.warm X₁.warmed).kept hkeep⟩
  cases r0
  rw [g0, hTH] at r5 r6
  have hS' : va_S A X.s.heap T'.heap (locs ++ L) := ⟨Nat.le_trans hS.1 (by rw [e1]; exact r5), fun q h1 h2 => by
      rw [e1, r6 q (Nat.lt_of_lt_of_le h1 hS.1) (fun z => h2 (hA q z))]; exact hS.2.1 q h1 h2, fun q hq => by
      rcases List.mem_append.mp hq with h | h
      · exact hS.2.2 q h
      · exact hA _ (hL q h)⟩
  obtain ⟨t2, a1, b1⟩ := k T'.heap (locs ++ L) ls (hB' H T'.heap hbb (by rw [e1]; exact r5) (fun q g1 g2 => by rw [e1]; exact r6 q g1 g2) (by rw [e1]; exact r1)) hS' hl T' rfl X'
  exact ⟨t2, hstep₁ _ (fun acts => by rw [doInvoke_state]; exact hsteps.trans a1), b1⟩
/-- a constructor's call: its pool grows -/
theorem J_callI {F F' : Nat → va_E} {a : Nat} (C : jC X cc nL own fr lo) (hK : va_K G.1 G.2.1 G.2.2.1 X.s) (hao : aOk X.s) (hsz : ∀ H, B H → H.size = b) (hXb : X.s.heap.size + X.cells = b) (hA : ∀ q, iA G b q → A q) (hB : ∀ H, B H → zP G (kE G.2.2.2 F) H) (hB' : ∀ H H', B H → H'.size = b + mc' → (∀ q, q < b → q ∉ G.2.2.2 → H'[q]? = H[q]?) → zP (G.ext b mc') (kE (G.ext b mc').2.2.2 F') H' → B' H') (hmc : 0 < mc')
    (mi : zMk y bytes maxL n) (hlk : Cond.methodLink own index y ∈ zT) (hM : iF X.l y bytes maxL fr' lo' mc' ms' G b (.ref a :: As) F F') (hle : fr' + 1 ≤ fr ∧ 19 + maxL + lo' ≤ lo) (hrc : X.cells + mc' ≤ X.R.cells ∧ X.slots + ms' ≤ X.R.slots)
    (hn : As.length = n) (hst : st = As.reverse ++ .ref a :: rest) (hrm : (rest.map fun v => v.category).sum ≤ 8) (hd : decode cc pc = .ok (.invokespecial index, 3))
    (k : J (X.more mc' ms') A nL Q B' (pc + 3) lv rest) : J X A nL Q B pc lv st := by
  intro H locs ls hbb hS hl
  obtain ⟨f, hf, hP⟩ := hB H hbb
  have hsH := hsz H hbb
  have hcw := iCB (mc' := mc') (ms' := ms') C.1 C.2.2.2.2.1 C.2.2.2.2.2 mi hlk hle
  exact jBack (w := none) (mc' := mc') (ms' := ms') (P := zPre (G.ext b mc') (kE (G.ext b mc').2.2.2 F')) hA hS hl (va_runI (As := As) (rest := rest) (b := a) C.1 hM ⟨hcw, mi.2.2.2.2.2, C.1.2.2.2.2 _ mi.1⟩ ⟨iPre.blind, fun U hU hW => ⟨rfl, by rw [hU]; exact hsH, ⟨⟨f, hf, by rw [hU]; exact hP⟩, va_K.moved hW.alike hK⟩, aOk.moved hW.alike hao⟩⟩ rfl hn hl.1 hst (lv_room hrm) hd hrc)
    (fun t H' ht hp h1 h4 h2 => by
      have hz : zP (G.ext b mc') (kE (G.ext b mc').2.2.2 F') H' := by obtain ⟨⟨f', q1, q2⟩, -⟩ := hp; exact ⟨f', q1, by rw [← ht]; exact q2⟩
      have h5 : b + mc' - 1 < H'.size := hz.lt _ (List.mem_append_right _ (List.mem_range'_1.mpr ⟨by omega, by omega⟩))
      exact hB' H H' hbb (by omega) (fun q g1 g2 => h2 q (by omega) (fun z => by rcases z with z | z; exact g2 z; omega)) hz) k
theorem J_new {q : Nat} {D : va_G} {cl : List vw_C} {tys : List (ClassId × FieldType)} (C : jC X cc nL own fr lo) (hK : va_K D cl tys X.s) {CN : String} {T : u_T} {N ci : Nat} {fs : List Value} (ty : Nat → FieldType) (hty : ∀ k, k < N → parseFieldDescriptor (T k).2.2.1 = some (ty k)) (hin : ∀ w ∈ u_ws CN T N, w ∈ zT) (hcl : Cond.classLink own index CN ∈ zT) (hinst : Cond.instantiable CN N ∈ zT) (hini : Cond.initialized CN ∈ zT) (hc : cl[ci]? = some (CN, T, N)) (hfs : ∀ j, j < N → defaultValue (ty j) = vp_V fs j) (hrc : X.cells + 1 ≤ X.R.cells ∧ X.slots + N ≤ X.R.slots) (hd : decode cc pc = .ok (.new index, 3))
    (hsz : ∀ H, B H → H.size = q) (hB' : ∀ H H', B H → H'.size = q + 1 → (∀ x, x < q → H'[x]? = H[x]?) → zP (D, cl, tys, [q]) (kE [q] (fun _ => .inr (ci, fs))) H' → B' H') (k : J (X.more 1 N) A nL Q B' (pc + 3) lv (.ref q :: st)) : J X A nL Q B pc lv st := by
  intro H locs ls hbb hS hl
  have hKn := hK.1 ci _ hc
  have hts := C.1.2.2.2.2
  have hsH := hsz H hbb
  refine W.newcK C.1.1 C.1.2.1 C.1.2.2.2.1 (hts _ hcl) (hts _ hinst) (hts _ hini) rfl hd hrc.1 hrc.2 hKn.2.1 hsH (fun H1 kC hkC e1 z1 o1 => ?_)
  refine k H1 locs ls (hB' H H1 hbb z1 o1 ⟨fun _ => .inr (ci, fs), fun a _ => rfl, fun j x hj => ?_⟩) ⟨Nat.le_trans hS.1 (by omega), fun x h1 h2 => (o1 x (by have : x < H.size := Nat.lt_of_lt_of_le h1 hS.1; omega)).trans (hS.2.1 x h1 h2), hS.2.2⟩ hl
  have hz : j < 1 := (List.getElem?_eq_some_iff.mp hj).1
  rw [show j = 0 by omega] at hj
  cases hj
  exact ⟨_, hc, (u_born ty hts hin hKn hkC e1 hty).to hfs⟩
theorem J_newa {q : Nat} {D : va_G} {cl : List vw_C} (C : jC X cc nL own fr lo) {atype : ArrayType} {ty : FieldType} (hty : newarray.typeOf atype = ty) (harr : Cond.arrayClass ty ∈ zT) {N' : Nat} {i : Int32} {a0 : vp_A} (hKc : va_K D cl [] X.s) (hob : ∀ C, ¬ ty = .object C) (ha : ∀ cA : ClassId, vp_cell cA a0 = arrV cA N' (fun _ => defaultValue ty)) (hn : ¬ i < 0) (hN : i.toNatClampNeg = N') (hbytes : N' * componentBytes ty ≤ 536870912) (hrc : X.cells + 1 ≤ X.R.cells ∧ X.slots + N' ≤ X.R.slots) (hd : decode cc pc = .ok (.newarray atype, 2))
    (hsz : ∀ H, B H → H.size = q) (k : ∀ cA, va_K D cl [(cA, ty)] X.s → J (X.more 1 N') A nL Q (fun H' => ∃ H, B H ∧ H'.size = q + 1 ∧ (∀ x, x < q → H'[x]? = H[x]?) ∧ zP (D, cl, [(cA, ty)], [q]) (kE [q] (fun _ => .inl (cA, a0))) H') (pc + 2) lv (.ref q :: st)) : J X A nL Q B pc lv (.int i :: st) := by
  intro H locs ls hbb hS hl
  have hts := C.1.2.2.2.2
  have hsH := hsz H hbb
  subst hty
  refine va_newaK C.1.1 C.1.2.1 (hts _ harr) rfl hd rfl hn hN hbytes hrc.1 hrc.2 hsH (fun H1 cA e1 z1 o1 hAr hNm => ?_)
  have hK1 : va_K D cl [(cA, newarray.typeOf atype)] X.s := ⟨hKc.1, fun j x hj => by
    have hz : j < 1 := (List.getElem?_eq_some_iff.mp hj).1
    rw [show j = 0 by omega] at hj
    cases hj
    refine ⟨hAr, ?_⟩
    revert hob hNm
    cases newarray.typeOf atype with
    | object C => intro hob; exact absurd rfl (hob C)
    | _ => intro _ h; exact h⟩
  refine k cA hK1 H1 locs ls ⟨H, hbb, z1, o1, fun _ => .inl (cA, a0), fun a _ => rfl, fun j x hj => ?_⟩ ⟨Nat.le_trans hS.1 (by omega), fun x h1 h2 => (o1 x (by have : x < H.size := Nat.lt_of_lt_of_le h1 hS.1; omega)).trans (hS.2.1 x h1 h2), hS.2.2⟩ hl
  have hz : j < 1 := (List.getElem?_eq_some_iff.mp hj).1
  rw [show j = 0 by omega] at hj
  cases hj
  show H1[q]? = some (vp_cell _ _)
  rw [ha]
  exact e1
theorem J_sld {bS L : Nat} {xs : Nat → Int32} {i : Int32} (C : jC X cc nL own fr lo) (hX : va_X bS L xs X.s X.s.heap) (hbl : bS < X.s.heap.size) (hbA : ¬ A bS) (hin : vp_in i L) (hd : decode cc pc = .ok (.iaload, 1)) (k : J X A nL Q B (pc + 1) lv (.int (xs i.toNatClampNeg) :: st)) : J X A nL Q B pc lv (.int i :: .ref bS :: st) := fun H locs ls hb hS hl =>
  va_sld C.1.1 C.1.2.1 hX hbl hbA hS hin hd (k H locs ls hb hS hl)
theorem J_slen {bS L : Nat} {xs : Nat → Int32} (C : jC X cc nL own fr lo) (hX : va_X bS L xs X.s X.s.heap) (hbl : bS < X.s.heap.size) (hbA : ¬ A bS) (hd : decode cc pc = .ok (.arraylength, 1)) (k : J X A nL Q B (pc + 1) lv (.int (Int32.ofNat L) :: st)) : J X A nL Q B pc lv (.ref bS :: st) := fun H locs ls hb hS hl =>
  va_slen C.1.1 C.1.2.1 hX hbl hbA hS hd (k H locs ls hb hS hl)
end JL
