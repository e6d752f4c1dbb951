/-! CONTRACTS: functional ones (a method over one pool: these arguments, this state: this answer, that state), returns and calls -/
def zPre (G : zG) (K : zK) (U : State) : Prop := (∃ f, K f ∧ va_P G.1 G.2.1 (va_pl G.2.2.2 f) U.heap) ∧ va_K G.1 G.2.1 G.2.2.1 U
abbrev zA (G : zG) : Nat → Prop := fun q => q ∈ G.2.2.2
def zPost (G : zG) (w : Option Value) (K : zK) : Array Value → State → Outcome → State → Prop := fun _ st oc t => (oc = .returned w ∧ zPre G K t) ∧ va_F (zA G) st t
abbrev zRm (fr lo : Nat) : Room := { frames := fr, cells := 0, slots := 0, locals := lo }
abbrev zWs (y : MethodName) (cc : ByteArray) (nL : Nat) (ret : Option FieldType) : List Cond := Cond.code y cc nL ret :: zT
/-- method y (its code, locals, kind of answer) called with As where the pool holds K: it answers w, the pool holds K' -/
def zF (l : Launch) (y : MethodName) (cc : ByteArray) (nL : Nat) (ret : Option FieldType) (fr lo : Nat) (G : zG) (As : List Value) (K : zK) (w : Option Value) (K' : zK) : Prop :=
  Met l y (zWs y cc nL ret) (zRm fr lo) (va_Pc As (zPre G K)) (zPost G w K') 0 0 (zA G)
def zQ (X : zX) (G : zG) (w : Option Value) (K : zK) : State → Prop := MQ X.2.2.2.2.2.2.2.1 (zPost G w K) X.args X.s 0 0 (zA G)
abbrev zX.l (X : zX) : Launch := X.2.1
def zN (X : zX) : Prop := X.2.2.2.2.2.2.2.2.2.2.1 = 0 ∧ X.2.2.2.2.2.2.2.2.2.2.2 = 0
/-- a contract out of a walk of the body -/
theorem zF.ofZ {l : Launch} {y : MethodName} {fr lo : Nat} {G : zG} {As : List Value} {K K' : zK} {w : Option Value} {cc : ByteArray} {nL : Nat} {ret : Option FieldType}
    (hy : plainName y.cls = true) (hL : G.2.2.2.Nodup) (hE : (lg_sl As).length ≤ nL)
    (body : ∀ X : zX, X.l = l → zN X → X.meth.sig.returnType = ret → zC X G (zA G) cc nL y.cls fr lo → Z X G (zA G) nL (zQ X G w K') K 0 (lv_args 0 As) []) : zF l y cc nL ret fr lo G As K w K' := by
  refine Met.ofW (cc := cc) (maxL := nL) (ret := ret) (ws' := zT) hy rfl ?_
  intro p e s m args below meth c s₁ B hml hv
  obtain ⟨rfl, ⟨f, hf, hP⟩, hK⟩ := hv
  have hts := atoms_spec (ws := zWs y cc nL ret) B.pre
  have hown : s.vm.findClass y.cls = some m.cls := findClass_of_methodNamed B.named
  have hl := lv_entry As (n := nL) hE
  rw [lg_entry_eq]
  exact body (p, l, e, (headSpec (zWs y cc nL ret) (zRm fr lo)).room, s, m, As.toArray, below, meth, c, 0, 0) rfl ⟨rfl, rfl⟩ B.returns ⟨⟨B.exec, B.bytes, hml, hown, fun w h => hts w (List.mem_cons_of_mem _ h)⟩, hK, hL, fun q h => h, B.notSynchronized, Nat.zero_le _, Nat.zero_le _, Nat.le_refl _, Nat.le_refl _⟩ f s.heap [] _ hf hP va_S.rf hl
section ZE
variable {X : zX} {G : zG} {nL : Nat} {K K' : zK} {w : Option Value} {pc : Nat} {lv : List (Nat × Value)} {cc : ByteArray} {own : String} {fr lo : Nat}
theorem Z_iret {v : Int32} (C : zC X G (zA G) cc nL own fr lo) (hN : zN X) (hr : X.meth.sig.returnType = some .int) (hd : decode cc pc = .ok (.ireturn, 1)) (hw : w = some (.int v)) (hK : ∀ f, K f → K' f) : Z X G (zA G) nL (zQ X G w K') K pc lv [.int v] := by
  subst hw
  intro f H locs ls hf hP hS hl
  obtain ⟨p, l, e, R, s, m, args, below, meth, c, n1, n2⟩ := X
  obtain ⟨h1, h2⟩ := hN
  dsimp only at h1 h2
  subst h1; subst h2
  exact W.iret C.1.1 C.1.2.1 hr (fun t ht hW => ⟨⟨rfl, ⟨f, hK f hf, by rw [ht]; exact hP⟩, va_K.moved hW.alike C.2.1⟩, hS.F ht⟩) hS.2.2 hd C.2.2.2.2.1
theorem Z_zret {v : Int32} {ty : FieldType} (C : zC X G (zA G) cc nL own fr lo) (hN : zN X) (hr : X.meth.sig.returnType = some ty) (hn : narrow ty (.int v) = .int v) (hd : decode cc pc = .ok (.ireturn, 1)) (hw : w = some (.int v)) (hK : ∀ f, K f → K' f) : Z X G (zA G) nL (zQ X G w K') K pc lv [.int v] := by
  subst hw
  intro f H locs ls hf hP hS hl
  obtain ⟨p, l, e, R, s, m, args, below, meth, c, n1, n2⟩ := X
  obtain ⟨h1, h2⟩ := hN
  dsimp only at h1 h2
  subst h1; subst h2
  exact W.zret C.1.1 C.1.2.1 hr hn (fun t ht hW => ⟨⟨rfl, ⟨f, hK f hf, by rw [ht]; exact hP⟩, va_K.moved hW.alike C.2.1⟩, hS.F ht⟩) hS.2.2 hd C.2.2.2.2.1
theorem Z_vret (C : zC X G (zA G) cc nL own fr lo) (hN : zN X) (hr : X.meth.sig.returnType = none) (hd : decode cc pc = .ok (.return_, 1)) (hw : w = none) (hK : ∀ f, K f → K' f) : Z X G (zA G) nL (zQ X G w K') K pc lv [] := by
  subst hw
  intro f H locs ls hf hP hS hl
  obtain ⟨p, l, e, R, s, m, args, below, meth, c, n1, n2⟩ := X
  obtain ⟨h1, h2⟩ := hN
  dsimp only at h1 h2
  subst h1; subst h2
  exact W.vret C.1.1 C.1.2.1 hr (fun t ht hW => ⟨⟨rfl, ⟨f, hK f hf, by rw [ht]; exact hP⟩, va_K.moved hW.alike C.2.1⟩, hS.F ht⟩) hS.2.2 hd C.2.2.2.2.1
theorem Z_aret {v : Value} {rt : FieldType} (C : zC X G (zA G) cc nL own fr lo) (hN : zN X) (hr : X.meth.sig.returnType = some rt) (hrt : (∃ n, rt = .object n) ∨ ∃ t, rt = .array t) (hv : v = .null ∨ ∃ a, v = .ref a) (hd : decode cc pc = .ok (.areturn, 1)) (hw : w = some v) (hK : ∀ f, K f → K' f) : Z X G (zA G) nL (zQ X G w K') K pc lv [v] := by
  subst hw
  intro f H locs ls hf hP hS hl
  obtain ⟨p, l, e, R, s, m, args, below, meth, c, n1, n2⟩ := X
  obtain ⟨h1, h2⟩ := hN
  dsimp only at h1 h2
  subst h1; subst h2
  exact W.aret C.1.1 C.1.2.1 hr hrt hv (fun t ht hW => ⟨⟨rfl, ⟨f, hK f hf, by rw [ht]; exact hP⟩, va_K.moved hW.alike C.2.1⟩, hS.F ht⟩) hS.2.2 hd C.2.2.2.2.1
end ZE
section ZCl
variable {X : zX} {G : zG} {A : Nat → Prop} {nL : Nat} {Q : State → Prop} {K K' : zK} {pc : Nat} {lv : List (Nat × Value)} {st rest As : List Value} {cc bytes : ByteArray} {own : String} {fr lo fr' lo' : Nat} {y : MethodName} {w : Option Value} {n b index maxL : Nat} {ret : Option FieldType}
theorem zPre.blind : FrameBlind (va_Pc As (zPre G K)) := fun a U g mk q => by
  obtain ⟨q0, q1, qK⟩ := q
  exact ⟨q0, q1, va_K.moved (u := U) (U := U.calling g mk a) (Vm.Alike.refl U.vm) qK⟩
theorem zPre.at {f : Nat → va_E} {H : Heap} (C : zC X G A cc nL own fr lo) (hf : K f) (hP : va_P G.1 G.2.1 (va_pl G.2.2.2 f) H) : ∀ U : State, U.heap = H → X.s.WarmedH U.vm → va_Pc As (zPre G K) As.toArray U :=
  fun U hU hW => ⟨rfl, ⟨f, hf, by rw [hU]; exact hP⟩, va_K.moved hW.alike C.2.1⟩
/-- behind the run of a call: the walk goes on with the callee's answer and state -/
theorem zBack (C : zC X G A cc nL own fr lo) {H : Heap} {locs : List Loc} {ls : Array Slot} {a : Array Value} (hS : va_S A X.s.heap H locs) (hl : lv_has ls nL lv)
    (hr : va_Run X.1 X.2.1 X.2.2.1 X.2.2.2.1 X.2.2.2.2.1 X.2.2.2.2.2.1 X.2.2.2.2.2.2.1 X.2.2.2.2.2.2.2.1 X.2.2.2.2.2.2.2.2.1 X.2.2.2.2.2.2.2.2.2.1 H locs X.2.2.2.2.2.2.2.2.2.2.1 X.2.2.2.2.2.2.2.2.2.2.2 0 0 (F0 X.m pc ls st) rest (zPost G w K' a) (zA G))
    (k : Z X G A nL Q K' (pc + 3) lv (w.toList ++ rest)) : zW X H locs Q (F0 X.m pc ls st) := by
  intro T hT XX
  obtain ⟨v, st₀, t, T', L, h0, X', hL, e1, e2, ⟨⟨hv, ⟨f', hf', hP'⟩, hK'⟩, hz, hk⟩, stp⟩ := hr T hT XX
  cases hv
  rw [h0] at hz hk
  have hS' : va_S A X.s.heap T'.heap (locs ++ L) := ⟨Nat.le_trans hS.1 (by rw [e1]; exact hz), fun q h1 h2 => by
      rw [e1, hk q (Nat.lt_of_lt_of_le h1 hS.1) (fun z => h2 (C.2.2.2.1 q z))]; exact hS.2.1 q h1 h2, fun q hq => by
      rcases List.mem_append.mp hq with h | h
      · exact hS.2.2 q h
      · exact C.2.2.2.1 _ (hL q h)⟩
  obtain ⟨t2, a1, b1⟩ := k f' T'.heap (locs ++ L) ls hf' (by rw [e1]; exact hP') hS' hl T' rfl X'
  exact ⟨t2, stp t2 a1, b1⟩
/-- what a call's words are, of an instance method; of a static one -/
def zMi (y : MethodName) (bytes : ByteArray) (maxL : Nat) (ret : Option FieldType) (n : Nat) : Prop :=
  Cond.instanceMethod y ∈ zT ∧ Cond.selects y.cls y y ∈ zT ∧ Cond.initialized y.cls ∈ zT ∧ Cond.code y bytes maxL ret ∈ zT ∧ (y.cls ≠ "java/lang/invoke/MethodHandle" ∧ y.cls ≠ "java/lang/invoke/VarHandle") ∧ (parseMethodDescriptor y.desc).map (fun d => d.parameters.length) = some n
def zMs (y : MethodName) (bytes : ByteArray) (maxL : Nat) (ret : Option FieldType) (n : Nat) : Prop :=
  Cond.static y ∈ zT ∧ Cond.initialized y.cls ∈ zT ∧ Cond.code y bytes maxL ret ∈ zT ∧ (y.cls ≠ "java/lang/invoke/MethodHandle" ∧ y.cls ≠ "java/lang/invoke/VarHandle") ∧ (parseMethodDescriptor y.desc).map (fun d => d.parameters.length) = some n
theorem zCB (C : zC X G A cc nL own fr lo) (hini : Cond.initialized y.cls ∈ zT) (hc : Cond.code y bytes maxL ret ∈ zT) (hy : y.cls ≠ "java/lang/invoke/MethodHandle" ∧ y.cls ≠ "java/lang/invoke/VarHandle") (hn : (parseMethodDescriptor y.desc).map (fun d => d.parameters.length) = some n) (hl : Cond.methodLink own index y ∈ zT) (hle : fr' + 1 ≤ fr ∧ 19 + maxL + lo' ≤ lo) :
    CallB X.R X.s X.args own index y bytes maxL ret (zWs y bytes maxL ret) (zRm fr' lo') 0 0 n := by
  have hts := C.1.2.2.2.2
  have good : ∀ w ∈ zWs y bytes maxL ret, w ∈ zT ∧ ((w.onTables && w.keeps) = true ∨ ∃ ty, w = .arrayClass ty) := by
    intro w hw
    have h1 : w ∈ zT := by
      rcases List.mem_cons.mp hw with h | h
      · rw [h]; exact hc
      · exact h
    exact ⟨h1, good_of_word (List.mem_filter.mp h1).2⟩
  have e1 := C.2.2.2.2.2.2.2.1
  have e2 := C.2.2.2.2.2.2.2.2
  refine ⟨rfl, rfl, ?_, ?_, pay_in hts good, List.mem_cons_self, hts _ hc, hts _ hini, hy, fun sig h => ?_, hts _ hl⟩
  · show fr' + 1 ≤ _; omega
  · show 8 + (maxL + 11) + lo' ≤ _; omega
  · rw [h] at hn
    exact (Option.some.inj hn).symm
theorem Z_callV (C : zC X G A cc nL own fr lo) (mi : zMi y bytes maxL ret n) (hlk : Cond.methodLink own index y ∈ zT) (hM : zF X.l y bytes maxL ret fr' lo' G (.ref b :: As) K w K') (hle : fr' + 1 ≤ fr ∧ 19 + maxL + lo' ≤ lo)
    {ci N : Nat} {T : u_T} {fs : List Value} (hb : b ∈ G.2.2.2) (hm : ∀ f, K f → f b = .inr (ci, fs)) (hcl : G.2.1[ci]? = some (y.cls, T, N)) (hn : As.length = n) (hst : st = As.reverse ++ .ref b :: rest) (hrm : (rest.map fun v => v.category).sum ≤ 8) (hd : decode cc pc = .ok (.invokevirtual index, 3))
    (k : Z X G A nL Q K' (pc + 3) lv (w.toList ++ rest)) : Z X G A nL Q K pc lv st := by
  intro f H locs ls hf hP hS hl
  obtain ⟨q0, hq⟩ := va_pl_get (X := []) (f := f) hb
  rw [hm f hf] at hq
  have hcw := zCB C mi.2.2.1 mi.2.2.2.1 mi.2.2.2.2.1 mi.2.2.2.2.2 hlk hle
  exact zBack C hS hl (va_runV (As := As) (rest := rest) C.1 hM ⟨hcw, C.1.2.2.2.2 _ mi.1, C.1.2.2.2.2 _ mi.2.1⟩ ⟨zPre.blind, va_recv C.2.1 hP hcl hq, zPre.at C hf hP⟩ rfl hn hl.1 hst (lv_room hrm) hd ⟨C.2.2.2.2.2.1, C.2.2.2.2.2.2.1⟩) k
theorem Z_callS (C : zC X G A cc nL own fr lo) (mi : zMs y bytes maxL ret n) (hlk : Cond.methodLink own index y ∈ zT) (hM : zF X.l y bytes maxL ret fr' lo' G As K w K') (hle : fr' + 1 ≤ fr ∧ 19 + maxL + lo' ≤ lo)
    (hn : As.length = n) (hst : st = As.reverse ++ rest) (hrm : (rest.map fun v => v.category).sum ≤ 8) (hd : decode cc pc = .ok (.invokestatic index, 3))
    (k : Z X G A nL Q K' (pc + 3) lv (w.toList ++ rest)) : Z X G A nL Q K pc lv st := by
  intro f H locs ls hf hP hS hl
  have hcw := zCB C mi.2.1 mi.2.2.1 mi.2.2.2.1 mi.2.2.2.2 hlk hle
  exact zBack C hS hl (va_runS (As := As) (rest := rest) C.1 hM ⟨hcw, C.1.2.2.2.2 _ mi.1⟩ ⟨zPre.blind, zPre.at C hf hP⟩ rfl hn hl.1 hst (lv_room hrm) hd ⟨C.2.2.2.2.2.1, C.2.2.2.2.2.2.1⟩) k
theorem Z_mmax {x y : Int32} (C : zC X G A cc nL own fr lo) (hlk : Cond.methodLink own index Lib.Math.max.name ∈ zT) (h1 : Cond.static Lib.Math.max.name ∈ zT) (h2 : Cond.initialized "java/lang/Math" ∈ zT) (h3 : Cond.code Lib.Math.max.name Lib.Math.max.code 2 (some .int) ∈ zT) (hle : 1 ≤ fr ∧ (rest.map fun v => v.category).sum + 13 ≤ lo) (hd : decode cc pc = .ok (.invokestatic index, 3))
    (k : Z X G A nL Q K (pc + 3) lv (.int (if x < y then y else x) :: rest)) : Z X G A nL Q K pc lv (.int y :: .int x :: rest) := fun f H locs ls hf hP hS hl =>
  va_mmax C.1.1 C.1.2.1 (by rw [hl.1]; exact C.1.2.2.1) C.1.2.2.2.1 (C.1.2.2.2.2 _ hlk) (C.1.2.2.2.2 _ h1) (C.1.2.2.2.2 _ h2) (C.1.2.2.2.2 _ h3) (Nat.le_trans hle.1 C.2.2.2.2.2.2.2.1) (Nat.le_trans hle.2 C.2.2.2.2.2.2.2.2) C.2.2.2.2.2.1 C.2.2.2.2.2.2.1 hd (k f H locs ls hf hP hS hl)
theorem Z_mmin {x y : Int32} (C : zC X G A cc nL own fr lo) (hlk : Cond.methodLink own index Lib.Math.min.name ∈ zT) (h1 : Cond.static Lib.Math.min.name ∈ zT) (h2 : Cond.initialized "java/lang/Math" ∈ zT) (h3 : Cond.code Lib.Math.min.name Lib.Math.min.code 2 (some .int) ∈ zT) (hle : 1 ≤ fr ∧ (rest.map fun v => v.category).sum + 13 ≤ lo) (hd : decode cc pc = .ok (.invokestatic index, 3))
    (k : Z X G A nL Q K (pc + 3) lv (.int (if y < x then y else x) :: rest)) : Z X G A nL Q K pc lv (.int y :: .int x :: rest) := fun f H locs ls hf hP hS hl =>
  va_mmin C.1.1 C.1.2.1 (by rw [hl.1]; exact C.1.2.2.1) C.1.2.2.2.1 (C.1.2.2.2.2 _ hlk) (C.1.2.2.2.2 _ h1) (C.1.2.2.2.2 _ h2) (C.1.2.2.2.2 _ h3) (Nat.le_trans hle.1 C.2.2.2.2.2.2.2.1) (Nat.le_trans hle.2 C.2.2.2.2.2.2.2.2) C.2.2.2.2.2.1 C.2.2.2.2.2.2.1 hd (k f H locs ls hf hP hS hl)
end ZCl
