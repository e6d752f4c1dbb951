/-! THE LAW: its world, its calls -/
def lK (X : zX) (A : Nat → Prop) (G : zG) (V : zV) (G' : zG) (U : zU) (o : Nat) (cL : ClassId) : Prop :=
  wC G V ∧ wR G' U ∧ va_K G.1 G.2.1 G.2.2.1 X.s ∧ va_K G'.1 G'.2.1 G'.2.2.1 X.s ∧ va_K G.1 [] [(cL, .long)] X.s ∧ (∀ q ∈ G.2.2.2, q ∉ G'.2.2.2) ∧ o ∉ G.2.2.2 ∧ o ∉ G'.2.2.2 ∧ (∀ q ∈ G.2.2.2, A q) ∧ (∀ q ∈ G'.2.2.2, A q) ∧ A o ∧ tOk X.s X.s.heap ∧ nOk X.s ∧ stOk A X.s X.s.heap ∧ (∀ (a : Nat) (cell : Cell), X.s.heap[a]? = some cell → cell.vm.isStatics = true → ¬ A a)
abbrev lB (G : zG) (V : zV) (σ : zS) (G' : zG) (U : zU) (N : zR) (o : Nat) (cL : ClassId) (fo : Nat → Int64) : Heap → Prop := fun H => zP G (eC V σ.1 σ.2.1 σ.2.2) H ∧ zP G' (eR U N) H ∧ oP o cL fo H
theorem oP.kept {o : Nat} {cL : ClassId} {fo : Nat → Int64} {H H' : Heap} (h : oP o cL fo H) (hq : o < H.size → H'[o]? = H[o]?) : oP o cL fo H' := by
  have h2 : H[o]? = some (vp_cell cL (1, .inr (.inl fo))) := h
  show H'[o]? = _
  rw [hq (Array.getElem?_eq_some_iff.mp h2).1]
  exact h2
theorem wBs.call {G : zG} {V : zV} {M : zM} {P : Nat → Nat} {D : Nat × Nat} : ∀ (U : State) (g : JFrame) (mk : MethodId) (a : Array Value), wBs G V M P D U → wBs G V M P D (U.calling g mk a) := fun U g mk a h => ⟨zPre.call g mk a h.1, nOk.moved (u := U) (U := U.calling g mk a) (Vm.Alike.refl U.vm) h.2⟩
theorem wBt.call {G : zG} {V : zV} {M : zM} {P : Nat → Nat} {D : Nat × Nat} : ∀ (U : State) (g : JFrame) (mk : MethodId) (a : Array Value), wBt G V M P D U → wBt G V M P D (U.calling g mk a) := fun U g mk a h => ⟨wBs.call U g mk a h.1, stOk.moved (u := U) (U := U.calling g mk a) (Vm.Alike.refl U.vm) h.2⟩
theorem ar_moved {D : va_G} {u U : State} {cL : ClassId} (hvm : u.vm.Alike U.vm) (h : va_K D [] [(cL, .long)] u) : ArrOfT U cL .long := ((va_K.moved hvm h).2 0 _ rfl).1
section LAW
variable {X : zX} {A : Nat → Prop} {Q : State → Prop} {G G' : zG} {V : zV} {U : zU} {σ σ' : zS} {N N' : zR} {o : Nat} {cL : ClassId} {fo fo' : Nat → Int64} {pc : Nat} {lv : List (Nat × Value)} {st rest As : List Value} {y : MethodName} {bytes : ByteArray} {maxL n index fr' lo' : Nat} {ret : Option FieldType}
theorem jlv {nL : Nat} {B : Heap → Prop} {lv' : List (Nat × Value)} (ks : List Nat) (h : lv_pick lv ks = lv') (k : J X A nL Q B pc lv' st) : J X A nL Q B pc lv st := fun H locs ls hb hS hl => k H locs ls hb hS (lv_sub hl ks h)
theorem L_wr {hs : List (Nat × Nat × Nat × Nat)} {Bs : State → Prop} {k : Int32} (C : jC X code 7 RXL 11 392) (K : lK X A G V G' U o cL) (hlk : Cond.methodLink RXL index y ∈ zT) (h1 : Cond.static y ∈ zT) (h2 : Cond.initialized y.cls ∈ zT) (h3 : Cond.codeWith y bytes maxL (some .int) hs ∈ zT) (hy : y.cls ≠ "java/lang/invoke/MethodHandle" ∧ y.cls ≠ "java/lang/invoke/VarHandle") (hnp : (parseMethodDescriptor y.desc).map (fun d => d.parameters.length) = some n)
    (hM : wF X.l y bytes maxL (some .int) hs fr' lo' As Bs (zA G) (some (.int k)) (zP G (eC V σ'.1 σ'.2.1 σ'.2.2))) (hr : cRm fr' lo') (hmL : maxL ≤ 9) (hrc : X.cells + 1 ≤ X.R.cells ∧ X.slots + 6 ≤ X.R.slots) (hbl : ∀ U g mk a, Bs U → Bs (U.calling g mk a)) (hBs : ∀ S : State, wBt G V σ.1 σ.2.1 σ.2.2 S → Bs S)
    (hn : As.length = n) (hst : st = As.reverse) (hd : decode code pc = .ok (.invokestatic index, 3)) (k2 : J (X.more 1 6) A 7 Q (lB G V σ' G' U N o cL fo) (pc + 3) lv [.int k]) : J X A 7 Q (lB G V σ G' U N o cL fo) pc lv st := by
  obtain ⟨w, u, kG, kG', kL, dj, og, og', aG, aG', ao, tk, nk, sk, s0⟩ := K
  have g1 := hr.1
  have g2 := hr.2
  exact J_callW (B' := lB G V σ' G' U N o cL fo) (rest := []) C hlk h1 h2 h3 hy hnp hM ⟨by omega, by omega⟩ hrc hbl
    (fun S hb hW hq => hBs S ⟨⟨⟨hb.1, va_K.moved hW.alike kG⟩, nOk.moved hW.alike nk⟩, ((sk.kept hq).narrow aG).moved hW.alike⟩) tk s0 aG
    (fun H H' hb hz hq hbw => ⟨hbw, hb.2.1.kept (fun q hq' hl => hq q hl (fun z => dj q z hq')), hb.2.2.kept (fun hl => hq o hl og)⟩) hn (by rw [hst, List.append_nil]) (by decide) hd k2
theorem L_wrT {hs : List (Nat × Nat × Nat × Nat)} {k : Int32} (C : jC X code 7 RXL 11 392) (K : lK X A G V G' U o cL) (hlk : Cond.methodLink RXL index y ∈ zT) (h1 : Cond.static y ∈ zT) (h2 : Cond.initialized y.cls ∈ zT) (h3 : Cond.codeWith y bytes maxL (some .int) hs ∈ zT) (hy : y.cls ≠ "java/lang/invoke/MethodHandle" ∧ y.cls ≠ "java/lang/invoke/VarHandle") (hnp : (parseMethodDescriptor y.desc).map (fun d => d.parameters.length) = some n)
    (hM : wF X.l y bytes maxL (some .int) hs fr' lo' As (fun S => wBs G V σ.1 σ.2.1 σ.2.2 S ∧ oP o cL fo S.heap ∧ ArrOfT S cL .long) (tA G o) (some (.int k)) (fun H => zP G (eC V σ'.1 σ'.2.1 σ'.2.2) H ∧ oP o cL fo' H)) (hr : cRm fr' lo') (hmL : maxL ≤ 9) (hrc : X.cells + 1 ≤ X.R.cells ∧ X.slots + 6 ≤ X.R.slots)
    (hn : As.length = n) (hst : st = As.reverse) (hd : decode code pc = .ok (.invokestatic index, 3)) (k2 : J (X.more 1 6) A 7 Q (lB G V σ' G' U N o cL fo') (pc + 3) lv [.int k]) : J X A 7 Q (lB G V σ G' U N o cL fo) pc lv st := by
  obtain ⟨w, u, kG, kG', kL, dj, og, og', aG, aG', ao, tk, nk, sk, s0⟩ := K
  have g1 := hr.1
  have g2 := hr.2
  exact J_callW (B' := lB G V σ' G' U N o cL fo') (rest := []) C hlk h1 h2 h3 hy hnp hM ⟨by omega, by omega⟩ hrc (fun S g mk a h => ⟨wBs.call S g mk a h.1, h.2.1, h.2.2⟩)
    (fun S hb hW hq => ⟨⟨⟨hb.1, va_K.moved hW.alike kG⟩, nOk.moved hW.alike nk⟩, hb.2.2, ar_moved hW.alike kL⟩) tk s0
    (fun q h => h.elim (aG q) (fun e => by rw [e]; exact ao))
    (fun H H' hb hz hq hbw => ⟨hbw.1, hb.2.1.kept (fun q hq' hl => hq q hl (fun z => z.elim (fun z => dj q z hq') (fun z => og' (z ▸ hq')))), hbw.2⟩) hn (by rw [hst, List.append_nil]) (by decide) hd k2
theorem L_mv {w1 : Option Value} (C : jC X code 7 RXL 11 392) (K : lK X A G V G' U o cL) (mi : zMi y bytes maxL ret n) (hlk : Cond.methodLink RXL index y ∈ zT) (hy : y.cls = RX5)
    (hM : zF X.l y bytes maxL ret fr' lo' G' (.ref (U.1 43) :: As) (eR U N) w1 (eR U N')) (hr : cRm fr' lo') (hmL : maxL ≤ 9) (hn : As.length = n) (hst : st = As.reverse ++ .ref (U.1 43) :: rest) (hrm : (rest.map fun v => v.category).sum ≤ 8) (hd : decode code pc = .ok (.invokevirtual index, 3)) (k2 : J X A 7 Q (lB G V σ G' U N' o cL fo) (pc + 3) lv (w1.toList ++ rest)) : J X A 7 Q (lB G V σ G' U N o cL fo) pc lv st := by
  obtain ⟨w, u, kG, kG', kL, dj, og, og', aG, aG', ao, tk, nk, sk, s0⟩ := K
  have g1 := hr.1
  have g2 := hr.2
  exact J_callV (B' := lB G V σ G' U N' o cL fo) C kG' u.2.2.2.2 aG' (fun _ h => h.2.1) (fun H H' h hz hq hp => ⟨h.1.kept (fun q hq' hl => hq q hl (dj q hq')), hp, h.2.2.kept (fun hl => hq o hl og')⟩) mi hlk hM ⟨by omega, by omega⟩ (u.2.2.1 43 (Or.inl rfl)) (fun f hf => hf 43 (Or.inl rfl)) (by rw [u.1, hy]; rfl) hn hst hrm hd k2
theorem L_cv {w1 : Option Value} (C : jC X code 7 RXL 11 392) (K : lK X A G V G' U o cL) (mi : zMi y bytes maxL ret n) (hlk : Cond.methodLink RXL index y ∈ zT) (hy : y.cls = RX4)
    (hM : zF X.l y bytes maxL ret fr' lo' G (.ref (V.1 0 0 0) :: As) (eC V σ.1 σ.2.1 σ.2.2) w1 (eC V σ'.1 σ'.2.1 σ'.2.2)) (hr : cRm fr' lo') (hmL : maxL ≤ 9) (hn : As.length = n) (hst : st = As.reverse ++ .ref (V.1 0 0 0) :: rest) (hrm : (rest.map fun v => v.category).sum ≤ 8) (hd : decode code pc = .ok (.invokevirtual index, 3)) (k2 : J X A 7 Q (lB G V σ' G' U N o cL fo) (pc + 3) lv (w1.toList ++ rest)) : J X A 7 Q (lB G V σ G' U N o cL fo) pc lv st := by
  obtain ⟨w, u, kG, kG', kL, dj, og, og', aG, aG', ao, tk, nk, sk, s0⟩ := K
  have g1 := hr.1
  have g2 := hr.2
  exact J_callV (B' := lB G V σ' G' U N o cL fo) C kG w.2.2.2.2 aG (fun _ h => h.1) (fun H H' h hz hq hp => ⟨hp, h.2.1.kept (fun q hq' hl => hq q hl (fun z => dj q z hq')), h.2.2.kept (fun hl => hq o hl og)⟩) mi hlk hM ⟨by omega, by omega⟩ (w.2.2.1 0 0 0 ⟨rfl, rfl⟩) (fun f hf => hf 0 0 0 ⟨rfl, rfl⟩) (by rw [w.1, hy]; rfl) hn hst hrm hd k2
/-- an argument out of the script -/
theorem L_arg {B : Heap → Prop} {b L i : Nat} {xs : Nat → Int32} {c : Int} (k j0 j4 : Nat) (C : jC X code 7 RXL 11 392) (hX : va_X b L xs X.s X.s.heap) (hbl : b < X.s.heap.size) (hbA : ¬ A b) (hL : L ≤ 100000) (hik : i + 6 ≤ L) (hj0 : lv[j0]? = some (0, .ref b)) (hj4 : lv[j4]? = some (4, .int (nI i))) (hv : Int32.ofInt c = nI k) (hk : k < 6)
    (d0 : decode code pc = .ok (.aload_n 0, 1)) (d1 : decode code (pc + 1) = .ok (.iload 4, 2)) (d2 : decode code (pc + 3) = .ok (.iconst c, 1)) (d3 : decode code (pc + 4) = .ok (.iadd, 1)) (d4 : decode code (pc + 5) = .ok (.iaload, 1)) (k2 : J X A 7 Q B (pc + 6) lv (.int (xs (i + k)) :: st)) : J X A 7 Q B pc lv st := by
  refine J_aload_n C j0 d0 rfl hj0 ?_
  refine J_iload C j4 d1 hj4 ?_
  refine J_iconst C d2 hv ?_
  refine J_iadd C d3 ?_
  rw [nI_add]
  refine J_sld C hX hbl hbA (vp_in_nI (n := i + k) (N := L) (by omega) (by omega)) d4 ?_
  rw [nI_clamp (by omega)]
  exact k2
end LAW
theorem lg_cmp_self (x : Int64) : lg_cmp x x = 0 := by
  unfold lg_cmp
  rw [if_neg (Int64.lt_irrefl), if_pos rfl]
