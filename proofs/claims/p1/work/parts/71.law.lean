/-! THE LAW: its world, its calls, its cases (one call on fresh objects) -/
def lK (X : zX) (A : Nat → Prop) (G : zG) (V : zV) (G' : zG) (U : zU) (o : Nat) (cL : ClassId) : Prop :=
  wC G V ∧ wR G' U ∧ va_K G.1 G.2.1 G.2.2.1 X.s ∧ va_K G'.1 G'.2.1 G'.2.2.1 X.s ∧ va_K G.1 [] [(cL, .long)] X.s ∧ (∀ q ∈ G.2.2.2, q ∉ G'.2.2.2) ∧ o ∉ G.2.2.2 ∧ o ∉ G'.2.2.2 ∧ (∀ q ∈ G.2.2.2, A q) ∧ (∀ q ∈ G'.2.2.2, A q) ∧ A o ∧ tOk X.s X.s.heap ∧ nOk X.s ∧ stOk A X.s X.s.heap ∧ (∀ (a : Nat) (cell : Cell), X.s.heap[a]? = some cell → cell.vm.isStatics = true → ¬ A a)
abbrev lB (G : zG) (V : zV) (M : zM) (P : Nat → Nat) (D : Nat × Nat) (G' : zG) (U : zU) (N : zR) (o : Nat) (cL : ClassId) (fo : Nat → Int64) : Heap → Prop := fun H => zP G (eC V M P D) H ∧ zP G' (eR U N) H ∧ oP o cL fo H
theorem wBs.call {G : zG} {V : zV} {M : zM} {P : Nat → Nat} {D : Nat × Nat} : ∀ (U : State) (g : JFrame) (mk : MethodId) (a : Array Value), wBs G V M P D U → wBs G V M P D (U.calling g mk a) := fun U g mk a h => ⟨zPre.call g mk a h.1, nOk.moved (u := U) (U := U.calling g mk a) (Vm.Alike.refl U.vm) h.2⟩
theorem wBt.call {G : zG} {V : zV} {M : zM} {P : Nat → Nat} {D : Nat × Nat} : ∀ (U : State) (g : JFrame) (mk : MethodId) (a : Array Value), wBt G V M P D U → wBt G V M P D (U.calling g mk a) := fun U g mk a h => ⟨wBs.call U g mk a h.1, stOk.moved (u := U) (U := U.calling g mk a) (Vm.Alike.refl U.vm) h.2⟩
theorem ar_moved {D : va_G} {u U : State} {cL : ClassId} (hvm : u.vm.Alike U.vm) (h : va_K D [] [(cL, .long)] u) : ArrOfT U cL .long := ((va_K.moved hvm h).2 0 _ rfl).1
section LAW
variable {X : zX} {A : Nat → Prop} {Q : State → Prop} {G G' : zG} {V : zV} {U : zU} {M : zM} {P : Nat → Nat} {D : Nat × Nat} {N N' : zR} {o : Nat} {cL : ClassId} {fo : Nat → Int64} {pc : Nat} {lv : List (Nat × Value)} {st rest As : List Value} {y : MethodName} {bytes : ByteArray} {maxL n index fr' lo' : Nat} {ret : Option FieldType}
theorem jlv {nL : Nat} {B : Heap → Prop} {lv' : List (Nat × Value)} (ks : List Nat) (h : lv_pick lv ks = lv') (k : J X A nL Q B pc lv' st) : J X A nL Q B pc lv st := fun H locs ls hb hS hl => k H locs ls hb hS (lv_sub hl ks h)
theorem L_wr {hs : List (Nat × Nat × Nat × Nat)} {Bs : State → Prop} {A1 : Nat → Prop} {k : Int32} {Bw : Heap → Prop} (C : jC X code 7 RXL 11 392) (K : lK X A G V G' U o cL) (hlk : Cond.methodLink RXL index y ∈ zT) (h1 : Cond.static y ∈ zT) (h2 : Cond.initialized y.cls ∈ zT) (h3 : Cond.codeWith y bytes maxL (some .int) hs ∈ zT) (hy : y.cls ≠ "java/lang/invoke/MethodHandle" ∧ y.cls ≠ "java/lang/invoke/VarHandle") (hnp : (parseMethodDescriptor y.desc).map (fun d => d.parameters.length) = some n)
    (hM : wF X.l y bytes maxL (some .int) hs fr' lo' As Bs A1 (some (.int k)) Bw) (hr : cRm fr' lo') (hmL : maxL ≤ 9) (hrc : X.cells + 1 ≤ X.R.cells ∧ X.slots + 6 ≤ X.R.slots) (hbl : ∀ U g mk a, Bs U → Bs (U.calling g mk a)) (hBs : ∀ S : State, wBt G V M P D S → oP o cL fo S.heap → ArrOfT S cL .long → Bs S) (hA1 : ∀ q, A1 q → q ∈ G.2.2.2 ∨ q = o)
    (hn : As.length = n) (hst : st = As.reverse) (hd : decode code pc = .ok (.invokestatic index, 3)) (k2 : J (X.more 1 6) A 7 Q (fun H => Bw H ∧ zP G' (eR U N) H) (pc + 3) lv [.int k]) : J X A 7 Q (lB G V M P D G' U N o cL fo) pc lv st := by
  obtain ⟨w, u, kG, kG', kL, dj, og, og', aG, aG', ao, tk, nk, sk, s0⟩ := K
  have g1 := hr.1
  have g2 := hr.2
  exact J_callW (B' := fun H => Bw H ∧ zP G' (eR U N) H) (rest := []) C hlk h1 h2 h3 hy hnp hM ⟨by omega, by omega⟩ hrc hbl
    (fun S hb hW hq => hBs S ⟨⟨⟨hb.1, va_K.moved hW.alike kG⟩, nOk.moved hW.alike nk⟩, ((sk.kept hq).narrow aG).moved hW.alike⟩ hb.2.2 (ar_moved hW.alike kL)) tk s0
    (fun q h => (hA1 q h).elim (aG q) (fun e => by rw [e]; exact ao))
    (fun H H' hb hz hq hbw => ⟨hbw, hb.2.1.kept (fun q hq' hl => hq q hl (fun z => (hA1 q z).elim (fun z => dj q z hq') (fun z => og' (z ▸ hq'))))⟩) hn (by rw [hst, List.append_nil]) (by decide) hd k2
theorem L_mv {B1 : Heap → Prop} {w1 : Option Value} (C : jC X code 7 RXL 11 392) (K : lK X A G V G' U o cL) (hS : ∀ H H', B1 H → H.size ≤ H'.size → (∀ q, q < H.size → q ∉ G'.2.2.2 → H'[q]? = H[q]?) → B1 H') (mi : zMi y bytes maxL ret n) (hlk : Cond.methodLink RXL index y ∈ zT) (hy : y.cls = RX5)
    (hM : zF X.l y bytes maxL ret fr' lo' G' (.ref (U.1 43) :: As) (eR U N) w1 (eR U N')) (hr : cRm fr' lo') (hmL : maxL ≤ 9) (hn : As.length = n) (hst : st = As.reverse ++ .ref (U.1 43) :: rest) (hrm : (rest.map fun v => v.category).sum ≤ 8) (hd : decode code pc = .ok (.invokevirtual index, 3)) (k2 : J X A 7 Q (fun H => B1 H ∧ zP G' (eR U N') H) (pc + 3) lv (w1.toList ++ rest)) : J X A 7 Q (fun H => B1 H ∧ zP G' (eR U N) H) pc lv st := by
  obtain ⟨w, u, kG, kG', kL, dj, og, og', aG, aG', ao, tk, nk, sk, s0⟩ := K
  have g1 := hr.1
  have g2 := hr.2
  exact J_callV (B' := fun H => B1 H ∧ zP G' (eR U N') H) C kG' u.2.2.2.2 aG' (fun _ h => h.2) (fun H H' h hz hq hp => ⟨hS H H' h.1 hz hq, hp⟩) mi hlk hM ⟨by omega, by omega⟩ (u.2.2.1 43 (Or.inl rfl)) (fun f hf => hf 43 (Or.inl rfl)) (by rw [u.1, hy]; rfl) hn hst hrm hd k2
theorem L_cv {w1 : Option Value} {K1 : zK} (C : jC X code 7 RXL 11 392) (K : lK X A G V G' U o cL) (mi : zMi y bytes maxL ret n) (hlk : Cond.methodLink RXL index y ∈ zT) (hy : y.cls = RX4)
    (hM : zF X.l y bytes maxL ret fr' lo' G (.ref (V.1 0 0 0) :: As) (eC V M P D) w1 K1) (hr : cRm fr' lo') (hmL : maxL ≤ 9) (hn : As.length = n) (hst : st = As.reverse ++ .ref (V.1 0 0 0) :: rest) (hrm : (rest.map fun v => v.category).sum ≤ 8) (hd : decode code pc = .ok (.invokevirtual index, 3)) (k2 : J X A 7 Q (fun H => zP G K1 H ∧ zP G' (eR U N) H) (pc + 3) lv (w1.toList ++ rest)) : J X A 7 Q (lB G V M P D G' U N o cL fo) pc lv st := by
  obtain ⟨w, u, kG, kG', kL, dj, og, og', aG, aG', ao, tk, nk, sk, s0⟩ := K
  have g1 := hr.1
  have g2 := hr.2
  exact J_callV (B' := fun H => zP G K1 H ∧ zP G' (eR U N) H) C kG w.2.2.2.2 aG (fun _ h => h.1) (fun H H' h hz hq hp => ⟨hp, h.2.1.kept (fun q hq' hl => hq q hl (fun z => dj q z hq'))⟩) mi hlk hM ⟨by omega, by omega⟩ (w.2.2.1 0 0 0 ⟨rfl, rfl⟩) (fun f hf => hf 0 0 0 ⟨rfl, rfl⟩) (by rw [w.1, hy]; rfl) hn hst hrm hd k2
theorem lK.sz (K : lK X A G V G' U o cL) (K1 : zK) : ∀ H H' : Heap, zP G K1 H → H.size ≤ H'.size → (∀ q, q < H.size → q ∉ G'.2.2.2 → H'[q]? = H[q]?) → zP G K1 H' := fun H H' h _ hq => h.kept (fun q hq' hl => hq q hl (K.2.2.2.2.2.1 q hq'))
theorem lK.so (K : lK X A G V G' U o cL) (K1 : zK) : ∀ H H' : Heap, (zP G K1 H ∧ oP o cL fo H) → H.size ≤ H'.size → (∀ q, q < H.size → q ∉ G'.2.2.2 → H'[q]? = H[q]?) → zP G K1 H' ∧ oP o cL fo H' := fun H H' h hz hq => ⟨K.sz K1 H H' h.1 hz hq, by
  have h2 : H[o]? = some (vp_cell cL (1, .inr (.inl fo))) := h.2
  show H'[o]? = _
  rw [hq o (Array.getElem?_eq_some_iff.mp h2).1 K.2.2.2.2.2.2.2.1]
  exact h2⟩
/-- an argument out of the script -/
theorem L_arg {B : Heap → Prop} {b L : Nat} {xs : Nat → Int32} {v : Int32} {c : Int} (k j0 j4 : Nat) (C : jC X code 7 RXL 11 392) (hX : va_X b L xs X.s X.s.heap) (hbl : b < X.s.heap.size) (hbA : ¬ A b) (hj0 : lv[j0]? = some (0, .ref b)) (hj4 : lv[j4]? = some (4, .int 0)) (hv : Int32.ofInt c = v) (hin : ¬ ((0 + v) < 0 ∨ L ≤ (0 + v).toNatClampNeg)) (hk : (0 + v).toNatClampNeg = k)
    (d0 : decode code pc = .ok (.aload_n 0, 1)) (d1 : decode code (pc + 1) = .ok (.iload 4, 2)) (d2 : decode code (pc + 3) = .ok (.iconst c, 1)) (d3 : decode code (pc + 4) = .ok (.iadd, 1)) (d4 : decode code (pc + 5) = .ok (.iaload, 1)) (k2 : J X A 7 Q B (pc + 6) lv (.int (xs k) :: st)) : J X A 7 Q B pc lv st := by
  refine J_aload_n C j0 d0 rfl hj0 ?_
  refine J_iload C j4 d1 hj4 ?_
  refine J_iconst C d2 hv ?_
  refine J_iadd C d3 ?_
  refine J_sld C hX hbl hbA hin d4 ?_
  rw [hk]
  exact k2

set_option maxRecDepth 100000 in
set_option maxHeartbeats 4000000 in
theorem law_set (C : jC X code 7 RXL 11 392) (K : lK X A G V G' U o cL) (hrc : X.cells + 1 ≤ X.R.cells ∧ X.slots + 6 ≤ X.R.slots) {b : Nat} {xs : Nat → Int32} (hX : va_X b 6 xs X.s X.s.heap) (hbl : b < X.s.heap.size) (hbA : ¬ A b) (fin : ∀ i j : Nat, i ≤ 1 → j ≤ 6 → J (X.more i j) A 7 Q (fun _ => True) 861 [(4, .int 0), (0, .ref b)] []) (hl : ∀ e, X.l.admits e → e.platform.stackTraces = false) : J X A 7 Q (lB G V M0 (fun n => n) (60, 61) G' U N0 o cL fo) 112 [(4, .int 0), (3, .ref o), (2, .ref (U.1 43)), (1, .ref (V.1 0 0 0)), (0, .ref b)] [] := by
  obtain ⟨k, fr, lo, fr', lo', K1, N', hw, hr, hm, hr', hk⟩ := a_set hl K.1 K.2.1 (xs 1) (xs 2) (xs 3)
  have C2 := C.more hrc
  refine J_aload_n C 3 d_J_law_112 rfl rfl ?_
  refine L_arg 1 4 0 C hX hbl hbA rfl rfl rfl (by decide) (by decide) d_J_law_113 d_J_law_114 d_J_law_116 d_J_law_117 d_J_law_118 ?_
  refine L_arg 2 4 0 C hX hbl hbA rfl rfl rfl (by decide) (by decide) d_J_law_119 d_J_law_120 d_J_law_122 d_J_law_123 d_J_law_124 ?_
  refine L_arg 3 4 0 C hX hbl hbA rfl rfl rfl (by decide) (by decide) d_J_law_125 d_J_law_126 d_J_law_128 d_J_law_129 d_J_law_130 ?_
  refine L_wr (n := 4) C K ml_J_50 ws_set iz_J wc_set (by decide) (by decide +kernel) hw hr (by decide) hrc wBt.call (fun S h _ _ => h) (fun q h => Or.inl h) rfl rfl d_J_law_131 ?_
  refine J_istore C2 d_J_law_134 (by decide) rfl ?_
  refine J_aload_n C2 3 d_J_law_136 rfl rfl ?_
  refine L_arg 1 5 1 C2 hX hbl hbA rfl rfl rfl (by decide) (by decide) d_J_law_137 d_J_law_138 d_J_law_140 d_J_law_141 d_J_law_142 ?_
  refine L_arg 2 5 1 C2 hX hbl hbA rfl rfl rfl (by decide) (by decide) d_J_law_143 d_J_law_144 d_J_law_146 d_J_law_147 d_J_law_148 ?_
  refine L_arg 3 5 1 C2 hX hbl hbA rfl rfl rfl (by decide) (by decide) d_J_law_149 d_J_law_150 d_J_law_152 d_J_law_153 d_J_law_154 ?_
  refine L_mv (X := X.more 1 6) C2 K (K.sz K1) mi_M_set ml_J_55 rfl hm hr' (by decide) rfl rfl (by decide) d_J_law_155 ?_
  refine J_aload_n C2 3 d_J_law_158 rfl rfl ?_
  refine L_mv (X := X.more 1 6) C2 K (K.sz K1) mi_M_thrown ml_J_56 rfl (c_M_thrown K.2.1 N') (by decide) (by decide) rfl rfl (by decide) d_J_law_159 ?_
  refine J_iload C2 0 d_J_law_162 rfl ?_
  refine J_icmp_eq (tgt := 169) C2 d_J_law_164 (by decide) (fun _ => ?_) (fun c => absurd hk c)
  refine J_goto (tgt := 861) C2 d_J_law_169 (by decide) ?_
  exact jlv [1, 5] rfl (J.imp (fun _ _ => trivial) (fin 1 6 (Nat.le_refl _) (Nat.le_refl _)))
set_option maxRecDepth 100000 in
set_option maxHeartbeats 4000000 in
theorem law_start (C : jC X code 7 RXL 11 392) (K : lK X A G V G' U o cL) (hrc : X.cells + 1 ≤ X.R.cells ∧ X.slots + 6 ≤ X.R.slots) {b : Nat} {xs : Nat → Int32} (hX : va_X b 6 xs X.s X.s.heap) (hbl : b < X.s.heap.size) (hbA : ¬ A b) (fin : ∀ i j : Nat, i ≤ 1 → j ≤ 6 → J (X.more i j) A 7 Q (fun _ => True) 861 [(4, .int 0), (0, .ref b)] []) (hl : ∀ e, X.l.admits e → e.platform.stackTraces = false) : J X A 7 Q (lB G V M0 (fun n => n) (60, 61) G' U N0 o cL fo) 172 [(4, .int 0), (3, .ref o), (2, .ref (U.1 43)), (1, .ref (V.1 0 0 0)), (0, .ref b)] [] := by
  obtain ⟨k, fr, lo, fr', lo', K1, N', hw, hr, hm, hr', hk⟩ := a_start hl K.1 K.2.1 (xs 1)
  have C2 := C.more hrc
  refine J_aload_n C 3 d_J_law_172 rfl rfl ?_
  refine L_arg 1 4 0 C hX hbl hbA rfl rfl rfl (by decide) (by decide) d_J_law_173 d_J_law_174 d_J_law_176 d_J_law_177 d_J_law_178 ?_
  refine L_wr (n := 2) C K ml_J_60 ws_start iz_J wc_start (by decide) (by decide +kernel) hw hr (by decide) hrc wBs.call (fun S h _ _ => h.1) (fun q h => Or.inl h) rfl rfl d_J_law_179 ?_
  refine J_istore C2 d_J_law_182 (by decide) rfl ?_
  refine J_aload_n C2 3 d_J_law_184 rfl rfl ?_
  refine L_arg 1 5 1 C2 hX hbl hbA rfl rfl rfl (by decide) (by decide) d_J_law_185 d_J_law_186 d_J_law_188 d_J_law_189 d_J_law_190 ?_
  refine L_mv (X := X.more 1 6) C2 K (K.sz K1) mi_M_start ml_J_63 rfl hm hr' (by decide) rfl rfl (by decide) d_J_law_191 ?_
  refine J_aload_n C2 3 d_J_law_194 rfl rfl ?_
  refine L_mv (X := X.more 1 6) C2 K (K.sz K1) mi_M_thrown ml_J_56 rfl (c_M_thrown K.2.1 N') (by decide) (by decide) rfl rfl (by decide) d_J_law_195 ?_
  refine J_iload C2 0 d_J_law_198 rfl ?_
  refine J_icmp_eq (tgt := 205) C2 d_J_law_200 (by decide) (fun _ => ?_) (fun c => absurd hk c)
  refine J_goto (tgt := 861) C2 d_J_law_205 (by decide) ?_
  exact jlv [1, 5] rfl (J.imp (fun _ _ => trivial) (fin 1 6 (Nat.le_refl _) (Nat.le_refl _)))
set_option maxRecDepth 100000 in
set_option maxHeartbeats 4000000 in
theorem law_open (C : jC X code 7 RXL 11 392) (K : lK X A G V G' U o cL) (hrc : X.cells + 1 ≤ X.R.cells ∧ X.slots + 6 ≤ X.R.slots) {b : Nat} {xs : Nat → Int32} (hX : va_X b 6 xs X.s X.s.heap) (hbl : b < X.s.heap.size) (hbA : ¬ A b) (fin : ∀ i j : Nat, i ≤ 1 → j ≤ 6 → J (X.more i j) A 7 Q (fun _ => True) 861 [(4, .int 0), (0, .ref b)] []) (hl : ∀ e, X.l.admits e → e.platform.stackTraces = false) : J X A 7 Q (lB G V M0 (fun n => n) (60, 61) G' U N0 o cL fo) 272 [(4, .int 0), (3, .ref o), (2, .ref (U.1 43)), (1, .ref (V.1 0 0 0)), (0, .ref b)] [] := by
  obtain ⟨k, fr, lo, fr', lo', K1, N', hw, hr, hm, hr', hk⟩ := a_open hl K.1 K.2.1 (xs 1) (xs 2) (xs 3) (xs 4) (xs 5)
  have C2 := C.more hrc
  refine J_aload_n C 3 d_J_law_272 rfl rfl ?_
  refine L_arg 1 4 0 C hX hbl hbA rfl rfl rfl (by decide) (by decide) d_J_law_273 d_J_law_274 d_J_law_276 d_J_law_277 d_J_law_278 ?_
  refine L_arg 2 4 0 C hX hbl hbA rfl rfl rfl (by decide) (by decide) d_J_law_279 d_J_law_280 d_J_law_282 d_J_law_283 d_J_law_284 ?_
  refine L_arg 3 4 0 C hX hbl hbA rfl rfl rfl (by decide) (by decide) d_J_law_285 d_J_law_286 d_J_law_288 d_J_law_289 d_J_law_290 ?_
  refine L_arg 4 4 0 C hX hbl hbA rfl rfl rfl (by decide) (by decide) d_J_law_291 d_J_law_292 d_J_law_294 d_J_law_295 d_J_law_296 ?_
  refine L_arg 5 4 0 C hX hbl hbA rfl rfl rfl (by decide) (by decide) d_J_law_297 d_J_law_298 d_J_law_300 d_J_law_301 d_J_law_302 ?_
  refine L_wr (n := 6) C K ml_J_68 ws_open iz_J wc_open (by decide) (by decide +kernel) hw hr (by decide) hrc wBs.call (fun S h _ _ => h.1) (fun q h => Or.inl h) rfl rfl d_J_law_303 ?_
  refine J_istore C2 d_J_law_306 (by decide) rfl ?_
  refine J_aload_n C2 3 d_J_law_308 rfl rfl ?_
  refine L_arg 1 5 1 C2 hX hbl hbA rfl rfl rfl (by decide) (by decide) d_J_law_309 d_J_law_310 d_J_law_312 d_J_law_313 d_J_law_314 ?_
  refine L_arg 2 5 1 C2 hX hbl hbA rfl rfl rfl (by decide) (by decide) d_J_law_315 d_J_law_316 d_J_law_318 d_J_law_319 d_J_law_320 ?_
  refine L_arg 3 5 1 C2 hX hbl hbA rfl rfl rfl (by decide) (by decide) d_J_law_321 d_J_law_322 d_J_law_324 d_J_law_325 d_J_law_326 ?_
  refine L_arg 4 5 1 C2 hX hbl hbA rfl rfl rfl (by decide) (by decide) d_J_law_327 d_J_law_328 d_J_law_330 d_J_law_331 d_J_law_332 ?_
  refine L_arg 5 5 1 C2 hX hbl hbA rfl rfl rfl (by decide) (by decide) d_J_law_333 d_J_law_334 d_J_law_336 d_J_law_337 d_J_law_338 ?_
  refine L_mv (X := X.more 1 6) C2 K (K.sz K1) mi_M_open ml_J_71 rfl hm hr' (by decide) rfl rfl (by decide) d_J_law_339 ?_
  refine J_aload_n C2 3 d_J_law_342 rfl rfl ?_
  refine L_mv (X := X.more 1 6) C2 K (K.sz K1) mi_M_thrown ml_J_56 rfl (c_M_thrown K.2.1 N') (by decide) (by decide) rfl rfl (by decide) d_J_law_343 ?_
  refine J_iload C2 0 d_J_law_346 rfl ?_
  refine J_icmp_eq (tgt := 353) C2 d_J_law_348 (by decide) (fun _ => ?_) (fun c => absurd hk c)
  refine J_goto (tgt := 861) C2 d_J_law_353 (by decide) ?_
  exact jlv [1, 5] rfl (J.imp (fun _ _ => trivial) (fin 1 6 (Nat.le_refl _) (Nat.le_refl _)))
set_option maxRecDepth 100000 in
set_option maxHeartbeats 4000000 in
theorem law_change (C : jC X code 7 RXL 11 392) (K : lK X A G V G' U o cL) (hrc : X.cells + 1 ≤ X.R.cells ∧ X.slots + 6 ≤ X.R.slots) {b : Nat} {xs : Nat → Int32} (hX : va_X b 6 xs X.s X.s.heap) (hbl : b < X.s.heap.size) (hbA : ¬ A b) (fin : ∀ i j : Nat, i ≤ 1 → j ≤ 6 → J (X.more i j) A 7 Q (fun _ => True) 861 [(4, .int 0), (0, .ref b)] []) (hl : ∀ e, X.l.admits e → e.platform.stackTraces = false) : J X A 7 Q (lB G V M0 (fun n => n) (60, 61) G' U N0 o cL fo) 356 [(4, .int 0), (3, .ref o), (2, .ref (U.1 43)), (1, .ref (V.1 0 0 0)), (0, .ref b)] [] := by
  obtain ⟨k, fr, lo, fr', lo', K1, N', hw, hr, hm, hr', hk⟩ := a_change hl K.1 K.2.1 (xs 1) (xs 2) (xs 3) (xs 4)
  have C2 := C.more hrc
  refine J_aload_n C 3 d_J_law_356 rfl rfl ?_
  refine L_arg 1 4 0 C hX hbl hbA rfl rfl rfl (by decide) (by decide) d_J_law_357 d_J_law_358 d_J_law_360 d_J_law_361 d_J_law_362 ?_
  refine L_arg 2 4 0 C hX hbl hbA rfl rfl rfl (by decide) (by decide) d_J_law_363 d_J_law_364 d_J_law_366 d_J_law_367 d_J_law_368 ?_
  refine L_arg 3 4 0 C hX hbl hbA rfl rfl rfl (by decide) (by decide) d_J_law_369 d_J_law_370 d_J_law_372 d_J_law_373 d_J_law_374 ?_
  refine L_arg 4 4 0 C hX hbl hbA rfl rfl rfl (by decide) (by decide) d_J_law_375 d_J_law_376 d_J_law_378 d_J_law_379 d_J_law_380 ?_
  refine L_wr (n := 5) C K ml_J_72 ws_change iz_J wc_change (by decide) (by decide +kernel) hw hr (by decide) hrc wBs.call (fun S h _ _ => h.1) (fun q h => Or.inl h) rfl rfl d_J_law_381 ?_
  refine J_istore C2 d_J_law_384 (by decide) rfl ?_
  refine J_aload_n C2 3 d_J_law_386 rfl rfl ?_
  refine L_arg 1 5 1 C2 hX hbl hbA rfl rfl rfl (by decide) (by decide) d_J_law_387 d_J_law_388 d_J_law_390 d_J_law_391 d_J_law_392 ?_
  refine L_arg 2 5 1 C2 hX hbl hbA rfl rfl rfl (by decide) (by decide) d_J_law_393 d_J_law_394 d_J_law_396 d_J_law_397 d_J_law_398 ?_
  refine L_arg 3 5 1 C2 hX hbl hbA rfl rfl rfl (by decide) (by decide) d_J_law_399 d_J_law_400 d_J_law_402 d_J_law_403 d_J_law_404 ?_
  refine L_arg 4 5 1 C2 hX hbl hbA rfl rfl rfl (by decide) (by decide) d_J_law_405 d_J_law_406 d_J_law_408 d_J_law_409 d_J_law_410 ?_
  refine L_mv (X := X.more 1 6) C2 K (K.sz K1) mi_M_change ml_J_75 rfl hm hr' (by decide) rfl rfl (by decide) d_J_law_411 ?_
  refine J_aload_n C2 3 d_J_law_414 rfl rfl ?_
  refine L_mv (X := X.more 1 6) C2 K (K.sz K1) mi_M_thrown ml_J_56 rfl (c_M_thrown K.2.1 N') (by decide) (by decide) rfl rfl (by decide) d_J_law_415 ?_
  refine J_iload C2 0 d_J_law_418 rfl ?_
  refine J_icmp_eq (tgt := 425) C2 d_J_law_420 (by decide) (fun _ => ?_) (fun c => absurd hk c)
  refine J_goto (tgt := 861) C2 d_J_law_425 (by decide) ?_
  exact jlv [1, 5] rfl (J.imp (fun _ _ => trivial) (fin 1 6 (Nat.le_refl _) (Nat.le_refl _)))
set_option maxRecDepth 100000 in
set_option maxHeartbeats 4000000 in
theorem law_ask (C : jC X code 7 RXL 11 392) (K : lK X A G V G' U o cL) (hrc : X.cells + 1 ≤ X.R.cells ∧ X.slots + 6 ≤ X.R.slots) {b : Nat} {xs : Nat → Int32} (hX : va_X b 6 xs X.s X.s.heap) (hbl : b < X.s.heap.size) (hbA : ¬ A b) (fin : ∀ i j : Nat, i ≤ 1 → j ≤ 6 → J (X.more i j) A 7 Q (fun _ => True) 861 [(4, .int 0), (0, .ref b)] []) (hl : ∀ e, X.l.admits e → e.platform.stackTraces = false) : J X A 7 Q (lB G V M0 (fun n => n) (60, 61) G' U N0 o cL fo) 428 [(4, .int 0), (3, .ref o), (2, .ref (U.1 43)), (1, .ref (V.1 0 0 0)), (0, .ref b)] [] := by
  obtain ⟨k, fr, lo, fr', lo', K1, N', hw, hr, hm, hr', hk⟩ := a_ask hl K.1 K.2.1 (xs 1)
  have C2 := C.more hrc
  refine J_aload_n C 3 d_J_law_428 rfl rfl ?_
  refine L_arg 1 4 0 C hX hbl hbA rfl rfl rfl (by decide) (by decide) d_J_law_429 d_J_law_430 d_J_law_432 d_J_law_433 d_J_law_434 ?_
  refine L_wr (n := 2) C K ml_J_76 ws_ask iz_J wc_ask (by decide) (by decide +kernel) hw hr (by decide) hrc wBs.call (fun S h _ _ => h.1) (fun q h => Or.inl h) rfl rfl d_J_law_435 ?_
  refine J_istore C2 d_J_law_438 (by decide) rfl ?_
  refine J_aload_n C2 3 d_J_law_440 rfl rfl ?_
  refine L_arg 1 5 1 C2 hX hbl hbA rfl rfl rfl (by decide) (by decide) d_J_law_441 d_J_law_442 d_J_law_444 d_J_law_445 d_J_law_446 ?_
  refine L_mv (X := X.more 1 6) C2 K (K.sz K1) mi_M_ask ml_J_78 rfl hm hr' (by decide) rfl rfl (by decide) d_J_law_447 ?_
  refine J_aload_n C2 3 d_J_law_450 rfl rfl ?_
  refine L_mv (X := X.more 1 6) C2 K (K.sz K1) mi_M_thrown ml_J_56 rfl (c_M_thrown K.2.1 N') (by decide) (by decide) rfl rfl (by decide) d_J_law_451 ?_
  refine J_iload C2 0 d_J_law_454 rfl ?_
  refine J_icmp_eq (tgt := 461) C2 d_J_law_456 (by decide) (fun _ => ?_) (fun c => absurd hk c)
  refine J_goto (tgt := 861) C2 d_J_law_461 (by decide) ?_
  exact jlv [1, 5] rfl (J.imp (fun _ _ => trivial) (fin 1 6 (Nat.le_refl _) (Nat.le_refl _)))
set_option maxRecDepth 100000 in
set_option maxHeartbeats 4000000 in
theorem law_stop_0 (C : jC X code 7 RXL 11 392) (K : lK X A G V G' U o cL) (hrc : X.cells + 1 ≤ X.R.cells ∧ X.slots + 6 ≤ X.R.slots) {b : Nat} {xs : Nat → Int32} (hX : va_X b 6 xs X.s X.s.heap) (hbl : b < X.s.heap.size) (hbA : ¬ A b) (fin : ∀ i j : Nat, i ≤ 1 → j ≤ 6 → J (X.more i j) A 7 Q (fun _ => True) 861 [(4, .int 0), (0, .ref b)] []) (hl : ∀ e, X.l.admits e → e.platform.stackTraces = false) (hx2 : xs 2 = 0) : J X A 7 Q (lB G V M0 (fun n => n) (60, 61) G' U N0 o cL fo) 208 [(4, .int 0), (3, .ref o), (2, .ref (U.1 43)), (1, .ref (V.1 0 0 0)), (0, .ref b)] [] := by
  obtain ⟨k, fr, lo, fr', lo', K1, N', hw, hr, hm, hr', hk⟩ := a_stop hl K.1 K.2.1 (xs 1) 0
  have C2 := C.more hrc
  refine J_aload_n C 3 d_J_law_208 rfl rfl ?_
  refine L_arg 1 4 0 C hX hbl hbA rfl rfl rfl (by decide) (by decide) d_J_law_209 d_J_law_210 d_J_law_212 d_J_law_213 d_J_law_214 ?_
  refine L_arg 2 4 0 C hX hbl hbA rfl rfl rfl (by decide) (by decide) d_J_law_215 d_J_law_216 d_J_law_218 d_J_law_219 d_J_law_220 ?_
  refine J_if_eq (tgt := 228) C d_J_law_221 (by decide) (fun _ => ?_) (fun c => absurd hx2 c)
  refine J_iconst (v := 0) C d_J_law_228 (by decide) ?_
  refine L_wr (n := 3) C K ml_J_64 ws_stop iz_J wc_stop (by decide) (by decide +kernel) hw hr (by decide) hrc wBs.call (fun S h _ _ => h.1) (fun q h => Or.inl h) rfl rfl d_J_law_229 ?_
  refine J_istore C2 d_J_law_232 (by decide) rfl ?_
  refine J_aload_n C2 3 d_J_law_234 rfl rfl ?_
  refine L_arg 1 5 1 C2 hX hbl hbA rfl rfl rfl (by decide) (by decide) d_J_law_235 d_J_law_236 d_J_law_238 d_J_law_239 d_J_law_240 ?_
  refine L_arg 2 5 1 C2 hX hbl hbA rfl rfl rfl (by decide) (by decide) d_J_law_241 d_J_law_242 d_J_law_244 d_J_law_245 d_J_law_246 ?_
  refine J_if_eq (tgt := 254) C2 d_J_law_247 (by decide) (fun _ => ?_) (fun c => absurd hx2 c)
  refine J_iconst (v := 0) C2 d_J_law_254 (by decide) ?_
  refine L_mv (X := X.more 1 6) C2 K (K.sz K1) mi_M_stop ml_J_67 rfl hm hr' (by decide) rfl rfl (by decide) d_J_law_255 ?_
  refine J_aload_n C2 3 d_J_law_258 rfl rfl ?_
  refine L_mv (X := X.more 1 6) C2 K (K.sz K1) mi_M_thrown ml_J_56 rfl (c_M_thrown K.2.1 N') (by decide) (by decide) rfl rfl (by decide) d_J_law_259 ?_
  refine J_iload C2 0 d_J_law_262 rfl ?_
  refine J_icmp_eq (tgt := 269) C2 d_J_law_264 (by decide) (fun _ => ?_) (fun c => absurd hk c)
  refine J_goto (tgt := 861) C2 d_J_law_269 (by decide) ?_
  exact jlv [1, 5] rfl (J.imp (fun _ _ => trivial) (fin 1 6 (Nat.le_refl _) (Nat.le_refl _)))
set_option maxRecDepth 100000 in
set_option maxHeartbeats 4000000 in
theorem law_stop_1 (C : jC X code 7 RXL 11 392) (K : lK X A G V G' U o cL) (hrc : X.cells + 1 ≤ X.R.cells ∧ X.slots + 6 ≤ X.R.slots) {b : Nat} {xs : Nat → Int32} (hX : va_X b 6 xs X.s X.s.heap) (hbl : b < X.s.heap.size) (hbA : ¬ A b) (fin : ∀ i j : Nat, i ≤ 1 → j ≤ 6 → J (X.more i j) A 7 Q (fun _ => True) 861 [(4, .int 0), (0, .ref b)] []) (hl : ∀ e, X.l.admits e → e.platform.stackTraces = false) (hx2 : ¬ xs 2 = 0) : J X A 7 Q (lB G V M0 (fun n => n) (60, 61) G' U N0 o cL fo) 208 [(4, .int 0), (3, .ref o), (2, .ref (U.1 43)), (1, .ref (V.1 0 0 0)), (0, .ref b)] [] := by
  obtain ⟨k, fr, lo, fr', lo', K1, N', hw, hr, hm, hr', hk⟩ := a_stop hl K.1 K.2.1 (xs 1) 1
  have C2 := C.more hrc
  refine J_aload_n C 3 d_J_law_208 rfl rfl ?_
  refine L_arg 1 4 0 C hX hbl hbA rfl rfl rfl (by decide) (by decide) d_J_law_209 d_J_law_210 d_J_law_212 d_J_law_213 d_J_law_214 ?_
  refine L_arg 2 4 0 C hX hbl hbA rfl rfl rfl (by decide) (by decide) d_J_law_215 d_J_law_216 d_J_law_218 d_J_law_219 d_J_law_220 ?_
  refine J_if_eq (tgt := 228) C d_J_law_221 (by decide) (fun c => absurd c hx2) (fun _ => ?_)
  refine J_iconst (v := 1) C d_J_law_224 (by decide) ?_
  refine J_goto (tgt := 229) C d_J_law_225 (by decide) ?_
  refine L_wr (n := 3) C K ml_J_64 ws_stop iz_J wc_stop (by decide) (by decide +kernel) hw hr (by decide) hrc wBs.call (fun S h _ _ => h.1) (fun q h => Or.inl h) rfl rfl d_J_law_229 ?_
  refine J_istore C2 d_J_law_232 (by decide) rfl ?_
  refine J_aload_n C2 3 d_J_law_234 rfl rfl ?_
  refine L_arg 1 5 1 C2 hX hbl hbA rfl rfl rfl (by decide) (by decide) d_J_law_235 d_J_law_236 d_J_law_238 d_J_law_239 d_J_law_240 ?_
  refine L_arg 2 5 1 C2 hX hbl hbA rfl rfl rfl (by decide) (by decide) d_J_law_241 d_J_law_242 d_J_law_244 d_J_law_245 d_J_law_246 ?_
  refine J_if_eq (tgt := 254) C2 d_J_law_247 (by decide) (fun c => absurd c hx2) (fun _ => ?_)
  refine J_iconst (v := 1) C2 d_J_law_250 (by decide) ?_
  refine J_goto (tgt := 255) C2 d_J_law_251 (by decide) ?_
  refine L_mv (X := X.more 1 6) C2 K (K.sz K1) mi_M_stop ml_J_67 rfl hm hr' (by decide) rfl rfl (by decide) d_J_law_255 ?_
  refine J_aload_n C2 3 d_J_law_258 rfl rfl ?_
  refine L_mv (X := X.more 1 6) C2 K (K.sz K1) mi_M_thrown ml_J_56 rfl (c_M_thrown K.2.1 N') (by decide) (by decide) rfl rfl (by decide) d_J_law_259 ?_
  refine J_iload C2 0 d_J_law_262 rfl ?_
  refine J_icmp_eq (tgt := 269) C2 d_J_law_264 (by decide) (fun _ => ?_) (fun c => absurd hk c)
  refine J_goto (tgt := 861) C2 d_J_law_269 (by decide) ?_
  exact jlv [1, 5] rfl (J.imp (fun _ _ => trivial) (fin 1 6 (Nat.le_refl _) (Nat.le_refl _)))
set_option maxRecDepth 100000 in
set_option maxHeartbeats 4000000 in
theorem law_type (C : jC X code 7 RXL 11 392) (K : lK X A G V G' U o cL) (hrc : X.cells + 1 ≤ X.R.cells ∧ X.slots + 6 ≤ X.R.slots) {b : Nat} {xs : Nat → Int32} (hX : va_X b 6 xs X.s X.s.heap) (hbl : b < X.s.heap.size) (hbA : ¬ A b) (fin : ∀ i j : Nat, i ≤ 1 → j ≤ 6 → J (X.more i j) A 7 Q (fun _ => True) 861 [(4, .int 0), (0, .ref b)] []) : J X A 7 Q (lB G V M0 (fun n => n) (60, 61) G' U N0 o cL fo) 520 [(4, .int 0), (3, .ref o), (2, .ref (U.1 43)), (1, .ref (V.1 0 0 0)), (0, .ref b)] [] := by
  obtain ⟨k, fr, lo, fr', lo', K1, N', hc, hr, hm, hr'⟩ := a_type (l := X.l) K.1 K.2.1 (((xs 1).toInt64 <<< ((32 : Int32).toInt64 &&& 63)) ||| ((xs 2).toInt64 &&& 4294967295)) (xs 3)
  refine J_aload_n C 3 d_J_law_520 rfl rfl ?_
  refine L_arg 1 4 0 C hX hbl hbA rfl rfl rfl (by decide) (by decide) d_J_law_521 d_J_law_522 d_J_law_524 d_J_law_525 d_J_law_526 ?_
  refine J_i2l C d_J_law_527 ?_
  refine J_bipush (v := 32) C d_J_law_528 (by decide) ?_
  refine J_lshl C d_J_law_530 ?_
  refine L_arg 2 4 0 C hX hbl hbA rfl rfl rfl (by decide) (by decide) d_J_law_531 d_J_law_532 d_J_law_534 d_J_law_535 d_J_law_536 ?_
  refine J_i2l C d_J_law_537 ?_
  refine J_ldc2 C cl_J_83 d_J_law_538 ?_
  refine J_land C d_J_law_541 ?_
  refine J_lor C d_J_law_542 ?_
  refine L_arg 3 4 0 C hX hbl hbA rfl rfl rfl (by decide) (by decide) d_J_law_543 d_J_law_544 d_J_law_546 d_J_law_547 d_J_law_548 ?_
  refine L_cv C K mi_L_type ml_J_85 rfl hc hr (by decide) rfl rfl (by decide) d_J_law_549 ?_
  refine J_aload_n C 2 d_J_law_552 rfl rfl ?_
  refine L_arg 1 4 0 C hX hbl hbA rfl rfl rfl (by decide) (by decide) d_J_law_553 d_J_law_554 d_J_law_556 d_J_law_557 d_J_law_558 ?_
  refine J_i2l C d_J_law_559 ?_
  refine J_bipush (v := 32) C d_J_law_560 (by decide) ?_
  refine J_lshl C d_J_law_562 ?_
  refine L_arg 2 4 0 C hX hbl hbA rfl rfl rfl (by decide) (by decide) d_J_law_563 d_J_law_564 d_J_law_566 d_J_law_567 d_J_law_568 ?_
  refine J_i2l C d_J_law_569 ?_
  refine J_ldc2 C cl_J_83 d_J_law_570 ?_
  refine J_land C d_J_law_573 ?_
  refine J_lor C d_J_law_574 ?_
  refine L_arg 3 4 0 C hX hbl hbA rfl rfl rfl (by decide) (by decide) d_J_law_575 d_J_law_576 d_J_law_578 d_J_law_579 d_J_law_580 ?_
  refine L_mv (rest := [.int k]) C K (K.sz K1) mi_M_type ml_J_89 rfl hm hr' (by decide) rfl rfl (Nat.le_of_ble_eq_true rfl) d_J_law_581 ?_
  refine J_icmp_eq (tgt := 861) C d_J_law_584 (by decide) (fun _ => ?_) (fun c => absurd rfl c)
  exact jlv [0, 4] rfl (J.imp (fun _ _ => trivial) (fin 0 0 (Nat.zero_le _) (Nat.zero_le _)))
set_option maxRecDepth 100000 in
set_option maxHeartbeats 4000000 in
theorem law_router (C : jC X code 7 RXL 11 392) (K : lK X A G V G' U o cL) (hrc : X.cells + 1 ≤ X.R.cells ∧ X.slots + 6 ≤ X.R.slots) {b : Nat} {xs : Nat → Int32} (hX : va_X b 6 xs X.s X.s.heap) (hbl : b < X.s.heap.size) (hbA : ¬ A b) (fin : ∀ i j : Nat, i ≤ 1 → j ≤ 6 → J (X.more i j) A 7 Q (fun _ => True) 861 [(4, .int 0), (0, .ref b)] []) : J X A 7 Q (lB G V M0 (fun n => n) (60, 61) G' U N0 o cL fo) 700 [(4, .int 0), (3, .ref o), (2, .ref (U.1 43)), (1, .ref (V.1 0 0 0)), (0, .ref b)] [] := by
  obtain ⟨k, fr, lo, fr', lo', K1, N', hc, hr, hm, hr'⟩ := a_router (l := X.l) K.1 K.2.1 (xs 1) (xs 2)
  refine J_aload_n C 3 d_J_law_700 rfl rfl ?_
  refine L_arg 1 4 0 C hX hbl hbA rfl rfl rfl (by decide) (by decide) d_J_law_701 d_J_law_702 d_J_law_704 d_J_law_705 d_J_law_706 ?_
  refine L_arg 2 4 0 C hX hbl hbA rfl rfl rfl (by decide) (by decide) d_J_law_707 d_J_law_708 d_J_law_710 d_J_law_711 d_J_law_712 ?_
  refine L_cv C K mi_L_router ml_J_94 rfl hc hr (by decide) rfl rfl (by decide) d_J_law_713 ?_
  refine J_aload_n C 2 d_J_law_716 rfl rfl ?_
  refine L_arg 1 4 0 C hX hbl hbA rfl rfl rfl (by decide) (by decide) d_J_law_717 d_J_law_718 d_J_law_720 d_J_law_721 d_J_law_722 ?_
  refine L_arg 2 4 0 C hX hbl hbA rfl rfl rfl (by decide) (by decide) d_J_law_723 d_J_law_724 d_J_law_726 d_J_law_727 d_J_law_728 ?_
  refine L_mv (rest := [.int k]) C K (K.sz K1) mi_M_router ml_J_98 rfl hm hr' (by decide) rfl rfl (Nat.le_of_ble_eq_true rfl) d_J_law_729 ?_
  refine J_icmp_eq (tgt := 861) C d_J_law_732 (by decide) (fun _ => ?_) (fun c => absurd rfl c)
  exact jlv [0, 4] rfl (J.imp (fun _ _ => trivial) (fin 0 0 (Nat.zero_le _) (Nat.zero_le _)))
set_option maxRecDepth 100000 in
set_option maxHeartbeats 4000000 in
theorem law_session (C : jC X code 7 RXL 11 392) (K : lK X A G V G' U o cL) (hrc : X.cells + 1 ≤ X.R.cells ∧ X.slots + 6 ≤ X.R.slots) {b : Nat} {xs : Nat → Int32} (hX : va_X b 6 xs X.s X.s.heap) (hbl : b < X.s.heap.size) (hbA : ¬ A b) (fin : ∀ i j : Nat, i ≤ 1 → j ≤ 6 → J (X.more i j) A 7 Q (fun _ => True) 861 [(4, .int 0), (0, .ref b)] []) : J X A 7 Q (lB G V M0 (fun n => n) (60, 61) G' U N0 o cL fo) 737 [(4, .int 0), (3, .ref o), (2, .ref (U.1 43)), (1, .ref (V.1 0 0 0)), (0, .ref b)] [] := by
  obtain ⟨k, fr, lo, fr', lo', K1, N', hc, hr, hm, hr'⟩ := a_session (l := X.l) K.1 K.2.1 (xs 1) (xs 2) (xs 3)
  refine J_aload_n C 3 d_J_law_737 rfl rfl ?_
  refine L_arg 1 4 0 C hX hbl hbA rfl rfl rfl (by decide) (by decide) d_J_law_738 d_J_law_739 d_J_law_741 d_J_law_742 d_J_law_743 ?_
  refine L_arg 2 4 0 C hX hbl hbA rfl rfl rfl (by decide) (by decide) d_J_law_744 d_J_law_745 d_J_law_747 d_J_law_748 d_J_law_749 ?_
  refine L_arg 3 4 0 C hX hbl hbA rfl rfl rfl (by decide) (by decide) d_J_law_750 d_J_law_751 d_J_law_753 d_J_law_754 d_J_law_755 ?_
  refine L_cv C K mi_L_session ml_J_99 rfl hc hr (by decide) rfl rfl (by decide) d_J_law_756 ?_
  refine J_aload_n C 2 d_J_law_759 rfl rfl ?_
  refine L_arg 1 4 0 C hX hbl hbA rfl rfl rfl (by decide) (by decide) d_J_law_760 d_J_law_761 d_J_law_763 d_J_law_764 d_J_law_765 ?_
  refine L_arg 2 4 0 C hX hbl hbA rfl rfl rfl (by decide) (by decide) d_J_law_766 d_J_law_767 d_J_law_769 d_J_law_770 d_J_law_771 ?_
  refine L_arg 3 4 0 C hX hbl hbA rfl rfl rfl (by decide) (by decide) d_J_law_772 d_J_law_773 d_J_law_775 d_J_law_776 d_J_law_777 ?_
  refine L_mv (rest := [.int k]) C K (K.sz K1) mi_M_session ml_J_103 rfl hm hr' (by decide) rfl rfl (Nat.le_of_ble_eq_true rfl) d_J_law_778 ?_
  refine J_icmp_eq (tgt := 861) C d_J_law_781 (by decide) (fun _ => ?_) (fun c => absurd rfl c)
  exact jlv [0, 4] rfl (J.imp (fun _ _ => trivial) (fin 0 0 (Nat.zero_le _) (Nat.zero_le _)))
set_option maxRecDepth 100000 in
set_option maxHeartbeats 4000000 in
theorem law_port (C : jC X code 7 RXL 11 392) (K : lK X A G V G' U o cL) (hrc : X.cells + 1 ≤ X.R.cells ∧ X.slots + 6 ≤ X.R.slots) {b : Nat} {xs : Nat → Int32} (hX : va_X b 6 xs X.s X.s.heap) (hbl : b < X.s.heap.size) (hbA : ¬ A b) (fin : ∀ i j : Nat, i ≤ 1 → j ≤ 6 → J (X.more i j) A 7 Q (fun _ => True) 861 [(4, .int 0), (0, .ref b)] []) : J X A 7 Q (lB G V M0 (fun n => n) (60, 61) G' U N0 o cL fo) 786 [(4, .int 0), (3, .ref o), (2, .ref (U.1 43)), (1, .ref (V.1 0 0 0)), (0, .ref b)] [] := by
  obtain ⟨k, fr, lo, fr', lo', K1, N', hc, hr, hm, hr'⟩ := a_port (l := X.l) K.1 K.2.1 (xs 1)
  refine J_aload_n C 3 d_J_law_786 rfl rfl ?_
  refine L_arg 1 4 0 C hX hbl hbA rfl rfl rfl (by decide) (by decide) d_J_law_787 d_J_law_788 d_J_law_790 d_J_law_791 d_J_law_792 ?_
  refine L_cv C K mi_L_port ml_J_104 rfl hc hr (by decide) rfl rfl (by decide) d_J_law_793 ?_
  refine J_aload_n C 2 d_J_law_796 rfl rfl ?_
  refine L_arg 1 4 0 C hX hbl hbA rfl rfl rfl (by decide) (by decide) d_J_law_797 d_J_law_798 d_J_law_800 d_J_law_801 d_J_law_802 ?_
  refine L_mv (rest := [.int k]) C K (K.sz K1) mi_M_port ml_J_107 rfl hm hr' (by decide) rfl rfl (Nat.le_of_ble_eq_true rfl) d_J_law_803 ?_
  refine J_icmp_eq (tgt := 861) C d_J_law_806 (by decide) (fun _ => ?_) (fun c => absurd rfl c)
  exact jlv [0, 4] rfl (J.imp (fun _ _ => trivial) (fin 0 0 (Nat.zero_le _) (Nat.zero_le _)))
set_option maxRecDepth 100000 in
set_option maxHeartbeats 4000000 in
theorem law_flying (C : jC X code 7 RXL 11 392) (K : lK X A G V G' U o cL) (hrc : X.cells + 1 ≤ X.R.cells ∧ X.slots + 6 ≤ X.R.slots) {b : Nat} {xs : Nat → Int32} (hX : va_X b 6 xs X.s X.s.heap) (hbl : b < X.s.heap.size) (hbA : ¬ A b) (fin : ∀ i j : Nat, i ≤ 1 → j ≤ 6 → J (X.more i j) A 7 Q (fun _ => True) 861 [(4, .int 0), (0, .ref b)] []) : J X A 7 Q (lB G V M0 (fun n => n) (60, 61) G' U N0 o cL fo) 811 [(4, .int 0), (3, .ref o), (2, .ref (U.1 43)), (1, .ref (V.1 0 0 0)), (0, .ref b)] [] := by
  obtain ⟨k, fr, lo, fr', lo', K1, N', hc, hr, hm, hr'⟩ := a_flying (l := X.l) K.1 K.2.1
  refine J_aload_n C 3 d_J_law_811 rfl rfl ?_
  refine L_cv C K mi_L_flying ml_J_108 rfl hc hr (by decide) rfl rfl (by decide) d_J_law_812 ?_
  refine J_aload_n C 2 d_J_law_815 rfl rfl ?_
  refine L_mv (rest := [.int k]) C K (K.sz K1) mi_M_flying ml_J_111 rfl hm hr' (by decide) rfl rfl (Nat.le_of_ble_eq_true rfl) d_J_law_816 ?_
  refine J_icmp_eq (tgt := 861) C d_J_law_819 (by decide) (fun _ => ?_) (fun c => absurd rfl c)
  exact jlv [0, 4] rfl (J.imp (fun _ _ => trivial) (fin 0 0 (Nat.zero_le _) (Nat.zero_le _)))
set_option maxRecDepth 100000 in
set_option maxHeartbeats 4000000 in
theorem law_frame (C : jC X code 7 RXL 11 392) (K : lK X A G V G' U o cL) (hrc : X.cells + 1 ≤ X.R.cells ∧ X.slots + 6 ≤ X.R.slots) {b : Nat} {xs : Nat → Int32} (hX : va_X b 6 xs X.s X.s.heap) (hbl : b < X.s.heap.size) (hbA : ¬ A b) (fin : ∀ i j : Nat, i ≤ 1 → j ≤ 6 → J (X.more i j) A 7 Q (fun _ => True) 861 [(4, .int 0), (0, .ref b)] []) : J X A 7 Q (lB G V M0 (fun n => n) (60, 61) G' U N0 o cL fo) 824 [(4, .int 0), (3, .ref o), (2, .ref (U.1 43)), (1, .ref (V.1 0 0 0)), (0, .ref b)] [] := by
  obtain ⟨k, fr, lo, fr', lo', K1, N', hc, hr, hm, hr'⟩ := a_frame (l := X.l) K.1 K.2.1 (xs 1) (xs 2)
  refine J_aload_n C 3 d_J_law_824 rfl rfl ?_
  refine L_arg 1 4 0 C hX hbl hbA rfl rfl rfl (by decide) (by decide) d_J_law_825 d_J_law_826 d_J_law_828 d_J_law_829 d_J_law_830 ?_
  refine L_arg 2 4 0 C hX hbl hbA rfl rfl rfl (by decide) (by decide) d_J_law_831 d_J_law_832 d_J_law_834 d_J_law_835 d_J_law_836 ?_
  refine L_cv C K mi_L_frame ml_J_112 rfl hc hr (by decide) rfl rfl (by decide) d_J_law_837 ?_
  refine J_aload_n C 2 d_J_law_840 rfl rfl ?_
  refine L_arg 1 4 0 C hX hbl hbA rfl rfl rfl (by decide) (by decide) d_J_law_841 d_J_law_842 d_J_law_844 d_J_law_845 d_J_law_846 ?_
  refine L_arg 2 4 0 C hX hbl hbA rfl rfl rfl (by decide) (by decide) d_J_law_847 d_J_law_848 d_J_law_850 d_J_law_851 d_J_law_852 ?_
  refine L_mv (rest := [.int k]) C K (K.sz K1) mi_M_frame ml_J_115 rfl hm hr' (by decide) rfl rfl (Nat.le_of_ble_eq_true rfl) d_J_law_853 ?_
  refine J_icmp_eq (tgt := 861) C d_J_law_856 (by decide) (fun _ => ?_) (fun c => absurd rfl c)
  exact jlv [0, 4] rfl (J.imp (fun _ _ => trivial) (fin 0 0 (Nat.zero_le _) (Nat.zero_le _)))
set_option maxRecDepth 100000 in
set_option maxHeartbeats 4000000 in
theorem law_tick_1 (C : jC X code 7 RXL 11 392) (K : lK X A G V G' U o cL) (hrc : X.cells + 1 ≤ X.R.cells ∧ X.slots + 6 ≤ X.R.slots) {b : Nat} {xs : Nat → Int32} (hX : va_X b 6 xs X.s X.s.heap) (hbl : b < X.s.heap.size) (hbA : ¬ A b) (fin : ∀ i j : Nat, i ≤ 1 → j ≤ 6 → J (X.more i j) A 7 Q (fun _ => True) 861 [(4, .int 0), (0, .ref b)] []) (hl : ∀ e, X.l.admits e → e.platform.stackTraces = false) (hx : xs 1 < 1 ∨ ¬ xs 1 ≤ 400) : J X A 7 Q (lB G V M0 (fun n => n) (60, 61) G' U N0 o cL fo) 464 [(4, .int 0), (3, .ref o), (2, .ref (U.1 43)), (1, .ref (V.1 0 0 0)), (0, .ref b)] [] := by
  have C2 := C.more hrc
  refine J_aload_n C 3 d_J_law_464 rfl rfl ?_
  refine L_arg 1 4 0 C hX hbl hbA rfl rfl rfl (by decide) (by decide) d_J_law_465 d_J_law_466 d_J_law_468 d_J_law_469 d_J_law_470 ?_
  refine J_aload_n C 1 d_J_law_471 rfl rfl ?_
  refine L_wr (n := 3) C K ml_J_79 ws_tick iz_J wc_tick (by decide) (by decide +kernel) (w_tick_1 hl K.1 M0 (fun n => n) (60, 61) (xs 1) o hx) (by decide) (by decide) hrc wBs.call (fun S h _ _ => h.1) (fun q h => Or.inl h) rfl rfl d_J_law_472 ?_
  refine J_istore C2 d_J_law_475 (by decide) rfl ?_
  refine J_aload_n C2 3 d_J_law_477 rfl rfl ?_
  refine L_arg 1 5 1 C2 hX hbl hbA rfl rfl rfl (by decide) (by decide) d_J_law_478 d_J_law_479 d_J_law_481 d_J_law_482 d_J_law_483 ?_
  refine L_mv (X := X.more 1 6) C2 K (K.sz _) mi_M_tick ml_J_82 rfl (m_tick_1 K.2.1 N0 (xs 1) hx) (by decide) (by decide) rfl rfl (by decide) d_J_law_484 ?_
  refine J_istore C2 d_J_law_487 (by decide) rfl ?_
  refine J_aload_n C2 4 d_J_law_489 rfl rfl ?_
  refine L_mv (X := X.more 1 6) C2 K (K.sz _) mi_M_thrown ml_J_56 rfl (c_M_thrown K.2.1 _) (by decide) (by decide) rfl rfl (by decide) d_J_law_490 ?_
  refine J_iload C2 1 d_J_law_493 rfl ?_
  refine J_icmp_eq (tgt := 500) C2 d_J_law_495 (by decide) (fun _ => ?_) (fun c => absurd (thr_u2 _ _) c)
  refine J_iload C2 1 d_J_law_500 rfl ?_
  refine J_if_ne (tgt := 517) C2 d_J_law_502 (by decide) (fun _ => ?_) (fun c => absurd c (by decide))
  refine J_goto (tgt := 861) C2 d_J_law_517 (by decide) ?_
  exact jlv [2, 6] rfl (J.imp (fun _ _ => trivial) (fin 1 6 (Nat.le_refl _) (Nat.le_refl _)))
theorem lg_cmp_self (x : Int64) : lg_cmp x x = 0 := by
  unfold lg_cmp
  rw [if_neg (Int64.lt_irrefl), if_pos rfl]
set_option maxRecDepth 100000 in
set_option maxHeartbeats 4000000 in
theorem law_tick_0 (C : jC X code 7 RXL 11 392) (K : lK X A G V G' U o cL) (hrc : X.cells + 1 ≤ X.R.cells ∧ X.slots + 6 ≤ X.R.slots) {b : Nat} {xs : Nat → Int32} (hX : va_X b 6 xs X.s X.s.heap) (hbl : b < X.s.heap.size) (hbA : ¬ A b) (fin : ∀ i j : Nat, i ≤ 1 → j ≤ 6 → J (X.more i j) A 7 Q (fun _ => True) 861 [(4, .int 0), (0, .ref b)] []) (n : Nat) (hn1 : 1 ≤ n) (hn4 : n ≤ 400) (hx : xs 1 = nI n) : J X A 7 Q (lB G V M0 (fun n => n) (60, 61) G' U N0 o cL fo) 464 [(4, .int 0), (3, .ref o), (2, .ref (U.1 43)), (1, .ref (V.1 0 0 0)), (0, .ref b)] [] := by
  have C2 := C.more hrc
  refine J_aload_n C 3 d_J_law_464 rfl rfl ?_
  refine L_arg 1 4 0 C hX hbl hbA rfl rfl rfl (by decide) (by decide) d_J_law_465 d_J_law_466 d_J_law_468 d_J_law_469 d_J_law_470 ?_
  refine J_aload_n C 1 d_J_law_471 rfl rfl ?_
  rw [hx]
  refine L_wr (n := 3) C K ml_J_79 ws_tick iz_J wc_tick (by decide) (by decide +kernel) (w_tick_0 K.1 M0 (fun n => n) (60, 61) n hn1 hn4 inv_M0 o cL fo K.2.2.2.2.2.2.1) (by decide) (by decide) hrc (fun S g mk a h => ⟨wBs.call S g mk a h.1, h.2.1, h.2.2⟩) (fun S h1 h2 h3 => ⟨h1.1, h2, h3⟩) (fun q h => h) rfl rfl d_J_law_472 ?_
  refine J_istore C2 d_J_law_475 (by decide) rfl ?_
  refine J_aload_n C2 3 d_J_law_477 rfl rfl ?_
  refine L_arg 1 5 1 C2 hX hbl hbA rfl rfl rfl (by decide) (by decide) d_J_law_478 d_J_law_479 d_J_law_481 d_J_law_482 d_J_law_483 ?_
  rw [hx]
  refine L_mv (X := X.more 1 6) C2 K (K.so _) mi_M_tick ml_J_82 rfl (m_tick_0 K.2.1 N0 n hn1 hn4 rfl (fun r _ => rfl)) (by decide) (by decide) rfl rfl (by decide) d_J_law_484 ?_
  refine J_istore C2 d_J_law_487 (by decide) rfl ?_
  refine J_aload_n C2 4 d_J_law_489 rfl rfl ?_
  refine L_mv (X := X.more 1 6) C2 K (K.so _) mi_M_thrown ml_J_56 rfl (c_M_thrown K.2.1 _) (by decide) (by decide) rfl rfl (by decide) d_J_law_490 ?_
  refine J_iload C2 1 d_J_law_493 rfl ?_
  refine J_icmp_eq (tgt := 500) C2 d_J_law_495 (by decide) (fun _ => ?_) (fun c => absurd (mTk_t _ _) c)
  refine J_iload C2 1 d_J_law_500 rfl ?_
  refine J_if_ne (tgt := 517) C2 d_J_law_502 (by decide) (fun c => absurd rfl c) (fun _ => ?_)
  refine J_aload_n C2 3 d_J_law_505 rfl rfl ?_
  refine J_iconst (v := 0) C2 d_J_law_506 (by decide) ?_
  refine J_lald C2 (K.2.2.2.2.1.2 0 _ rfl).1 (fun _ h => h.1.2) d_J_law_507 ?_
  refine J_iload C2 0 d_J_law_508 rfl ?_
  refine J_i2l C2 d_J_law_510 ?_
  refine J_lcmp C2 d_J_law_511 ?_
  refine J_if_eq (tgt := 517) C2 d_J_law_512 (by decide) (fun _ => ?_) (fun c => absurd (by rw [show vp_updL fo 0 ((tiL n (M0, fun n => n, 60, 61)).1 6 0 0 3).toInt64 0 = ((tiL n (M0, fun n => n, 60, 61)).1 6 0 0 3).toInt64 from by simp [vp_updL], ti_off n _ (qt_0 _ _)]; exact lg_cmp_self _) c)
  refine J_goto (tgt := 861) C2 d_J_law_517 (by decide) ?_
  exact jlv [2, 6] rfl (J.imp (fun _ _ => trivial) (fin 1 6 (Nat.le_refl _) (Nat.le_refl _)))
theorem a_arrive {l : Launch} (hl : ∀ e, l.admits e → e.platform.stackTraces = false) (w : wC G V) (u : wR G' U) (x k s hp ad : Int32) (o : Nat) : ∃ (k0 : Int32) (fr lo fr' lo' : Nat) (K1 : zK) (N' : zR), wF l y_J_arrive b_J_arrive 8 (some .int) hs_arrive fr lo [.ref (V.1 0 0 0), .int x, .int k, .int s, .int hp, .int ad, .ref o] (wBs0 G V) (zA G) (some (.int k0)) (zP G K1) ∧ cRm fr lo ∧ zF l y_M_arrive b_M_arrive 9 (some .boolean) fr' lo' G' [.ref (U.1 43), .int x, .int k, .int s, .int hp, .int ad] (eR U N0) (some (.int 0)) (eR U N') ∧ cRm fr' lo' ∧ N' 43 0 = k0 ∧ ¬ k0 = 0 := by
  by_cases h : lIsR x = 0
  · exact ⟨1, _, _, _, _, _, _, w_arrive_1 hl w M0 _ _ x k s hp ad o h, by decide, m_arrive_1 u N0 x k s hp ad h, by decide, thr_u2 _ _, by decide⟩
  · have hx := lIsR_nI h
    have hr := lIsR_lt h
    generalize x.toNatClampNeg = r at hx hr
    subst hx
    by_cases h2 : (¬ k = 1 ∧ ¬ k = 2) ∨ s < 0 ∨ 15 ≤ s ∨ hp < 0 ∨ ¬ hp ≤ 255
    · have h2' : (¬ k = 1 ∧ ¬ k = 2) ∨ s < 0 ∨ 14 < s ∨ hp < 0 ∨ 255 < hp := by
        rcases h2 with h2 | h2 | h2 | h2 | h2
        · exact Or.inl h2
        · exact Or.inr (Or.inl h2)
        · refine Or.inr (Or.inr (Or.inl ?_))
          rw [Int32.le_iff_toInt_le] at h2
          rw [Int32.lt_iff_toInt_lt]
          have e0 : (15 : Int32).toInt = 15 := rfl
          have e1 : (14 : Int32).toInt = 14 := rfl
          omega
        · exact Or.inr (Or.inr (Or.inr (Or.inl h2)))
        · exact Or.inr (Or.inr (Or.inr (Or.inr (i_nle.mp h2))))
      exact ⟨2, _, _, _, _, _, _, w_arrive_2 hl w M0 _ _ r hr k s hp ad o h2, by decide, m_arrive_2 u N0 r hr k s hp ad h2', by decide, thr_u2 _ _, by decide⟩
    · have g1 : k = 1 ∨ k = 2 := by
        by_cases q : k = 1
        · exact Or.inl q
        · by_cases q2 : k = 2
          · exact Or.inr q2
          · exact absurd (Or.inl ⟨q, q2⟩) h2
      have g2 : ¬ s < 0 := fun q => h2 (Or.inr (Or.inl q))
      have g3 : ¬ 15 ≤ s := fun q => h2 (Or.inr (Or.inr (Or.inl q)))
      have g4 : ¬ hp < 0 := fun q => h2 (Or.inr (Or.inr (Or.inr (Or.inl q))))
      have g5 : hp ≤ 255 := Classical.not_not.mp (fun q => h2 (Or.inr (Or.inr (Or.inr (Or.inr q)))))
      have g3' : ¬ 14 < s := fun q => g3 (by
        rw [Int32.lt_iff_toInt_lt] at q
        rw [Int32.le_iff_toInt_le]
        have e0 : (15 : Int32).toInt = 15 := rfl
        have e1 : (14 : Int32).toInt = 14 := rfl
        omega)
      exact ⟨3, _, _, _, _, _, _, w_arrive_3 hl w M0 _ _ r hr k s hp ad o g1 g2 g3 g4 g5 rfl, by decide, m_arrive_3 u N0 r hr k s hp ad g1 g2 g3' g4 (i_nlt.mpr g5) rfl, by decide, thr_u2 _ _, by decide⟩
set_option maxRecDepth 100000 in
set_option maxHeartbeats 4000000 in
theorem law_arrive (C : jC X code 7 RXL 11 392) (K : lK X A G V G' U o cL) (hrc : X.cells + 1 ≤ X.R.cells ∧ X.slots + 6 ≤ X.R.slots) {b : Nat} {xs : Nat → Int32} (hX : va_X b 6 xs X.s X.s.heap) (hbl : b < X.s.heap.size) (hbA : ¬ A b) (fin : ∀ i j : Nat, i ≤ 1 → j ≤ 6 → J (X.more i j) A 7 Q (fun _ => True) 861 [(4, .int 0), (0, .ref b)] []) (hl : ∀ e, X.l.admits e → e.platform.stackTraces = false) : J X A 7 Q (lB G V M0 (fun n => n) (60, 61) G' U N0 o cL fo) 589 [(4, .int 0), (3, .ref o), (2, .ref (U.1 43)), (1, .ref (V.1 0 0 0)), (0, .ref b)] [] := by
  obtain ⟨k, fr, lo, fr', lo', K1, N', hw, hr, hm, hr', hk, hk0⟩ := a_arrive hl K.1 K.2.1 (xs 1) (xs 2) (xs 3) (xs 4) (xs 5) o
  have C2 := C.more hrc
  refine J_aload_n C 3 d_J_law_589 rfl rfl ?_
  refine L_arg 1 4 0 C hX hbl hbA rfl rfl rfl (by decide) (by decide) d_J_law_590 d_J_law_591 d_J_law_593 d_J_law_594 d_J_law_595 ?_
  refine L_arg 2 4 0 C hX hbl hbA rfl rfl rfl (by decide) (by decide) d_J_law_596 d_J_law_597 d_J_law_599 d_J_law_600 d_J_law_601 ?_
  refine L_arg 3 4 0 C hX hbl hbA rfl rfl rfl (by decide) (by decide) d_J_law_602 d_J_law_603 d_J_law_605 d_J_law_606 d_J_law_607 ?_
  refine L_arg 4 4 0 C hX hbl hbA rfl rfl rfl (by decide) (by decide) d_J_law_608 d_J_law_609 d_J_law_611 d_J_law_612 d_J_law_613 ?_
  refine L_arg 5 4 0 C hX hbl hbA rfl rfl rfl (by decide) (by decide) d_J_law_614 d_J_law_615 d_J_law_617 d_J_law_618 d_J_law_619 ?_
  refine J_aload_n C 1 d_J_law_620 rfl rfl ?_
  refine L_wr (n := 7) C K ml_J_90 ws_arrive iz_J wc_arrive (by decide) (by decide +kernel) hw hr (by decide) hrc wBs.call (fun S h _ _ => h.1) (fun q h => Or.inl h) rfl rfl d_J_law_621 ?_
  refine J_istore C2 d_J_law_624 (by decide) rfl ?_
  refine J_aload_n C2 3 d_J_law_626 rfl rfl ?_
  refine L_arg 1 5 1 C2 hX hbl hbA rfl rfl rfl (by decide) (by decide) d_J_law_627 d_J_law_628 d_J_law_630 d_J_law_631 d_J_law_632 ?_
  refine L_arg 2 5 1 C2 hX hbl hbA rfl rfl rfl (by decide) (by decide) d_J_law_633 d_J_law_634 d_J_law_636 d_J_law_637 d_J_law_638 ?_
  refine L_arg 3 5 1 C2 hX hbl hbA rfl rfl rfl (by decide) (by decide) d_J_law_639 d_J_law_640 d_J_law_642 d_J_law_643 d_J_law_644 ?_
  refine L_arg 4 5 1 C2 hX hbl hbA rfl rfl rfl (by decide) (by decide) d_J_law_645 d_J_law_646 d_J_law_648 d_J_law_649 d_J_law_650 ?_
  refine L_arg 5 5 1 C2 hX hbl hbA rfl rfl rfl (by decide) (by decide) d_J_law_651 d_J_law_652 d_J_law_654 d_J_law_655 d_J_law_656 ?_
  refine L_mv (X := X.more 1 6) C2 K (K.sz K1) mi_M_arrive ml_J_93 rfl hm hr' (by decide) rfl rfl (by decide) d_J_law_657 ?_
  refine J_istore C2 d_J_law_660 (by decide) rfl ?_
  refine J_aload_n C2 4 d_J_law_662 rfl rfl ?_
  refine L_mv (X := X.more 1 6) C2 K (K.sz K1) mi_M_thrown ml_J_56 rfl (c_M_thrown K.2.1 N') (by decide) (by decide) rfl rfl (by decide) d_J_law_663 ?_
  refine J_iload C2 1 d_J_law_666 rfl ?_
  refine J_icmp_eq (tgt := 673) C2 d_J_law_668 (by decide) (fun _ => ?_) (fun c => absurd hk c)
  refine J_iload C2 1 d_J_law_673 rfl ?_
  refine J_if_ne (tgt := 697) C2 d_J_law_675 (by decide) (fun _ => ?_) (fun c => absurd c hk0)
  refine J_goto (tgt := 861) C2 d_J_law_697 (by decide) ?_
  exact jlv [2, 6] rfl (J.imp (fun _ _ => trivial) (fin 1 6 (Nat.le_refl _) (Nat.le_refl _)))
end LAW
