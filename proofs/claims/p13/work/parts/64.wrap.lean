/-! WRAPPERS: what they need; set where it returns -/
def ncP : List (String × String) := [("java/lang/IllegalArgumentException", "java/lang/IndexOutOfBoundsException"), ("java/lang/IllegalStateException", "java/lang/IndexOutOfBoundsException"), ("java/lang/IndexOutOfBoundsException", "java/lang/IllegalArgumentException"), ("java/lang/IllegalStateException", "java/lang/IllegalArgumentException"), ("java/lang/IndexOutOfBoundsException", "java/lang/IllegalStateException"), ("java/lang/IllegalArgumentException", "java/lang/IllegalStateException")]
def nOk (U : State) : Prop := ∀ p ∈ ncP, ∃ c1 c2, U.vm.findClass p.1 = some c1 ∧ U.vm.findClass p.2 = some c2 ∧ U.vm.assignable c1 c2 = false
theorem nOk.moved {u U : State} (hvm : u.vm.Alike U.vm) (h : nOk u) : nOk U := fun p hp => by
  obtain ⟨c1, c2, h1, h2, h3⟩ := h p hp
  exact ⟨c1, c2, by rw [hvm.findClass]; exact h1, by rw [hvm.findClass]; exact h2, by rw [hvm.assignable]; exact h3⟩
theorem va_at.ns {D : va_G} {cl : List vw_C} {q : Nat × va_E} {H : Heap} {cell : Cell} (h : va_at D cl q H) (hc : H[q.1]? = some cell) : cell.vm.isStatics = false := by
  obtain ⟨a, e⟩ := q
  cases e with
  | inl x =>
    have h : H[a]? = some (vp_cell x.1 x.2) := h
    have e := hc.symm.trans h
    cases e
    obtain ⟨c, n, f | f | f | f | f⟩ := x <;> rfl
  | inr o =>
    obtain ⟨r, h1, cell', h2, h3, h4, -⟩ := h
    cases hc.symm.trans h2
    rw [h4]
    rfl
theorem zP.ns {G : zG} {K : zK} {H : Heap} (h : zP G K H) : ∀ (a : Nat) (cell : Cell), H[a]? = some cell → cell.vm.isStatics = true → a ∉ G.2.2.2 := by
  obtain ⟨f, hf, hP⟩ := h
  intro a cell hc hs hm
  obtain ⟨k, hk⟩ := va_pl_get (X := []) (f := f) hm
  have := (hP k _ hk).ns hc
  rw [hs] at this
  cases this
theorem zPre.call {G : zG} {K : zK} {U : State} (g : JFrame) (mk : MethodId) (a : Array Value) (h : zPre G K U) : zPre G K (U.calling g mk a) := ⟨h.1, va_K.moved (u := U) (U := U.calling g mk a) (Vm.Alike.refl U.vm) h.2⟩
section JW
variable {X : zX} {G : zG} {A : Nat → Prop} {nL : Nat} {Q : State → Prop} {B' : Heap → Prop} {pc : Nat} {lv : List (Nat × Value)} {st rest As : List Value} {cc bytes : ByteArray} {own : String} {fr lo fr' lo' : Nat} {y : MethodName} {n index maxL : Nat} {ret : Option FieldType} {V : zV} {M : zM} {P : Nat → Nat} {D : Nat × Nat}
theorem wC_recv (w : wC G V) {s : State} (hK : va_K G.1 G.2.1 G.2.2.1 s) : ∀ H, zP G (eC V M P D) H → ∃ cell : Cell, H[V.1 0 0 0]? = some cell ∧ cell.vm.isStatics = false ∧ s.vm.findClass RX4 = some cell.cls := fun H h => by
  obtain ⟨f, hf, hP⟩ := h
  obtain ⟨q0, hq⟩ := va_pl_get (X := []) (f := f) (w.2.2.1 0 0 0 ⟨rfl, rfl⟩)
  rw [hf 0 0 0 ⟨rfl, rfl⟩] at hq
  exact va_recv (q := (RX4, TX4, 3)) hK hP (ci := 4) (by rw [w.1]; rfl) hq
/-- a call of the class's own object that throws an E, caught by one of the wrapper's clauses -/
theorem J_callTw {Bp : State → Prop} {E : String} {hs : List (Nat × Nat × Nat × Nat)} (C : jC X cc nL own fr lo) (w : wC G V) (hK : va_K G.1 G.2.1 G.2.2.1 X.s) (hA : ∀ q, A q → q ∈ G.2.2.2) (hb0 : zP G (eC V M P D) X.s.heap) (hn0 : nOk X.s) (hw : wC' X hs) (mi : zMi y bytes maxL ret n) (hlk : Cond.methodLink own index y ∈ zT) (hM : zTh X.l y bytes maxL ret fr' lo' (.ref (V.1 0 0 0) :: As) Bp E) (hle : fr' + 1 ≤ fr ∧ 19 + maxL + lo' ≤ lo) (hy : y.cls = RX4)
    (hbl : ∀ U g mk a, Bp U → Bp (U.calling g mk a)) (hp : ∀ U : State, zP G (eC V M P D) U.heap → X.s.WarmedH U.vm → (∀ q, q < X.s.heap.size → ¬ A q → U.heap[q]? = X.s.heap[q]?) → Bp U)
    (pre : List ((Nat × Nat × Nat × Nat) × String)) (x : Nat × Nat × Nat × Nat) (tail : List (Nat × Nat × Nat × Nat)) (hse : hs = pre.map (·.1) ++ x :: tail)
    (hpre : ∀ z ∈ pre, (covers (mkEn z.1) pc = true ∧ z.1.2.2.2 ≠ 0 ∧ Cond.classLink own z.1.2.2.2 z.2 ∈ zT) ∧ (E, z.2) ∈ ncP) (hx : covers (mkEn x) pc = true) (h0 : x.2.2.2 ≠ 0) (hxl : Cond.classLink own x.2.2.2 E ∈ zT) (hca : Cond.castable E E ∈ tCa)
    (hn : As.length = n) (hst : st = As.reverse ++ .ref (V.1 0 0 0) :: rest) (hrm : (rest.map fun v => v.category).sum ≤ 8) (hd : decode cc pc = .ok (.invokevirtual index, 3))
    (k : ∀ q : Nat, J (X.more 1 6) A nL Q (zP G (eC V M P D)) x.2.2.1 lv [.ref q]) : J X A nL Q (zP G (eC V M P D)) pc lv st := by
  obtain ⟨⟨z1, z2⟩, htab, hok, hr1, hr2⟩ := hw
  obtain ⟨c1, c2, e1, e2, e3⟩ := Cond.castable_spec (hok.2.1 _ hca X.args)
  cases Option.some.inj (e1.symm.trans e2)
  have hrc : X.cells + 1 ≤ X.R.cells ∧ X.slots + 6 ≤ X.R.slots := by
    have q1 : X.cells = 0 := z1
    have q2 : X.slots = 0 := z2
    rw [q1, q2, hr1, hr2]
    exact ⟨Nat.le_refl _, Nat.le_refl _⟩
  exact J_callT (E := E) (name := E) (cT := c1) (B' := zP G (eC V M P D)) C mi hlk hM hle hrc (by rw [hy]; exact wC_recv w hK) hbl hp hok (fun a cell h1 h2 h3 => hb0.ns a cell h1 h2 (hA a h3)) zP.kp (pre.map (fun z => (mkEn z.1, z.2))) (mkEn x) (tail.map mkEn)
    (by rw [htab, hse]; simp [List.map_append, List.map_map, Function.comp])
    (fun z hz => by
      obtain ⟨z', hz', rfl⟩ := List.mem_map.mp hz
      obtain ⟨⟨g1, g2, g3⟩, g4⟩ := hpre z' hz'
      obtain ⟨d1, d2, f1, f2, f3⟩ := hn0 _ g4
      exact ⟨g1, g2, g3, d2, f2, fun cE hE => by cases Option.some.inj (hE.symm.trans f1); exact f3⟩)
    hx h0 hxl e1 (fun cE hE => by cases Option.some.inj (hE.symm.trans e1); exact e3) hn hst hrm hd k
end JW
/-! set, where it returns -/
def zFs (l : Launch) (y : MethodName) (cc : ByteArray) (nL : Nat) (ret : Option FieldType) (fr lo : Nat) (G : zG) (As : List Value) (K : zK) (w : Option Value) (K' : zK) : Prop :=
  Met l y (zWs y cc nL ret) (zRm fr lo) (va_Pc As (fun U => zPre G K U ∧ stOk (zA G) U U.heap)) (zPost G w K') 0 0 (zA G)
theorem zFs.ofZ {l : Launch} {y : MethodName} {fr lo : Nat} {G : zG} {As : List Value} {K K' : zK} {w : Option Value} {cc : ByteArray} {nL : Nat} {ret : Option FieldType}
    (hy : plainName y.cls = true) (hL : G.2.2.2.Nodup) (hE : (lg_sl As).length ≤ nL)
    (body : ∀ X : zX, X.l = l → zN X → X.meth.sig.returnType = ret → zC X G (zA G) cc nL y.cls fr lo → stOk (zA G) X.s X.s.heap → Z X G (zA G) nL (zQ X G w K') K 0 (lv_args 0 As) []) : zFs l y cc nL ret fr lo G As K w K' := by
  refine Met.ofW (cc := cc) (maxL := nL) (ret := ret) (ws' := zT) hy rfl ?_
  intro p e s m args below meth c s₁ B hml hv
  obtain ⟨rfl, ⟨⟨f, hf, hP⟩, hK⟩, hst⟩ := hv
  have hts := atoms_spec (ws := zWs y cc nL ret) B.pre
  have hown : s.vm.findClass y.cls = some m.cls := findClass_of_methodNamed B.named
  have hl := lv_entry As (n := nL) hE
  rw [lg_entry_eq]
  exact body (p, l, e, (headSpec (zWs y cc nL ret) (zRm fr lo)).room, s, m, As.toArray, below, meth, c, 0, 0) rfl ⟨rfl, rfl⟩ B.returns ⟨⟨B.exec, B.bytes, hml, hown, fun w h => hts w (List.mem_cons_of_mem _ h)⟩, hK, hL, fun q h => h, B.notSynchronized, Nat.zero_le _, Nat.zero_le _, Nat.le_refl _, Nat.le_refl _⟩ hst f s.heap [] _ hf hP va_S.rf hl
section ZS
variable {X : zX} {G : zG} {A : Nat → Prop} {nL : Nat} {Q : State → Prop} {K : zK} {pc : Nat} {lv : List (Nat × Value)} {st : List Value} {cc : ByteArray} {own : String} {fr lo index : Nat} {x : Int32}
theorem Z_gets {n d : String} {t : Nat} (C : zC X G A cc nL own fr lo) (hZ : va_Z RX4 n d (.ref t) A X.s X.s.heap) (hlk : Cond.fieldLink own index RX4 n d ∈ zT) (hd : decode cc pc = .ok (.getstatic index, 3)) (k : Z X G A nL Q K (pc + 3) lv (.ref t :: st)) : Z X G A nL Q K pc lv st := fun f H locs ls hf hP hS hl =>
  va_gets C.1.1 C.1.2.1 hZ hS C.1.2.2.2.1 (C.1.2.2.2.2 _ hlk) (fun _ h => h) hd (k f H locs ls hf hP hS hl)
theorem Z_tlen {f : Nat → Value} {t : Nat} (C : zC X G A cc nL own fr lo) (hT : va_T .int t 10 f A X.s X.s.heap) (hd : decode cc pc = .ok (.arraylength, 1)) (k : Z X G A nL Q K (pc + 1) lv (.int 10 :: st)) : Z X G A nL Q K pc lv (.ref t :: st) := fun f H locs ls hf hP hS hl =>
  va_tlen C.1.1 C.1.2.1 hT hS rfl hd (k f H locs ls hf hP hS hl)
theorem Z_ti {f : Nat → Int32} {t : Nat} (n : Nat) (C : zC X G A cc nL own fr lo) (hT : va_T .int t 10 (fun j => .int (f j)) A X.s X.s.heap) (hn : x.toNatClampNeg = n) (hin : vp_in x 10) (hd : decode cc pc = .ok (.iaload, 1)) (k : Z X G A nL Q K (pc + 1) lv (.int (f n) :: st)) : Z X G A nL Q K pc lv (.int x :: .ref t :: st) := fun g H locs ls hf hP hS hl => by
  subst hn
  exact va_ti C.1.1 C.1.2.1 hT hS hin rfl hd (k g H locs ls hf hP hS hl)
end ZS
set_option maxRecDepth 100000 in
set_option maxHeartbeats 4000000 in
theorem c_L_set {l : Launch} {G : zG} {V : zV} (w : wC G V) (M : zM) (P : Nat → Nat) (D : Nat × Nat) (r : Nat) (hr5 : r < 5) (wh : Nat) (hw : wh < 10) (v : Int32) (h1 : ¬ v < leF wh) (h2 : v ≤ moF wh) : zFs l y_L_set b_L_set 4 none 1 20 G [.ref (V.1 0 0 0), .int (nI r), .int (nI wh), .int v] (eC V M P D) none (eC V (up M 3 r 0 wh v) P D) := by
  refine zFs.ofZ (by decide) w.2.2.2.2 (Nat.le_of_ble_eq_true rfl) (fun X hXl hN hr C hst => ?_)
  subst hXl
  obtain ⟨tL, tM, ⟨zL, uL⟩, zM, uM⟩ := hst
  show Z X G (zA G) 4 _ (eC V M P D) 0 [(0, .ref (V.1 0 0 0)), (1, .int (nI r)), (2, .int (nI wh)), (3, .int v)] []
  refine Z_iload_n C 1 d_L_set_0 rfl rfl ?_
  refine C_csv C ms_L_isRouter ml_L_32 (c_L_isRouter w _ _ _ _) rfl (by decide) rfl (Nat.le_of_ble_eq_true rfl) d_L_set_1 ?_
  refine Z_if_eq (tgt := 27) C d_L_set_4 (by decide) (fun c => absurd c (lIsR_ne hr5)) (fun c4 => ?_)
  refine Z_iload_n C 2 d_L_set_7 rfl rfl ?_
  refine Z_if_lt (tgt := 27) C d_L_set_8 (by decide) (fun c => absurd c (nI_pos (by omega))) (fun c8 => ?_)
  refine Z_iload_n C 2 d_L_set_11 rfl rfl ?_
  refine Z_gets C zL fl_L_36 d_L_set_12 ?_
  refine Z_tlen C uL d_L_set_15 ?_
  refine Z_icmp_ge (tgt := 27) C d_L_set_16 (by decide) (fun c => absurd c (nI_ge (a := wh) (b := 10) hw (by decide))) (fun c16 => ?_)
  refine Z_iload_n C 2 d_L_set_19 rfl rfl ?_
  refine Z_gets C zM fl_L_40 d_L_set_20 ?_
  refine Z_tlen C uM d_L_set_23 ?_
  refine Z_icmp_lt (tgt := 37) C d_L_set_24 (by decide) (fun c24 => ?_) (fun c => absurd (nI_lt (a := wh) (b := 10) hw (by decide)) c)
  refine Z_iload_n C 3 d_L_set_37 rfl rfl ?_
  refine Z_gets C zL fl_L_36 d_L_set_38 ?_
  refine Z_iload_n C 2 d_L_set_41 rfl rfl ?_
  refine Z_ti wh C uL (nI_clamp (by omega)) (vp_in_nI (by omega) (by decide)) d_L_set_42 ?_
  refine Z_icmp_lt (tgt := 55) C d_L_set_43 (by decide) (fun c => absurd c h1) (fun c43 => ?_)
  refine Z_iload_n C 3 d_L_set_46 rfl rfl ?_
  refine Z_gets C zM fl_L_40 d_L_set_47 ?_
  refine Z_iload_n C 2 d_L_set_50 rfl rfl ?_
  refine Z_ti wh C uM (nI_clamp (by omega)) (vp_in_nI (by omega) (by decide)) d_L_set_51 ?_
  refine Z_icmp_le (tgt := 65) C d_L_set_52 (by decide) (fun c52 => ?_) (fun c => absurd h2 c)
  refine Z_aload_n C 0 d_L_set_65 rfl rfl ?_
  refine C_gL C w 1 (by decide) fl_L_21 rfl rfl d_L_set_66 ?_
  refine Z_iload_n C 1 d_L_set_69 rfl rfl ?_
  refine C_ldQ C w r (nI_clamp (by omega)) (vp_in_nI (by omega) (by decide)) d_L_set_70 ?_
  refine C_gR C w (by assumption) 2 (by decide) fl_L_55 rfl rfl d_L_set_71 ?_
  refine Z_iload_n C 2 d_L_set_74 rfl rfl ?_
  refine Z_iload_n C 3 d_L_set_75 rfl rfl ?_
  refine C_stG C w (by assumption) wh (nI_clamp (by omega)) (vp_in_nI (by omega) (by decide)) d_L_set_76 ?_
  exact Z_vret C hN hr d_L_set_77 rfl (zeq rfl)
theorem J_callVs {X : zX} {G : zG} {A : Nat → Prop} {nL : Nat} {Q : State → Prop} {B B' : Heap → Prop} {K K' : zK} {pc : Nat} {lv : List (Nat × Value)} {st rest As : List Value} {cc bytes : ByteArray} {own : String} {fr lo fr' lo' : Nat} {y : MethodName} {w : Option Value} {n b index maxL : Nat} {ret : Option FieldType} (C : jC X cc nL own fr lo) (hK : va_K G.1 G.2.1 G.2.2.1 X.s) (hN : G.2.2.2.Nodup) (hA : ∀ q, A q ↔ q ∈ G.2.2.2) (hst0 : stOk A X.s X.s.heap) (hB : ∀ H, B H → zP G K H) (hB' : ∀ H H', B H → H.size ≤ H'.size → (∀ q, q < H.size → q ∉ G.2.2.2 → H'[q]? = H[q]?) → zP G K' H' → B' H')
    (mi : zMi y bytes maxL ret n) (hlk : Cond.methodLink own index y ∈ zT) (hM : zFs X.l y bytes maxL ret fr' lo' G (.ref b :: As) K w K') (hle : fr' + 1 ≤ fr ∧ 19 + maxL + lo' ≤ lo)
    {ci N : Nat} {T : u_T} {fs : List Value} (hb : b ∈ G.2.2.2) (hm : ∀ f, K f → f b = .inr (ci, fs)) (hcl : G.2.1[ci]? = some (y.cls, T, N)) (hn : As.length = n) (hst : st = As.reverse ++ .ref b :: rest) (hrm : (rest.map fun v => v.category).sum ≤ 8) (hd : decode cc pc = .ok (.invokevirtual index, 3))
    (k : J X A nL Q B' (pc + 3) lv (w.toList ++ rest)) : J X A nL Q B pc lv st := by
  intro H locs ls hbb hS hl
  obtain ⟨f, hf, hP⟩ := hB H hbb
  have Cz : zC X G A cc nL own fr lo := C.z hK hN (fun q h => (hA q).mpr h)
  obtain ⟨q0, hq⟩ := va_pl_get (X := []) (f := f) hb
  rw [hm f hf] at hq
  have hcw := zCB Cz mi.2.2.1 mi.2.2.2.1 mi.2.2.2.2.1 mi.2.2.2.2.2 hlk hle
  have hsA : stOk (zA G) X.s H := (hst0.narrow (fun q h => (hA q).mpr h)).kept (fun a h1 h2 => hS.2.1 a h1 (fun z => h2 ((hA a).mp z)))
  exact jBack (mc' := 0) (ms' := 0) (P := zPre G K') (fun q h => (hA q).mpr h) hS hl (va_runV (As := As) (rest := rest) Cz.1 hM ⟨hcw, Cz.1.2.2.2.2 _ mi.1, Cz.1.2.2.2.2 _ mi.2.1⟩ ⟨fun a U g mk q => by obtain ⟨z0, z1, z2⟩ := q; exact ⟨z0, zPre.call g mk a z1, stOk.moved (u := U) (U := U.calling g mk a) (Vm.Alike.refl U.vm) z2⟩, va_recv hK hP hcl hq, fun U hU hW => ⟨rfl, ⟨⟨f, hf, by rw [hU]; exact hP⟩, va_K.moved hW.alike hK⟩, by rw [hU]; exact hsA.moved hW.alike⟩⟩ rfl hn hl.1 hst (lv_room hrm) hd ⟨Cz.2.2.2.2.2.1, Cz.2.2.2.2.2.2.1⟩)
    (fun t H' ht hp h1 _ h2 => hB' H H' hbb h1 h2 (by obtain ⟨⟨f', q1, q2⟩, -⟩ := hp; exact ⟨f', q1, by rw [← ht]; exact q2⟩)) k
