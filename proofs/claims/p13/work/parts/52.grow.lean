/-! CONSTRUCTORS: a pool that grows: G.ext b n = the pool and the n cells from b on; kE L F: the cells of L hold F. All that a constructor makes stands in its pool, so each new cell's address is known: b + n -/
abbrev zG.ext (G : zG) (b n : Nat) : zG := (G.1, G.2.1, G.2.2.1, G.2.2.2 ++ List.range' b n)
theorem zG.ext0 (G : zG) (b : Nat) : G.ext b 0 = G := by
  show (G.1, G.2.1, G.2.2.1, G.2.2.2 ++ []) = G
  rw [List.append_nil]
theorem zG.ext_ext (G : zG) (b n k : Nat) : (G.ext b n).ext (b + n) k = G.ext b (n + k) := by
  show (G.1, G.2.1, G.2.2.1, (G.2.2.2 ++ List.range' b n) ++ List.range' (b + n) k) = _
  rw [List.append_assoc, List.range'_append_1]
def kE (L : List Nat) (F : Nat → va_E) : zK := fun f => ∀ a ∈ L, f a = F a
theorem kE_up {L : List Nat} {F : Nat → va_E} {a : Nat} {e : va_E} : ∀ f, kE L F f → kE L (va_up F a e) (va_up f a e) := by
  intro f hf x hx
  by_cases h : x = a
  · subst h; rw [va_up_self, va_up_self]
  · rw [va_up_ne _ _ h, va_up_ne _ _ h, hf x hx]
theorem kE_eq {L : List Nat} {F F' : Nat → va_E} (h : ∀ a ∈ L, F a = F' a) : ∀ f, kE L F f → kE L F' f := fun f hf x hx => by rw [hf x hx, h x hx]
/-- the array classes over our own classes: their words aren't among the good ones -/
def aOk (U : State) : Prop := va_AO "StandInLan$Frame" U ∧ va_AO "StandInLan$Router" U ∧ va_AO "StandInLan$Session" U
theorem aOk.moved {u U : State} (hvm : u.vm.Alike U.vm) (h : aOk u) : aOk U := ⟨va_AO.moved hvm h.1, va_AO.moved hvm h.2.1, va_AO.moved hvm h.2.2⟩
abbrev iA (G : zG) (b : Nat) : Nat → Prop := fun q => q ∈ G.2.2.2 ∨ b ≤ q
/-- what a constructor's walk stands on: b the heap's size at its begin; n cells of k slots made so far; mc, ms in all -/
def iC (X : zX) (G : zG) (b n k : Nat) (cc : ByteArray) (nL : Nat) (own : String) (fr lo mc ms : Nat) : Prop :=
  CallFix X.1 X.m X.c cc nL X.s X.args zT own ∧ va_K G.1 G.2.1 G.2.2.1 X.s ∧ G.2.2.2.Nodup ∧ (∀ q ∈ G.2.2.2, q < b) ∧ X.meth.locks = false ∧ X.meth.name = "<init>" ∧ X.s.heap.size = b ∧ (X.cells = n ∧ X.slots = k) ∧ (n ≤ mc ∧ k ≤ ms) ∧ (mc ≤ X.R.cells ∧ ms ≤ X.R.slots) ∧ fr ≤ X.R.frames ∧ lo ≤ X.R.locals ∧ aOk X.s
theorem ext_nodup {L : List Nat} {b : Nat} (h : L.Nodup) (hb : ∀ q ∈ L, q < b) (n : Nat) : (L ++ List.range' b n).Nodup := by
  rw [List.nodup_append]
  refine ⟨h, List.nodup_range', ?_⟩
  intro x hx y hy e
  subst e
  have h1 := hb x hx
  have h2 := (List.mem_range'_1.mp hy).1
  omega
section YI
variable {X : zX} {G : zG} {b n k nL : Nat} {Q : State → Prop} {F F' : Nat → va_E} {pc : Nat} {lv : List (Nat × Value)} {st rest As : List Value} {cc bytes : ByteArray} {own : String} {fr lo mc ms fr' lo' mc' ms' : Nat} {y : MethodName} {maxL index : Nat}
theorem iC.z (C : iC X G b n k cc nL own fr lo mc ms) : zC X (G.ext b n) (iA G b) cc nL own fr lo := by
  obtain ⟨c1, c2, c3, c4, c5, c6, c7, c8, c9, c10, c11, c12, -⟩ := C
  refine ⟨c1, c2, ext_nodup c3 c4 n, fun q hq => ?_, c5, Nat.le_trans (Nat.le_of_eq c8.1) (Nat.le_trans c9.1 c10.1), Nat.le_trans (Nat.le_of_eq c8.2) (Nat.le_trans c9.2 c10.2), c11, c12⟩
  rcases List.mem_append.mp hq with h | h
  · exact Or.inl h
  · exact Or.inr (List.mem_range'_1.mp h).1
theorem iC.more (C : iC X G b n k cc nL own fr lo mc ms) {i j : Nat} (h : n + i ≤ mc ∧ k + j ≤ ms) : iC (X.more i j) G b (n + i) (k + j) cc nL own fr lo mc ms := by
  obtain ⟨c1, c2, c3, c4, c5, c6, c7, c8, c9, c10, c11, c12⟩ := C
  refine ⟨c1, c2, c3, c4, c5, c6, c7, ⟨?_, ?_⟩, h, c10, c11, c12⟩
  · show X.cells + i = n + i; rw [c8.1]
  · show X.slots + j = k + j; rw [c8.2]
/-- the heap's size, where the walk stands -/
theorem iC.size (C : iC X G b n k cc nL own fr lo mc ms) {f : Nat → va_E} {H : Heap} {locs : List Loc} {T : State} (hP : va_P (G.ext b n).1 (G.ext b n).2.1 (va_pl (G.ext b n).2.2.2 f) H) (hS : va_S (iA G b) X.s.heap H locs) (hT : T.heap = H)
    (XX : Stand X.1 X.2.1 X.2.2.1 X.2.2.2.1 X.2.2.2.2.1 X.2.2.2.2.2.1 X.2.2.2.2.2.2.1 X.2.2.2.2.2.2.2.1 X.2.2.2.2.2.2.2.2.1 X.2.2.2.2.2.2.2.2.2.1 T locs X.2.2.2.2.2.2.2.2.2.2.1 X.2.2.2.2.2.2.2.2.2.2.2) : H.size = b + n := by
  obtain ⟨c1, c2, c3, c4, c5, c6, c7, c8, -⟩ := C
  have h1 : T.heap.size ≤ X.s.heap.size + X.cells := XX.heapSize
  rw [hT, c7, c8.1] at h1
  have h2 := hS.1
  rw [c7] at h2
  cases n with
  | zero => omega
  | succ n =>
    have h3 : b + n < H.size := va_pl_lt (X := []) hP (List.mem_append_right _ (List.mem_range'_1.mpr ⟨by omega, by omega⟩))
    omega
theorem Z_objInit {G : zG} {A : Nat → Prop} {K : zK} {a : Nat} (C : zC X G A cc nL own fr lo) (hlk : Cond.methodLink own index Lib.objectInit ∈ zT) (h1 : Cond.instanceMethod Lib.objectInit ∈ zT) (h2 : Cond.code Lib.objectInit ⟨#[0xb1]⟩ 1 none ∈ zT) (hle : 1 ≤ fr ∧ (st.map fun v => v.category).sum + 12 ≤ lo) (hd : decode cc pc = .ok (.invokespecial index, 3))
    (kk : Z X G A nL Q K (pc + 3) lv st) : Z X G A nL Q K pc lv (.ref a :: st) := fun f H locs ls hf hP hS hl =>
  W.objInit C.1.1 C.1.2.1 C.1.2.2.2.1 (C.1.2.2.2.2 _ hlk) (C.1.2.2.2.2 _ h1) (C.1.2.2.2.2 _ h2) rfl (by rw [C.1.2.2.1]; exact hl.1) rfl hd (Nat.le_trans hle.1 C.2.2.2.2.2.2.2.1) (Nat.le_trans (show 2 * 0 + (st.map fun v => v.category).sum + 12 ≤ lo by have e := hle.2; omega) C.2.2.2.2.2.2.2.2) (kk f H locs ls hf hP hS hl)
theorem Z_putF {G : zG} {A : Nat → Prop} {K K' : zK} (C : zC X G A cc nL own fr lo) (hin2 : X.meth.name = "<init>") {ref CN : String} {T : u_T} {N ci index a : Nat} {fs : List Value} (k : Nat) {v : Value} {ty : FieldType} (ty0 : Nat → FieldType) (ha : a ∈ G.2.2.2) (hm : ∀ f, K f → f a = .inr (ci, fs)) (hc : G.2.1[ci]? = some (CN, T, N)) (hin : ∀ w ∈ u_ws CN T N, w ∈ zT) (hty : ∀ k, k < N → parseFieldDescriptor (T k).2.2.1 = some (ty0 k)) (hnm : ∀ a, a < N → ∀ b, b < N → a ≠ b → (T a).2.1 ≠ (T b).2.1) (hk : k < N) (hlink : Cond.fieldLink own index ref (T k).2.1 (T k).2.2.1 ∈ zT) (href : (T k).1 = ref) (hdecl : (T k).1 = own) (hfin : (T k).2.2.2 = true) (hd' : parseFieldDescriptor (T k).2.2.1 = some ty) (hn : narrow ty v = v) (hfit : fits ty v = true) (hl' : k < fs.length) (hK : ∀ f, K f → K' (va_up f a (.inr (ci, fs.set k v)))) (hd : decode cc pc = .ok (.putfield index, 3)) (kk : Z X G A nL Q K' (pc + 3) lv st) : Z X G A nL Q K pc lv (v :: .ref a :: st) := fun f H locs ls hf hP hS hl => by
  obtain ⟨q0, hq⟩ := va_pl_get (X := []) (f := f) ha
  have hD : va_D A (va_pl G.2.2.2 f) := zD C.2.2.1 C.2.2.2.1
  have hq0 := hq
  rw [hm f hf] at hq
  refine va_putF C.1.1 C.1.2.1 C.1.2.2.2.2 hin ty0 hty hnm C.1.2.2.2.1 C.2.1 hP hD hS q0 hq hc k hk (C.1.2.2.2.2 _ hlink) (fun x h => by rw [← href]; exact h) hfin hin2 hdecl hd' hn hfit hl' hd (fun H1 locs1 hP1 hD1 hS1 => ?_)
  have e := va_pl_set (X := []) (e := .inr (ci, fs.set k v)) hD ha hq0
  simp only [List.nil_append] at e
  rw [e] at hP1
  exact kk _ H1 locs1 ls (hK f hf) hP1 hS1 hl
theorem Z_aast {G : zG} {A : Nat → Prop} {K K' : zK} (C : zC X G A cc nL own fr lo) {a v t0 n ci : Nat} {cA : ClassId} {r : vw_C} {vs : List Value} {g : Nat → Option Nat} {i : Int32} (ha : a ∈ G.2.2.2) (hm : ∀ f, K f → f a = .inl (cA, n, .inr (.inr (.inr (.inr g))))) (hva : v ∈ G.2.2.2) (hmv : ∀ f, K f → f v = .inr (ci, vs)) (ht : G.2.2.1[t0]? = some (cA, .object r.1)) (hc : G.2.1[ci]? = some r) (hin : vp_in i n)
    (hK : ∀ f, K f → K' (va_up f a (.inl (cA, n, .inr (.inr (.inr (.inr (va_up g i.toNatClampNeg (some v))))))))) (hd : decode cc pc = .ok (.aastore, 1)) (kk : Z X G A nL Q K' (pc + 1) lv st) : Z X G A nL Q K pc lv (.ref v :: .int i :: .ref a :: st) := fun f H locs ls hf hP hS hl => by
  obtain ⟨q0, hq⟩ := va_pl_get (X := []) (f := f) ha
  obtain ⟨q1, hq1⟩ := va_pl_get (X := []) (f := f) hva
  have hD : va_D A (va_pl G.2.2.2 f) := zD C.2.2.1 C.2.2.2.1
  have hq0 := hq
  rw [hm f hf] at hq
  rw [hmv f hf] at hq1
  refine va_astq C.1.1 C.1.2.1 C.2.1 hP hD hS q0 t0 q1 ci hq ht hq1 hc hin hd (fun H1 locs1 hP1 hD1 hS1 => ?_)
  have e := va_pl_set (X := []) (e := .inl (cA, n, .inr (.inr (.inr (.inr (va_up g i.toNatClampNeg (some v))))))) hD ha hq0
  simp only [List.nil_append] at e
  rw [e] at hP1
  exact kk _ H1 locs1 ls (hK f hf) hP1 hS1 hl
/-- one more cell, at the heap's end -/
theorem ext_push {D : va_G} {cl : List vw_C} {L : List Nat} {f : Nat → va_E} {H H1 : Heap} {e : va_E} (hb : ∀ q ∈ L, q < b) (hsz : H.size = b + n) (hP : va_P D cl (va_pl (L ++ List.range' b n) f) H) (ho : ∀ q, q < H.size → H1[q]? = H[q]?) (he : va_at D cl (b + n, e) H1) : va_P D cl (va_pl (L ++ List.range' b (n + 1)) (va_up f (b + n) e)) H1 := by
  have hne : (b + n) ∉ (L ++ List.range' b n) := by
    intro h
    rcases List.mem_append.mp h with h | h
    · have := hb _ h; omega
    · have := (List.mem_range'_1.mp h).2; omega
  have hr : L ++ List.range' b (n + 1) = (L ++ List.range' b n) ++ [b + n] := by
    rw [List.append_assoc, List.range'_1_concat]
  rw [hr, ← va_pl_push hne]
  refine (hP.kept (fun k q hk => ho q.1 ((hP k q hk).lt))).app (fun k q hk => ?_)
  have hz : k < 1 := (List.getElem?_eq_some_iff.mp hk).1
  rw [show k = 0 by omega] at hk
  cases hk
  exact he
theorem kE_push {L : List Nat} {f : Nat → va_E} {e : va_E} (hf : kE (L ++ List.range' b n) F f) : kE (L ++ List.range' b (n + 1)) (va_up F (b + n) e) (va_up f (b + n) e) := by
  intro x hx
  by_cases h : x = b + n
  · subst h; rw [va_up_self, va_up_self]
  · rw [va_up_ne _ _ h, va_up_ne _ _ h]
    refine hf x ?_
    rcases List.mem_append.mp hx with q | q
    · exact List.mem_append_left _ q
    · have := List.mem_range'_1.mp q
      exact List.mem_append_right _ (List.mem_range'_1.mpr ⟨this.1, by omega⟩)
theorem S_push {A : Nat → Prop} {H0 H H1 : Heap} {locs : List Loc} {h : Nat} (hS : va_S A H0 H locs) (hsz : H.size = h) (hz : H1.size = h + 1) (ho : ∀ q, q < h → H1[q]? = H[q]?) : va_S A H0 H1 locs := by
  subst hsz
  exact ⟨Nat.le_trans hS.1 (by omega), fun x h1 h2 => (ho x (Nat.lt_of_lt_of_le h1 hS.1)).trans (hS.2.1 x h1 h2), hS.2.2⟩
theorem iC.room (C : iC X G b n k cc nL own fr lo mc ms) {i j : Nat} (h : n + i ≤ mc ∧ k + j ≤ ms) : X.cells + i ≤ X.R.cells ∧ X.slots + j ≤ X.R.slots := by
  obtain ⟨c1, c2, c3, c4, c5, c6, c7, c8, c9, c10, c11, c12⟩ := C
  rw [c8.1, c8.2]
  exact ⟨Nat.le_trans h.1 c10.1, Nat.le_trans h.2 c10.2⟩
theorem Y_new (C : iC X G b n k cc nL own fr lo mc ms) {CN : String} {T : u_T} {N ci : Nat} {fs : List Value} (ty : Nat → FieldType) (hty : ∀ k, k < N → parseFieldDescriptor (T k).2.2.1 = some (ty k)) (hin : ∀ w ∈ u_ws CN T N, w ∈ zT) (hcl : Cond.classLink own index CN ∈ zT) (hinst : Cond.instantiable CN N ∈ zT) (hini : Cond.initialized CN ∈ zT) (hc : G.2.1[ci]? = some (CN, T, N)) (hfs : ∀ j, j < N → defaultValue (ty j) = vp_V fs j) (hm : n + 1 ≤ mc ∧ k + N ≤ ms) (hd : decode cc pc = .ok (.new index, 3))
    (kk : iC (X.more 1 N) G b (n + 1) (k + N) cc nL own fr lo mc ms → Z (X.more 1 N) (G.ext b (n + 1)) (iA G b) nL Q (kE (G.ext b (n + 1)).2.2.2 (va_up F (b + n) (.inr (ci, fs)))) (pc + 3) lv (.ref (b + n) :: st)) : Z X (G.ext b n) (iA G b) nL Q (kE (G.ext b n).2.2.2 F) pc lv st := by
  intro f H locs ls hf hP hS hl
  suffices hgo : H.size = b + n → zW X H locs Q (F0 X.m pc ls st) from fun T0 hT XX => hgo (C.size hP hS hT XX) T0 hT XX
  intro hsz
  have C2 := C.more hm
  have hrm := C.room hm
  have k2 := kk C2
  obtain ⟨c1, c2, c3, c4, -⟩ := C
  have hKn := c2.1 ci _ hc
  have hts := c1.2.2.2.2
  refine W.newcK c1.1 c1.2.1 c1.2.2.2.1 (hts _ hcl) (hts _ hinst) (hts _ hini) rfl hd hrm.1 hrm.2 hKn.2.1 hsz (fun H1 kC hkC e1 z1 o1 => ?_)
  exact k2 _ H1 locs ls (kE_push hf) (ext_push c4 hsz hP (fun q hq => o1 q (by rw [← hsz]; exact hq)) ⟨_, hc, (u_born ty hts hin hKn hkC e1 hty).to hfs⟩) (S_push hS hsz z1 o1) hl
theorem Y_newa (C : iC X G b n k cc nL own fr lo mc ms) {atype : ArrayType} {ty : FieldType} (hty : newarray.typeOf atype = ty) (harr : Cond.arrayClass ty ∈ zT) {t0 N' : Nat} {cA : ClassId} (ht : G.2.2.1[t0]? = some (cA, ty)) (hob : ∀ C, ¬ ty = .object C) {i : Int32} {a0 : vp_A} (ha : vp_cell cA a0 = arrV cA N' (fun _ => defaultValue ty)) (hn : ¬ i < 0) (hN : i.toNatClampNeg = N') (hbytes : N' * componentBytes ty ≤ 536870912) (hm : n + 1 ≤ mc ∧ k + N' ≤ ms) (hd : decode cc pc = .ok (.newarray atype, 2))
    (kk : iC (X.more 1 N') G b (n + 1) (k + N') cc nL own fr lo mc ms → Z (X.more 1 N') (G.ext b (n + 1)) (iA G b) nL Q (kE (G.ext b (n + 1)).2.2.2 (va_up F (b + n) (.inl (cA, a0)))) (pc + 2) lv (.ref (b + n) :: st)) : Z X (G.ext b n) (iA G b) nL Q (kE (G.ext b n).2.2.2 F) pc lv (.int i :: st) := by
  intro f H locs ls hf hP hS hl
  suffices hgo : H.size = b + n → zW X H locs Q (F0 X.m pc ls (.int i :: st)) from fun T0 hT XX => hgo (C.size hP hS hT XX) T0 hT XX
  intro hsz
  have C2 := C.more hm
  have hrm := C.room hm
  have k2 := kk C2
  obtain ⟨c1, c2, c3, c4, -⟩ := C
  have hts := c1.2.2.2.2
  subst hty
  refine va_newaK c1.1 c1.2.1 (hts _ harr) rfl hd rfl hn hN hbytes hrm.1 hrm.2 hsz (fun H1 cA' e1 z1 o1 hAr hNm => ?_)
  have hcA : cA' = cA := by
    have h := (c2.2 t0 _ ht).2
    have h2 : X.s.vm.findClass ("[" ++ (newarray.typeOf atype).toString) = some cA := by
      revert h hob
      cases newarray.typeOf atype with
      | object C => intro hob; exact absurd rfl (hob C)
      | _ => intro _ h; exact h
    exact Option.some.inj (hNm.symm.trans h2)
  subst hcA
  exact k2 _ H1 locs ls (kE_push hf) (ext_push c4 hsz hP (fun q hq => o1 q (by rw [← hsz]; exact hq)) (by show H1[b + n]? = some (vp_cell _ _); rw [ha]; exact e1)) (S_push hS hsz z1 o1) hl
theorem Y_newq (C : iC X G b n k cc nL own fr lo mc ms) {CN : String} (hcl : Cond.classLink own index CN ∈ zT) (hov : va_AO CN X.s) {t0 N' : Nat} {cA : ClassId} (ht : G.2.2.1[t0]? = some (cA, .object CN)) {i : Int32} (hn : ¬ i < 0) (hN : i.toNatClampNeg = N') (hbytes : N' * 4 ≤ 536870912) (hm : n + 1 ≤ mc ∧ k + N' ≤ ms) (hd : decode cc pc = .ok (.anewarray index, 3))
    (kk : iC (X.more 1 N') G b (n + 1) (k + N') cc nL own fr lo mc ms → Z (X.more 1 N') (G.ext b (n + 1)) (iA G b) nL Q (kE (G.ext b (n + 1)).2.2.2 (va_up F (b + n) (.inl (cA, N', .inr (.inr (.inr (.inr (fun _ => none)))))))) (pc + 3) lv (.ref (b + n) :: st)) : Z X (G.ext b n) (iA G b) nL Q (kE (G.ext b n).2.2.2 F) pc lv (.int i :: st) := by
  intro f H locs ls hf hP hS hl
  suffices hgo : H.size = b + n → zW X H locs Q (F0 X.m pc ls (.int i :: st)) from fun T0 hT XX => hgo (C.size hP hS hT XX) T0 hT XX
  intro hsz
  have C2 := C.more hm
  have hrm := C.room hm
  have k2 := kk C2
  obtain ⟨c1, c2, c3, c4, -⟩ := C
  have hts := c1.2.2.2.2
  subst hN
  refine W.anew c1.1 c1.2.1 c1.2.2.2.1 (hts _ hcl) (va_AO.use hov) rfl hd rfl hn hbytes hrm.1 hrm.2 (fun cA' kA comp f1 f2 f3 f4 => ?_)
  have hcA : cA' = cA := by
    obtain ⟨kA2, comp2, -, -, -, h4⟩ := (c2.2 t0 _ ht).2
    exact Option.some.inj (f1.symm.trans h4)
  subst hcA
  rw [hsz]
  generalize hH1 : H.push ({ cls := cA', slots := Array.replicate i.toNatClampNeg .null, vm := .none } : Cell) = H1
  have z1 : H1.size = b + n + 1 := by rw [← hH1, Array.size_push, hsz]
  have e1 : H1[b + n]? = some (arrV cA' i.toNatClampNeg (fun _ => .null)) := by rw [← hH1, ← hsz, Array.getElem?_push_size, ← arrV_new]
  have o1 : ∀ q : Nat, q < H.size → H1[q]? = H[q]? := fun q hq => by rw [← hH1, Array.getElem?_push, if_neg (Nat.ne_of_lt hq)]
  exact k2 _ H1 locs ls (kE_push hf) (ext_push c4 hsz hP o1 (by show H1[b + n]? = some (vp_cell _ _); rw [e1, vp_cell_q]; rfl)) (S_push hS hsz z1 (fun q hq => o1 q (by rw [hsz]; exact hq))) hl
/-! contracts of constructors -/
def iPre (G : zG) (b : Nat) (F : Nat → va_E) (U : State) : Prop := U.heap.size = b ∧ zPre G (kE G.2.2.2 F) U ∧ aOk U
def iPost (G : zG) (b mc : Nat) (F : Nat → va_E) : Array Value → State → Outcome → State → Prop := fun _ s0 oc t => (oc = .returned none ∧ zPre (G.ext b mc) (kE (G.ext b mc).2.2.2 F) t) ∧ va_F (iA G b) s0 t
abbrev iRm (fr lo mc ms : Nat) : Room := { frames := fr, cells := mc, slots := ms, locals := lo }
def iF (l : Launch) (y : MethodName) (cc : ByteArray) (nL : Nat) (fr lo mc ms : Nat) (G : zG) (b : Nat) (As : List Value) (F F' : Nat → va_E) : Prop :=
  Met l y (zWs y cc nL none) (iRm fr lo mc ms) (va_Pc As (iPre G b F)) (iPost G b mc F') mc ms (iA G b)
abbrev iQ (X : zX) (G : zG) (b mc ms : Nat) (F : Nat → va_E) : State → Prop := MQ X.below (iPost G b mc F) X.args X.s mc ms (iA G b)
theorem iF.ofZ {l : Launch} (hy : plainName y.cls = true) (hy1 : y.name = "<init>") (hL : G.2.2.2.Nodup) (hE : (lg_sl As).length ≤ nL)
    (body : ∀ X : zX, X.l = l → X.meth.sig.returnType = none → iC X G b 0 0 cc nL y.cls fr lo mc ms → Z X (G.ext b 0) (iA G b) nL (iQ X G b mc ms F') (kE (G.ext b 0).2.2.2 F) 0 (lv_args 0 As) []) : iF l y cc nL fr lo mc ms G b As F F' := by
  refine Met.ofW (cc := cc) (maxL := nL) (ret := none) (ws' := zT) hy rfl ?_
  intro p e s m args below meth c s₁ B hml hv
  obtain ⟨rfl, hsz, ⟨⟨f, hf, hP⟩, hK⟩, hao⟩ := hv
  have hts := atoms_spec (ws := zWs y cc nL none) B.pre
  have hown : s.vm.findClass y.cls = some m.cls := findClass_of_methodNamed B.named
  have hin : meth.name = "<init>" := (name_of_methodNamed B.named B.method).1.trans hy1
  have hl := lv_entry As (n := nL) hE
  rw [lg_entry_eq]
  have hlt : ∀ q ∈ G.2.2.2, q < b := fun q hq => by rw [← hsz]; exact va_pl_lt (X := []) hP hq
  have h0 := body (p, l, e, (headSpec (zWs y cc nL none) (iRm fr lo mc ms)).room, s, m, As.toArray, below, meth, c, 0, 0) rfl B.returns ⟨⟨B.exec, B.bytes, hml, hown, fun w h => hts w (List.mem_cons_of_mem _ h)⟩, hK, hL, hlt, B.notSynchronized, hin, hsz, ⟨rfl, rfl⟩, ⟨Nat.zero_le _, Nat.zero_le _⟩, ⟨Nat.le_refl _, Nat.le_refl _⟩, Nat.le_refl _, Nat.le_refl _, hao⟩
  rw [zG.ext0] at h0
  exact h0 f s.heap [] _ hf hP va_S.rf hl
theorem Y_vret (C : iC X G b n k cc nL own fr lo mc ms) (hn : n = mc) (hk : k = ms) (hr : X.meth.sig.returnType = none) (hd : decode cc pc = .ok (.return_, 1)) (hF : ∀ a ∈ (G.ext b mc).2.2.2, F a = F' a) : Z X (G.ext b n) (iA G b) nL (iQ X G b mc ms F') (kE (G.ext b n).2.2.2 F) pc lv [] := by
  subst hn; subst hk
  intro f H locs ls hf hP hS hl
  have hlk : X.meth.locks = false := C.2.2.2.2.1
  obtain ⟨e1, e2⟩ := C.2.2.2.2.2.2.2.1
  have C0 := C.z
  obtain ⟨p, l, e, R, s, m, args, below, meth, c, n1, n2⟩ := X
  dsimp only [zX.cells, zX.slots] at e1 e2
  subst e1; subst e2
  exact W.vret C0.1.1 C0.1.2.1 hr (fun t ht hW => ⟨⟨rfl, ⟨f, kE_eq hF f hf, by rw [ht]; exact hP⟩, va_K.moved hW.alike C0.2.1⟩, hS.F ht⟩) hS.2.2 hd hlk
theorem iPre.blind : FrameBlind (va_Pc As (iPre G b F)) := fun a U g mk q => by
  obtain ⟨q0, q1, ⟨q2, qK⟩, q3⟩ := q
  exact ⟨q0, q1, ⟨q2, va_K.moved (u := U) (U := U.calling g mk a) (Vm.Alike.refl U.vm) qK⟩, aOk.moved (u := U) (U := U.calling g mk a) (Vm.Alike.refl U.vm) q3⟩
def zMk (y : MethodName) (bytes : ByteArray) (maxL n : Nat) : Prop :=
  Cond.instanceMethod y ∈ zT ∧ Cond.initialized y.cls ∈ zT ∧ Cond.code y bytes maxL none ∈ zT ∧ (y.cls ≠ "java/lang/invoke/MethodHandle" ∧ y.cls ≠ "java/lang/invoke/VarHandle") ∧ (parseMethodDescriptor y.desc).map (fun d => d.parameters.length) = some n ∧ y.name = "<init>"
theorem iCB (c1 : CallFix X.1 X.m X.c cc nL X.s X.args zT own) (c11 : fr ≤ X.R.frames) (c12 : lo ≤ X.R.locals) {np : Nat} (mi : zMk y bytes maxL np) (hlk : Cond.methodLink own index y ∈ zT) (hle : fr' + 1 ≤ fr ∧ 19 + maxL + lo' ≤ lo) :
    CallB X.R X.s X.args own index y bytes maxL none (zWs y bytes maxL none) (iRm fr' lo' mc' ms') mc' ms' np := by
  obtain ⟨m1, m2, m3, m4, m5, m6⟩ := mi
  have hts := c1.2.2.2.2
  have good : ∀ w ∈ zWs y bytes maxL none, w ∈ zT ∧ ((w.onTables && w.keeps) = true ∨ ∃ ty, w = .arrayClass ty) := by
    intro w hw
    have h1 : w ∈ zT := by
      rcases List.mem_cons.mp hw with h | h
      · rw [h]; exact m3
      · exact h
    exact ⟨h1, good_of_word (List.mem_filter.mp h1).2⟩
  refine ⟨rfl, rfl, ?_, ?_, pay_in hts good, List.mem_cons_self, hts _ m3, hts _ m2, m4, fun sig h => ?_, hts _ hlk⟩
  · show fr' + 1 ≤ _; omega
  · show 8 + (maxL + 11) + lo' ≤ _; omega
  · rw [h] at m5
    exact (Option.some.inj m5).symm
theorem Y_callI (C : iC X G b n k cc nL own fr lo mc ms) {np a : Nat} (mi : zMk y bytes maxL np) (hlk : Cond.methodLink own index y ∈ zT) (hM : iF X.l y bytes maxL fr' lo' mc' ms' (G.ext b n) (b + n) (.ref a :: As) F F') (hle : fr' + 1 ≤ fr ∧ 19 + maxL + lo' ≤ lo) (hm : n + mc' ≤ mc ∧ k + ms' ≤ ms)
    (hn : As.length = np) (hst : st = As.reverse ++ .ref a :: rest) (hrm : (rest.map fun v => v.category).sum ≤ 8) (hd : decode cc pc = .ok (.invokespecial index, 3))
    (kk : iC (X.more mc' ms') G b (n + mc') (k + ms') cc nL own fr lo mc ms → Z (X.more mc' ms') (G.ext b (n + mc')) (iA G b) nL Q (kE (G.ext b (n + mc')).2.2.2 F') (pc + 3) lv rest) : Z X (G.ext b n) (iA G b) nL Q (kE (G.ext b n).2.2.2 F) pc lv st := by
  intro f H locs ls hf hP hS hl T0 hT XX
  have hsz := C.size hP hS hT XX
  have C2 := C.more hm
  obtain ⟨c1, c2, c3, c4, c5, c6, c7, c8, c9, c10, c11, c12, c13⟩ := id C
  have hcw := iCB (mc' := mc') (ms' := ms') c1 c11 c12 mi hlk hle
  have hrun := va_runI (H := H) (locs := locs) (cells := X.cells) (slots := X.slots) (e := X.e) (below := X.below) (meth := X.meth) (g := F0 X.m pc ls st) (As := As) (rest := rest) (b := a) c1 hM ⟨hcw, mi.2.2.2.2.2, c1.2.2.2.2 _ mi.1⟩ ⟨iPre.blind, fun U hU hW => ⟨rfl, by rw [hU]; exact hsz, ⟨⟨f, hf, by rw [hU]; exact hP⟩, va_K.moved hW.alike c2⟩, aOk.moved hW.alike c13⟩⟩ rfl hn hl.1 hst (lv_room hrm) hd (C.room hm)
  obtain ⟨v, st₀, t, T', L, h0, X', hL, e1, e2, ⟨⟨hv, ⟨f', hf', hP'⟩, hK'⟩, hz, hk⟩, stp⟩ := hrun T0 hT XX
  cases hv
  rw [h0] at hz hk
  rw [zG.ext_ext] at hf' hP'
  have hAA : ∀ q, iA (G.ext b n) (b + n) q → iA G b q := fun q h => by
    rcases h with h | h
    · rcases List.mem_append.mp h with h | h
      · exact Or.inl h
      · exact Or.inr (List.mem_range'_1.mp h).1
    · exact Or.inr (by omega)
  have hS' : va_S (iA G b) X.s.heap T'.heap (locs ++ L) := ⟨Nat.le_trans hS.1 (by rw [e1]; exact hz), fun q h1 h2 => by
      rw [e1, hk q (Nat.lt_of_lt_of_le h1 hS.1) (fun z => h2 (hAA q z))]; exact hS.2.1 q h1 h2, fun q hq => by
      rcases List.mem_append.mp hq with h | h
      · exact hS.2.2 q h
      · exact hAA _ (hL q h)⟩
  obtain ⟨t2, a1, b1⟩ := kk C2 f' T'.heap (locs ++ L) ls hf' (by rw [e1]; exact hP') hS' hl T' rfl X'
  exact ⟨t2, stp t2 a1, b1⟩
end YI
