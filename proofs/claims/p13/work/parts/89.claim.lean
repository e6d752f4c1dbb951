/-! THE CLAIM OUT OF ONE WALK OF THE LAW'S BODY. Your part is whole_start (and what it stands on); all else here is the same for every law, but numbers. -/
def R_law : String := "StandInLanLaw"
def lw_P (b : Addr) (xs : List Int32) (args : Array Value) (s : State) : Prop := args = #[.ref b] ∧ s.IntsAt b xs ∧ xs.length ≤ 3072 ∧ (Jvm.Cond.and given_1 narrow_1).before args s = true
def lw_Q (_ : Array Value) (s : State) (o : Outcome) (t : State) : Prop := o = .returned (some (.int 1)) ∧ Framed s o t [] 601024 7293034
def lw_Z (below : List Frame) (a : Array Value) (s : State) : State → Prop := fun t => ∃ o, t.status = .running ∧ Ended t below o ∧ lw_Q a s o t
/-- the law's own end, with 1 on the stack, nothing written that was there before, its room as the claim has it -/
theorem lw_ret {p : Program} {l : Launch} {e : Env} {s : State} {m : MethodId} {below : List Frame} {meth : Method} {c : Code} {b : Nat} (hx : p.tables.exec = Jvm.exec) (hb : c.code = code) (hr : meth.sig.returnType = ret) (hlocks : meth.locks = false) {pc : Nat} {H : Heap} {ls : Array Slot} (hdg : decode code pc = .ok (.ireturn, 1)) : W p l e room_1 s m #[Value.ref b] below meth c H [] 601024 7293034 (lw_Z below #[Value.ref b] s) (F0 m pc ls [.int 1]) := by
  intro T hT X
  obtain ⟨fs, hret, hrun, hended, hW, hframe⟩ := X.leave (v := some (.int 1)) (hlocks := hlocks) (fun h => by rw [hr] at h; cases h)
  have hmeth' : T.vm.method? m = some meth := X.method'
  refine ⟨T.setFrames fs, ?_, .returned (some (.int 1)), hrun, hended, rfl, ⟨_, rfl⟩, hW, hframe⟩
  jvm_step X.here [X.here.top, hx, hb, hdg, hmeth', hr, ret, narrow_b1]
  (try refine ⟨rfl, ?_⟩); (try refine ⟨rfl, ?_⟩)
  first | (intro acts; rw [hret _ acts rfl rfl rfl]) | rw [hret _ _ rfl rfl rfl]
  exact Steps.refl _
/-- what holds at the law's entry: the machine, the code, the tables' words (any of lw_tbl by 'hts w (by decide +kernel)'), the script of L ints xs at the cell b, what the Statement gives of the start (any of its parts by flat_of_before) -/
def lw_At (p : Program) (s : State) (m : MethodId) (meth : Method) (c : Code) (b L : Nat) (xs : Nat → Int32) : Prop :=
  p.tables.exec = Jvm.exec ∧ c.code = code ∧ meth.sig.returnType = ret ∧ c.maxLocals = 7 ∧ s.vm.findClass R_law = some m.cls ∧ (∀ w ∈ lw_tbl, w.before #[Value.ref b] s = true) ∧ va_X b L xs s s.heap ∧ b < s.heap.size ∧ meth.locks = false ∧ (Jvm.Cond.and given_1 narrow_1).before #[Value.ref b] s = true
theorem out_lt {L i : Nat} (h : L < i + 6) (hi : i ≤ 100000) : Int32.ofNat L - 6 < nI i := by
  rw [Int32.lt_iff_toInt_lt]
  have e6 : (6 : Int32) = nI 6 := rfl
  rcases Nat.lt_or_ge L 6 with q | q
  · have h1 : Int32.ofNat L - 6 < 0 := by rw [e6]; exact pk_sneg (a := L) (b := 6) (by decide) q
    rw [Int32.lt_iff_toInt_lt] at h1
    have h2 := nI_pos' (n := i) (by omega)
    rw [Int32.le_iff_toInt_le] at h2
    omega
  · have h1 : Int32.ofNat L - 6 = nI (L - 6) := by rw [e6]; exact pk_sub q
    rw [h1]
    have h2 := nI_lt (a := L - 6) (b := i) (by omega) (by omega)
    rw [Int32.lt_iff_toInt_lt] at h2
    exact h2
theorem out_ge {L i : Nat} (hL : L ≤ 100000) (hi : i ≤ 100000) (h : ¬ Int32.ofNat L - 6 < nI i) : i + 6 ≤ L := by
  rcases Nat.lt_or_ge L (i + 6) with q | q
  · exact absurd (out_lt q hi) h
  · exact q
theorem pool_in {x q n : Nat} (h : q ∈ [x] ++ List.range' (x + 1) n) : x ≤ q ∧ q < x + 1 + n := by
  rcases List.mem_append.mp h with h | h
  · simp at h; omega
  · have := List.mem_range'_1.mp h; omega
theorem oP_of {D : va_G} {cl : List vw_C} {tys : List (ClassId × FieldType)} {q : Nat} {cA : ClassId} {fo : Nat → Int64} {H : Heap} (h : zP (D, cl, tys, [q]) (kE [q] (fun _ => .inl (cA, 1, .inr (.inl fo)))) H) : oP q cA fo H := by
  obtain ⟨f, hf, hP⟩ := h
  have h1 : va_at D cl (q, f q) H := hP 0 _ rfl
  rw [hf q List.mem_cons_self] at h1
  exact h1
section LE
variable {X : zX} {A : Nat → Prop} {B : Heap → Prop} {lv : List (Nat × Value)} {b L : Nat} {xs : Nat → Int32}
theorem L_end (hR : X.R = room_1) (ha : X.args = #[Value.ref b]) (C : jC X code 7 RXL 11 392) (hr : X.meth.sig.returnType = ret) (hc : X.cells ≤ 601024 ∧ X.slots ≤ 7293034) (hA : ∀ q, A q → X.s.heap.size ≤ q) : J X A 7 (lw_Z X.below #[Value.ref b] X.s) B 739 lv [.int 1] := by
  intro H locs ls hb hS hl
  obtain ⟨p, l, e, R, s, m, args, below, meth, c, n1, n2⟩ := X
  have hR : R = room_1 := hR
  have ha : args = #[Value.ref b] := ha
  subst hR
  subst ha
  refine W.widen (k := 601024) (n := 7293034) hc.1 hc.2 ?_
  refine va_forget (fun q hq => hA _ (hS.2.2 q hq)) ?_
  exact lw_ret C.1.1 C.1.2.1 hr C.2.1 d_J_law_739
end LE
set_option maxRecDepth 100000 in
set_option maxHeartbeats 4000000 in
theorem law_case {X : zX} {A : Nat → Prop} {Q : State → Prop} {G G' : zG} {V : zV} {U : zU} {σ : zS} {N : zR} {T o : Nat} {cL : ClassId} {fo : Nat → Int64} (C : jC X code 7 RXL 11 392) (K : lK X A G V G' U o cL) (hrc : X.cells + 1 ≤ X.R.cells ∧ X.slots + 6 ≤ X.R.slots) {b L i : Nat} {xs : Nat → Int32} (hX : va_X b L xs X.s X.s.heap) (hbl : b < X.s.heap.size) (hbA : ¬ A b) (hL : L ≤ 100000) (hik : i + 6 ≤ L) (hl : ∀ e, X.l.admits e → e.platform.stackTraces = false) (hT : T ≤ 1000000) (h : RH T σ N) (fin : ∀ (a c : Nat) (σ' : zS) (N' : zR) (fo' : Nat → Int64) (lv : List (Nat × Value)) (ks : List Nat), a ≤ 1 → c ≤ 6 → RH (T + 400) σ' N' → lv_pick lv ks = [(4, .int (nI i)), (3, .ref o), (2, .ref (U.1 43)), (1, .ref (V.1 0 0 0)), (0, .ref b)] → J (X.more a c) A 7 Q (lB G V σ' G' U N' o cL fo') 732 lv []) :
    J X A 7 Q (lB G V σ G' U N o cL fo) 33 [(4, .int (nI i)), (3, .ref o), (2, .ref (U.1 43)), (1, .ref (V.1 0 0 0)), (0, .ref b)] [] := by
  refine J_aload_n C 4 d_J_law_33 rfl rfl ?_
  refine J_iload C 0 d_J_law_34 rfl ?_
  refine J_sld C hX hbl hbA (vp_in_nI (n := i) (N := L) (by omega) (by omega)) d_J_law_36 ?_
  refine J_bipush (v := 15) C d_J_law_37 (by decide) ?_
  refine J_iand C d_J_law_39 ?_
  refine J_tsw C d_J_law_40 [(0, 112), (1, 161), (2, 186), (3, 239), (4, 312), (5, 373), (6, 398), (7, 426), (8, 495), (9, 571), (10, 608), (11, 657), (12, 682), (13, 695)] 732 (by decide +kernel) (by decide +kernel) (by decide) (fun p hp _ => ?_) (fun _ => ?_)
  · simp only [List.mem_cons, List.not_mem_nil, or_false] at hp
    rcases hp with rfl | rfl | rfl | rfl | rfl | rfl | rfl | rfl | rfl | rfl | rfl | rfl | rfl | rfl
    · exact law_set C K hrc hX hbl hbA hL hik hl hT h fin
    · exact law_start C K hrc hX hbl hbA hL hik hl hT h fin
    · by_cases hx : xs (i + 2) = 0
      · exact law_stop_0 C K hrc hX hbl hbA hL hik hl hT h fin hx
      · exact law_stop_1 C K hrc hX hbl hbA hL hik hl hT h fin hx
    · exact law_open C K hrc hX hbl hbA hL hik hl hT h fin
    · exact law_change C K hrc hX hbl hbA hL hik hl hT h fin
    · exact law_ask C K hrc hX hbl hbA hL hik hl hT h fin
    · by_cases hx : xs (i + 1) < 1 ∨ ¬ xs (i + 1) ≤ 400
      · exact law_tick_1 C K hrc hX hbl hbA hL hik hl hT h fin hx
      · have h1 : ¬ xs (i + 1) < 1 := fun q => hx (Or.inl q)
        have h2 : xs (i + 1) ≤ 400 := Classical.not_not.mp (fun q => hx (Or.inr q))
        have h0 : ¬ xs (i + 1) < 0 := by
          rw [Int32.lt_iff_toInt_lt] at h1 ⊢
          have e0 : (0 : Int32).toInt = 0 := rfl
          have e1 : (1 : Int32).toInt = 1 := rfl
          omega
        obtain ⟨n, hn, e⟩ := nI_bel 401 (by decide) h0 (by rw [Int32.le_iff_toInt_le] at h2; rw [Int32.lt_iff_toInt_lt]; have e0 : (400 : Int32).toInt = 400 := rfl; have e1 : (nI 401).toInt = 401 := rfl; omega)
        refine law_tick_0 C K hrc hX hbl hbA hL hik hl hT h fin n ?_ (by omega) e
        rcases Nat.eq_zero_or_pos n with q | q
        · subst q; rw [e] at h1; exact absurd (by decide) h1
        · exact q
    · exact law_type C K hrc hX hbl hbA hL hik hl hT h fin
    · by_cases h1 : lIsR (xs (i + 1)) = 0
      · exact law_arrive_1 C K hrc hX hbl hbA hL hik hl hT h fin (Or.inl h1)
      · by_cases h2 : ((¬ xs (i + 2) = 1 ∧ ¬ xs (i + 2) = 2) ∨ xs (i + 3) < 0 ∨ 15 ≤ xs (i + 3) ∨ xs (i + 4) < 0 ∨ ¬ xs (i + 4) ≤ 255)
        · exact law_arrive_1 C K hrc hX hbl hbA hL hik hl hT h fin (Or.inr (Or.inl h2))
        · by_cases h3 : σ.1 2 (xs (i + 1)).toNatClampNeg 0 4 = 0
          · exact law_arrive_1 C K hrc hX hbl hbA hL hik hl hT h fin (Or.inr (Or.inr h3))
          · exact law_arrive_0 C K hrc hX hbl hbA hL hik hl hT h fin h1 h2 h3
    · exact law_router C K hrc hX hbl hbA hL hik hl hT h fin
    · exact law_session C K hrc hX hbl hbA hL hik hl hT h fin
    · exact law_port C K hrc hX hbl hbA hL hik hl hT h fin
    · exact law_flying C K hrc hX hbl hbA hL hik hl hT h fin
    · exact law_frame C K hrc hX hbl hbA hL hik hl hT h fin
  · exact fin 0 0 _ _ _ _ [0, 1, 2, 3, 4] (by decide) (by decide) (h.le (Nat.le_add_right T 400)) rfl
set_option maxRecDepth 100000 in
set_option maxHeartbeats 4000000 in
/-- the loop: c cells and d slots more than at its begin -/
theorem law_loop {X : zX} {A : Nat → Prop} {G G' : zG} {V : zV} {U : zU} {o : Nat} {cL : ClassId} {b L : Nat} {xs : Nat → Int32} (hR : X.R = room_1) (ha : X.args = #[Value.ref b]) (C : jC X code 7 RXL 11 392) (hr : X.meth.sig.returnType = ret) (hc : X.cells ≤ 1000 ∧ X.slots ≤ 100000) (hA : ∀ q, A q → X.s.heap.size ≤ q) (K : lK X A G V G' U o cL) (hX : va_X b L xs X.s X.s.heap) (hbl : b < X.s.heap.size) (hbA : ¬ A b) (hL : L ≤ 3072) (hl : ∀ e, X.l.admits e → e.platform.stackTraces = false) :
    ∀ (m t c d : Nat) (σ : zS) (N : zR) (fo : Nat → Int64) (lv : List (Nat × Value)) (ks : List Nat), t + m = 513 → c ≤ t → d ≤ 6 * t → RH (400 * t) σ N → lv_pick lv ks = [(4, .int (nI (6 * t))), (3, .ref o), (2, .ref (U.1 43)), (1, .ref (V.1 0 0 0)), (0, .ref b)] → J (X.more c d) A 7 (lw_Z X.below #[Value.ref b] X.s) (lB G V σ G' U N o cL fo) 23 lv [] := by
  have rc : X.R.cells = 601024 := by rw [hR]; rfl
  have rs : X.R.slots = 7293034 := by rw [hR]; rfl
  intro m
  induction m with
  | zero =>
    intro t c d σ N fo lv ks ht h1 h2 h hlv
    refine jlv ks hlv ?_
    have C2 : jC (X.more c d) code 7 RXL 11 392 := C.more ⟨by omega, by omega⟩
    refine J_iload C2 0 d_J_law_23 rfl ?_
    refine J_aload_n C2 4 d_J_law_25 rfl rfl ?_
    refine J_slen C2 hX hbl hbA d_J_law_26 ?_
    refine J_bipush (v := 6) C2 d_J_law_27 (by decide) ?_
    refine J_isub C2 d_J_law_29 ?_
    refine J_icmp_gt (tgt := 738) C2 d_J_law_30 (by decide) (fun _ => ?_) (fun q => absurd (out_lt (by omega) (by omega)) q)
    refine J_iconst (v := 1) C2 d_J_law_738 (by decide) ?_
    exact L_end (X := X.more c d) hR ha C2 hr ⟨by show X.cells + c ≤ 601024; omega, by show X.slots + d ≤ 7293034; omega⟩ hA
  | succ m ih =>
    intro t c d σ N fo lv ks ht h1 h2 h hlv
    refine jlv ks hlv ?_
    have C2 : jC (X.more c d) code 7 RXL 11 392 := C.more ⟨by omega, by omega⟩
    refine J_iload C2 0 d_J_law_23 rfl ?_
    refine J_aload_n C2 4 d_J_law_25 rfl rfl ?_
    refine J_slen C2 hX hbl hbA d_J_law_26 ?_
    refine J_bipush (v := 6) C2 d_J_law_27 (by decide) ?_
    refine J_isub C2 d_J_law_29 ?_
    refine J_icmp_gt (tgt := 738) C2 d_J_law_30 (by decide) (fun _ => ?_) (fun q => ?_)
    · refine J_iconst (v := 1) C2 d_J_law_738 (by decide) ?_
      exact L_end (X := X.more c d) hR ha C2 hr ⟨by show X.cells + c ≤ 601024; omega, by show X.slots + d ≤ 7293034; omega⟩ hA
    · have hik : 6 * t + 6 ≤ L := out_ge (by omega) (by omega) q
      refine law_case (X := X.more c d) (i := 6 * t) C2 K ⟨by show X.cells + c + 1 ≤ X.R.cells; omega, by show X.slots + d + 6 ≤ X.R.slots; omega⟩ hX hbl hbA (by omega) hik hl (by omega) h (fun a e σ' N' fo' lv' ks' ha1 he1 hq hlv' => ?_)
      refine jlv ks' hlv' ?_
      have C3 : jC ((X.more c d).more a e) code 7 RXL 11 392 := C2.more ⟨by show X.cells + c + a ≤ X.R.cells; omega, by show X.slots + d + e ≤ X.R.slots; omega⟩
      refine J_iinc 0 C3 d_J_law_732 rfl (show nI (6 * t) + Int32.ofInt 6 = nI (6 * (t + 1)) from by rw [show 6 * (t + 1) = 6 * t + 6 by omega, ← nI_add]; rfl) (by decide) rfl ?_
      refine J_goto (tgt := 23) C3 d_J_law_735 (by decide) ?_
      have e1 : (X.more c d).more a e = X.more (c + a) (d + e) := by
        show (_, _, _, _, _, _, _, _, _, _, X.cells + c + a, X.slots + d + e) = (_, _, _, _, _, _, _, _, _, _, X.cells + (c + a), X.slots + (d + e))
        rw [Nat.add_assoc, Nat.add_assoc]
      rw [e1]
      exact ih (t + 1) (c + a) (d + e) σ' N' fo' _ [0, 1, 2, 3, 4] (by omega) (by omega) (by omega) (hq.le (by omega)) rfl
set_option maxRecDepth 100000 in
set_option maxHeartbeats 4000000 in
theorem law_walk {p : Program} {e : Env} {s : State} {m : MethodId} {below : List Frame} {meth : Method} {c : Code} (l : Launch) (hl : ∀ e, l.admits e → e.platform.stackTraces = false) {b L : Nat} {xs : Nat → Int32} (hL : L ≤ 3072) (C0 : lw_At p s m meth c b L xs) : J (p, l, e, room_1, s, m, #[Value.ref b], below, meth, c, 0, 0) (fun q => s.heap.size ≤ q) 7 (lw_Z below #[Value.ref b] s) (fun H => H.size = s.heap.size) 0 [(0, .ref b)] [] := by
  obtain ⟨hx, hb, hr, hml, hown, hts, hX, hbl, hlk, hgv⟩ := C0
  obtain ⟨D, cs, hK⟩ := law_K hts
  obtain ⟨D', cu, hK'⟩ := law_KM hts
  have hao := law_aOk hts
  have hA0 : ∀ a : Nat, a < s.heap.size → ¬ s.heap.size ≤ a := fun a h => by omega
  have htk := law_tOk hts hgv
  have hnk := law_nOk hts hgv
  have hsk := law_stOk (A := fun q => s.heap.size ≤ q) hts hgv hA0
  generalize hx0 : s.heap.size = x at *
  have C : jC (p, l, e, room_1, s, m, #[Value.ref b], below, meth, c, 0, 0) code 7 RXL 11 392 := ⟨⟨hx, hb, hml, hown, zT_of hts⟩, hlk, Nat.zero_le _, Nat.zero_le _, Nat.le_of_ble_eq_true rfl, Nat.le_of_ble_eq_true rfl⟩
  refine J_new (q := x) (ci := 4) (N := 3) (fs := [.null, .null, .null]) (B' := fun H => H.size = x + 1 ∧ zP (D, zcl, [(cs.1, .int), (cs.2.1, .object RX0), (cs.2.2.1, .object RX1), (cs.2.2.2, .object RX2)], [x]) (kE [x] (fun _ => eLa .null .null .null)) H) C hK tyX4 tyX4_ok in_L kl_J_8 im_L iz_L rfl df_L ⟨Nat.le_of_ble_eq_true rfl, Nat.le_of_ble_eq_true rfl⟩ d_J_law_0 (fun _ h => h) (fun H H' _ h1 _ h3 => ⟨h1, h3⟩) ?_
  have C1 := C.more (i := 1) (j := 3) ⟨Nat.le_of_ble_eq_true rfl, Nat.le_of_ble_eq_true rfl⟩
  refine J_dup C1 d_J_law_3 rfl ?_
  refine J_callI (G := (D, zcl, [(cs.1, .int), (cs.2.1, .object RX0), (cs.2.2.1, .object RX1), (cs.2.2.2, .object RX2)], [x])) (b := x + 1) (mc' := 170) (ms' := 3779) (F := fun _ => eLa .null .null .null) (B' := fun H => H.size = x + 171 ∧ zP (D, zcl, [(cs.1, .int), (cs.2.1, .object RX0), (cs.2.2.1, .object RX1), (cs.2.2.2, .object RX2)], [x] ++ List.range' (x + 1) 170) (eC (V0 x cs) M0 (fun n => n) (60, 61)) H) C1 hK hao (fun _ h => h.1) (by show s.heap.size + 1 = x + 1; rw [hx0]) (fun q h => by rcases h with h | h; exact Nat.le_of_eq (List.mem_singleton.mp h).symm; omega) (fun _ h => h.2) (fun H H' h1 h2 h3 h4 => ⟨h2, fresh_C h4⟩) (by decide) mk_L ml_J_46 (i_L ⟨rfl, rfl, by simp⟩ _ (x + 1) x (by simp) (by omega) (fun q h => by have := List.mem_singleton.mp h; omega) rfl) ⟨Nat.le_of_ble_eq_true rfl, Nat.le_of_ble_eq_true rfl⟩ ⟨Nat.le_of_ble_eq_true rfl, Nat.le_of_ble_eq_true rfl⟩ rfl rfl (Nat.le_of_ble_eq_true rfl) d_J_law_4 ?_
  have C2 := C1.more (i := 170) (j := 3779) ⟨Nat.le_of_ble_eq_true rfl, Nat.le_of_ble_eq_true rfl⟩
  refine J_astore_n C2 d_J_law_7 rfl (by decide) rfl ?_
  refine J_new (q := x + 171) (ci := 0) (N := 43) (fs := fsT 0 0) (B' := fun H => H.size = x + 172 ∧ zP (D, zcl, [(cs.1, .int), (cs.2.1, .object RX0), (cs.2.2.1, .object RX1), (cs.2.2.2, .object RX2)], [x] ++ List.range' (x + 1) 170) (eC (V0 x cs) M0 (fun n => n) (60, 61)) H ∧ zP (D', [(RX5, TXM, 43)], [(cu.1, .int), (cu.2, .boolean)], [x + 171]) (kE [x + 171] (fun _ => eMo (x + 171 + 1) 0)) H) C2 hK' tyXM tyXM_ok in_M kl_J_47 im_M iz_M rfl df_M ⟨Nat.le_of_ble_eq_true rfl, Nat.le_of_ble_eq_true rfl⟩ d_J_law_8 (fun _ h => h.1) (fun H H' h1 h2 h3 h4 => ⟨h2, h1.2.kept (fun q hq hl => h3 q (by rw [h1.1] at hl; exact hl)), h4⟩) ?_
  have C3 := C2.more (i := 1) (j := 43) ⟨Nat.le_of_ble_eq_true rfl, Nat.le_of_ble_eq_true rfl⟩
  refine J_dup C3 d_J_law_11 rfl ?_
  refine J_callI (G := (D', [(RX5, TXM, 43)], [(cu.1, .int), (cu.2, .boolean)], [x + 171])) (b := x + 171 + 1) (mc' := 37) (ms' := 3465) (F := fun _ => eMo (x + 171 + 1) 0) (B' := fun H => H.size = x + 209 ∧ zP (D, zcl, [(cs.1, .int), (cs.2.1, .object RX0), (cs.2.2.1, .object RX1), (cs.2.2.2, .object RX2)], [x] ++ List.range' (x + 1) 170) (eC (V0 x cs) M0 (fun n => n) (60, 61)) H ∧ zP (D', [(RX5, TXM, 43)], [(cu.1, .int), (cu.2, .boolean)], [x + 171] ++ List.range' (x + 171 + 1) 37) (eR (U0 (x + 171) cu) N0) H) C3 hK' hao (fun _ h => h.1) (by show s.heap.size + 172 = x + 171 + 1; rw [hx0]) (fun q h => by
      rcases h with h | h
      · have := List.mem_singleton.mp h
        show x ≤ q
        omega
      · show x ≤ q
        omega) (fun _ h => h.2.2) (fun H H' h1 h2 h3 h4 => ⟨h2, h1.2.1.kept (fun q hq hl => h3 q (by have := pool_in hq; omega) (fun z => by have := List.mem_singleton.mp z; have := pool_in hq; omega)), fresh_M h4⟩) (by decide) mk_M ml_J_49 (i_M ⟨rfl, rfl, by simp⟩ _ (x + 171 + 1) (x + 171) (by simp) (by omega) rfl) ⟨Nat.le_of_ble_eq_true rfl, Nat.le_of_ble_eq_true rfl⟩ ⟨Nat.le_of_ble_eq_true rfl, Nat.le_of_ble_eq_true rfl⟩ rfl rfl (Nat.le_of_ble_eq_true rfl) d_J_law_12 ?_
  have C4 := C3.more (i := 37) (j := 3465) ⟨Nat.le_of_ble_eq_true rfl, Nat.le_of_ble_eq_true rfl⟩
  refine J_astore_n C4 d_J_law_15 rfl (by decide) rfl ?_
  refine J_iconst (v := 1) C4 d_J_law_16 (by decide) ?_
  refine J_newa (q := x + 209) (D := D) (cl := []) (ty := .long) (N' := 1) (a0 := (1, .inr (.inl (fun _ => 0)))) C4 rfl ac_long ⟨fun c q h => by simp at h, fun c q h => by simp at h⟩ (fun C h => by cases h) (fun cA => rfl) (by decide) (by decide) (by decide) ⟨Nat.le_of_ble_eq_true rfl, Nat.le_of_ble_eq_true rfl⟩ d_J_law_17 (fun _ h => h.1) (fun cL kL => ?_)
  have C5 := C4.more (i := 1) (j := 1) ⟨Nat.le_of_ble_eq_true rfl, Nat.le_of_ble_eq_true rfl⟩
  refine J.imp (B' := lB (D, zcl, [(cs.1, .int), (cs.2.1, .object RX0), (cs.2.2.1, .object RX1), (cs.2.2.2, .object RX2)], [x] ++ List.range' (x + 1) 170) (V0 x cs) (M0, fun n => n, (60, 61)) (D', [(RX5, TXM, 43)], [(cu.1, .int), (cu.2, .boolean)], [x + 171] ++ List.range' (x + 171 + 1) 37) (U0 (x + 171) cu) N0 (x + 209) cL (fun _ => 0)) (fun H' h => by
    obtain ⟨H, h1, h2, h3, h4⟩ := h
    exact ⟨h1.2.1.kept (fun q hq hl => h3 q (by rw [h1.1] at hl; exact hl)), h1.2.2.kept (fun q hq hl => h3 q (by rw [h1.1] at hl; exact hl)), oP_of h4⟩) ?_
  refine J_astore_n C5 d_J_law_19 rfl (by decide) rfl ?_
  refine J_iconst (v := 0) C5 d_J_law_20 (by decide) ?_
  refine J_istore C5 d_J_law_21 (by decide) rfl ?_
  have hbA : ¬ x ≤ b := by omega
  have hbl' : b < s.heap.size := by rw [hx0]; exact hbl
  refine law_loop rfl rfl C5 hr ⟨Nat.le_of_ble_eq_true rfl, Nat.le_of_ble_eq_true rfl⟩ (fun q h => by show s.heap.size ≤ q; rw [hx0]; exact h) ⟨wC0 x cs, wR0 (x + 171) cu, hK, hK', kL, fun q h1 h2 => ?_, fun h => ?_, fun h => ?_, fun q h => (pool_in h).1, fun q h => ?_, ?_, htk, hnk, hsk, fun a cell h1 _ h2 => ?_⟩ hX hbl' hbA hL hl 513 0 0 0 _ _ _ _ [0, 1, 2, 3, 4] (by omega) (Nat.le_refl _) (Nat.le_refl _) (RH_0.le (Nat.zero_le _)) rfl
  · have := pool_in h1
    have := pool_in h2
    omega
  · have := pool_in h
    omega
  · have := pool_in h
    omega
  · have := pool_in h
    show x ≤ q
    omega
  · show x ≤ x + 209
    omega
  · have h3 : a < s.heap.size := (Array.getElem?_eq_some_iff.mp h1).1
    have h4 : x ≤ a := h2
    omega
/-- from the entry, for every script of at most 3072 ints, the law comes to its end with true -/
theorem whole_start {p : Program} {e : Env} {s : State} {m : MethodId} {below : List Frame} {meth : Method} {c : Code} (l : Launch) (hl : ∀ e, l.admits e → e.platform.stackTraces = false) {b L : Nat} {xs : Nat → Int32} (hL : L ≤ 3072) (C0 : lw_At p s m meth c b L xs) : W p l e room_1 s m #[Value.ref b] below meth c s.heap [] 0 0 (lw_Z below #[Value.ref b] s) (entryFrame m ([Value.ref b] : List Value).toArray 7) := by
  rw [lg_entry_eq]
  exact law_walk (e := e) (below := below) l hl hL C0 s.heap [] _ rfl va_S.rf (lv_entry [Value.ref b] (n := 7) (Nat.le_of_ble_eq_true rfl))
set_option maxHeartbeats 4000000 in
theorem lw_walk (l : Launch) (hl : ∀ e, l.admits e → e.platform.stackTraces = false) (b : Addr) (xs : List Int32) : MetFree l x (headSpec (Jvm.Cond.code x code maxLocals ret :: tables_1) room_1) (lw_P b xs) (fun _ _ _ _ _ => True) lw_Q := by
  refine MetFree.of_bodyS (code := code) (maxLocals := maxLocals) (ret := ret) (by decide) ?_ ?_
  · intro args s m h hn
    obtain ⟨meth, c, h1, h2, h3, h4, h5, h6, -, -⟩ := Cond.code_spec hn (atoms_spec (ws := Jvm.Cond.code x code maxLocals ret :: tables_1) h _ List.mem_cons_self)
    exact ⟨meth, c, h1, h2, h3, h4, h5, h6⟩
  · intro p e s m args below meth c s₁ B hml0 hP _
    obtain ⟨rfl, hx, hbd, hgv⟩ := hP
    obtain ⟨scr, harrAt, hlist, hof, hsmall⟩ := hx
    obtain ⟨hcb, hkn, -, -⟩ := State.arrayAt?_spec harrAt
    have hown : s.vm.findClass R_law = some m.cls := findClass_of_methodNamed B.named
    have hts0 : ∀ c ∈ (Jvm.Cond.code x code maxLocals ret :: tables_1), c.before #[Value.ref b] s = true := atoms_spec (ws := Jvm.Cond.code x code maxLocals ret :: tables_1) B.pre
    have hts : ∀ w ∈ lw_tbl, w.before #[Value.ref b] s = true := k2_hts_sels lw_privs (fun w hw => hts0 w (List.mem_cons_of_mem _ hw)) lw_privs_ok
    have hml : c.maxLocals = 7 := B.maxLocals_eq (hts0 _ List.mem_cons_self)
    have X₀ : Stand p l e room_1 s m #[Value.ref b] below meth c s₁ [] 0 0 := Stand.of_body B
    have hh0 : s₁.heap = s.heap := by rw [B.state]; rfl
    have hsz : scr.slots.size = xs.length := by rw [← Array.length_toList, hlist, List.length_map]
    have hval : ∀ j : Nat, j < xs.length → scr.slots[j]? = some (.int (xs.getD j 0)) := fun j hj => by
      rw [← Array.getElem?_toList, hlist]
      simp [hj]
    have hbl : b < s.heap.size := (Array.getElem?_eq_some_iff.mp hcb).1
    have hX : va_X b xs.length (fun j => xs.getD j 0) s s.heap := ⟨scr, hcb, hof, hkn, hsz, hval⟩
    have K : W p l e room_1 s m #[Value.ref b] below meth c s₁.heap [] 0 0 (lw_Z below #[Value.ref b] s) (entryFrame m ([Value.ref b] : List Value).toArray 7) := by
      rw [hh0]
      exact whole_start l hl hbd ⟨B.exec, B.bytes, B.returns, hml, hown, hts, hX, hbl, B.notSynchronized, hgv⟩
    obtain ⟨t, a1, o, b1, b2, b3⟩ := K s₁ rfl X₀
    exact ⟨t, o, a1, b1, b2, b3⟩
theorem lw_pre_spec {args : Array Value} {s : State} (h : (Jvm.Cond.and given_1 narrow_1).before args s = true) (hr : rest_1_c.before args s = true) : ∃ (b : Addr) (xs : List Int32), lw_P b xs args s := by
  have hs := flat_of_before _ h
  have hq := flat_of_before _ hr
  have hc : (Cond.count 1).before args s = true := hs _ (by decide +kernel)
  have harr : (Cond.arrayOf (.arg 0) .int).before args s = true := hs _ (by decide +kernel)
  have hle : (Cond.le (.length (.arg 0)) (.int 3072)).before args s = true := hs _ (by decide +kernel)
  have hlen : (Cond.isInt (.length (.arg 0))).before args s = true := hq _ (by decide +kernel)
  have hall : (Cond.all (.arg 0) (.isInt (.elem (.arg 0) (.index 0)))).before args s = true := hq _ (by decide +kernel)
  obtain ⟨b, xs, hb, hx⟩ := State.ints_of_pre rfl harr hlen hall
  have hsm : xs.length < 2 ^ 31 := hx.choose_spec.2.2.2
  have hev : (Term.length (.arg 0)).eval args s none [] s = some (.int xs.length.toInt32) := hx.length_eval hb
  have hv := Cond.le_ints hev (show (Term.int 3072).eval args s none [] s = some (.int 3072) from rfl)
  have hd : xs.length.toInt32 ≤ 3072 := by
    simpa [Cond.before, Cond.holds, hv] using hle
  have hN : xs.length ≤ 3072 := (Int32.ofNat_le_ofNat hsm (by decide)).mp (show Int32.ofNat xs.length ≤ Int32.ofNat 3072 from hd)
  exact ⟨b, xs, Cond.one_arg hc (show args[0]? = some (.ref b) from hb), hx, hN, h⟩
theorem lw_comes (l : Launch) (hl : ∀ e, l.admits e → e.platform.stackTraces = false) : Comes l x (Jvm.Cond.code x code maxLocals ret :: tables_1) room_1 (fun tb e args s => Calls_1 tb e args s ∧ rest_1 tb e args s ∧ Pre_1 tb e args s)
    (fun _ _ args s o t => lw_Q args s o t) := by
  intro p e ha hc hk s m args below hf hfit hheap happ hpre
  obtain ⟨b, xs, hP⟩ := lw_pre_spec hpre.2.2 hpre.2.1
  obtain ⟨k, o, h1, h2, h3, hQ⟩ := lw_walk l hl b xs p e ha hc hk s m args below hf ((Spec.applies_iff_loose hf).mp happ).1 hP trivial
  exact ⟨k, o, h1, h2, h3, hQ⟩
theorem lw_frame {s t : State} {o : Outcome} {args : Array Value} (h : Framed s o t [] 601024 7293034) :
    Framed s o t (fieldLocs frame_1_writes args s ++ arrayLocs frame_1_arrays args s ++ staticLocs frame_1_statics s) 601024 7293034 := h
theorem lw_limb (L : Cond) (hL : ∀ (args : Array Value) (s t : State), L.after args s (.returned (some (.int 1))) t = true) :
    ArmFor flags0 classFile x code maxLocals ret World_1 tables_1 room_1 Calls_1 rest_1 Pre_1
      (fun tb e a s o t => postC L tb e a s o t ∧ Framed s o t (fieldLocs frame_1_writes a s ++ arrayLocs frame_1_arrays a s ++ staticLocs frame_1_statics s) 601024 7293034) := by
  intro l hfl _ _ p e ha hc hk s m args below hf hfit hheap happ hpre
  obtain ⟨k, o, h1, h2, h3, rfl, hF⟩ := lw_comes l (fun e h => by rw [h.platform]; show l.stackTraces = false; unfold Launch.stackTraces; rw [hfl]; decide +kernel) p e ha hc hk s m args below hf hfit hheap happ hpre
  exact ⟨k, _, h1, h2, h3, hL args s _, lw_frame hF⟩
theorem i_vc : Claimed_1_1 ∧ Claimed_1_2 := ⟨lw_limb limb_1_1 (fun args s t => by simp [limb_1_1, Cond.after, Cond.holds, Cond.value]), lw_limb limb_1_2 (fun args s t => Cond.after_iff.mpr (by
  first | (rw [show limb_1_2 = Cond.eq .result (.int 1) from rfl, Cond.eq_ints (x := 1) (y := 1) rfl rfl]; simp; done) | (simp [limb_1_2, Cond.value, Term.eval]; done)))⟩
