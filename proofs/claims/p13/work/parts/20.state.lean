/-! THE CLASS'S STATE: every int that its objects hold, by kind of object and two numbers (M kind i j field); which frame lies where (P: the places of the way; D: the draft, the taken one) -/
abbrev zM : Type := Nat → Nat → Nat → Nat → Int32
abbrev zV : Type := (Nat → Nat → Nat → Nat) × ClassId × ClassId × ClassId × ClassId
abbrev zcl : List vw_C := [(RX0, TX0, 9), (RX1, TX1, 11), (RX2, TX2, 19), (RX3, TX3, 6), (RX4, TX4, 3)]
def up (M : zM) (κ i j k : Nat) (v : Int32) : zM := fun κ' i' j' => if κ' = κ ∧ i' = i ∧ j' = j then upd (M κ i j) k v else M κ' i' j'
theorem up_self (M : zM) (κ i j k : Nat) (v : Int32) : up M κ i j k v κ i j = upd (M κ i j) k v := by simp [up]
theorem up_ne {M : zM} {κ i j k κ' i' j' : Nat} {v : Int32} (h : ¬ (κ' = κ ∧ i' = i ∧ j' = j)) : up M κ i j k v κ' i' j' = M κ' i' j' := by simp [up, h]
/-- fields of a frame, a router, a session, the wire, the whole, in the order of the slots -/
abbrev fsF (V : zV) (i : Nat) (q : Nat → Int32) : List Value := [.ref (V.1 10 i 0), .int (q 1), .int (q 2), .int (q 3), .int (q 4), .int (q 5), .int (q 6), .int (q 7), .int (q 8)]
abbrev fsR (V : zV) (i : Nat) (q : Nat → Int32) : List Value := [.int (nI i), .ref (V.1 6 0 0), .ref (V.1 3 i 0), .ref (V.1 4 i 0), .int (q 4), .int (q 5), .int (q 6), .int (q 7), .int (q 8), .int (q 9), .int (q 10)]
abbrev fsS (V : zV) (i j : Nat) (q : Nat → Int32) : List Value := [.int (nI (16 * i + j + 1)), .int (nI j), .int (q 2), .int (q 3), .int (q 4), .int (q 5), .int (q 6), .int (q 7), .int (q 8), .int (q 9), .int (q 10), .int (q 11), .int (q 12), .int (q 13), .int (q 14), .int (q 15), .int (q 16), .int (q 17), .int (q 18)]
abbrev fsW (V : zV) (D : Nat × Nat) (q : Nat → Int32) : List Value := [.ref (V.1 7 0 0), .ref (V.1 8 0 0), .int (q 2), .int (q 3), .ref (V.1 9 D.1 0), .ref (V.1 9 D.2 0)]
abbrev fsL (V : zV) : List Value := [.ref (V.1 6 0 0), .ref (V.1 1 0 0), .ref (V.1 9 62 0)]
/-- the cell of an object -/
def ce (V : zV) (P : Nat → Nat) (D : Nat × Nat) (κ i j : Nat) (q : Nat → Int32) : va_E := match κ with
  | 0 => .inr (4, fsL V)
  | 1 => .inl (V.2.2.2.1, 5, .inr (.inr (.inr (.inr (fun n => some (V.1 2 n 0))))))
  | 2 => .inr (1, fsR V i q)
  | 3 => .inl (V.2.1, 10, .inl q)
  | 4 => .inl (V.2.2.2.2, 5, .inr (.inr (.inr (.inr (fun n => some (V.1 5 i n))))))
  | 5 => .inr (2, fsS V i j q)
  | 6 => .inr (3, fsW V D q)
  | 7 => .inl (V.2.1, 16, .inl q)
  | 8 => .inl (V.2.2.1, 60, .inr (.inr (.inr (.inr (fun n => some (V.1 9 (P n) 0))))))
  | 9 => .inr (0, fsF V i q)
  | _ => .inl (V.2.1, 40, .inl q)
def vd (κ i j : Nat) : Prop := match κ with
  | 0 => i = 0 ∧ j = 0
  | 1 => i = 0 ∧ j = 0
  | 2 => i < 5 ∧ j = 0
  | 3 => i < 5 ∧ j = 0
  | 4 => i < 5 ∧ j = 0
  | 5 => i < 5 ∧ j < 5
  | 6 => i = 0 ∧ j = 0
  | 7 => i = 0 ∧ j = 0
  | 8 => i = 0 ∧ j = 0
  | 9 => i < 63 ∧ j = 0
  | 10 => i < 63 ∧ j = 0
  | _ => False
def eC (V : zV) (M : zM) (P : Nat → Nat) (D : Nat × Nat) : zK := fun f => ∀ κ i j, vd κ i j → f (V.1 κ i j) = ce V P D κ i j (M κ i j)
/-- the world of the class: its addresses lie in the pool and are apart; the array classes -/
def wC (G : zG) (V : zV) : Prop := G.2.1 = zcl ∧ G.2.2.1 = [(V.2.1, .int), (V.2.2.1, .object RX0), (V.2.2.2.1, .object RX1), (V.2.2.2.2, .object RX2)] ∧ (∀ κ i j, vd κ i j → V.1 κ i j ∈ G.2.2.2) ∧ (∀ κ i j κ' i' j', vd κ i j → vd κ' i' j' → V.1 κ i j = V.1 κ' i' j' → κ' = κ ∧ i' = i ∧ j' = j) ∧ G.2.2.2.Nodup
theorem eC_up {G : zG} {V : zV} {M : zM} {P : Nat → Nat} {D : Nat × Nat} {κ i j k : Nat} {v : Int32} {e : va_E} (w : wC G V) (hv : vd κ i j) (he : e = ce V P D κ i j (upd (M κ i j) k v)) : ∀ f, eC V M P D f → eC V (up M κ i j k v) P D (va_up f (V.1 κ i j) e) := by
  intro f hf κ' i' j' hv'
  by_cases h : V.1 κ' i' j' = V.1 κ i j
  · obtain ⟨rfl, rfl, rfl⟩ := w.2.2.2.1 _ _ _ _ _ _ hv' hv h
    rw [va_up_self, up_self, he]
  · rw [va_up_ne _ _ h, hf _ _ _ hv', up_ne (fun q => h (by obtain ⟨rfl, rfl, rfl⟩ := q; rfl))]
theorem eC_way {G : zG} {V : zV} {M : zM} {P : Nat → Nat} {D : Nat × Nat} {k fr : Nat} (w : wC G V) : ∀ f, eC V M P D f → eC V M (va_up P k fr) D (va_up f (V.1 8 0 0) (.inl (V.2.2.1, 60, .inr (.inr (.inr (.inr (va_up (fun n => some (V.1 9 (P n) 0)) k (some (V.1 9 fr 0))))))))) := by
  intro f hf κ' i' j' hv'
  have hv : vd 8 0 0 := ⟨rfl, rfl⟩
  by_cases h : V.1 κ' i' j' = V.1 8 0 0
  · obtain ⟨rfl, rfl, rfl⟩ := w.2.2.2.1 _ _ _ _ _ _ hv' hv h
    rw [va_up_self]
    show _ = Sum.inl _
    congr 7
    funext n
    by_cases hn : n = k
    · subst hn; rw [va_up_self, va_up_self]
    · rw [va_up_ne _ _ hn, va_up_ne _ _ hn]
  · rw [va_up_ne _ _ h, hf _ _ _ hv']
    unfold ce
    split <;> first | rfl | skip
    obtain ⟨rfl, rfl⟩ := hv'
    exact absurd rfl h
theorem eC_wire {G : zG} {V : zV} {M : zM} {P : Nat → Nat} {D D' : Nat × Nat} (w : wC G V) : ∀ f, eC V M P D f → eC V M P D' (va_up f (V.1 6 0 0) (.inr (3, fsW V D' (M 6 0 0)))) := by
  intro f hf κ' i' j' hv'
  have hv : vd 6 0 0 := ⟨rfl, rfl⟩
  by_cases h : V.1 κ' i' j' = V.1 6 0 0
  · obtain ⟨rfl, rfl, rfl⟩ := w.2.2.2.1 _ _ _ _ _ _ hv' hv h
    rw [va_up_self]
    rfl
  · rw [va_up_ne _ _ h, hf _ _ _ hv']
    unfold ce
    split <;> first | rfl | skip
    obtain ⟨rfl, rfl⟩ := hv'
    exact absurd rfl h
section CR
variable {X : zX} {G : zG} {A : Nat → Prop} {nL : Nat} {Q : State → Prop} {pc : Nat} {lv : List (Nat × Value)} {st : List Value} {cc : ByteArray} {own : String} {fr lo : Nat} {V : zV} {M : zM} {P : Nat → Nat} {D : Nat × Nat} {i j index : Nat} {v : Value} {x : Int32}
theorem C_gF (C : zC X G A cc nL own fr lo) (w : wC G V) (hi : i < 63) (k : Nat) (hk : k < 9) (hlk : Cond.fieldLink own index RX0 (TX0 k).2.1 (TX0 k).2.2.1 ∈ zT) (hr : (TX0 k).1 = RX0) (hv : (fsF V i (M 9 i 0))[k]? = some v) (hd : decode cc pc = .ok (.getfield index, 3)) (kk : Z X G A nL Q (eC V M P D) (pc + 3) lv (v :: st)) : Z X G A nL Q (eC V M P D) pc lv (.ref (V.1 9 i 0) :: st) :=
  Z_get C k (w.2.2.1 9 i 0 ⟨hi, rfl⟩) (fun f hf => hf 9 i 0 ⟨hi, rfl⟩) (by rw [w.1]; rfl) in_F hk hlk hr hv hd kk
theorem C_pF (C : zC X G A cc nL own fr lo) (w : wC G V) (hi : i < 63) (k : Nat) (hk : k < 9) (hlk : Cond.fieldLink own index RX0 (TX0 k).2.1 (TX0 k).2.2.1 ∈ zT) (hr : (TX0 k).1 = RX0) (hfin : (TX0 k).2.2.2 = false) (hn : narrow (tyX0 k) (.int x) = .int x) (hfit : fits (tyX0 k) (.int x) = true) (he : Sum.inr (0, (fsF V i (M 9 i 0)).set k (.int x)) = ce V P D 9 i 0 (upd (M 9 i 0) k x)) (hd : decode cc pc = .ok (.putfield index, 3)) (kk : Z X G A nL Q (eC V (up M 9 i 0 k x) P D) (pc + 3) lv st) : Z X G A nL Q (eC V M P D) pc lv (.int x :: .ref (V.1 9 i 0) :: st) :=
  Z_put C k tyX0 (w.2.2.1 9 i 0 ⟨hi, rfl⟩) (fun f hf => hf 9 i 0 ⟨hi, rfl⟩) (by rw [w.1]; rfl) in_F tyX0_ok nmX0 hk hlk hr hfin (tyX0_ok k hk) hn hfit hk (eC_up w ⟨hi, rfl⟩ he) hd kk
theorem C_gR (C : zC X G A cc nL own fr lo) (w : wC G V) (hi : i < 5) (k : Nat) (hk : k < 11) (hlk : Cond.fieldLink own index RX1 (TX1 k).2.1 (TX1 k).2.2.1 ∈ zT) (hr : (TX1 k).1 = RX1) (hv : (fsR V i (M 2 i 0))[k]? = some v) (hd : decode cc pc = .ok (.getfield index, 3)) (kk : Z X G A nL Q (eC V M P D) (pc + 3) lv (v :: st)) : Z X G A nL Q (eC V M P D) pc lv (.ref (V.1 2 i 0) :: st) :=
  Z_get C k (w.2.2.1 2 i 0 ⟨hi, rfl⟩) (fun f hf => hf 2 i 0 ⟨hi, rfl⟩) (by rw [w.1]; rfl) in_R hk hlk hr hv hd kk
theorem C_pR (C : zC X G A cc nL own fr lo) (w : wC G V) (hi : i < 5) (k : Nat) (hk : k < 11) (hlk : Cond.fieldLink own index RX1 (TX1 k).2.1 (TX1 k).2.2.1 ∈ zT) (hr : (TX1 k).1 = RX1) (hfin : (TX1 k).2.2.2 = false) (hn : narrow (tyX1 k) (.int x) = .int x) (hfit : fits (tyX1 k) (.int x) = true) (he : Sum.inr (1, (fsR V i (M 2 i 0)).set k (.int x)) = ce V P D 2 i 0 (upd (M 2 i 0) k x)) (hd : decode cc pc = .ok (.putfield index, 3)) (kk : Z X G A nL Q (eC V (up M 2 i 0 k x) P D) (pc + 3) lv st) : Z X G A nL Q (eC V M P D) pc lv (.int x :: .ref (V.1 2 i 0) :: st) :=
  Z_put C k tyX1 (w.2.2.1 2 i 0 ⟨hi, rfl⟩) (fun f hf => hf 2 i 0 ⟨hi, rfl⟩) (by rw [w.1]; rfl) in_R tyX1_ok nmX1 hk hlk hr hfin (tyX1_ok k hk) hn hfit hk (eC_up w ⟨hi, rfl⟩ he) hd kk
theorem C_gS (C : zC X G A cc nL own fr lo) (w : wC G V) (hi : i < 5) (hj : j < 5) (k : Nat) (hk : k < 19) (hlk : Cond.fieldLink own index RX2 (TX2 k).2.1 (TX2 k).2.2.1 ∈ zT) (hr : (TX2 k).1 = RX2) (hv : (fsS V i j (M 5 i j))[k]? = some v) (hd : decode cc pc = .ok (.getfield index, 3)) (kk : Z X G A nL Q (eC V M P D) (pc + 3) lv (v :: st)) : Z X G A nL Q (eC V M P D) pc lv (.ref (V.1 5 i j) :: st) :=
  Z_get C k (w.2.2.1 5 i j ⟨hi, hj⟩) (fun f hf => hf 5 i j ⟨hi, hj⟩) (by rw [w.1]; rfl) in_S hk hlk hr hv hd kk
theorem C_pS (C : zC X G A cc nL own fr lo) (w : wC G V) (hi : i < 5) (hj : j < 5) (k : Nat) (hk : k < 19) (hlk : Cond.fieldLink own index RX2 (TX2 k).2.1 (TX2 k).2.2.1 ∈ zT) (hr : (TX2 k).1 = RX2) (hfin : (TX2 k).2.2.2 = false) (hn : narrow (tyX2 k) (.int x) = .int x) (hfit : fits (tyX2 k) (.int x) = true) (he : Sum.inr (2, (fsS V i j (M 5 i j)).set k (.int x)) = ce V P D 5 i j (upd (M 5 i j) k x)) (hd : decode cc pc = .ok (.putfield index, 3)) (kk : Z X G A nL Q (eC V (up M 5 i j k x) P D) (pc + 3) lv st) : Z X G A nL Q (eC V M P D) pc lv (.int x :: .ref (V.1 5 i j) :: st) :=
  Z_put C k tyX2 (w.2.2.1 5 i j ⟨hi, hj⟩) (fun f hf => hf 5 i j ⟨hi, hj⟩) (by rw [w.1]; rfl) in_S tyX2_ok nmX2 hk hlk hr hfin (tyX2_ok k hk) hn hfit hk (eC_up w ⟨hi, hj⟩ he) hd kk
theorem C_gW (C : zC X G A cc nL own fr lo) (w : wC G V)  (k : Nat) (hk : k < 6) (hlk : Cond.fieldLink own index RX3 (TX3 k).2.1 (TX3 k).2.2.1 ∈ zT) (hr : (TX3 k).1 = RX3) (hv : (fsW V D (M 6 0 0))[k]? = some v) (hd : decode cc pc = .ok (.getfield index, 3)) (kk : Z X G A nL Q (eC V M P D) (pc + 3) lv (v :: st)) : Z X G A nL Q (eC V M P D) pc lv (.ref (V.1 6 0 0) :: st) :=
  Z_get C k (w.2.2.1 6 0 0 ⟨rfl, rfl⟩) (fun f hf => hf 6 0 0 ⟨rfl, rfl⟩) (by rw [w.1]; rfl) in_W hk hlk hr hv hd kk
theorem C_pW (C : zC X G A cc nL own fr lo) (w : wC G V)  (k : Nat) (hk : k < 6) (hlk : Cond.fieldLink own index RX3 (TX3 k).2.1 (TX3 k).2.2.1 ∈ zT) (hr : (TX3 k).1 = RX3) (hfin : (TX3 k).2.2.2 = false) (hn : narrow (tyX3 k) (.int x) = .int x) (hfit : fits (tyX3 k) (.int x) = true) (he : Sum.inr (3, (fsW V D (M 6 0 0)).set k (.int x)) = ce V P D 6 0 0 (upd (M 6 0 0) k x)) (hd : decode cc pc = .ok (.putfield index, 3)) (kk : Z X G A nL Q (eC V (up M 6 0 0 k x) P D) (pc + 3) lv st) : Z X G A nL Q (eC V M P D) pc lv (.int x :: .ref (V.1 6 0 0) :: st) :=
  Z_put C k tyX3 (w.2.2.1 6 0 0 ⟨rfl, rfl⟩) (fun f hf => hf 6 0 0 ⟨rfl, rfl⟩) (by rw [w.1]; rfl) in_W tyX3_ok nmX3 hk hlk hr hfin (tyX3_ok k hk) hn hfit hk (eC_up w ⟨rfl, rfl⟩ he) hd kk
theorem C_gL (C : zC X G A cc nL own fr lo) (w : wC G V)  (k : Nat) (hk : k < 3) (hlk : Cond.fieldLink own index RX4 (TX4 k).2.1 (TX4 k).2.2.1 ∈ zT) (hr : (TX4 k).1 = RX4) (hv : (fsL V)[k]? = some v) (hd : decode cc pc = .ok (.getfield index, 3)) (kk : Z X G A nL Q (eC V M P D) (pc + 3) lv (v :: st)) : Z X G A nL Q (eC V M P D) pc lv (.ref (V.1 0 0 0) :: st) :=
  Z_get C k (w.2.2.1 0 0 0 ⟨rfl, rfl⟩) (fun f hf => hf 0 0 0 ⟨rfl, rfl⟩) (by rw [w.1]; rfl) in_L hk hlk hr hv hd kk
end CR
theorem zeq {K K' : zK} (h : K = K') : ∀ f, K f → K' f := fun f q => h ▸ q
theorem eC_M {V : zV} {M M' : zM} {P : Nat → Nat} {D : Nat × Nat} (h : M = M') : eC V M P D = eC V M' P D := by rw [h]
section CC
variable {X : zX} {G : zG} {A : Nat → Prop} {nL : Nat} {Q : State → Prop} {K' : zK} {pc : Nat} {lv : List (Nat × Value)} {st rest As : List Value} {cc bytes : ByteArray} {own : String} {fr lo fr' lo' : Nat} {V : zV} {M : zM} {P : Nat → Nat} {D : Nat × Nat} {i j index n maxL : Nat} {y : MethodName} {v : Value} {ret : Option FieldType}
theorem C_cFv (C : zC X G A cc nL own fr lo) (w : wC G V) (hi : i < 63) (mi : zMi y bytes maxL ret n) (hlk : Cond.methodLink own index y ∈ zT) (hM : zF X.l y bytes maxL ret fr' lo' G (.ref (V.1 9 i 0) :: As) (eC V M P D) (some v) K') (hst : st = As.reverse ++ .ref (V.1 9 i 0) :: rest) (hy : y.cls = RX0) (hle : fr' + 1 ≤ fr ∧ 19 + maxL + lo' ≤ lo) (hn : As.length = n) (hrm : (rest.map fun v => v.category).sum ≤ 8) (hd : decode cc pc = .ok (.invokevirtual index, 3)) (k : Z X G A nL Q K' (pc + 3) lv (v :: rest)) : Z X G A nL Q (eC V M P D) pc lv st :=
  Z_callV C mi hlk hM hle (w.2.2.1 9 i 0 ⟨hi, rfl⟩) (fun f hf => hf 9 i 0 ⟨hi, rfl⟩) (by rw [w.1, hy]; rfl) hn hst hrm hd k
theorem C_cFn (C : zC X G A cc nL own fr lo) (w : wC G V) (hi : i < 63) (mi : zMi y bytes maxL ret n) (hlk : Cond.methodLink own index y ∈ zT) (hM : zF X.l y bytes maxL ret fr' lo' G (.ref (V.1 9 i 0) :: As) (eC V M P D) none K') (hst : st = As.reverse ++ .ref (V.1 9 i 0) :: rest) (hy : y.cls = RX0) (hle : fr' + 1 ≤ fr ∧ 19 + maxL + lo' ≤ lo) (hn : As.length = n) (hrm : (rest.map fun v => v.category).sum ≤ 8) (hd : decode cc pc = .ok (.invokevirtual index, 3)) (k : Z X G A nL Q K' (pc + 3) lv rest) : Z X G A nL Q (eC V M P D) pc lv st :=
  Z_callV C mi hlk hM hle (w.2.2.1 9 i 0 ⟨hi, rfl⟩) (fun f hf => hf 9 i 0 ⟨hi, rfl⟩) (by rw [w.1, hy]; rfl) hn hst hrm hd k
theorem C_cRv (C : zC X G A cc nL own fr lo) (w : wC G V) (hi : i < 5) (mi : zMi y bytes maxL ret n) (hlk : Cond.methodLink own index y ∈ zT) (hM : zF X.l y bytes maxL ret fr' lo' G (.ref (V.1 2 i 0) :: As) (eC V M P D) (some v) K') (hst : st = As.reverse ++ .ref (V.1 2 i 0) :: rest) (hy : y.cls = RX1) (hle : fr' + 1 ≤ fr ∧ 19 + maxL + lo' ≤ lo) (hn : As.length = n) (hrm : (rest.map fun v => v.category).sum ≤ 8) (hd : decode cc pc = .ok (.invokevirtual index, 3)) (k : Z X G A nL Q K' (pc + 3) lv (v :: rest)) : Z X G A nL Q (eC V M P D) pc lv st :=
  Z_callV C mi hlk hM hle (w.2.2.1 2 i 0 ⟨hi, rfl⟩) (fun f hf => hf 2 i 0 ⟨hi, rfl⟩) (by rw [w.1, hy]; rfl) hn hst hrm hd k
theorem C_cRn (C : zC X G A cc nL own fr lo) (w : wC G V) (hi : i < 5) (mi : zMi y bytes maxL ret n) (hlk : Cond.methodLink own index y ∈ zT) (hM : zF X.l y bytes maxL ret fr' lo' G (.ref (V.1 2 i 0) :: As) (eC V M P D) none K') (hst : st = As.reverse ++ .ref (V.1 2 i 0) :: rest) (hy : y.cls = RX1) (hle : fr' + 1 ≤ fr ∧ 19 + maxL + lo' ≤ lo) (hn : As.length = n) (hrm : (rest.map fun v => v.category).sum ≤ 8) (hd : decode cc pc = .ok (.invokevirtual index, 3)) (k : Z X G A nL Q K' (pc + 3) lv rest) : Z X G A nL Q (eC V M P D) pc lv st :=
  Z_callV C mi hlk hM hle (w.2.2.1 2 i 0 ⟨hi, rfl⟩) (fun f hf => hf 2 i 0 ⟨hi, rfl⟩) (by rw [w.1, hy]; rfl) hn hst hrm hd k
theorem C_cSv (C : zC X G A cc nL own fr lo) (w : wC G V) (hi : i < 5) (hj : j < 5) (mi : zMi y bytes maxL ret n) (hlk : Cond.methodLink own index y ∈ zT) (hM : zF X.l y bytes maxL ret fr' lo' G (.ref (V.1 5 i j) :: As) (eC V M P D) (some v) K') (hst : st = As.reverse ++ .ref (V.1 5 i j) :: rest) (hy : y.cls = RX2) (hle : fr' + 1 ≤ fr ∧ 19 + maxL + lo' ≤ lo) (hn : As.length = n) (hrm : (rest.map fun v => v.category).sum ≤ 8) (hd : decode cc pc = .ok (.invokevirtual index, 3)) (k : Z X G A nL Q K' (pc + 3) lv (v :: rest)) : Z X G A nL Q (eC V M P D) pc lv st :=
  Z_callV C mi hlk hM hle (w.2.2.1 5 i j ⟨hi, hj⟩) (fun f hf => hf 5 i j ⟨hi, hj⟩) (by rw [w.1, hy]; rfl) hn hst hrm hd k
theorem C_cSn (C : zC X G A cc nL own fr lo) (w : wC G V) (hi : i < 5) (hj : j < 5) (mi : zMi y bytes maxL ret n) (hlk : Cond.methodLink own index y ∈ zT) (hM : zF X.l y bytes maxL ret fr' lo' G (.ref (V.1 5 i j) :: As) (eC V M P D) none K') (hst : st = As.reverse ++ .ref (V.1 5 i j) :: rest) (hy : y.cls = RX2) (hle : fr' + 1 ≤ fr ∧ 19 + maxL + lo' ≤ lo) (hn : As.length = n) (hrm : (rest.map fun v => v.category).sum ≤ 8) (hd : decode cc pc = .ok (.invokevirtual index, 3)) (k : Z X G A nL Q K' (pc + 3) lv rest) : Z X G A nL Q (eC V M P D) pc lv st :=
  Z_callV C mi hlk hM hle (w.2.2.1 5 i j ⟨hi, hj⟩) (fun f hf => hf 5 i j ⟨hi, hj⟩) (by rw [w.1, hy]; rfl) hn hst hrm hd k
theorem C_cWv (C : zC X G A cc nL own fr lo) (w : wC G V)  (mi : zMi y bytes maxL ret n) (hlk : Cond.methodLink own index y ∈ zT) (hM : zF X.l y bytes maxL ret fr' lo' G (.ref (V.1 6 0 0) :: As) (eC V M P D) (some v) K') (hst : st = As.reverse ++ .ref (V.1 6 0 0) :: rest) (hy : y.cls = RX3) (hle : fr' + 1 ≤ fr ∧ 19 + maxL + lo' ≤ lo) (hn : As.length = n) (hrm : (rest.map fun v => v.category).sum ≤ 8) (hd : decode cc pc = .ok (.invokevirtual index, 3)) (k : Z X G A nL Q K' (pc + 3) lv (v :: rest)) : Z X G A nL Q (eC V M P D) pc lv st :=
  Z_callV C mi hlk hM hle (w.2.2.1 6 0 0 ⟨rfl, rfl⟩) (fun f hf => hf 6 0 0 ⟨rfl, rfl⟩) (by rw [w.1, hy]; rfl) hn hst hrm hd k
theorem C_cWn (C : zC X G A cc nL own fr lo) (w : wC G V)  (mi : zMi y bytes maxL ret n) (hlk : Cond.methodLink own index y ∈ zT) (hM : zF X.l y bytes maxL ret fr' lo' G (.ref (V.1 6 0 0) :: As) (eC V M P D) none K') (hst : st = As.reverse ++ .ref (V.1 6 0 0) :: rest) (hy : y.cls = RX3) (hle : fr' + 1 ≤ fr ∧ 19 + maxL + lo' ≤ lo) (hn : As.length = n) (hrm : (rest.map fun v => v.category).sum ≤ 8) (hd : decode cc pc = .ok (.invokevirtual index, 3)) (k : Z X G A nL Q K' (pc + 3) lv rest) : Z X G A nL Q (eC V M P D) pc lv st :=
  Z_callV C mi hlk hM hle (w.2.2.1 6 0 0 ⟨rfl, rfl⟩) (fun f hf => hf 6 0 0 ⟨rfl, rfl⟩) (by rw [w.1, hy]; rfl) hn hst hrm hd k
theorem C_cLv (C : zC X G A cc nL own fr lo) (w : wC G V)  (mi : zMi y bytes maxL ret n) (hlk : Cond.methodLink own index y ∈ zT) (hM : zF X.l y bytes maxL ret fr' lo' G (.ref (V.1 0 0 0) :: As) (eC V M P D) (some v) K') (hst : st = As.reverse ++ .ref (V.1 0 0 0) :: rest) (hy : y.cls = RX4) (hle : fr' + 1 ≤ fr ∧ 19 + maxL + lo' ≤ lo) (hn : As.length = n) (hrm : (rest.map fun v => v.category).sum ≤ 8) (hd : decode cc pc = .ok (.invokevirtual index, 3)) (k : Z X G A nL Q K' (pc + 3) lv (v :: rest)) : Z X G A nL Q (eC V M P D) pc lv st :=
  Z_callV C mi hlk hM hle (w.2.2.1 0 0 0 ⟨rfl, rfl⟩) (fun f hf => hf 0 0 0 ⟨rfl, rfl⟩) (by rw [w.1, hy]; rfl) hn hst hrm hd k
theorem C_cLn (C : zC X G A cc nL own fr lo) (w : wC G V)  (mi : zMi y bytes maxL ret n) (hlk : Cond.methodLink own index y ∈ zT) (hM : zF X.l y bytes maxL ret fr' lo' G (.ref (V.1 0 0 0) :: As) (eC V M P D) none K') (hst : st = As.reverse ++ .ref (V.1 0 0 0) :: rest) (hy : y.cls = RX4) (hle : fr' + 1 ≤ fr ∧ 19 + maxL + lo' ≤ lo) (hn : As.length = n) (hrm : (rest.map fun v => v.category).sum ≤ 8) (hd : decode cc pc = .ok (.invokevirtual index, 3)) (k : Z X G A nL Q K' (pc + 3) lv rest) : Z X G A nL Q (eC V M P D) pc lv st :=
  Z_callV C mi hlk hM hle (w.2.2.1 0 0 0 ⟨rfl, rfl⟩) (fun f hf => hf 0 0 0 ⟨rfl, rfl⟩) (by rw [w.1, hy]; rfl) hn hst hrm hd k
theorem C_csv {K : zK} (C : zC X G A cc nL own fr lo) (mi : zMs y bytes maxL ret n) (hlk : Cond.methodLink own index y ∈ zT) (hM : zF X.l y bytes maxL ret fr' lo' G As K (some v) K') (hst : st = As.reverse ++ rest) (hle : fr' + 1 ≤ fr ∧ 19 + maxL + lo' ≤ lo) (hn : As.length = n) (hrm : (rest.map fun v => v.category).sum ≤ 8) (hd : decode cc pc = .ok (.invokestatic index, 3)) (k : Z X G A nL Q K' (pc + 3) lv (v :: rest)) : Z X G A nL Q K pc lv st :=
  Z_callS C mi hlk hM hle hn hst hrm hd k
theorem C_csn {K : zK} (C : zC X G A cc nL own fr lo) (mi : zMs y bytes maxL ret n) (hlk : Cond.methodLink own index y ∈ zT) (hM : zF X.l y bytes maxL ret fr' lo' G As K none K') (hst : st = As.reverse ++ rest) (hle : fr' + 1 ≤ fr ∧ 19 + maxL + lo' ≤ lo) (hn : As.length = n) (hrm : (rest.map fun v => v.category).sum ≤ 8) (hd : decode cc pc = .ok (.invokestatic index, 3)) (k : Z X G A nL Q K' (pc + 3) lv rest) : Z X G A nL Q K pc lv st :=
  Z_callS C mi hlk hM hle hn hst hrm hd k
end CC
theorem mx_s : Cond.static Lib.Math.max.name ∈ zT := by decide +kernel
theorem mx_c : Cond.code Lib.Math.max.name Lib.Math.max.code 2 (some .int) ∈ zT := by decide +kernel
theorem mn_s : Cond.static Lib.Math.min.name ∈ zT := by decide +kernel
theorem mn_c : Cond.code Lib.Math.min.name Lib.Math.min.code 2 (some .int) ∈ zT := by decide +kernel
theorem ma_i : Cond.initialized "java/lang/Math" ∈ zT := by decide +kernel
def imx (a b : Int32) : Int32 := if a < b then b else a
def imn (a b : Int32) : Int32 := if b < a then b else a
/-- a row set as a whole; up is that -/
def rw4 (M : zM) (κ i j : Nat) (q : Nat → Int32) : zM := fun κ' i' j' => if κ' = κ ∧ i' = i ∧ j' = j then q else M κ' i' j'
theorem up_eq (M : zM) (κ i j k : Nat) (v : Int32) : up M κ i j k v = rw4 M κ i j (upd (M κ i j) k v) := rfl
theorem rw4_self (M : zM) (κ i j : Nat) (q : Nat → Int32) : rw4 M κ i j q κ i j = q := by simp [rw4]
theorem rw4_rw4 (M : zM) (κ i j : Nat) (q q' : Nat → Int32) : rw4 (rw4 M κ i j q) κ i j q' = rw4 M κ i j q' := by
  funext a b c
  by_cases h : a = κ ∧ b = i ∧ c = j
  · simp [rw4, h]
  · simp [rw4, h]
theorem rw4_id (M : zM) (κ i j : Nat) : rw4 M κ i j (M κ i j) = M := by
  funext a b c
  by_cases h : a = κ ∧ b = i ∧ c = j
  · obtain ⟨rfl, rfl, rfl⟩ := h
    simp [rw4]
  · simp [rw4, h]
theorem rw4_ne {M : zM} {κ i j κ' i' j' : Nat} {q : Nat → Int32} (h : ¬ (κ' = κ ∧ i' = i ∧ j' = j)) : rw4 M κ i j q κ' i' j' = M κ' i' j' := by simp [rw4, h]
section CA
variable {X : zX} {G : zG} {A : Nat → Prop} {nL : Nat} {Q : State → Prop} {pc : Nat} {lv : List (Nat × Value)} {st : List Value} {cc : ByteArray} {own : String} {fr lo : Nat} {V : zV} {M : zM} {P : Nat → Nat} {D : Nat × Nat} {i j n : Nat} {x y v : Int32}
theorem C_lenG (C : zC X G A cc nL own fr lo) (w : wC G V) (hi : i < 5) (hd : decode cc pc = .ok (.arraylength, 1)) (kk : Z X G A nL Q (eC V M P D) (pc + 1) lv (.int 10 :: st)) : Z X G A nL Q (eC V M P D) pc lv (.ref (V.1 3 i 0) :: st) :=
  Z_alen (t0 := 0) (v := 10) C (w.2.2.1 3 i 0 ⟨hi, rfl⟩) (fun f hf => hf 3 i 0 ⟨hi, rfl⟩) (by rw [w.2.1]; rfl) rfl hd kk
theorem C_ldG (C : zC X G A cc nL own fr lo) (w : wC G V) (hi : i < 5) (n : Nat) (hn : x.toNatClampNeg = n) (hin : vp_in x 10) (hd : decode cc pc = .ok (.iaload, 1)) (kk : Z X G A nL Q (eC V M P D) (pc + 1) lv (.int (M 3 i 0 n) :: st)) : Z X G A nL Q (eC V M P D) pc lv (.int x :: .ref (V.1 3 i 0) :: st) := by
  subst hn
  exact Z_iald (t0 := 0) C (w.2.2.1 3 i 0 ⟨hi, rfl⟩) (fun f hf => hf 3 i 0 ⟨hi, rfl⟩) (by rw [w.2.1]; rfl) hin hd kk
theorem C_stG (C : zC X G A cc nL own fr lo) (w : wC G V) (hi : i < 5) (n : Nat) (hn : x.toNatClampNeg = n) (hin : vp_in x 10) (hd : decode cc pc = .ok (.iastore, 1)) (kk : Z X G A nL Q (eC V (up M 3 i 0 n y) P D) (pc + 1) lv st) : Z X G A nL Q (eC V M P D) pc lv (.int y :: .int x :: .ref (V.1 3 i 0) :: st) := by
  subst hn
  exact Z_iast (t0 := 0) C (w.2.2.1 3 i 0 ⟨hi, rfl⟩) (fun f hf => hf 3 i 0 ⟨hi, rfl⟩) (by rw [w.2.1]; rfl) hin (eC_up w ⟨hi, rfl⟩ rfl) hd kk
theorem C_lenP (C : zC X G A cc nL own fr lo) (w : wC G V)  (hd : decode cc pc = .ok (.arraylength, 1)) (kk : Z X G A nL Q (eC V M P D) (pc + 1) lv (.int 16 :: st)) : Z X G A nL Q (eC V M P D) pc lv (.ref (V.1 7 0 0) :: st) :=
  Z_alen (t0 := 0) (v := 16) C (w.2.2.1 7 0 0 ⟨rfl, rfl⟩) (fun f hf => hf 7 0 0 ⟨rfl, rfl⟩) (by rw [w.2.1]; rfl) rfl hd kk
theorem C_ldP (C : zC X G A cc nL own fr lo) (w : wC G V)  (n : Nat) (hn : x.toNatClampNeg = n) (hin : vp_in x 16) (hd : decode cc pc = .ok (.iaload, 1)) (kk : Z X G A nL Q (eC V M P D) (pc + 1) lv (.int (M 7 0 0 n) :: st)) : Z X G A nL Q (eC V M P D) pc lv (.int x :: .ref (V.1 7 0 0) :: st) := by
  subst hn
  exact Z_iald (t0 := 0) C (w.2.2.1 7 0 0 ⟨rfl, rfl⟩) (fun f hf => hf 7 0 0 ⟨rfl, rfl⟩) (by rw [w.2.1]; rfl) hin hd kk
theorem C_stP (C : zC X G A cc nL own fr lo) (w : wC G V)  (n : Nat) (hn : x.toNatClampNeg = n) (hin : vp_in x 16) (hd : decode cc pc = .ok (.iastore, 1)) (kk : Z X G A nL Q (eC V (up M 7 0 0 n y) P D) (pc + 1) lv st) : Z X G A nL Q (eC V M P D) pc lv (.int y :: .int x :: .ref (V.1 7 0 0) :: st) := by
  subst hn
  exact Z_iast (t0 := 0) C (w.2.2.1 7 0 0 ⟨rfl, rfl⟩) (fun f hf => hf 7 0 0 ⟨rfl, rfl⟩) (by rw [w.2.1]; rfl) hin (eC_up w ⟨rfl, rfl⟩ rfl) hd kk
theorem C_lenB (C : zC X G A cc nL own fr lo) (w : wC G V) (hi : i < 63) (hd : decode cc pc = .ok (.arraylength, 1)) (kk : Z X G A nL Q (eC V M P D) (pc + 1) lv (.int 40 :: st)) : Z X G A nL Q (eC V M P D) pc lv (.ref (V.1 10 i 0) :: st) :=
  Z_alen (t0 := 0) (v := 40) C (w.2.2.1 10 i 0 ⟨hi, rfl⟩) (fun f hf => hf 10 i 0 ⟨hi, rfl⟩) (by rw [w.2.1]; rfl) rfl hd kk
theorem C_ldB (C : zC X G A cc nL own fr lo) (w : wC G V) (hi : i < 63) (n : Nat) (hn : x.toNatClampNeg = n) (hin : vp_in x 40) (hd : decode cc pc = .ok (.iaload, 1)) (kk : Z X G A nL Q (eC V M P D) (pc + 1) lv (.int (M 10 i 0 n) :: st)) : Z X G A nL Q (eC V M P D) pc lv (.int x :: .ref (V.1 10 i 0) :: st) := by
  subst hn
  exact Z_iald (t0 := 0) C (w.2.2.1 10 i 0 ⟨hi, rfl⟩) (fun f hf => hf 10 i 0 ⟨hi, rfl⟩) (by rw [w.2.1]; rfl) hin hd kk
theorem C_stB (C : zC X G A cc nL own fr lo) (w : wC G V) (hi : i < 63) (n : Nat) (hn : x.toNatClampNeg = n) (hin : vp_in x 40) (hd : decode cc pc = .ok (.iastore, 1)) (kk : Z X G A nL Q (eC V (up M 10 i 0 n y) P D) (pc + 1) lv st) : Z X G A nL Q (eC V M P D) pc lv (.int y :: .int x :: .ref (V.1 10 i 0) :: st) := by
  subst hn
  exact Z_iast (t0 := 0) C (w.2.2.1 10 i 0 ⟨hi, rfl⟩) (fun f hf => hf 10 i 0 ⟨hi, rfl⟩) (by rw [w.2.1]; rfl) hin (eC_up w ⟨hi, rfl⟩ rfl) hd kk
theorem C_lenY (C : zC X G A cc nL own fr lo) (w : wC G V)  (hd : decode cc pc = .ok (.arraylength, 1)) (kk : Z X G A nL Q (eC V M P D) (pc + 1) lv (.int 60 :: st)) : Z X G A nL Q (eC V M P D) pc lv (.ref (V.1 8 0 0) :: st) :=
  Z_alen (t0 := 1) (v := 60) C (w.2.2.1 8 0 0 ⟨rfl, rfl⟩) (fun f hf => hf 8 0 0 ⟨rfl, rfl⟩) (by rw [w.2.1]; rfl) rfl hd kk
theorem C_ldY (C : zC X G A cc nL own fr lo) (w : wC G V)  (n : Nat) (hn : x.toNatClampNeg = n) (hin : vp_in x 60) (hd : decode cc pc = .ok (.aaload, 1)) (kk : Z X G A nL Q (eC V M P D) (pc + 1) lv (.ref (V.1 9 (P n) 0) :: st)) : Z X G A nL Q (eC V M P D) pc lv (.int x :: .ref (V.1 8 0 0) :: st) := by
  subst hn
  exact Z_aald (t0 := 1) C (w.2.2.1 8 0 0 ⟨rfl, rfl⟩) (fun f hf => hf 8 0 0 ⟨rfl, rfl⟩) (by rw [w.2.1]; rfl) hin hd kk
theorem C_lenQ (C : zC X G A cc nL own fr lo) (w : wC G V)  (hd : decode cc pc = .ok (.arraylength, 1)) (kk : Z X G A nL Q (eC V M P D) (pc + 1) lv (.int 5 :: st)) : Z X G A nL Q (eC V M P D) pc lv (.ref (V.1 1 0 0) :: st) :=
  Z_alen (t0 := 2) (v := 5) C (w.2.2.1 1 0 0 ⟨rfl, rfl⟩) (fun f hf => hf 1 0 0 ⟨rfl, rfl⟩) (by rw [w.2.1]; rfl) rfl hd kk
theorem C_ldQ (C : zC X G A cc nL own fr lo) (w : wC G V)  (n : Nat) (hn : x.toNatClampNeg = n) (hin : vp_in x 5) (hd : decode cc pc = .ok (.aaload, 1)) (kk : Z X G A nL Q (eC V M P D) (pc + 1) lv (.ref (V.1 2 n 0) :: st)) : Z X G A nL Q (eC V M P D) pc lv (.int x :: .ref (V.1 1 0 0) :: st) := by
  subst hn
  exact Z_aald (t0 := 2) C (w.2.2.1 1 0 0 ⟨rfl, rfl⟩) (fun f hf => hf 1 0 0 ⟨rfl, rfl⟩) (by rw [w.2.1]; rfl) hin hd kk
theorem C_lenX (C : zC X G A cc nL own fr lo) (w : wC G V) (hi : i < 5) (hd : decode cc pc = .ok (.arraylength, 1)) (kk : Z X G A nL Q (eC V M P D) (pc + 1) lv (.int 5 :: st)) : Z X G A nL Q (eC V M P D) pc lv (.ref (V.1 4 i 0) :: st) :=
  Z_alen (t0 := 3) (v := 5) C (w.2.2.1 4 i 0 ⟨hi, rfl⟩) (fun f hf => hf 4 i 0 ⟨hi, rfl⟩) (by rw [w.2.1]; rfl) rfl hd kk
theorem C_ldX (C : zC X G A cc nL own fr lo) (w : wC G V) (hi : i < 5) (n : Nat) (hn : x.toNatClampNeg = n) (hin : vp_in x 5) (hd : decode cc pc = .ok (.aaload, 1)) (kk : Z X G A nL Q (eC V M P D) (pc + 1) lv (.ref (V.1 5 i n) :: st)) : Z X G A nL Q (eC V M P D) pc lv (.int x :: .ref (V.1 4 i 0) :: st) := by
  subst hn
  exact Z_aald (t0 := 3) C (w.2.2.1 4 i 0 ⟨hi, rfl⟩) (fun f hf => hf 4 i 0 ⟨hi, rfl⟩) (by rw [w.2.1]; rfl) hin hd kk
theorem C_stY {fj : Nat} (C : zC X G A cc nL own fr lo) (w : wC G V) (hfj : fj < 63) (n : Nat) (hn : x.toNatClampNeg = n) (hin : vp_in x 60) (hd : decode cc pc = .ok (.aastore, 1)) (kk : Z X G A nL Q (eC V M (va_up P n fj) D) (pc + 1) lv st) : Z X G A nL Q (eC V M P D) pc lv (.ref (V.1 9 fj 0) :: .int x :: .ref (V.1 8 0 0) :: st) := by
  subst hn
  intro f H locs ls hf hP hS hl
  obtain ⟨q0, hq⟩ := va_pl_get (X := []) (f := f) (w.2.2.1 8 0 0 ⟨rfl, rfl⟩)
  obtain ⟨q1, hq1⟩ := va_pl_get (X := []) (f := f) (w.2.2.1 9 fj 0 ⟨hfj, rfl⟩)
  have hD : va_D A (va_pl G.2.2.2 f) := zD C.2.2.1 C.2.2.2.1
  have hq0 := hq
  rw [hf 8 0 0 ⟨rfl, rfl⟩] at hq
  rw [hf 9 fj 0 ⟨hfj, rfl⟩] at hq1
  refine va_astq (r := (RX0, TX0, 9)) C.1.1 C.1.2.1 C.2.1 hP hD hS q0 1 q1 0 hq (by rw [w.2.1]; rfl) hq1 (by rw [w.1]; rfl) hin hd (fun H1 locs1 hP1 hD1 hS1 => ?_)
  have e := va_pl_set (X := []) (e := .inl (V.2.2.1, 60, .inr (.inr (.inr (.inr (va_up (fun n => some (V.1 9 (P n) 0)) x.toNatClampNeg (some (V.1 9 fj 0)))))))) hD (w.2.2.1 8 0 0 ⟨rfl, rfl⟩) hq0
  simp only [List.nil_append] at e
  rw [e] at hP1
  exact kk _ H1 locs1 ls (eC_way w f hf) hP1 hS1 hl
theorem C_pD (C : zC X G A cc nL own fr lo) (w : wC G V) {fj index : Nat} (hlk : Cond.fieldLink own index RX3 (TX3 4).2.1 (TX3 4).2.2.1 ∈ zT) (hd : decode cc pc = .ok (.putfield index, 3)) (kk : Z X G A nL Q (eC V M P (fj, D.2)) (pc + 3) lv st) : Z X G A nL Q (eC V M P D) pc lv (.ref (V.1 9 fj 0) :: .ref (V.1 6 0 0) :: st) :=
  Z_put C 4 tyX3 (w.2.2.1 6 0 0 ⟨rfl, rfl⟩) (fun f hf => hf 6 0 0 ⟨rfl, rfl⟩) (by rw [w.1]; rfl) in_W tyX3_ok nmX3 (by decide) hlk rfl rfl (tyX3_ok 4 (by decide)) rfl rfl (by show 4 < 6; decide) (eC_wire (D' := (fj, D.2)) w) hd kk
theorem C_pT (C : zC X G A cc nL own fr lo) (w : wC G V) {fj index : Nat} (hlk : Cond.fieldLink own index RX3 (TX3 5).2.1 (TX3 5).2.2.1 ∈ zT) (hd : decode cc pc = .ok (.putfield index, 3)) (kk : Z X G A nL Q (eC V M P (D.1, fj)) (pc + 3) lv st) : Z X G A nL Q (eC V M P D) pc lv (.ref (V.1 9 fj 0) :: .ref (V.1 6 0 0) :: st) :=
  Z_put C 5 tyX3 (w.2.2.1 6 0 0 ⟨rfl, rfl⟩) (fun f hf => hf 6 0 0 ⟨rfl, rfl⟩) (by rw [w.1]; rfl) in_W tyX3_ok nmX3 (by decide) hlk rfl rfl (tyX3_ok 5 (by decide)) rfl rfl (by show 5 < 6; decide) (eC_wire (D' := (D.1, fj)) w) hd kk
end CA
