/-! THE REFERENCE: one object, its ints and its arrays. N a k: place k of the array in field a; N 43 f: the int field f -/
def TXM : u_T := fun k => match k with
  | 0 => ("StandInLanModel", "thrown", "I", false)
  | 1 => ("StandInLanModel", "clock", "I", false)
  | 2 => ("StandInLanModel", "setting", "[I", true)
  | 3 => ("StandInLanModel", "role", "[I", true)
  | 4 => ("StandInLanModel", "timer", "[I", true)
  | 5 => ("StandInLanModel", "known", "[I", true)
  | 6 => ("StandInLanModel", "became", "[I", true)
  | 7 => ("StandInLanModel", "took", "[I", true)
  | 8 => ("StandInLanModel", "sent", "[I", true)
  | 9 => ("StandInLanModel", "noted", "[I", true)
  | 10 => ("StandInLanModel", "learned", "[I", true)
  | 11 => ("StandInLanModel", "there", "[Z", true)
  | 12 => ("StandInLanModel", "state", "[I", true)
  | 13 => ("StandInLanModel", "farState", "[I", true)
  | 14 => ("StandInLanModel", "farNumber", "[I", true)
  | 15 => ("StandInLanModel", "diagnosis", "[I", true)
  | 16 => ("StandInLanModel", "tx", "[I", true)
  | 17 => ("StandInLanModel", "rx", "[I", true)
  | 18 => ("StandInLanModel", "txUsed", "[I", true)
  | 19 => ("StandInLanModel", "rxUsed", "[I", true)
  | 20 => ("StandInLanModel", "multiplier", "[I", true)
  | 21 => ("StandInLanModel", "farRx", "[I", true)
  | 22 => ("StandInLanModel", "farTx", "[I", true)
  | 23 => ("StandInLanModel", "farMultiplier", "[I", true)
  | 24 => ("StandInLanModel", "polls", "[Z", true)
  | 25 => ("StandInLanModel", "sends", "[I", true)
  | 26 => ("StandInLanModel", "detects", "[I", true)
  | 27 => ("StandInLanModel", "ups", "[I", true)
  | 28 => ("StandInLanModel", "flying", "I", false)
  | 29 => ("StandInLanModel", "due", "[I", true)
  | 30 => ("StandInLanModel", "kind", "[I", true)
  | 31 => ("StandInLanModel", "from", "[I", true)
  | 32 => ("StandInLanModel", "to", "[I", true)
  | 33 => ("StandInLanModel", "address", "[I", true)
  | 34 => ("StandInLanModel", "ports", "[I", true)
  | 35 => ("StandInLanModel", "length", "[I", true)
  | 36 => ("StandInLanModel", "bytes", "[I", true)
  | 37 => ("StandInLanModel", "packet", "[I", true)
  | 38 => ("StandInLanModel", "size", "I", false)
  | 39 => ("StandInLanModel", "heard", "[I", true)
  | 40 => ("StandInLanModel", "heardSize", "I", false)
  | 41 => ("StandInLanModel", "tape", "[I", true)
  | _ => ("StandInLanModel", "taped", "I", false)
def tyXM : Nat → FieldType := fun k => match k with
  | 0 => .int
  | 1 => .int
  | 2 => .array .int
  | 3 => .array .int
  | 4 => .array .int
  | 5 => .array .int
  | 6 => .array .int
  | 7 => .array .int
  | 8 => .array .int
  | 9 => .array .int
  | 10 => .array .int
  | 11 => .array .boolean
  | 12 => .array .int
  | 13 => .array .int
  | 14 => .array .int
  | 15 => .array .int
  | 16 => .array .int
  | 17 => .array .int
  | 18 => .array .int
  | 19 => .array .int
  | 20 => .array .int
  | 21 => .array .int
  | 22 => .array .int
  | 23 => .array .int
  | 24 => .array .boolean
  | 25 => .array .int
  | 26 => .array .int
  | 27 => .array .int
  | 28 => .int
  | 29 => .array .int
  | 30 => .array .int
  | 31 => .array .int
  | 32 => .array .int
  | 33 => .array .int
  | 34 => .array .int
  | 35 => .array .int
  | 36 => .array .int
  | 37 => .array .int
  | 38 => .int
  | 39 => .array .int
  | 40 => .int
  | 41 => .array .int
  | _ => .int
theorem nmXM : ∀ a, a < 43 → ∀ b, b < 43 → a ≠ b → (TXM a).2.1 ≠ (TXM b).2.1 := by decide +kernel
theorem tyXM_ok : ∀ k, k < 43 → parseFieldDescriptor (TXM k).2.2.1 = some (tyXM k) := by decide +kernel
theorem in_M : ∀ w ∈ u_ws RX5 TXM 43, w ∈ zT := by decide +kernel
abbrev zR : Type := Nat → Nat → Int32
/-- addresses of the arrays by field, of the object (43); the classes int[], boolean[] -/
abbrev zU : Type := (Nat → Nat) × ClassId × ClassId
def lenM (a : Nat) : Nat := match a with
  | 2 => 50
  | 3 => 5
  | 4 => 5
  | 5 => 5
  | 6 => 5
  | 7 => 5
  | 8 => 5
  | 9 => 5
  | 10 => 15
  | 11 => 25
  | 12 => 25
  | 13 => 25
  | 14 => 25
  | 15 => 25
  | 16 => 25
  | 17 => 25
  | 18 => 25
  | 19 => 25
  | 20 => 25
  | 21 => 25
  | 22 => 25
  | 23 => 25
  | 24 => 25
  | 25 => 25
  | 26 => 25
  | 27 => 25
  | 29 => 60
  | 30 => 60
  | 31 => 60
  | 32 => 60
  | 33 => 60
  | 34 => 60
  | 35 => 60
  | 36 => 2400
  | 37 => 40
  | 39 => 40
  | 41 => 40
  | _ => 0
def arrM (a : Nat) : Bool := match a with
  | 2 => true
  | 3 => true
  | 4 => true
  | 5 => true
  | 6 => true
  | 7 => true
  | 8 => true
  | 9 => true
  | 10 => true
  | 11 => true
  | 12 => true
  | 13 => true
  | 14 => true
  | 15 => true
  | 16 => true
  | 17 => true
  | 18 => true
  | 19 => true
  | 20 => true
  | 21 => true
  | 22 => true
  | 23 => true
  | 24 => true
  | 25 => true
  | 26 => true
  | 27 => true
  | 29 => true
  | 30 => true
  | 31 => true
  | 32 => true
  | 33 => true
  | 34 => true
  | 35 => true
  | 36 => true
  | 37 => true
  | 39 => true
  | 41 => true
  | _ => false
abbrev fsM (U : zU) (q : Nat → Int32) : List Value := [.int (q 0), .int (q 1), .ref (U.1 2), .ref (U.1 3), .ref (U.1 4), .ref (U.1 5), .ref (U.1 6), .ref (U.1 7), .ref (U.1 8), .ref (U.1 9), .ref (U.1 10), .ref (U.1 11), .ref (U.1 12), .ref (U.1 13), .ref (U.1 14), .ref (U.1 15), .ref (U.1 16), .ref (U.1 17), .ref (U.1 18), .ref (U.1 19), .ref (U.1 20), .ref (U.1 21), .ref (U.1 22), .ref (U.1 23), .ref (U.1 24), .ref (U.1 25), .ref (U.1 26), .ref (U.1 27), .int (q 28), .ref (U.1 29), .ref (U.1 30), .ref (U.1 31), .ref (U.1 32), .ref (U.1 33), .ref (U.1 34), .ref (U.1 35), .ref (U.1 36), .ref (U.1 37), .int (q 38), .ref (U.1 39), .int (q 40), .ref (U.1 41), .int (q 42)]
def clM (U : zU) (a : Nat) : ClassId := if a = 11 ∨ a = 24 then U.2.2 else U.2.1
def ceM (U : zU) (a : Nat) (q : Nat → Int32) : va_E := if a = 43 then .inr (0, fsM U q) else .inl (clM U a, lenM a, .inl q)
def vdM (a : Nat) : Prop := a = 43 ∨ arrM a = true
def eR (U : zU) (N : zR) : zK := fun f => ∀ a, vdM a → f (U.1 a) = ceM U a (N a)
def u2 (N : zR) (a k : Nat) (v : Int32) : zR := fun b => if b = a then upd (N a) k v else N b
theorem u2_self (N : zR) (a k : Nat) (v : Int32) : u2 N a k v a = upd (N a) k v := by simp [u2]
theorem u2_ne {N : zR} {a b k : Nat} {v : Int32} (h : b ≠ a) : u2 N a k v b = N b := by simp [u2, h]
def wR (G : zG) (U : zU) : Prop := G.2.1 = [(RX5, TXM, 43)] ∧ G.2.2.1 = [(U.2.1, .int), (U.2.2, .boolean)] ∧ (∀ a, vdM a → U.1 a ∈ G.2.2.2) ∧ (∀ a b, vdM a → vdM b → U.1 a = U.1 b → b = a) ∧ G.2.2.2.Nodup
theorem eR_up {G : zG} {U : zU} {N : zR} {a k : Nat} {v : Int32} {e : va_E} (w : wR G U) (hv : vdM a) (he : e = ceM U a (upd (N a) k v)) : ∀ f, eR U N f → eR U (u2 N a k v) (va_up f (U.1 a) e) := by
  intro f hf b hb
  by_cases h : U.1 b = U.1 a
  · obtain rfl := w.2.2.2.1 _ _ hb hv h
    rw [va_up_self, u2_self, he]
  · rw [va_up_ne _ _ h, hf _ hb, u2_ne (fun q => h (by rw [q]))]
section RR
variable {X : zX} {G : zG} {A : Nat → Prop} {nL : Nat} {Q : State → Prop} {pc : Nat} {lv : List (Nat × Value)} {st : List Value} {cc : ByteArray} {own : String} {fr lo : Nat} {U : zU} {N : zR} {index n : Nat} {v : Value} {x y : Int32}
theorem R_get (C : zC X G A cc nL own fr lo) (w : wR G U) (k : Nat) (hk : k < 43) (hlk : Cond.fieldLink own index RX5 (TXM k).2.1 (TXM k).2.2.1 ∈ zT) (hr : (TXM k).1 = RX5) (hv : (fsM U (N 43))[k]? = some v) (hd : decode cc pc = .ok (.getfield index, 3)) (kk : Z X G A nL Q (eR U N) (pc + 3) lv (v :: st)) : Z X G A nL Q (eR U N) pc lv (.ref (U.1 43) :: st) :=
  Z_get C k (w.2.2.1 43 (Or.inl rfl)) (fun f hf => hf 43 (Or.inl rfl)) (by rw [w.1]; rfl) in_M hk hlk hr hv hd kk
theorem R_put (C : zC X G A cc nL own fr lo) (w : wR G U) (k : Nat) (hk : k < 43) (hlk : Cond.fieldLink own index RX5 (TXM k).2.1 (TXM k).2.2.1 ∈ zT) (hr : (TXM k).1 = RX5) (hfin : (TXM k).2.2.2 = false) (hn : narrow (tyXM k) (.int x) = .int x) (hfit : fits (tyXM k) (.int x) = true) (he : Sum.inr (0, (fsM U (N 43)).set k (.int x)) = ceM U 43 (upd (N 43) k x)) (hd : decode cc pc = .ok (.putfield index, 3)) (kk : Z X G A nL Q (eR U (u2 N 43 k x)) (pc + 3) lv st) : Z X G A nL Q (eR U N) pc lv (.int x :: .ref (U.1 43) :: st) :=
  Z_put C k tyXM (w.2.2.1 43 (Or.inl rfl)) (fun f hf => hf 43 (Or.inl rfl)) (by rw [w.1]; rfl) in_M tyXM_ok nmXM hk hlk hr hfin (tyXM_ok k hk) hn hfit hk (eR_up w (Or.inl rfl) he) hd kk
theorem R_ld (a : Nat) (C : zC X G A cc nL own fr lo) (w : wR G U) (ha : arrM a = true) (h43 : (decide (a = 43) || decide (a = 11 ∨ a = 24)) = false) (n : Nat) (hn : x.toNatClampNeg = n) (hin : vp_in x (lenM a)) (hd : decode cc pc = .ok (.iaload, 1)) (kk : Z X G A nL Q (eR U N) (pc + 1) lv (.int (N a n) :: st)) : Z X G A nL Q (eR U N) pc lv (.int x :: .ref (U.1 a) :: st) := by
  subst hn
  simp only [Bool.or_eq_false_iff, decide_eq_false_iff_not] at h43
  exact Z_iald (t0 := 0) (cA := U.2.1) (n := lenM a) C (w.2.2.1 a (Or.inr ha)) (fun f hf => by rw [hf a (Or.inr ha)]; unfold ceM clM; rw [if_neg h43.1, if_neg h43.2]) (by rw [w.2.1]; rfl) hin hd kk
theorem R_st (a : Nat) (C : zC X G A cc nL own fr lo) (w : wR G U) (ha : arrM a = true) (h43 : (decide (a = 43) || decide (a = 11 ∨ a = 24)) = false) (n : Nat) (hn : x.toNatClampNeg = n) (hin : vp_in x (lenM a)) (hd : decode cc pc = .ok (.iastore, 1)) (kk : Z X G A nL Q (eR U (u2 N a n y)) (pc + 1) lv st) : Z X G A nL Q (eR U N) pc lv (.int y :: .int x :: .ref (U.1 a) :: st) := by
  subst hn
  simp only [Bool.or_eq_false_iff, decide_eq_false_iff_not] at h43
  exact Z_iast (t0 := 0) (cA := U.2.1) (n := lenM a) C (w.2.2.1 a (Or.inr ha)) (fun f hf => by rw [hf a (Or.inr ha)]; unfold ceM clM; rw [if_neg h43.1, if_neg h43.2]) (by rw [w.2.1]; rfl) hin (eR_up w (Or.inr ha) (by unfold ceM clM; rw [if_neg h43.1, if_neg h43.2])) hd kk
end RR
