/-! THE CLASS'S CONSTRUCTORS -/
theorem Z_imp {X : zX} {G : zG} {A : Nat → Prop} {nL : Nat} {Q : State → Prop} {K K' : zK} {pc : Nat} {lv : List (Nat × Value)} {st : List Value} (h : ∀ f, K f → K' f) (k : Z X G A nL Q K' pc lv st) : Z X G A nL Q K pc lv st := fun f H locs ls hf hP hS hl => k f H locs ls (h f hf) hP hS hl
theorem va_up2 {α : Type} (F : Nat → α) (a : Nat) (x y : α) : va_up (va_up F a x) a y = va_up F a y := by
  funext q
  by_cases h : q = a
  · subst h; rw [va_up_self, va_up_self]
  · rw [va_up_ne _ _ h, va_up_ne _ _ h, va_up_ne _ _ h]
theorem kE_of {L : List Nat} {F F' : Nat → va_E} {a : Nat} {e : va_E} (h : va_up F a e = F') : ∀ f, kE L F f → kE L F' (va_up f a e) := fun f hf => by
  rw [← h]
  exact kE_up f hf
theorem kE_F {L : List Nat} {F F' : Nat → va_E} (h : F = F') : ∀ f, kE L F f → kE L F' f := fun f hf => by rw [← h]; exact hf
theorem kE_at {L : List Nat} {F : Nat → va_E} {a : Nat} {e : va_E} (ha : a ∈ L) (h : F a = e) : ∀ f, kE L F f → f a = e := fun f hf => (hf a ha).trans h
/-- the same walk, more made -/
def Xm (X X' : zX) : Prop := ∃ i j, X' = X.more i j
theorem Xm.refl (X : zX) : Xm X X := ⟨0, 0, rfl⟩
theorem Xm.more {X X' : zX} (h : Xm X X') (i j : Nat) : Xm X (X'.more i j) := by
  obtain ⟨a, c, rfl⟩ := h
  refine ⟨a + i, c + j, ?_⟩
  show (_, _, _, _, _, _, _, _, _, _, _ + a + i, _ + c + j) = _
  rw [Nat.add_assoc, Nat.add_assoc]
theorem Xm.l {X X' : zX} (h : Xm X X') : X'.l = X.l := by obtain ⟨a, c, rfl⟩ := h; rfl
theorem Y_vret' {X X' : zX} {G : zG} {b n k nL pc mc ms fr lo : Nat} {F F' : Nat → va_E} {lv : List (Nat × Value)} {cc : ByteArray} {own : String} (hX : Xm X X') (C : iC X' G b n k cc nL own fr lo mc ms) (hn : n = mc) (hk : k = ms) (hr : X.meth.sig.returnType = none) (hd : decode cc pc = .ok (.return_, 1)) (hF : ∀ a ∈ (G.ext b mc).2.2.2, F a = F' a) : Z X' (G.ext b n) (iA G b) nL (iQ X G b mc ms F') (kE (G.ext b n).2.2.2 F) pc lv [] := by
  obtain ⟨i, j, rfl⟩ := hX
  exact Y_vret C hn hk hr hd hF
abbrev zCs : Type := ClassId × ClassId × ClassId × ClassId
def iW (G : zG) (cs : zCs) : Prop := G.2.1 = zcl ∧ G.2.2.1 = [(cs.1, .int), (cs.2.1, .object RX0), (cs.2.2.1, .object RX1), (cs.2.2.2, .object RX2)] ∧ G.2.2.2.Nodup
theorem iW.ext {G : zG} {cs : zCs} (w : iW G cs) {b : Nat} (hb : ∀ q ∈ G.2.2.2, q < b) (n : Nat) : iW (G.ext b n) cs := ⟨w.1, w.2.1, ext_nodup w.2.2 hb n⟩
abbrev eI (c : ClassId) (n : Nat) (q : Nat → Int32) : va_E := .inl (c, n, .inl q)
abbrev eQ (c : ClassId) (n : Nat) (g : Nat → Option Nat) : va_E := .inl (c, n, .inr (.inr (.inr (.inr g))))
abbrev eFr (v : Value) : va_E := .inr (0, [v, .int 0, .int 0, .int 0, .int 0, .int 0, .int 0, .int 0, .int 0])
abbrev eSe (n o : Int32) : va_E := .inr (2, [.int n, .int o, .int 0, .int 0, .int 0, .int 0, .int 0, .int 0, .int 0, .int 0, .int 0, .int 0, .int 0, .int 0, .int 0, .int 0, .int 0, .int 0, .int 0])
abbrev eWi (a b c d : Value) : va_E := .inr (3, [a, b, .int 0, .int 0, c, d])
abbrev eRo (n : Int32) (a b c : Value) : va_E := .inr (1, [.int n, a, b, c, .int 0, .int 0, .int 0, .int 0, .int 0, .int 0, .int 0])
abbrev eLa (a b c : Value) : va_E := .inr (4, [a, b, c])
abbrev z0 : Nat → Int32 := fun _ => 0
theorem mem_l {L : List Nat} {b n h : Nat} (hh : h ∈ L) : h ∈ L ++ List.range' b n := List.mem_append_left _ hh
theorem mem_r {L : List Nat} {b n i : Nat} (hi : i < n) : b + i ∈ L ++ List.range' b n := List.mem_append_right _ (List.mem_range'_1.mpr ⟨by omega, by omega⟩)
theorem ext_lt {L : List Nat} {b n : Nat} (h : ∀ q ∈ L, q < b) : ∀ q ∈ L ++ List.range' b n, q < b + n := fun q hq => by
  rcases List.mem_append.mp hq with h1 | h1
  · have := h q h1; omega
  · exact (List.mem_range'_1.mp h1).2
theorem df_F : ∀ j, j < 9 → defaultValue (tyX0 j) = vp_V [.null, .int 0, .int 0, .int 0, .int 0, .int 0, .int 0, .int 0, .int 0] j := by decide +kernel
theorem df_S : ∀ j, j < 19 → defaultValue (tyX2 j) = vp_V [.int 0, .int 0, .int 0, .int 0, .int 0, .int 0, .int 0, .int 0, .int 0, .int 0, .int 0, .int 0, .int 0, .int 0, .int 0, .int 0, .int 0, .int 0, .int 0] j := by decide +kernel
theorem df_W : ∀ j, j < 6 → defaultValue (tyX3 j) = vp_V [.null, .null, .int 0, .int 0, .null, .null] j := by decide +kernel
theorem df_R : ∀ j, j < 11 → defaultValue (tyX1 j) = vp_V [.int 0, .null, .null, .null, .int 0, .int 0, .int 0, .int 0, .int 0, .int 0, .int 0] j := by decide +kernel
theorem df_L : ∀ j, j < 3 → defaultValue (tyX4 j) = vp_V [.null, .null, .null] j := by decide +kernel
theorem Y_ist {X : zX} {G : zG} {A : Nat → Prop} {nL : Nat} {Q : State → Prop} {F : Nat → va_E} {pc : Nat} {lv : List (Nat × Value)} {st : List Value} {cc : ByteArray} {own : String} {fr lo : Nat} (C : zC X G A cc nL own fr lo) (j : Nat) {a t0 n : Nat} {cA : ClassId} {g : Nat → Int32} {i x : Int32} (hn : i.toNatClampNeg = j) (ha : a ∈ G.2.2.2) (ht : G.2.2.1[t0]? = some (cA, .int)) (hin : vp_in i n) (hd : decode cc pc = .ok (.iastore, 1)) (kk : Z X G A nL Q (kE G.2.2.2 (va_up F a (eI cA n (upd g j x)))) (pc + 1) lv st) : Z X G A nL Q (kE G.2.2.2 (va_up F a (eI cA n g))) pc lv (.int x :: .int i :: .ref a :: st) := by
  subst hn
  exact Z_iast C ha (kE_at ha (va_up_self _ _ _)) ht hin (kE_of (va_up2 _ _ _ _)) hd kk
set_option maxRecDepth 100000 in
set_option maxHeartbeats 4000000 in
theorem i_F {l : Launch} {G : zG} {cs : zCs} (w : iW G cs) (F : Nat → va_E) (b h : Nat) (hh : h ∈ G.2.2.2) (hhb : h < b) (hF : F h = eFr .null) : iF l y_F_init b_F_init 1 1 12 1 40 G b [.ref h] F (va_up (va_up F b (eI cs.1 40 z0)) h (eFr (.ref b))) := by
  refine iF.ofZ (by decide) rfl w.2.2 (Nat.le_of_ble_eq_true rfl) (fun X hXl hr C => ?_)
  subst hXl
  show Z X (G.ext b 0) (iA G b) 1 _ (kE _ F) 0 [(0, .ref h)] []
  refine Z_aload_n C.z 0 d_F_init_0 rfl rfl ?_
  refine Z_objInit C.z mo_F ob_i ob_c ⟨Nat.le_of_ble_eq_true rfl, Nat.le_of_ble_eq_true rfl⟩ d_F_init_1 ?_
  refine Z_aload_n C.z 0 d_F_init_4 rfl rfl ?_
  refine Z_bipush (v := 40) C.z d_F_init_5 (by decide) ?_
  refine Y_newa (atype := .int) (t0 := 0) (N' := 40) (a0 := (40, .inl z0)) C rfl ac_int (by rw [w.2.1]; rfl) (fun C h => by cases h) rfl (by decide) (by decide) (by decide) ⟨Nat.le_of_ble_eq_true rfl, Nat.le_of_ble_eq_true rfl⟩ d_F_init_7 (fun C => ?_)
  refine Z_putF C.z C.2.2.2.2.2.1 0 tyX0 (mem_l hh) (kE_at (mem_l hh) (by rw [va_up_ne _ _ (show h ≠ b + 0 by omega)]; exact hF)) (by rw [w.1]; rfl) in_F tyX0_ok nmX0 (by decide) fl_F_9 rfl rfl rfl (tyX0_ok 0 (by decide)) rfl rfl (Nat.le_of_ble_eq_true rfl) kE_up d_F_init_9 ?_
  exact Y_vret C rfl rfl hr d_F_init_12 (fun a _ => rfl)
set_option maxRecDepth 100000 in
set_option maxHeartbeats 4000000 in
theorem i_S {l : Launch} {G : zG} {cs : zCs} (w : iW G cs) (F : Nat → va_E) (b h : Nat) (hh : h ∈ G.2.2.2) (n o : Int32) (hF : F h = eSe 0 0) : iF l y_S_init b_S_init 3 1 12 0 0 G b [.ref h, .int n, .int o] F (va_up F h (eSe n o)) := by
  refine iF.ofZ (by decide) rfl w.2.2 (Nat.le_of_ble_eq_true rfl) (fun X hXl hr C => ?_)
  subst hXl
  show Z X (G.ext b 0) (iA G b) 3 _ (kE _ F) 0 [(0, .ref h), (1, .int n), (2, .int o)] []
  refine Z_aload_n C.z 0 d_S_init_0 rfl rfl ?_
  refine Z_objInit C.z mo_S ob_i ob_c ⟨Nat.le_of_ble_eq_true rfl, Nat.le_of_ble_eq_true rfl⟩ d_S_init_1 ?_
  refine Z_aload_n C.z 0 d_S_init_4 rfl rfl ?_
  refine Z_iload_n C.z 1 d_S_init_5 rfl rfl ?_
  refine Z_putF C.z C.2.2.2.2.2.1 0 tyX2 (mem_l hh) (kE_at (mem_l hh) hF) (by rw [w.1]; rfl) in_S tyX2_ok nmX2 (by decide) fl_S_9 rfl rfl rfl (tyX2_ok 0 (by decide)) rfl rfl (Nat.le_of_ble_eq_true rfl) kE_up d_S_init_6 ?_
  refine Z_aload_n C.z 0 d_S_init_9 rfl rfl ?_
  refine Z_iload_n C.z 2 d_S_init_10 rfl rfl ?_
  refine Z_putF C.z C.2.2.2.2.2.1 1 tyX2 (mem_l hh) (kE_at (mem_l hh) (va_up_self _ _ _)) (by rw [w.1]; rfl) in_S tyX2_ok nmX2 (by decide) fl_S_15 rfl rfl rfl (tyX2_ok 1 (by decide)) rfl rfl (Nat.le_of_ble_eq_true rfl) (kE_of (va_up2 _ _ _ _)) d_S_init_11 ?_
  exact Y_vret C rfl rfl hr d_S_init_14 (fun a _ => rfl)
/-! the wire -/
def plf (k : Nat) : Nat → Int32 := fun j => if j < k then -1 else 0
theorem plf_s (k : Nat) : upd (plf k) k (-1) = plf (k + 1) := by
  funext j
  unfold upd plf
  by_cases h : j = k
  · rw [if_pos h, if_pos (by omega)]
  · rw [if_neg h]
    by_cases h2 : j < k
    · rw [if_pos h2, if_pos (by omega)]
    · rw [if_neg h2, if_neg (by omega)]
theorem plf_0 : plf 0 = z0 := by
  funext j
  unfold plf
  rw [if_neg (by omega)]
def wyf (b k : Nat) : Nat → Option Nat := fun j => if j < k then some (b + (2 + 2 * j)) else none
theorem wyf_s (b k : Nat) : va_up (wyf b k) k (some (b + (2 + 2 * k))) = wyf b (k + 1) := by
  funext j
  unfold wyf va_up
  dsimp only
  by_cases h : j = k
  · rw [if_pos h, if_pos (by omega), h]
  · rw [if_neg h]
    by_cases h2 : j < k
    · rw [if_pos h2, if_pos (by omega)]
    · rw [if_neg h2, if_neg (by omega)]
theorem wyf_0 (b : Nat) : wyf b 0 = fun _ => none := by
  funext j
  unfold wyf
  rw [if_neg (by omega)]
/-- k frames, kw of them on the way, kp places filled, hc the wire's own cell -/
def FW (cs : zCs) (h b : Nat) (F : Nat → va_E) (k kw kp : Nat) (hc : va_E) : Nat → va_E := fun a =>
  if a = h then hc else if a = b then eI cs.1 16 (plf kp) else if a = b + 1 then eQ cs.2.1 60 (wyf b kw) else if b + 2 ≤ a ∧ a < b + 2 + 2 * k then (if (a - b) % 2 = 0 then eFr (.ref (a + 1)) else eI cs.1 40 z0) else F a
section FWs
variable {cs : zCs} {h b : Nat} {F : Nat → va_E} {k kw kp : Nat} {hc : va_E}
theorem FW_h : FW cs h b F k kw kp hc h = hc := by unfold FW; rw [if_pos rfl]
theorem FW_b (hb : h < b) : FW cs h b F k kw kp hc b = eI cs.1 16 (plf kp) := by unfold FW; rw [if_neg (by omega), if_pos rfl]
theorem FW_1 (hb : h < b) : FW cs h b F k kw kp hc (b + 1) = eQ cs.2.1 60 (wyf b kw) := by unfold FW; rw [if_neg (by omega), if_neg (by omega), if_pos rfl]
theorem FW_uh (hc' : va_E) : va_up (FW cs h b F k kw kp hc) h hc' = FW cs h b F k kw kp hc' := by
  funext a
  by_cases h1 : a = h
  · subst h1; rw [va_up_self, FW_h]
  · rw [va_up_ne _ _ h1]; unfold FW; rw [if_neg h1, if_neg h1]
theorem FW_ub (hb : h < b) : va_up (FW cs h b F k kw kp hc) b (eI cs.1 16 (upd (plf kp) kp (-1))) = FW cs h b F k kw (kp + 1) hc := by
  funext a
  by_cases h1 : a = b
  · subst h1; rw [va_up_self, FW_b hb, plf_s]
  · rw [va_up_ne _ _ h1]; unfold FW
    by_cases h2 : a = h
    · rw [if_pos h2, if_pos h2]
    · rw [if_neg h2, if_neg h2, if_neg h1, if_neg h1]
theorem FW_u1 (hb : h < b) : va_up (FW cs h b F k kw kp hc) (b + 1) (eQ cs.2.1 60 (va_up (wyf b kw) kw (some (b + (2 + 2 * kw))))) = FW cs h b F k (kw + 1) kp hc := by
  funext a
  by_cases h1 : a = b + 1
  · subst h1; rw [va_up_self, FW_1 hb, wyf_s]
  · rw [va_up_ne _ _ h1]; unfold FW
    by_cases h2 : a = h
    · rw [if_pos h2, if_pos h2]
    · rw [if_neg h2, if_neg h2]
      by_cases h3 : a = b
      · rw [if_pos h3, if_pos h3]
      · rw [if_neg h3, if_neg h3, if_neg h1, if_neg h1]
theorem FW_fr (hb : h < b) (x : va_E) : va_up (va_up (va_up (FW cs h b F k kw kp hc) (b + (2 + 2 * k)) x) (b + (2 + 2 * k + 1)) (eI cs.1 40 z0)) (b + (2 + 2 * k)) (eFr (.ref (b + (2 + 2 * k + 1)))) = FW cs h b F (k + 1) kw kp hc := by
  funext a
  by_cases h1 : a = b + (2 + 2 * k)
  · subst h1
    rw [va_up_self]
    unfold FW
    rw [if_neg (by omega), if_neg (by omega), if_neg (by omega), if_pos (by omega), if_pos (by omega)]
    rfl
  · rw [va_up_ne _ _ h1]
    by_cases h2 : a = b + (2 + 2 * k + 1)
    · subst h2
      rw [va_up_self]
      unfold FW
      rw [if_neg (by omega), if_neg (by omega), if_neg (by omega), if_pos (by omega), if_neg (by omega)]
    · rw [va_up_ne _ _ h2, va_up_ne _ _ h1]
      unfold FW
      by_cases h3 : a = h
      · rw [if_pos h3, if_pos h3]
      · rw [if_neg h3, if_neg h3]
        by_cases h4 : a = b
        · rw [if_pos h4, if_pos h4]
        · rw [if_neg h4, if_neg h4]
          by_cases h5 : a = b + 1
          · rw [if_pos h5, if_pos h5]
          · rw [if_neg h5, if_neg h5]
            by_cases h6 : b + 2 ≤ a ∧ a < b + 2 + 2 * k
            · rw [if_pos h6, if_pos (show b + 2 ≤ a ∧ a < b + 2 + 2 * (k + 1) by omega)]
            · rw [if_neg h6, if_neg (show ¬ (b + 2 ≤ a ∧ a < b + 2 + 2 * (k + 1)) by omega)]
theorem FW_in (hb : h < b) (y : va_E) : va_up (va_up (va_up (va_up F b (eI cs.1 16 (plf kp))) h y) (b + 1) (eQ cs.2.1 60 (fun _ => none))) h hc = FW cs h b F 0 0 kp hc := by
  funext a
  by_cases h1 : a = h
  · subst h1; rw [va_up_self, FW_h]
  · rw [va_up_ne _ _ h1]
    by_cases h2 : a = b + 1
    · subst h2; rw [va_up_self, FW_1 hb, wyf_0]
    · rw [va_up_ne _ _ h2, va_up_ne _ _ h1]
      by_cases h3 : a = b
      · subst h3; rw [va_up_self, FW_b hb]
      · rw [va_up_ne _ _ h3]
        unfold FW
        rw [if_neg h1, if_neg h3, if_neg h2, if_neg (by omega)]
end FWs
set_option maxRecDepth 100000 in
set_option maxHeartbeats 4000000 in
theorem i_W {l : Launch} {G : zG} {cs : zCs} (w : iW G cs) (F : Nat → va_E) (b h : Nat) (hh : h ∈ G.2.2.2) (hhb : h < b) (hlt : ∀ q ∈ G.2.2.2, q < b) (hF : F h = eWi .null .null .null .null) : iF l y_W_init b_W_init 2 2 32 126 3114 G b [.ref h] F (FW cs h b F 62 60 16 (eWi (.ref b) (.ref (b + 1)) (.ref (b + 122)) (.ref (b + 124)))) := by
  refine iF.ofZ (by decide) rfl w.2.2 (Nat.le_of_ble_eq_true rfl) (fun X hXl hr C => ?_)
  subst hXl
  show Z X (G.ext b 0) (iA G b) 2 _ (kE _ F) 0 [(0, .ref h)] []
  refine Z_aload_n C.z 0 d_W_init_0 rfl rfl ?_
  refine Z_objInit C.z mo_W ob_i ob_c ⟨Nat.le_of_ble_eq_true rfl, Nat.le_of_ble_eq_true rfl⟩ d_W_init_1 ?_
  refine Z_aload_n C.z 0 d_W_init_4 rfl rfl ?_
  refine Z_bipush (v := 16) C.z d_W_init_5 (by decide) ?_
  refine Y_newa (atype := .int) (t0 := 0) (N' := 16) (a0 := (16, .inl z0)) C rfl ac_int (by rw [w.2.1]; rfl) (fun C h => by cases h) rfl (by decide) (by decide) (by decide) ⟨Nat.le_of_ble_eq_true rfl, Nat.le_of_ble_eq_true rfl⟩ d_W_init_7 (fun C => ?_)
  have hne : h ≠ b := by omega
  have hX1 := (Xm.refl X).more 1 16
  generalize X.more 1 16 = X1 at C hX1 ⊢
  refine Z_putF C.z C.2.2.2.2.2.1 0 tyX3 (mem_l hh) (kE_at (mem_l hh) (by rw [va_up_ne _ _ (show h ≠ b + 0 by omega)]; exact hF)) (by rw [w.1]; rfl) in_W tyX3_ok nmX3 (by decide) fl_W_9 rfl rfl rfl (tyX3_ok 0 (by decide)) rfl rfl (Nat.le_of_ble_eq_true rfl) kE_up d_W_init_9 ?_
  refine Z_iconst (v := 0) C.z d_W_init_12 (by decide) ?_
  refine Z_istore_n C.z d_W_init_13 rfl (by decide) rfl ?_
  have hpl : ∀ kp, va_up (va_up (va_up F b (eI cs.1 16 (plf kp))) h (eWi (.ref b) .null .null .null)) b (eI cs.1 16 (upd (plf kp) kp (-1))) = va_up (va_up F b (eI cs.1 16 (plf (kp + 1)))) h (eWi (.ref b) .null .null .null) := fun kp => by
    funext a
    by_cases h1 : a = b
    · subst h1; rw [va_up_self, va_up_ne _ _ (Ne.symm hne), va_up_self, plf_s]
    · rw [va_up_ne _ _ h1]
      by_cases h2 : a = h
      · subst h2; rw [va_up_self, va_up_self]
      · rw [va_up_ne _ _ h2, va_up_ne _ _ h1, va_up_ne _ _ h2, va_up_ne _ _ h1]
  have hrd : ∀ kp, va_up (va_up F b (eI cs.1 16 (plf kp))) h (eWi (.ref b) .null .null .null) h = eWi (.ref b) .null .null .null := fun kp => va_up_self _ _ _
  have hrb : ∀ kp, va_up (va_up F b (eI cs.1 16 (plf kp))) h (eWi (.ref b) .null .null .null) b = eI cs.1 16 (plf kp) := fun kp => by rw [va_up_ne _ _ (Ne.symm hne), va_up_self]
  have L1 : ∀ m kp, kp + m = 16 → Z X1 (G.ext b (0 + 1)) (iA G b) 2 (iQ X G b 126 3114 (FW cs h b F 62 60 16 (eWi (.ref b) (.ref (b + 1)) (.ref (b + 122)) (.ref (b + 124))))) (kE (G.ext b (0 + 1)).2.2.2 (va_up (va_up F b (eI cs.1 16 (plf 16))) h (eWi (.ref b) .null .null .null))) 33 [(1, .int (nI 16)), (0, .ref h)] [] → Z X1 (G.ext b (0 + 1)) (iA G b) 2 (iQ X G b 126 3114 (FW cs h b F 62 60 16 (eWi (.ref b) (.ref (b + 1)) (.ref (b + 122)) (.ref (b + 124))))) (kE (G.ext b (0 + 1)).2.2.2 (va_up (va_up F b (eI cs.1 16 (plf kp))) h (eWi (.ref b) .null .null .null))) 14 [(1, .int (nI kp)), (0, .ref h)] [] := by
    intro m
    induction m with
    | zero =>
      intro kp hk done
      obtain rfl : kp = 16 := by omega
      refine Z_iload_n C.z 0 d_W_init_14 rfl rfl ?_
      refine Z_bipush (v := 16) C.z d_W_init_15 (by decide) ?_
      exact Z_icmp_ge (tgt := 33) C.z d_W_init_17 (by decide) (fun _ => done) (fun c => absurd (by decide) c)
    | succ m ih =>
      intro kp hk done
      refine Z_iload_n C.z 0 d_W_init_14 rfl rfl ?_
      refine Z_bipush (v := 16) C.z d_W_init_15 (by decide) ?_
      refine Z_icmp_ge (tgt := 33) C.z d_W_init_17 (by decide) (fun c => absurd c (nI_ge (a := kp) (b := 16) (by omega) (by decide))) (fun c => ?_)
      refine Z_aload_n C.z 1 d_W_init_20 rfl rfl ?_
      refine Z_get C.z 0 (mem_l hh) (kE_at (mem_l hh) (hrd kp)) (by rw [w.1]; rfl) in_W (by decide) fl_W_9 rfl rfl d_W_init_21 ?_
      refine Z_iload_n C.z 0 d_W_init_24 rfl rfl ?_
      refine Z_iconst (v := -1) C.z d_W_init_25 (by decide) ?_
      refine Z_iast (t0 := 0) (K' := kE (G.ext b (0 + 1)).2.2.2 (va_up (va_up F b (eI cs.1 16 (plf (kp + 1)))) h (eWi (.ref b) .null .null .null))) C.z (mem_r (b := b) (i := 0) (by decide)) (kE_at (mem_r (b := b) (i := 0) (by decide)) (hrb kp)) (by rw [w.2.1]; rfl) (vp_in_nI (by omega) (by decide)) (by rw [nI_clamp (by omega)]; exact kE_of (hpl kp)) d_W_init_26 ?_
      refine Z_iinc 0 C.z d_W_init_27 rfl (nI_succ kp).symm (by decide) rfl ?_
      refine Z_goto (tgt := 14) C.z d_W_init_30 (by decide) ?_
      exact ih (kp + 1) (by omega) done
  refine Z_imp (kE_F (by rw [plf_0]; rfl)) (L1 16 0 (by omega) ?_)
  refine Z_aload_n C.z 1 d_W_init_33 rfl rfl ?_
  refine Z_bipush (v := 60) C.z d_W_init_34 (by decide) ?_
  refine Y_newq (t0 := 1) (N' := 60) C kl_W_15 C.2.2.2.2.2.2.2.2.2.2.2.2.1 (by rw [w.2.1]; rfl) (by decide) (by decide) (by decide) ⟨Nat.le_of_ble_eq_true rfl, Nat.le_of_ble_eq_true rfl⟩ d_W_init_36 (fun C => ?_)
  have hX2 := hX1.more 1 60
  generalize X1.more 1 60 = X2 at C hX2 ⊢
  refine Z_putF C.z C.2.2.2.2.2.1 1 tyX3 (mem_l hh) (kE_at (mem_l hh) (by rw [va_up_ne _ _ (show h ≠ b + (0 + 1) by omega)]; exact hrd 16)) (by rw [w.1]; rfl) in_W tyX3_ok nmX3 (by decide) fl_W_17 rfl rfl rfl (tyX3_ok 1 (by decide)) rfl rfl (Nat.le_of_ble_eq_true rfl) (kE_of (FW_in hhb _)) d_W_init_39 ?_
  refine Z_iconst (v := 0) C.z d_W_init_42 (by decide) ?_
  refine Z_istore_n C.z d_W_init_43 rfl (by decide) rfl ?_
  have L2 : ∀ m k X', Xm X X' → iC X' G b (2 + 2 * k) (76 + 49 * k) b_W_init 2 y_W_init.cls 2 32 126 3114 → k + m = 60 → Z X' (G.ext b (2 + 2 * k)) (iA G b) 2 (iQ X G b 126 3114 (FW cs h b F 62 60 16 (eWi (.ref b) (.ref (b + 1)) (.ref (b + 122)) (.ref (b + 124))))) (kE (G.ext b (2 + 2 * k)).2.2.2 (FW cs h b F k k 16 (eWi (.ref b) (.ref (b + 1)) .null .null))) 44 [(1, .int (nI k)), (0, .ref h)] [] := by
    intro m
    induction m with
    | zero =>
      intro k X' hX C hk
      obtain rfl : k = 60 := by omega
      refine Z_iload_n C.z 0 d_W_init_44 rfl rfl ?_
      refine Z_bipush (v := 60) C.z d_W_init_45 (by decide) ?_
      refine Z_icmp_ge (tgt := 69) C.z d_W_init_47 (by decide) (fun _ => ?_) (fun c => absurd (by decide) c)
      refine Z_aload_n C.z 1 d_W_init_69 rfl rfl ?_
      refine Y_new (ci := 0) (N := 9) C tyX0 tyX0_ok in_F kl_W_15 im_F iz_F (by rw [w.1]; rfl) df_F ⟨Nat.le_of_ble_eq_true rfl, Nat.le_of_ble_eq_true rfl⟩ d_W_init_70 (fun C => ?_)
      refine Z_dup C.z d_W_init_73 rfl ?_
      refine Y_callI C mk_F ml_W_21 (i_F (w.ext hlt _) _ _ _ (mem_r (by omega)) (by omega) (va_up_self _ _ _)) ⟨Nat.le_of_ble_eq_true rfl, Nat.le_of_ble_eq_true rfl⟩ ⟨Nat.le_of_ble_eq_true rfl, Nat.le_of_ble_eq_true rfl⟩ rfl rfl (Nat.le_of_ble_eq_true rfl) d_W_init_74 (fun C => ?_)
      refine Z_imp (kE_F (FW_fr hhb _)) ?_
      refine Z_put C.z 4 tyX3 (mem_l hh) (kE_at (mem_l hh) FW_h) (by rw [w.1]; rfl) in_W tyX3_ok nmX3 (by decide) fl_W_22 rfl rfl (tyX3_ok 4 (by decide)) rfl rfl (Nat.le_of_ble_eq_true rfl) (kE_of (FW_uh _)) d_W_init_77 ?_
      refine Z_aload_n C.z 1 d_W_init_80 rfl rfl ?_
      refine Y_new (ci := 0) (N := 9) C tyX0 tyX0_ok in_F kl_W_15 im_F iz_F (by rw [w.1]; rfl) df_F ⟨Nat.le_of_ble_eq_true rfl, Nat.le_of_ble_eq_true rfl⟩ d_W_init_81 (fun C => ?_)
      refine Z_dup C.z d_W_init_84 rfl ?_
      refine Y_callI C mk_F ml_W_21 (i_F (w.ext hlt _) _ _ _ (mem_r (by omega)) (by omega) (va_up_self _ _ _)) ⟨Nat.le_of_ble_eq_true rfl, Nat.le_of_ble_eq_true rfl⟩ ⟨Nat.le_of_ble_eq_true rfl, Nat.le_of_ble_eq_true rfl⟩ rfl rfl (Nat.le_of_ble_eq_true rfl) d_W_init_85 (fun C => ?_)
      refine Z_imp (kE_F (FW_fr (k := 61) hhb _)) ?_
      refine Z_put C.z 5 tyX3 (mem_l hh) (kE_at (mem_l hh) FW_h) (by rw [w.1]; rfl) in_W tyX3_ok nmX3 (by decide) fl_W_26 rfl rfl (tyX3_ok 5 (by decide)) rfl rfl (Nat.le_of_ble_eq_true rfl) (kE_of (FW_uh _)) d_W_init_88 ?_
      exact Y_vret' ((((hX.more _ _).more _ _).more _ _).more _ _) C rfl rfl hr d_W_init_91 (fun a _ => rfl)
    | succ m ih =>
      intro k X' hX C hk
      refine Z_iload_n C.z 0 d_W_init_44 rfl rfl ?_
      refine Z_bipush (v := 60) C.z d_W_init_45 (by decide) ?_
      refine Z_icmp_ge (tgt := 69) C.z d_W_init_47 (by decide) (fun c => absurd c (nI_ge (a := k) (b := 60) (by omega) (by decide))) (fun c => ?_)
      refine Z_aload_n C.z 1 d_W_init_50 rfl rfl ?_
      refine Z_get C.z 1 (mem_l hh) (kE_at (mem_l hh) FW_h) (by rw [w.1]; rfl) in_W (by decide) fl_W_17 rfl rfl d_W_init_51 ?_
      refine Z_iload_n C.z 0 d_W_init_54 rfl rfl ?_
      refine Y_new (ci := 0) (N := 9) C tyX0 tyX0_ok in_F kl_W_15 im_F iz_F (by rw [w.1]; rfl) df_F ⟨by omega, by omega⟩ d_W_init_55 (fun C => ?_)
      refine Z_dup C.z d_W_init_58 rfl ?_
      refine Y_callI C mk_F ml_W_21 (i_F (w.ext hlt _) _ _ _ (mem_r (by omega)) (by omega) (va_up_self _ _ _)) ⟨Nat.le_of_ble_eq_true rfl, Nat.le_of_ble_eq_true rfl⟩ ⟨by omega, by omega⟩ rfl rfl (Nat.le_of_ble_eq_true rfl) d_W_init_59 (fun C => ?_)
      refine Z_imp (kE_F (FW_fr hhb _)) ?_
      refine Z_aast (t0 := 1) (ci := 0) (r := (RX0, TX0, 9)) (K' := kE (G.ext b (2 + 2 * k + 1 + 1)).2.2.2 (FW cs h b F (k + 1) (k + 1) 16 (eWi (.ref b) (.ref (b + 1)) .null .null))) C.z (mem_r (by omega)) (kE_at (mem_r (by omega)) (FW_1 hhb)) (mem_r (by omega)) (kE_at (mem_r (by omega)) (by unfold FW; rw [if_neg (by omega), if_neg (by omega), if_neg (by omega), if_pos (by omega), if_pos (by omega)])) (by rw [w.2.1]; rfl) (by rw [w.1]; rfl) (vp_in_nI (by omega) (by decide)) (by rw [nI_clamp (by omega)]; exact kE_of (FW_u1 hhb)) d_W_init_62 ?_
      refine Z_iinc 0 C.z d_W_init_63 rfl (nI_succ k).symm (by decide) rfl ?_
      refine Z_goto (tgt := 44) C.z d_W_init_66 (by decide) ?_
      have hXn := (hX.more 1 9).more 1 40
      generalize (X'.more 1 9).more 1 40 = Xn at C hXn ⊢
      have e1 : 2 + 2 * k + 1 + 1 = 2 + 2 * (k + 1) := by omega
      have e2 : 76 + 49 * k + 9 + 40 = 76 + 49 * (k + 1) := by omega
      rw [e1, e2] at C
      rw [e1]
      exact ih (k + 1) Xn hXn C (by omega)
  exact L2 60 0 X2 hX2 C (by omega)
