/-! THE REFERENCE'S CONSTRUCTOR -/
def iWm (G : zG) (cu : ClassId × ClassId) : Prop := G.2.1 = [(RX5, TXM, 43)] ∧ G.2.2.1 = [(cu.1, .int), (cu.2, .boolean)] ∧ G.2.2.2.Nodup
def rkM (a : Nat) : Nat := if a ≤ 27 then a - 2 else if a ≤ 37 then a - 3 else if a = 39 then 35 else 36
def fldM (r : Nat) : Nat := if r ≤ 25 then r + 2 else if r ≤ 34 then r + 3 else if r = 35 then 39 else 41
def fsT (b t : Nat) : List Value := [.int 0, .int 0, (if 0 < t then .ref (b + 0) else .null), (if 1 < t then .ref (b + 1) else .null), (if 2 < t then .ref (b + 2) else .null), (if 3 < t then .ref (b + 3) else .null), (if 4 < t then .ref (b + 4) else .null), (if 5 < t then .ref (b + 5) else .null), (if 6 < t then .ref (b + 6) else .null), (if 7 < t then .ref (b + 7) else .null), (if 8 < t then .ref (b + 8) else .null), (if 9 < t then .ref (b + 9) else .null), (if 10 < t then .ref (b + 10) else .null), (if 11 < t then .ref (b + 11) else .null), (if 12 < t then .ref (b + 12) else .null), (if 13 < t then .ref (b + 13) else .null), (if 14 < t then .ref (b + 14) else .null), (if 15 < t then .ref (b + 15) else .null), (if 16 < t then .ref (b + 16) else .null), (if 17 < t then .ref (b + 17) else .null), (if 18 < t then .ref (b + 18) else .null), (if 19 < t then .ref (b + 19) else .null), (if 20 < t then .ref (b + 20) else .null), (if 21 < t then .ref (b + 21) else .null), (if 22 < t then .ref (b + 22) else .null), (if 23 < t then .ref (b + 23) else .null), (if 24 < t then .ref (b + 24) else .null), (if 25 < t then .ref (b + 25) else .null), .int 0, (if 26 < t then .ref (b + 26) else .null), (if 27 < t then .ref (b + 27) else .null), (if 28 < t then .ref (b + 28) else .null), (if 29 < t then .ref (b + 29) else .null), (if 30 < t then .ref (b + 30) else .null), (if 31 < t then .ref (b + 31) else .null), (if 32 < t then .ref (b + 32) else .null), (if 33 < t then .ref (b + 33) else .null), (if 34 < t then .ref (b + 34) else .null), .int 0, (if 35 < t then .ref (b + 35) else .null), .int 0, (if 36 < t then .ref (b + 36) else .null), .int 0]
abbrev eMo (b t : Nat) : va_E := .inr (0, fsT b t)
abbrev eAr (cu : ClassId × ClassId) (r : Nat) : va_E := .inl (if r = 9 ∨ r = 22 then cu.2 else cu.1, lenM (fldM r), .inl z0)
def FM (cu : ClassId × ClassId) (h b : Nat) (F : Nat → va_E) (t : Nat) : Nat → va_E := fun a => if a = h then eMo b t else if b ≤ a ∧ a < b + t then eAr cu (a - b) else F a
theorem FM_h {cu : ClassId × ClassId} {h b : Nat} {F : Nat → va_E} {t : Nat} : FM cu h b F t h = eMo b t := by unfold FM; rw [if_pos rfl]
theorem FM_s {cu : ClassId × ClassId} {h b : Nat} {F : Nat → va_E} (t : Nat) (hb : h < b) : va_up (va_up (FM cu h b F t) (b + t) (eAr cu t)) h (eMo b (t + 1)) = FM cu h b F (t + 1) := by
  funext a
  by_cases h1 : a = h
  · subst h1; rw [va_up_self, FM_h]
  · rw [va_up_ne _ _ h1]
    by_cases h2 : a = b + t
    · subst h2; rw [va_up_self]; unfold FM; rw [if_neg h1, if_pos (by omega), show b + t - b = t by omega]
    · rw [va_up_ne _ _ h2]
      unfold FM
      rw [if_neg h1, if_neg h1]
      by_cases h3 : b ≤ a ∧ a < b + t
      · rw [if_pos h3, if_pos (show b ≤ a ∧ a < b + (t + 1) by omega)]
      · rw [if_neg h3, if_neg (show ¬ (b ≤ a ∧ a < b + (t + 1)) by omega)]
theorem FM_0 {cu : ClassId × ClassId} {h b : Nat} {F : Nat → va_E} (hF : F h = eMo b 0) : F = FM cu h b F 0 := by
  funext a
  unfold FM
  by_cases h1 : a = h
  · rw [if_pos h1, h1, hF]
  · rw [if_neg h1, if_neg (by omega)]
/-- all made; the settings hold q, the ports qq -/
def FG (cu : ClassId × ClassId) (h b : Nat) (F : Nat → va_E) (q qq : Nat → Int32) : Nat → va_E := fun a => if a = b then eI cu.1 50 q else if a = b + 8 then eI cu.1 15 qq else FM cu h b F 37 a
section FGs
variable {cu : ClassId × ClassId} {h b : Nat} {F : Nat → va_E} {q qq : Nat → Int32}
theorem FG_h (hb : h < b) : FG cu h b F q qq h = eMo b 37 := by unfold FG; rw [if_neg (by omega), if_neg (by omega), FM_h]
theorem FG_b : FG cu h b F q qq b = eI cu.1 50 q := by unfold FG; rw [if_pos rfl]
theorem FG_8 : FG cu h b F q qq (b + 8) = eI cu.1 15 qq := by unfold FG; rw [if_neg (by omega), if_pos rfl]
theorem FG_ub (p : Nat → Int32) : va_up (FG cu h b F q qq) b (eI cu.1 50 p) = FG cu h b F p qq := by
  funext a
  by_cases h1 : a = b
  · subst h1; rw [va_up_self, FG_b]
  · rw [va_up_ne _ _ h1]; unfold FG; rw [if_neg h1, if_neg h1]
theorem FG_u8 (p : Nat → Int32) : va_up (FG cu h b F q qq) (b + 8) (eI cu.1 15 p) = FG cu h b F q p := by
  funext a
  by_cases h1 : a = b + 8
  · subst h1; rw [va_up_self, FG_8]
  · rw [va_up_ne _ _ h1]; unfold FG
    by_cases h2 : a = b
    · rw [if_pos h2, if_pos h2]
    · rw [if_neg h2, if_neg h2, if_neg h1, if_neg h1]
theorem FG_in (hb : h < b) : FM cu h b F 37 = FG cu h b F z0 z0 := by
  funext a
  unfold FG
  by_cases h1 : a = b
  · subst h1; rw [if_pos rfl]; unfold FM; rw [if_neg (by omega), if_pos (by omega), Nat.sub_self]; rfl
  · rw [if_neg h1]
    by_cases h2 : a = b + 8
    · subst h2; rw [if_pos rfl]; unfold FM; rw [if_neg (by omega), if_pos (by omega), show b + 8 - b = 8 by omega]; rfl
    · rw [if_neg h2]
end FGs
def svM (i c : Nat) : Int32 := if c = 0 then 100 else if c = 1 then 100 else if c = 2 then 1 else if c = 3 then 1 else if c = 4 then 167772160 + nI i else if c = 5 then 167772400 else if c = 6 then 1 else 0
def msf (r : Nat) : Nat → Int32 := fun k => if k < 10 * r then svM (k / 10) (k % 10) else 0
theorem msf_0 : msf 0 = z0 := by
  funext k
  unfold msf
  rw [if_neg (by omega)]
theorem msf_s (r : Nat) : upd (upd (upd (upd (upd (upd (upd (msf r) (10 * r) 100) (10 * r + 1) 100) (10 * r + 2) 1) (10 * r + 3) 1) (10 * r + 4) (167772160 + nI r)) (10 * r + 5) 167772400) (10 * r + 6) 1 = msf (r + 1) := by
  funext k
  unfold upd msf
  by_cases h6 : k = 10 * r + 6
  · rw [if_pos h6, if_pos (by omega), show k % 10 = 6 by omega]; rfl
  rw [if_neg h6]
  by_cases h5 : k = 10 * r + 5
  · rw [if_pos h5, if_pos (by omega), show k % 10 = 5 by omega]; rfl
  rw [if_neg h5]
  by_cases h4 : k = 10 * r + 4
  · rw [if_pos h4, if_pos (by omega), show k % 10 = 4 by omega, show k / 10 = r by omega]; rfl
  rw [if_neg h4]
  by_cases h3 : k = 10 * r + 3
  · rw [if_pos h3, if_pos (by omega), show k % 10 = 3 by omega]; rfl
  rw [if_neg h3]
  by_cases h2 : k = 10 * r + 2
  · rw [if_pos h2, if_pos (by omega), show k % 10 = 2 by omega]; rfl
  rw [if_neg h2]
  by_cases h1 : k = 10 * r + 1
  · rw [if_pos h1, if_pos (by omega), show k % 10 = 1 by omega]; rfl
  rw [if_neg h1]
  by_cases h0 : k = 10 * r
  · rw [if_pos h0, if_pos (by omega), show k % 10 = 0 by omega]; rfl
  rw [if_neg h0]
  by_cases h7 : k < 10 * r
  · rw [if_pos h7, if_pos (by omega)]
  · rw [if_neg h7]
    by_cases h8 : k < 10 * (r + 1)
    · rw [if_pos h8]
      unfold svM
      rw [if_neg (by omega), if_neg (by omega), if_neg (by omega), if_neg (by omega), if_neg (by omega), if_neg (by omega), if_neg (by omega)]
    · rw [if_neg h8]
theorem ixm0 (r : Nat) : (10 : Int32) * nI r = nI (10 * r) := by rw [show (10 : Int32) = nI 10 from rfl, nI_mulN]
theorem df_M : ∀ j, j < 43 → defaultValue (tyXM j) = vp_V (fsT 0 0) j := by decide +kernel
section MI
variable {X : zX} {G : zG} {A : Nat → Prop} {nL : Nat} {Q : State → Prop} {pc : Nat} {lv : List (Nat × Value)} {st : List Value} {cc : ByteArray} {own : String} {fr lo : Nat} {cu : ClassId × ClassId} {h b : Nat} {F : Nat → va_E} {q qq : Nat → Int32}
theorem M_ist (C : zC X G A cc nL own fr lo) (w1 : G.2.2.1 = [(cu.1, .int), (cu.2, .boolean)]) (hm : b ∈ G.2.2.2) (j : Nat) (hj : j < 50) {i x : Int32} (hi : i = nI j) (hd : decode cc pc = .ok (.iastore, 1)) (kk : Z X G A nL Q (kE G.2.2.2 (FG cu h b F (upd q j x) qq)) (pc + 1) lv st) : Z X G A nL Q (kE G.2.2.2 (FG cu h b F q qq)) pc lv (.int x :: .int i :: .ref b :: st) := by
  subst hi
  refine Z_iast (t0 := 0) (K' := kE G.2.2.2 (FG cu h b F (upd q j x) qq)) C hm (kE_at hm FG_b) (by rw [w1]; rfl) (vp_in_nI hj (by decide)) ?_ hd kk
  rw [nI_clamp (by omega)]
  exact kE_of (FG_ub _)
end MI
set_option maxRecDepth 100000 in
set_option maxHeartbeats 8000000 in
theorem i_M {l : Launch} {G : zG} {cu : ClassId × ClassId} (w : iWm G cu) (F : Nat → va_E) (b h : Nat) (hh : h ∈ G.2.2.2) (hhb : h < b) (hF : F h = eMo b 0) : iF l y_M_init b_M_init 2 1 12 37 3465 G b [.ref h] F (FG cu h b F (msf 5) (plf 15)) := by
  refine iF.ofZ (by decide) rfl w.2.2 (Nat.le_of_ble_eq_true rfl) (fun X hXl hr C => ?_)
  subst hXl
  show Z X (G.ext b 0) (iA G b) 2 _ (kE _ F) 0 [(0, .ref h)] []
  have hX := Xm.refl X
  refine Z_imp (kE_F (FM_0 (cu := cu) hF)) ?_
  refine Z_aload_n C.z 0 d_M_init_0 rfl rfl ?_
  refine Z_objInit C.z mo_M ob_i ob_c ⟨Nat.le_of_ble_eq_true rfl, Nat.le_of_ble_eq_true rfl⟩ d_M_init_1 ?_
  refine Z_aload_n C.z 0 d_M_init_4 rfl rfl ?_
  refine Z_bipush (v := 50) C.z d_M_init_5 (by decide) ?_
  refine Y_newa (atype := .int) (t0 := 0) (N' := 50) (a0 := (50, .inl z0)) C rfl ac_int (by rw [w.2.1]; rfl) (fun C h => by cases h) rfl (by decide) (by decide) (by decide) ⟨Nat.le_of_ble_eq_true rfl, Nat.le_of_ble_eq_true rfl⟩ d_M_init_7 (fun C => ?_)
  have hX := hX.more 1 50
  generalize X.more 1 50 = X1 at C hX ⊢
  refine Z_putF C.z C.2.2.2.2.2.1 2 tyXM (mem_l hh) (kE_at (mem_l hh) (by rw [va_up_ne _ _ (by omega)]; exact FM_h)) (by rw [w.1]; rfl) in_M tyXM_ok nmXM (by decide) fl_M_7 rfl rfl rfl (tyXM_ok 2 (by decide)) rfl rfl (Nat.le_of_ble_eq_true rfl) (kE_of (FM_s 0 hhb)) d_M_init_9 ?_
  have C : iC X1 G b 1 50 b_M_init 2 y_M_init.cls 1 12 37 3465 := C
  show Z X1 (G.ext b 1) (iA G b) 2 (iQ X G b 37 3465 (FG cu h b F (msf 5) (plf 15))) (kE (G.ext b 1).2.2.2 (FM cu h b F 1)) 12 [(0, .ref h)] []
  refine Z_aload_n C.z 0 d_M_init_12 rfl rfl ?_
  refine Z_iconst (v := 5) C.z d_M_init_13 (by decide) ?_
  refine Y_newa (atype := .int) (t0 := 0) (N' := 5) (a0 := (5, .inl z0)) C rfl ac_int (by rw [w.2.1]; rfl) (fun C h => by cases h) rfl (by decide) (by decide) (by decide) ⟨Nat.le_of_ble_eq_true rfl, Nat.le_of_ble_eq_true rfl⟩ d_M_init_14 (fun C => ?_)
  have hX := hX.more 1 5
  generalize X1.more 1 5 = X2 at C hX ⊢
  refine Z_putF C.z C.2.2.2.2.2.1 3 tyXM (mem_l hh) (kE_at (mem_l hh) (by rw [va_up_ne _ _ (by omega)]; exact FM_h)) (by rw [w.1]; rfl) in_M tyXM_ok nmXM (by decide) fl_M_13 rfl rfl rfl (tyXM_ok 3 (by decide)) rfl rfl (Nat.le_of_ble_eq_true rfl) (kE_of (FM_s 1 hhb)) d_M_init_16 ?_
  have C : iC X2 G b 2 55 b_M_init 2 y_M_init.cls 1 12 37 3465 := C
  show Z X2 (G.ext b 2) (iA G b) 2 (iQ X G b 37 3465 (FG cu h b F (msf 5) (plf 15))) (kE (G.ext b 2).2.2.2 (FM cu h b F 2)) 19 [(0, .ref h)] []
  refine Z_aload_n C.z 0 d_M_init_19 rfl rfl ?_
  refine Z_iconst (v := 5) C.z d_M_init_20 (by decide) ?_
  refine Y_newa (atype := .int) (t0 := 0) (N' := 5) (a0 := (5, .inl z0)) C rfl ac_int (by rw [w.2.1]; rfl) (fun C h => by cases h) rfl (by decide) (by decide) (by decide) ⟨Nat.le_of_ble_eq_true rfl, Nat.le_of_ble_eq_true rfl⟩ d_M_init_21 (fun C => ?_)
  have hX := hX.more 1 5
  generalize X2.more 1 5 = X3 at C hX ⊢
  refine Z_putF C.z C.2.2.2.2.2.1 4 tyXM (mem_l hh) (kE_at (mem_l hh) (by rw [va_up_ne _ _ (by omega)]; exact FM_h)) (by rw [w.1]; rfl) in_M tyXM_ok nmXM (by decide) fl_M_16 rfl rfl rfl (tyXM_ok 4 (by decide)) rfl rfl (Nat.le_of_ble_eq_true rfl) (kE_of (FM_s 2 hhb)) d_M_init_23 ?_
  have C : iC X3 G b 3 60 b_M_init 2 y_M_init.cls 1 12 37 3465 := C
  show Z X3 (G.ext b 3) (iA G b) 2 (iQ X G b 37 3465 (FG cu h b F (msf 5) (plf 15))) (kE (G.ext b 3).2.2.2 (FM cu h b F 3)) 26 [(0, .ref h)] []
  refine Z_aload_n C.z 0 d_M_init_26 rfl rfl ?_
  refine Z_iconst (v := 5) C.z d_M_init_27 (by decide) ?_
  refine Y_newa (atype := .int) (t0 := 0) (N' := 5) (a0 := (5, .inl z0)) C rfl ac_int (by rw [w.2.1]; rfl) (fun C h => by cases h) rfl (by decide) (by decide) (by decide) ⟨Nat.le_of_ble_eq_true rfl, Nat.le_of_ble_eq_true rfl⟩ d_M_init_28 (fun C => ?_)
  have hX := hX.more 1 5
  generalize X3.more 1 5 = X4 at C hX ⊢
  refine Z_putF C.z C.2.2.2.2.2.1 5 tyXM (mem_l hh) (kE_at (mem_l hh) (by rw [va_up_ne _ _ (by omega)]; exact FM_h)) (by rw [w.1]; rfl) in_M tyXM_ok nmXM (by decide) fl_M_19 rfl rfl rfl (tyXM_ok 5 (by decide)) rfl rfl (Nat.le_of_ble_eq_true rfl) (kE_of (FM_s 3 hhb)) d_M_init_30 ?_
  have C : iC X4 G b 4 65 b_M_init 2 y_M_init.cls 1 12 37 3465 := C
  show Z X4 (G.ext b 4) (iA G b) 2 (iQ X G b 37 3465 (FG cu h b F (msf 5) (plf 15))) (kE (G.ext b 4).2.2.2 (FM cu h b F 4)) 33 [(0, .ref h)] []
  refine Z_aload_n C.z 0 d_M_init_33 rfl rfl ?_
  refine Z_iconst (v := 5) C.z d_M_init_34 (by decide) ?_
  refine Y_newa (atype := .int) (t0 := 0) (N' := 5) (a0 := (5, .inl z0)) C rfl ac_int (by rw [w.2.1]; rfl) (fun C h => by cases h) rfl (by decide) (by decide) (by decide) ⟨Nat.le_of_ble_eq_true rfl, Nat.le_of_ble_eq_true rfl⟩ d_M_init_35 (fun C => ?_)
  have hX := hX.more 1 5
  generalize X4.more 1 5 = X5 at C hX ⊢
  refine Z_putF C.z C.2.2.2.2.2.1 6 tyXM (mem_l hh) (kE_at (mem_l hh) (by rw [va_up_ne _ _ (by omega)]; exact FM_h)) (by rw [w.1]; rfl) in_M tyXM_ok nmXM (by decide) fl_M_22 rfl rfl rfl (tyXM_ok 6 (by decide)) rfl rfl (Nat.le_of_ble_eq_true rfl) (kE_of (FM_s 4 hhb)) d_M_init_37 ?_
  have C : iC X5 G b 5 70 b_M_init 2 y_M_init.cls 1 12 37 3465 := C
  show Z X5 (G.ext b 5) (iA G b) 2 (iQ X G b 37 3465 (FG cu h b F (msf 5) (plf 15))) (kE (G.ext b 5).2.2.2 (FM cu h b F 5)) 40 [(0, .ref h)] []
  refine Z_aload_n C.z 0 d_M_init_40 rfl rfl ?_
  refine Z_iconst (v := 5) C.z d_M_init_41 (by decide) ?_
  refine Y_newa (atype := .int) (t0 := 0) (N' := 5) (a0 := (5, .inl z0)) C rfl ac_int (by rw [w.2.1]; rfl) (fun C h => by cases h) rfl (by decide) (by decide) (by decide) ⟨Nat.le_of_ble_eq_true rfl, Nat.le_of_ble_eq_true rfl⟩ d_M_init_42 (fun C => ?_)
  have hX := hX.more 1 5
  generalize X5.more 1 5 = X6 at C hX ⊢
  refine Z_putF C.z C.2.2.2.2.2.1 7 tyXM (mem_l hh) (kE_at (mem_l hh) (by rw [va_up_ne _ _ (by omega)]; exact FM_h)) (by rw [w.1]; rfl) in_M tyXM_ok nmXM (by decide) fl_M_25 rfl rfl rfl (tyXM_ok 7 (by decide)) rfl rfl (Nat.le_of_ble_eq_true rfl) (kE_of (FM_s 5 hhb)) d_M_init_44 ?_
  have C : iC X6 G b 6 75 b_M_init 2 y_M_init.cls 1 12 37 3465 := C
  show Z X6 (G.ext b 6) (iA G b) 2 (iQ X G b 37 3465 (FG cu h b F (msf 5) (plf 15))) (kE (G.ext b 6).2.2.2 (FM cu h b F 6)) 47 [(0, .ref h)] []
  refine Z_aload_n C.z 0 d_M_init_47 rfl rfl ?_
  refine Z_iconst (v := 5) C.z d_M_init_48 (by decide) ?_
  refine Y_newa (atype := .int) (t0 := 0) (N' := 5) (a0 := (5, .inl z0)) C rfl ac_int (by rw [w.2.1]; rfl) (fun C h => by cases h) rfl (by decide) (by decide) (by decide) ⟨Nat.le_of_ble_eq_true rfl, Nat.le_of_ble_eq_true rfl⟩ d_M_init_49 (fun C => ?_)
  have hX := hX.more 1 5
  generalize X6.more 1 5 = X7 at C hX ⊢
  refine Z_putF C.z C.2.2.2.2.2.1 8 tyXM (mem_l hh) (kE_at (mem_l hh) (by rw [va_up_ne _ _ (by omega)]; exact FM_h)) (by rw [w.1]; rfl) in_M tyXM_ok nmXM (by decide) fl_M_28 rfl rfl rfl (tyXM_ok 8 (by decide)) rfl rfl (Nat.le_of_ble_eq_true rfl) (kE_of (FM_s 6 hhb)) d_M_init_51 ?_
  have C : iC X7 G b 7 80 b_M_init 2 y_M_init.cls 1 12 37 3465 := C
  show Z X7 (G.ext b 7) (iA G b) 2 (iQ X G b 37 3465 (FG cu h b F (msf 5) (plf 15))) (kE (G.ext b 7).2.2.2 (FM cu h b F 7)) 54 [(0, .ref h)] []
  refine Z_aload_n C.z 0 d_M_init_54 rfl rfl ?_
  refine Z_iconst (v := 5) C.z d_M_init_55 (by decide) ?_
  refine Y_newa (atype := .int) (t0 := 0) (N' := 5) (a0 := (5, .inl z0)) C rfl ac_int (by rw [w.2.1]; rfl) (fun C h => by cases h) rfl (by decide) (by decide) (by decide) ⟨Nat.le_of_ble_eq_true rfl, Nat.le_of_ble_eq_true rfl⟩ d_M_init_56 (fun C => ?_)
  have hX := hX.more 1 5
  generalize X7.more 1 5 = X8 at C hX ⊢
  refine Z_putF C.z C.2.2.2.2.2.1 9 tyXM (mem_l hh) (kE_at (mem_l hh) (by rw [va_up_ne _ _ (by omega)]; exact FM_h)) (by rw [w.1]; rfl) in_M tyXM_ok nmXM (by decide) fl_M_31 rfl rfl rfl (tyXM_ok 9 (by decide)) rfl rfl (Nat.le_of_ble_eq_true rfl) (kE_of (FM_s 7 hhb)) d_M_init_58 ?_
  have C : iC X8 G b 8 85 b_M_init 2 y_M_init.cls 1 12 37 3465 := C
  show Z X8 (G.ext b 8) (iA G b) 2 (iQ X G b 37 3465 (FG cu h b F (msf 5) (plf 15))) (kE (G.ext b 8).2.2.2 (FM cu h b F 8)) 61 [(0, .ref h)] []
  refine Z_aload_n C.z 0 d_M_init_61 rfl rfl ?_
  refine Z_bipush (v := 15) C.z d_M_init_62 (by decide) ?_
  refine Y_newa (atype := .int) (t0 := 0) (N' := 15) (a0 := (15, .inl z0)) C rfl ac_int (by rw [w.2.1]; rfl) (fun C h => by cases h) rfl (by decide) (by decide) (by decide) ⟨Nat.le_of_ble_eq_true rfl, Nat.le_of_ble_eq_true rfl⟩ d_M_init_64 (fun C => ?_)
  have hX := hX.more 1 15
  generalize X8.more 1 15 = X9 at C hX ⊢
  refine Z_putF C.z C.2.2.2.2.2.1 10 tyXM (mem_l hh) (kE_at (mem_l hh) (by rw [va_up_ne _ _ (by omega)]; exact FM_h)) (by rw [w.1]; rfl) in_M tyXM_ok nmXM (by decide) fl_M_34 rfl rfl rfl (tyXM_ok 10 (by decide)) rfl rfl (Nat.le_of_ble_eq_true rfl) (kE_of (FM_s 8 hhb)) d_M_init_66 ?_
  have C : iC X9 G b 9 100 b_M_init 2 y_M_init.cls 1 12 37 3465 := C
  show Z X9 (G.ext b 9) (iA G b) 2 (iQ X G b 37 3465 (FG cu h b F (msf 5) (plf 15))) (kE (G.ext b 9).2.2.2 (FM cu h b F 9)) 69 [(0, .ref h)] []
  refine Z_aload_n C.z 0 d_M_init_69 rfl rfl ?_
  refine Z_bipush (v := 25) C.z d_M_init_70 (by decide) ?_
  refine Y_newa (atype := .boolean) (t0 := 1) (N' := 25) (a0 := (25, .inl z0)) C rfl ac_boolean (by rw [w.2.1]; rfl) (fun C h => by cases h) rfl (by decide) (by decide) (by decide) ⟨Nat.le_of_ble_eq_true rfl, Nat.le_of_ble_eq_true rfl⟩ d_M_init_72 (fun C => ?_)
  have hX := hX.more 1 25
  generalize X9.more 1 25 = X10 at C hX ⊢
  refine Z_putF C.z C.2.2.2.2.2.1 11 tyXM (mem_l hh) (kE_at (mem_l hh) (by rw [va_up_ne _ _ (by omega)]; exact FM_h)) (by rw [w.1]; rfl) in_M tyXM_ok nmXM (by decide) fl_M_37 rfl rfl rfl (tyXM_ok 11 (by decide)) rfl rfl (Nat.le_of_ble_eq_true rfl) (kE_of (FM_s 9 hhb)) d_M_init_74 ?_
  have C : iC X10 G b 10 125 b_M_init 2 y_M_init.cls 1 12 37 3465 := C
  show Z X10 (G.ext b 10) (iA G b) 2 (iQ X G b 37 3465 (FG cu h b F (msf 5) (plf 15))) (kE (G.ext b 10).2.2.2 (FM cu h b F 10)) 77 [(0, .ref h)] []
  refine Z_aload_n C.z 0 d_M_init_77 rfl rfl ?_
  refine Z_bipush (v := 25) C.z d_M_init_78 (by decide) ?_
  refine Y_newa (atype := .int) (t0 := 0) (N' := 25) (a0 := (25, .inl z0)) C rfl ac_int (by rw [w.2.1]; rfl) (fun C h => by cases h) rfl (by decide) (by decide) (by decide) ⟨Nat.le_of_ble_eq_true rfl, Nat.le_of_ble_eq_true rfl⟩ d_M_init_80 (fun C => ?_)
  have hX := hX.more 1 25
  generalize X10.more 1 25 = X11 at C hX ⊢
  refine Z_putF C.z C.2.2.2.2.2.1 12 tyXM (mem_l hh) (kE_at (mem_l hh) (by rw [va_up_ne _ _ (by omega)]; exact FM_h)) (by rw [w.1]; rfl) in_M tyXM_ok nmXM (by decide) fl_M_41 rfl rfl rfl (tyXM_ok 12 (by decide)) rfl rfl (Nat.le_of_ble_eq_true rfl) (kE_of (FM_s 10 hhb)) d_M_init_82 ?_
  have C : iC X11 G b 11 150 b_M_init 2 y_M_init.cls 1 12 37 3465 := C
  show Z X11 (G.ext b 11) (iA G b) 2 (iQ X G b 37 3465 (FG cu h b F (msf 5) (plf 15))) (kE (G.ext b 11).2.2.2 (FM cu h b F 11)) 85 [(0, .ref h)] []
  refine Z_aload_n C.z 0 d_M_init_85 rfl rfl ?_
  refine Z_bipush (v := 25) C.z d_M_init_86 (by decide) ?_
  refine Y_newa (atype := .int) (t0 := 0) (N' := 25) (a0 := (25, .inl z0)) C rfl ac_int (by rw [w.2.1]; rfl) (fun C h => by cases h) rfl (by decide) (by decide) (by decide) ⟨Nat.le_of_ble_eq_true rfl, Nat.le_of_ble_eq_true rfl⟩ d_M_init_88 (fun C => ?_)
  have hX := hX.more 1 25
  generalize X11.more 1 25 = X12 at C hX ⊢
  refine Z_putF C.z C.2.2.2.2.2.1 13 tyXM (mem_l hh) (kE_at (mem_l hh) (by rw [va_up_ne _ _ (by omega)]; exact FM_h)) (by rw [w.1]; rfl) in_M tyXM_ok nmXM (by decide) fl_M_44 rfl rfl rfl (tyXM_ok 13 (by decide)) rfl rfl (Nat.le_of_ble_eq_true rfl) (kE_of (FM_s 11 hhb)) d_M_init_90 ?_
  have C : iC X12 G b 12 175 b_M_init 2 y_M_init.cls 1 12 37 3465 := C
  show Z X12 (G.ext b 12) (iA G b) 2 (iQ X G b 37 3465 (FG cu h b F (msf 5) (plf 15))) (kE (G.ext b 12).2.2.2 (FM cu h b F 12)) 93 [(0, .ref h)] []
  refine Z_aload_n C.z 0 d_M_init_93 rfl rfl ?_
  refine Z_bipush (v := 25) C.z d_M_init_94 (by decide) ?_
  refine Y_newa (atype := .int) (t0 := 0) (N' := 25) (a0 := (25, .inl z0)) C rfl ac_int (by rw [w.2.1]; rfl) (fun C h => by cases h) rfl (by decide) (by decide) (by decide) ⟨Nat.le_of_ble_eq_true rfl, Nat.le_of_ble_eq_true rfl⟩ d_M_init_96 (fun C => ?_)
  have hX := hX.more 1 25
  generalize X12.more 1 25 = X13 at C hX ⊢
  refine Z_putF C.z C.2.2.2.2.2.1 14 tyXM (mem_l hh) (kE_at (mem_l hh) (by rw [va_up_ne _ _ (by omega)]; exact FM_h)) (by rw [w.1]; rfl) in_M tyXM_ok nmXM (by decide) fl_M_47 rfl rfl rfl (tyXM_ok 14 (by decide)) rfl rfl (Nat.le_of_ble_eq_true rfl) (kE_of (FM_s 12 hhb)) d_M_init_98 ?_
  have C : iC X13 G b 13 200 b_M_init 2 y_M_init.cls 1 12 37 3465 := C
  show Z X13 (G.ext b 13) (iA G b) 2 (iQ X G b 37 3465 (FG cu h b F (msf 5) (plf 15))) (kE (G.ext b 13).2.2.2 (FM cu h b F 13)) 101 [(0, .ref h)] []
  refine Z_aload_n C.z 0 d_M_init_101 rfl rfl ?_
  refine Z_bipush (v := 25) C.z d_M_init_102 (by decide) ?_
  refine Y_newa (atype := .int) (t0 := 0) (N' := 25) (a0 := (25, .inl z0)) C rfl ac_int (by rw [w.2.1]; rfl) (fun C h => by cases h) rfl (by decide) (by decide) (by decide) ⟨Nat.le_of_ble_eq_true rfl, Nat.le_of_ble_eq_true rfl⟩ d_M_init_104 (fun C => ?_)
  have hX := hX.more 1 25
  generalize X13.more 1 25 = X14 at C hX ⊢
  refine Z_putF C.z C.2.2.2.2.2.1 15 tyXM (mem_l hh) (kE_at (mem_l hh) (by rw [va_up_ne _ _ (by omega)]; exact FM_h)) (by rw [w.1]; rfl) in_M tyXM_ok nmXM (by decide) fl_M_50 rfl rfl rfl (tyXM_ok 15 (by decide)) rfl rfl (Nat.le_of_ble_eq_true rfl) (kE_of (FM_s 13 hhb)) d_M_init_106 ?_
  have C : iC X14 G b 14 225 b_M_init 2 y_M_init.cls 1 12 37 3465 := C
  show Z X14 (G.ext b 14) (iA G b) 2 (iQ X G b 37 3465 (FG cu h b F (msf 5) (plf 15))) (kE (G.ext b 14).2.2.2 (FM cu h b F 14)) 109 [(0, .ref h)] []
  refine Z_aload_n C.z 0 d_M_init_109 rfl rfl ?_
  refine Z_bipush (v := 25) C.z d_M_init_110 (by decide) ?_
  refine Y_newa (atype := .int) (t0 := 0) (N' := 25) (a0 := (25, .inl z0)) C rfl ac_int (by rw [w.2.1]; rfl) (fun C h => by cases h) rfl (by decide) (by decide) (by decide) ⟨Nat.le_of_ble_eq_true rfl, Nat.le_of_ble_eq_true rfl⟩ d_M_init_112 (fun C => ?_)
  have hX := hX.more 1 25
  generalize X14.more 1 25 = X15 at C hX ⊢
  refine Z_putF C.z C.2.2.2.2.2.1 16 tyXM (mem_l hh) (kE_at (mem_l hh) (by rw [va_up_ne _ _ (by omega)]; exact FM_h)) (by rw [w.1]; rfl) in_M tyXM_ok nmXM (by decide) fl_M_53 rfl rfl rfl (tyXM_ok 16 (by decide)) rfl rfl (Nat.le_of_ble_eq_true rfl) (kE_of (FM_s 14 hhb)) d_M_init_114 ?_
  have C : iC X15 G b 15 250 b_M_init 2 y_M_init.cls 1 12 37 3465 := C
  show Z X15 (G.ext b 15) (iA G b) 2 (iQ X G b 37 3465 (FG cu h b F (msf 5) (plf 15))) (kE (G.ext b 15).2.2.2 (FM cu h b F 15)) 117 [(0, .ref h)] []
  refine Z_aload_n C.z 0 d_M_init_117 rfl rfl ?_
  refine Z_bipush (v := 25) C.z d_M_init_118 (by decide) ?_
  refine Y_newa (atype := .int) (t0 := 0) (N' := 25) (a0 := (25, .inl z0)) C rfl ac_int (by rw [w.2.1]; rfl) (fun C h => by cases h) rfl (by decide) (by decide) (by decide) ⟨Nat.le_of_ble_eq_true rfl, Nat.le_of_ble_eq_true rfl⟩ d_M_init_120 (fun C => ?_)
  have hX := hX.more 1 25
  generalize X15.more 1 25 = X16 at C hX ⊢
  refine Z_putF C.z C.2.2.2.2.2.1 17 tyXM (mem_l hh) (kE_at (mem_l hh) (by rw [va_up_ne _ _ (by omega)]; exact FM_h)) (by rw [w.1]; rfl) in_M tyXM_ok nmXM (by decide) fl_M_56 rfl rfl rfl (tyXM_ok 17 (by decide)) rfl rfl (Nat.le_of_ble_eq_true rfl) (kE_of (FM_s 15 hhb)) d_M_init_122 ?_
  have C : iC X16 G b 16 275 b_M_init 2 y_M_init.cls 1 12 37 3465 := C
  show Z X16 (G.ext b 16) (iA G b) 2 (iQ X G b 37 3465 (FG cu h b F (msf 5) (plf 15))) (kE (G.ext b 16).2.2.2 (FM cu h b F 16)) 125 [(0, .ref h)] []
  refine Z_aload_n C.z 0 d_M_init_125 rfl rfl ?_
  refine Z_bipush (v := 25) C.z d_M_init_126 (by decide) ?_
  refine Y_newa (atype := .int) (t0 := 0) (N' := 25) (a0 := (25, .inl z0)) C rfl ac_int (by rw [w.2.1]; rfl) (fun C h => by cases h) rfl (by decide) (by decide) (by decide) ⟨Nat.le_of_ble_eq_true rfl, Nat.le_of_ble_eq_true rfl⟩ d_M_init_128 (fun C => ?_)
  have hX := hX.more 1 25
  generalize X16.more 1 25 = X17 at C hX ⊢
  refine Z_putF C.z C.2.2.2.2.2.1 18 tyXM (mem_l hh) (kE_at (mem_l hh) (by rw [va_up_ne _ _ (by omega)]; exact FM_h)) (by rw [w.1]; rfl) in_M tyXM_ok nmXM (by decide) fl_M_59 rfl rfl rfl (tyXM_ok 18 (by decide)) rfl rfl (Nat.le_of_ble_eq_true rfl) (kE_of (FM_s 16 hhb)) d_M_init_130 ?_
  have C : iC X17 G b 17 300 b_M_init 2 y_M_init.cls 1 12 37 3465 := C
  show Z X17 (G.ext b 17) (iA G b) 2 (iQ X G b 37 3465 (FG cu h b F (msf 5) (plf 15))) (kE (G.ext b 17).2.2.2 (FM cu h b F 17)) 133 [(0, .ref h)] []
  refine Z_aload_n C.z 0 d_M_init_133 rfl rfl ?_
  refine Z_bipush (v := 25) C.z d_M_init_134 (by decide) ?_
  refine Y_newa (atype := .int) (t0 := 0) (N' := 25) (a0 := (25, .inl z0)) C rfl ac_int (by rw [w.2.1]; rfl) (fun C h => by cases h) rfl (by decide) (by decide) (by decide) ⟨Nat.le_of_ble_eq_true rfl, Nat.le_of_ble_eq_true rfl⟩ d_M_init_136 (fun C => ?_)
  have hX := hX.more 1 25
  generalize X17.more 1 25 = X18 at C hX ⊢
  refine Z_putF C.z C.2.2.2.2.2.1 19 tyXM (mem_l hh) (kE_at (mem_l hh) (by rw [va_up_ne _ _ (by omega)]; exact FM_h)) (by rw [w.1]; rfl) in_M tyXM_ok nmXM (by decide) fl_M_62 rfl rfl rfl (tyXM_ok 19 (by decide)) rfl rfl (Nat.le_of_ble_eq_true rfl) (kE_of (FM_s 17 hhb)) d_M_init_138 ?_
  have C : iC X18 G b 18 325 b_M_init 2 y_M_init.cls 1 12 37 3465 := C
  show Z X18 (G.ext b 18) (iA G b) 2 (iQ X G b 37 3465 (FG cu h b F (msf 5) (plf 15))) (kE (G.ext b 18).2.2.2 (FM cu h b F 18)) 141 [(0, .ref h)] []
  refine Z_aload_n C.z 0 d_M_init_141 rfl rfl ?_
  refine Z_bipush (v := 25) C.z d_M_init_142 (by decide) ?_
  refine Y_newa (atype := .int) (t0 := 0) (N' := 25) (a0 := (25, .inl z0)) C rfl ac_int (by rw [w.2.1]; rfl) (fun C h => by cases h) rfl (by decide) (by decide) (by decide) ⟨Nat.le_of_ble_eq_true rfl, Nat.le_of_ble_eq_true rfl⟩ d_M_init_144 (fun C => ?_)
  have hX := hX.more 1 25
  generalize X18.more 1 25 = X19 at C hX ⊢
  refine Z_putF C.z C.2.2.2.2.2.1 20 tyXM (mem_l hh) (kE_at (mem_l hh) (by rw [va_up_ne _ _ (by omega)]; exact FM_h)) (by rw [w.1]; rfl) in_M tyXM_ok nmXM (by decide) fl_M_65 rfl rfl rfl (tyXM_ok 20 (by decide)) rfl rfl (Nat.le_of_ble_eq_true rfl) (kE_of (FM_s 18 hhb)) d_M_init_146 ?_
  have C : iC X19 G b 19 350 b_M_init 2 y_M_init.cls 1 12 37 3465 := C
  show Z X19 (G.ext b 19) (iA G b) 2 (iQ X G b 37 3465 (FG cu h b F (msf 5) (plf 15))) (kE (G.ext b 19).2.2.2 (FM cu h b F 19)) 149 [(0, .ref h)] []
  refine Z_aload_n C.z 0 d_M_init_149 rfl rfl ?_
  refine Z_bipush (v := 25) C.z d_M_init_150 (by decide) ?_
  refine Y_newa (atype := .int) (t0 := 0) (N' := 25) (a0 := (25, .inl z0)) C rfl ac_int (by rw [w.2.1]; rfl) (fun C h => by cases h) rfl (by decide) (by decide) (by decide) ⟨Nat.le_of_ble_eq_true rfl, Nat.le_of_ble_eq_true rfl⟩ d_M_init_152 (fun C => ?_)
  have hX := hX.more 1 25
  generalize X19.more 1 25 = X20 at C hX ⊢
  refine Z_putF C.z C.2.2.2.2.2.1 21 tyXM (mem_l hh) (kE_at (mem_l hh) (by rw [va_up_ne _ _ (by omega)]; exact FM_h)) (by rw [w.1]; rfl) in_M tyXM_ok nmXM (by decide) fl_M_68 rfl rfl rfl (tyXM_ok 21 (by decide)) rfl rfl (Nat.le_of_ble_eq_true rfl) (kE_of (FM_s 19 hhb)) d_M_init_154 ?_
  have C : iC X20 G b 20 375 b_M_init 2 y_M_init.cls 1 12 37 3465 := C
  show Z X20 (G.ext b 20) (iA G b) 2 (iQ X G b 37 3465 (FG cu h b F (msf 5) (plf 15))) (kE (G.ext b 20).2.2.2 (FM cu h b F 20)) 157 [(0, .ref h)] []
  refine Z_aload_n C.z 0 d_M_init_157 rfl rfl ?_
  refine Z_bipush (v := 25) C.z d_M_init_158 (by decide) ?_
  refine Y_newa (atype := .int) (t0 := 0) (N' := 25) (a0 := (25, .inl z0)) C rfl ac_int (by rw [w.2.1]; rfl) (fun C h => by cases h) rfl (by decide) (by decide) (by decide) ⟨Nat.le_of_ble_eq_true rfl, Nat.le_of_ble_eq_true rfl⟩ d_M_init_160 (fun C => ?_)
  have hX := hX.more 1 25
  generalize X20.more 1 25 = X21 at C hX ⊢
  refine Z_putF C.z C.2.2.2.2.2.1 22 tyXM (mem_l hh) (kE_at (mem_l hh) (by rw [va_up_ne _ _ (by omega)]; exact FM_h)) (by rw [w.1]; rfl) in_M tyXM_ok nmXM (by decide) fl_M_71 rfl rfl rfl (tyXM_ok 22 (by decide)) rfl rfl (Nat.le_of_ble_eq_true rfl) (kE_of (FM_s 20 hhb)) d_M_init_162 ?_
  have C : iC X21 G b 21 400 b_M_init 2 y_M_init.cls 1 12 37 3465 := C
  show Z X21 (G.ext b 21) (iA G b) 2 (iQ X G b 37 3465 (FG cu h b F (msf 5) (plf 15))) (kE (G.ext b 21).2.2.2 (FM cu h b F 21)) 165 [(0, .ref h)] []
  refine Z_aload_n C.z 0 d_M_init_165 rfl rfl ?_
  refine Z_bipush (v := 25) C.z d_M_init_166 (by decide) ?_
  refine Y_newa (atype := .int) (t0 := 0) (N' := 25) (a0 := (25, .inl z0)) C rfl ac_int (by rw [w.2.1]; rfl) (fun C h => by cases h) rfl (by decide) (by decide) (by decide) ⟨Nat.le_of_ble_eq_true rfl, Nat.le_of_ble_eq_true rfl⟩ d_M_init_168 (fun C => ?_)
  have hX := hX.more 1 25
  generalize X21.more 1 25 = X22 at C hX ⊢
  refine Z_putF C.z C.2.2.2.2.2.1 23 tyXM (mem_l hh) (kE_at (mem_l hh) (by rw [va_up_ne _ _ (by omega)]; exact FM_h)) (by rw [w.1]; rfl) in_M tyXM_ok nmXM (by decide) fl_M_74 rfl rfl rfl (tyXM_ok 23 (by decide)) rfl rfl (Nat.le_of_ble_eq_true rfl) (kE_of (FM_s 21 hhb)) d_M_init_170 ?_
  have C : iC X22 G b 22 425 b_M_init 2 y_M_init.cls 1 12 37 3465 := C
  show Z X22 (G.ext b 22) (iA G b) 2 (iQ X G b 37 3465 (FG cu h b F (msf 5) (plf 15))) (kE (G.ext b 22).2.2.2 (FM cu h b F 22)) 173 [(0, .ref h)] []
  refine Z_aload_n C.z 0 d_M_init_173 rfl rfl ?_
  refine Z_bipush (v := 25) C.z d_M_init_174 (by decide) ?_
  refine Y_newa (atype := .boolean) (t0 := 1) (N' := 25) (a0 := (25, .inl z0)) C rfl ac_boolean (by rw [w.2.1]; rfl) (fun C h => by cases h) rfl (by decide) (by decide) (by decide) ⟨Nat.le_of_ble_eq_true rfl, Nat.le_of_ble_eq_true rfl⟩ d_M_init_176 (fun C => ?_)
  have hX := hX.more 1 25
  generalize X22.more 1 25 = X23 at C hX ⊢
  refine Z_putF C.z C.2.2.2.2.2.1 24 tyXM (mem_l hh) (kE_at (mem_l hh) (by rw [va_up_ne _ _ (by omega)]; exact FM_h)) (by rw [w.1]; rfl) in_M tyXM_ok nmXM (by decide) fl_M_77 rfl rfl rfl (tyXM_ok 24 (by decide)) rfl rfl (Nat.le_of_ble_eq_true rfl) (kE_of (FM_s 22 hhb)) d_M_init_178 ?_
  have C : iC X23 G b 23 450 b_M_init 2 y_M_init.cls 1 12 37 3465 := C
  show Z X23 (G.ext b 23) (iA G b) 2 (iQ X G b 37 3465 (FG cu h b F (msf 5) (plf 15))) (kE (G.ext b 23).2.2.2 (FM cu h b F 23)) 181 [(0, .ref h)] []
  refine Z_aload_n C.z 0 d_M_init_181 rfl rfl ?_
  refine Z_bipush (v := 25) C.z d_M_init_182 (by decide) ?_
  refine Y_newa (atype := .int) (t0 := 0) (N' := 25) (a0 := (25, .inl z0)) C rfl ac_int (by rw [w.2.1]; rfl) (fun C h => by cases h) rfl (by decide) (by decide) (by decide) ⟨Nat.le_of_ble_eq_true rfl, Nat.le_of_ble_eq_true rfl⟩ d_M_init_184 (fun C => ?_)
  have hX := hX.more 1 25
  generalize X23.more 1 25 = X24 at C hX ⊢
  refine Z_putF C.z C.2.2.2.2.2.1 25 tyXM (mem_l hh) (kE_at (mem_l hh) (by rw [va_up_ne _ _ (by omega)]; exact FM_h)) (by rw [w.1]; rfl) in_M tyXM_ok nmXM (by decide) fl_M_80 rfl rfl rfl (tyXM_ok 25 (by decide)) rfl rfl (Nat.le_of_ble_eq_true rfl) (kE_of (FM_s 23 hhb)) d_M_init_186 ?_
  have C : iC X24 G b 24 475 b_M_init 2 y_M_init.cls 1 12 37 3465 := C
  show Z X24 (G.ext b 24) (iA G b) 2 (iQ X G b 37 3465 (FG cu h b F (msf 5) (plf 15))) (kE (G.ext b 24).2.2.2 (FM cu h b F 24)) 189 [(0, .ref h)] []
  refine Z_aload_n C.z 0 d_M_init_189 rfl rfl ?_
  refine Z_bipush (v := 25) C.z d_M_init_190 (by decide) ?_
  refine Y_newa (atype := .int) (t0 := 0) (N' := 25) (a0 := (25, .inl z0)) C rfl ac_int (by rw [w.2.1]; rfl) (fun C h => by cases h) rfl (by decide) (by decide) (by decide) ⟨Nat.le_of_ble_eq_true rfl, Nat.le_of_ble_eq_true rfl⟩ d_M_init_192 (fun C => ?_)
  have hX := hX.more 1 25
  generalize X24.more 1 25 = X25 at C hX ⊢
  refine Z_putF C.z C.2.2.2.2.2.1 26 tyXM (mem_l hh) (kE_at (mem_l hh) (by rw [va_up_ne _ _ (by omega)]; exact FM_h)) (by rw [w.1]; rfl) in_M tyXM_ok nmXM (by decide) fl_M_83 rfl rfl rfl (tyXM_ok 26 (by decide)) rfl rfl (Nat.le_of_ble_eq_true rfl) (kE_of (FM_s 24 hhb)) d_M_init_194 ?_
  have C : iC X25 G b 25 500 b_M_init 2 y_M_init.cls 1 12 37 3465 := C
  show Z X25 (G.ext b 25) (iA G b) 2 (iQ X G b 37 3465 (FG cu h b F (msf 5) (plf 15))) (kE (G.ext b 25).2.2.2 (FM cu h b F 25)) 197 [(0, .ref h)] []
  refine Z_aload_n C.z 0 d_M_init_197 rfl rfl ?_
  refine Z_bipush (v := 25) C.z d_M_init_198 (by decide) ?_
  refine Y_newa (atype := .int) (t0 := 0) (N' := 25) (a0 := (25, .inl z0)) C rfl ac_int (by rw [w.2.1]; rfl) (fun C h => by cases h) rfl (by decide) (by decide) (by decide) ⟨Nat.le_of_ble_eq_true rfl, Nat.le_of_ble_eq_true rfl⟩ d_M_init_200 (fun C => ?_)
  have hX := hX.more 1 25
  generalize X25.more 1 25 = X26 at C hX ⊢
  refine Z_putF C.z C.2.2.2.2.2.1 27 tyXM (mem_l hh) (kE_at (mem_l hh) (by rw [va_up_ne _ _ (by omega)]; exact FM_h)) (by rw [w.1]; rfl) in_M tyXM_ok nmXM (by decide) fl_M_86 rfl rfl rfl (tyXM_ok 27 (by decide)) rfl rfl (Nat.le_of_ble_eq_true rfl) (kE_of (FM_s 25 hhb)) d_M_init_202 ?_
  have C : iC X26 G b 26 525 b_M_init 2 y_M_init.cls 1 12 37 3465 := C
  show Z X26 (G.ext b 26) (iA G b) 2 (iQ X G b 37 3465 (FG cu h b F (msf 5) (plf 15))) (kE (G.ext b 26).2.2.2 (FM cu h b F 26)) 205 [(0, .ref h)] []
  refine Z_aload_n C.z 0 d_M_init_205 rfl rfl ?_
  refine Z_bipush (v := 60) C.z d_M_init_206 (by decide) ?_
  refine Y_newa (atype := .int) (t0 := 0) (N' := 60) (a0 := (60, .inl z0)) C rfl ac_int (by rw [w.2.1]; rfl) (fun C h => by cases h) rfl (by decide) (by decide) (by decide) ⟨Nat.le_of_ble_eq_true rfl, Nat.le_of_ble_eq_true rfl⟩ d_M_init_208 (fun C => ?_)
  have hX := hX.more 1 60
  generalize X26.more 1 60 = X27 at C hX ⊢
  refine Z_putF C.z C.2.2.2.2.2.1 29 tyXM (mem_l hh) (kE_at (mem_l hh) (by rw [va_up_ne _ _ (by omega)]; exact FM_h)) (by rw [w.1]; rfl) in_M tyXM_ok nmXM (by decide) fl_M_89 rfl rfl rfl (tyXM_ok 29 (by decide)) rfl rfl (Nat.le_of_ble_eq_true rfl) (kE_of (FM_s 26 hhb)) d_M_init_210 ?_
  have C : iC X27 G b 27 585 b_M_init 2 y_M_init.cls 1 12 37 3465 := C
  show Z X27 (G.ext b 27) (iA G b) 2 (iQ X G b 37 3465 (FG cu h b F (msf 5) (plf 15))) (kE (G.ext b 27).2.2.2 (FM cu h b F 27)) 213 [(0, .ref h)] []
  refine Z_aload_n C.z 0 d_M_init_213 rfl rfl ?_
  refine Z_bipush (v := 60) C.z d_M_init_214 (by decide) ?_
  refine Y_newa (atype := .int) (t0 := 0) (N' := 60) (a0 := (60, .inl z0)) C rfl ac_int (by rw [w.2.1]; rfl) (fun C h => by cases h) rfl (by decide) (by decide) (by decide) ⟨Nat.le_of_ble_eq_true rfl, Nat.le_of_ble_eq_true rfl⟩ d_M_init_216 (fun C => ?_)
  have hX := hX.more 1 60
  generalize X27.more 1 60 = X28 at C hX ⊢
  refine Z_putF C.z C.2.2.2.2.2.1 30 tyXM (mem_l hh) (kE_at (mem_l hh) (by rw [va_up_ne _ _ (by omega)]; exact FM_h)) (by rw [w.1]; rfl) in_M tyXM_ok nmXM (by decide) fl_M_92 rfl rfl rfl (tyXM_ok 30 (by decide)) rfl rfl (Nat.le_of_ble_eq_true rfl) (kE_of (FM_s 27 hhb)) d_M_init_218 ?_
  have C : iC X28 G b 28 645 b_M_init 2 y_M_init.cls 1 12 37 3465 := C
  show Z X28 (G.ext b 28) (iA G b) 2 (iQ X G b 37 3465 (FG cu h b F (msf 5) (plf 15))) (kE (G.ext b 28).2.2.2 (FM cu h b F 28)) 221 [(0, .ref h)] []
  refine Z_aload_n C.z 0 d_M_init_221 rfl rfl ?_
  refine Z_bipush (v := 60) C.z d_M_init_222 (by decide) ?_
  refine Y_newa (atype := .int) (t0 := 0) (N' := 60) (a0 := (60, .inl z0)) C rfl ac_int (by rw [w.2.1]; rfl) (fun C h => by cases h) rfl (by decide) (by decide) (by decide) ⟨Nat.le_of_ble_eq_true rfl, Nat.le_of_ble_eq_true rfl⟩ d_M_init_224 (fun C => ?_)
  have hX := hX.more 1 60
  generalize X28.more 1 60 = X29 at C hX ⊢
  refine Z_putF C.z C.2.2.2.2.2.1 31 tyXM (mem_l hh) (kE_at (mem_l hh) (by rw [va_up_ne _ _ (by omega)]; exact FM_h)) (by rw [w.1]; rfl) in_M tyXM_ok nmXM (by decide) fl_M_95 rfl rfl rfl (tyXM_ok 31 (by decide)) rfl rfl (Nat.le_of_ble_eq_true rfl) (kE_of (FM_s 28 hhb)) d_M_init_226 ?_
  have C : iC X29 G b 29 705 b_M_init 2 y_M_init.cls 1 12 37 3465 := C
  show Z X29 (G.ext b 29) (iA G b) 2 (iQ X G b 37 3465 (FG cu h b F (msf 5) (plf 15))) (kE (G.ext b 29).2.2.2 (FM cu h b F 29)) 229 [(0, .ref h)] []
  refine Z_aload_n C.z 0 d_M_init_229 rfl rfl ?_
  refine Z_bipush (v := 60) C.z d_M_init_230 (by decide) ?_
  refine Y_newa (atype := .int) (t0 := 0) (N' := 60) (a0 := (60, .inl z0)) C rfl ac_int (by rw [w.2.1]; rfl) (fun C h => by cases h) rfl (by decide) (by decide) (by decide) ⟨Nat.le_of_ble_eq_true rfl, Nat.le_of_ble_eq_true rfl⟩ d_M_init_232 (fun C => ?_)
  have hX := hX.more 1 60
  generalize X29.more 1 60 = X30 at C hX ⊢
  refine Z_putF C.z C.2.2.2.2.2.1 32 tyXM (mem_l hh) (kE_at (mem_l hh) (by rw [va_up_ne _ _ (by omega)]; exact FM_h)) (by rw [w.1]; rfl) in_M tyXM_ok nmXM (by decide) fl_M_98 rfl rfl rfl (tyXM_ok 32 (by decide)) rfl rfl (Nat.le_of_ble_eq_true rfl) (kE_of (FM_s 29 hhb)) d_M_init_234 ?_
  have C : iC X30 G b 30 765 b_M_init 2 y_M_init.cls 1 12 37 3465 := C
  show Z X30 (G.ext b 30) (iA G b) 2 (iQ X G b 37 3465 (FG cu h b F (msf 5) (plf 15))) (kE (G.ext b 30).2.2.2 (FM cu h b F 30)) 237 [(0, .ref h)] []
  refine Z_aload_n C.z 0 d_M_init_237 rfl rfl ?_
  refine Z_bipush (v := 60) C.z d_M_init_238 (by decide) ?_
  refine Y_newa (atype := .int) (t0 := 0) (N' := 60) (a0 := (60, .inl z0)) C rfl ac_int (by rw [w.2.1]; rfl) (fun C h => by cases h) rfl (by decide) (by decide) (by decide) ⟨Nat.le_of_ble_eq_true rfl, Nat.le_of_ble_eq_true rfl⟩ d_M_init_240 (fun C => ?_)
  have hX := hX.more 1 60
  generalize X30.more 1 60 = X31 at C hX ⊢
  refine Z_putF C.z C.2.2.2.2.2.1 33 tyXM (mem_l hh) (kE_at (mem_l hh) (by rw [va_up_ne _ _ (by omega)]; exact FM_h)) (by rw [w.1]; rfl) in_M tyXM_ok nmXM (by decide) fl_M_101 rfl rfl rfl (tyXM_ok 33 (by decide)) rfl rfl (Nat.le_of_ble_eq_true rfl) (kE_of (FM_s 30 hhb)) d_M_init_242 ?_
  have C : iC X31 G b 31 825 b_M_init 2 y_M_init.cls 1 12 37 3465 := C
  show Z X31 (G.ext b 31) (iA G b) 2 (iQ X G b 37 3465 (FG cu h b F (msf 5) (plf 15))) (kE (G.ext b 31).2.2.2 (FM cu h b F 31)) 245 [(0, .ref h)] []
  refine Z_aload_n C.z 0 d_M_init_245 rfl rfl ?_
  refine Z_bipush (v := 60) C.z d_M_init_246 (by decide) ?_
  refine Y_newa (atype := .int) (t0 := 0) (N' := 60) (a0 := (60, .inl z0)) C rfl ac_int (by rw [w.2.1]; rfl) (fun C h => by cases h) rfl (by decide) (by decide) (by decide) ⟨Nat.le_of_ble_eq_true rfl, Nat.le_of_ble_eq_true rfl⟩ d_M_init_248 (fun C => ?_)
  have hX := hX.more 1 60
  generalize X31.more 1 60 = X32 at C hX ⊢
  refine Z_putF C.z C.2.2.2.2.2.1 34 tyXM (mem_l hh) (kE_at (mem_l hh) (by rw [va_up_ne _ _ (by omega)]; exact FM_h)) (by rw [w.1]; rfl) in_M tyXM_ok nmXM (by decide) fl_M_104 rfl rfl rfl (tyXM_ok 34 (by decide)) rfl rfl (Nat.le_of_ble_eq_true rfl) (kE_of (FM_s 31 hhb)) d_M_init_250 ?_
  have C : iC X32 G b 32 885 b_M_init 2 y_M_init.cls 1 12 37 3465 := C
  show Z X32 (G.ext b 32) (iA G b) 2 (iQ X G b 37 3465 (FG cu h b F (msf 5) (plf 15))) (kE (G.ext b 32).2.2.2 (FM cu h b F 32)) 253 [(0, .ref h)] []
  refine Z_aload_n C.z 0 d_M_init_253 rfl rfl ?_
  refine Z_bipush (v := 60) C.z d_M_init_254 (by decide) ?_
  refine Y_newa (atype := .int) (t0 := 0) (N' := 60) (a0 := (60, .inl z0)) C rfl ac_int (by rw [w.2.1]; rfl) (fun C h => by cases h) rfl (by decide) (by decide) (by decide) ⟨Nat.le_of_ble_eq_true rfl, Nat.le_of_ble_eq_true rfl⟩ d_M_init_256 (fun C => ?_)
  have hX := hX.more 1 60
  generalize X32.more 1 60 = X33 at C hX ⊢
  refine Z_putF C.z C.2.2.2.2.2.1 35 tyXM (mem_l hh) (kE_at (mem_l hh) (by rw [va_up_ne _ _ (by omega)]; exact FM_h)) (by rw [w.1]; rfl) in_M tyXM_ok nmXM (by decide) fl_M_107 rfl rfl rfl (tyXM_ok 35 (by decide)) rfl rfl (Nat.le_of_ble_eq_true rfl) (kE_of (FM_s 32 hhb)) d_M_init_258 ?_
  have C : iC X33 G b 33 945 b_M_init 2 y_M_init.cls 1 12 37 3465 := C
  show Z X33 (G.ext b 33) (iA G b) 2 (iQ X G b 37 3465 (FG cu h b F (msf 5) (plf 15))) (kE (G.ext b 33).2.2.2 (FM cu h b F 33)) 261 [(0, .ref h)] []
  refine Z_aload_n C.z 0 d_M_init_261 rfl rfl ?_
  refine Z_sipush (v := 2400) C.z d_M_init_262 (by decide) ?_
  refine Y_newa (atype := .int) (t0 := 0) (N' := 2400) (a0 := (2400, .inl z0)) C rfl ac_int (by rw [w.2.1]; rfl) (fun C h => by cases h) rfl (by decide) (by decide) (by decide) ⟨Nat.le_of_ble_eq_true rfl, Nat.le_of_ble_eq_true rfl⟩ d_M_init_265 (fun C => ?_)
  have hX := hX.more 1 2400
  generalize X33.more 1 2400 = X34 at C hX ⊢
  refine Z_putF C.z C.2.2.2.2.2.1 36 tyXM (mem_l hh) (kE_at (mem_l hh) (by rw [va_up_ne _ _ (by omega)]; exact FM_h)) (by rw [w.1]; rfl) in_M tyXM_ok nmXM (by decide) fl_M_110 rfl rfl rfl (tyXM_ok 36 (by decide)) rfl rfl (Nat.le_of_ble_eq_true rfl) (kE_of (FM_s 33 hhb)) d_M_init_267 ?_
  have C : iC X34 G b 34 3345 b_M_init 2 y_M_init.cls 1 12 37 3465 := C
  show Z X34 (G.ext b 34) (iA G b) 2 (iQ X G b 37 3465 (FG cu h b F (msf 5) (plf 15))) (kE (G.ext b 34).2.2.2 (FM cu h b F 34)) 270 [(0, .ref h)] []
  refine Z_aload_n C.z 0 d_M_init_270 rfl rfl ?_
  refine Z_bipush (v := 40) C.z d_M_init_271 (by decide) ?_
  refine Y_newa (atype := .int) (t0 := 0) (N' := 40) (a0 := (40, .inl z0)) C rfl ac_int (by rw [w.2.1]; rfl) (fun C h => by cases h) rfl (by decide) (by decide) (by decide) ⟨Nat.le_of_ble_eq_true rfl, Nat.le_of_ble_eq_true rfl⟩ d_M_init_273 (fun C => ?_)
  have hX := hX.more 1 40
  generalize X34.more 1 40 = X35 at C hX ⊢
  refine Z_putF C.z C.2.2.2.2.2.1 37 tyXM (mem_l hh) (kE_at (mem_l hh) (by rw [va_up_ne _ _ (by omega)]; exact FM_h)) (by rw [w.1]; rfl) in_M tyXM_ok nmXM (by decide) fl_M_113 rfl rfl rfl (tyXM_ok 37 (by decide)) rfl rfl (Nat.le_of_ble_eq_true rfl) (kE_of (FM_s 34 hhb)) d_M_init_275 ?_
  have C : iC X35 G b 35 3385 b_M_init 2 y_M_init.cls 1 12 37 3465 := C
  show Z X35 (G.ext b 35) (iA G b) 2 (iQ X G b 37 3465 (FG cu h b F (msf 5) (plf 15))) (kE (G.ext b 35).2.2.2 (FM cu h b F 35)) 278 [(0, .ref h)] []
  refine Z_aload_n C.z 0 d_M_init_278 rfl rfl ?_
  refine Z_bipush (v := 40) C.z d_M_init_279 (by decide) ?_
  refine Y_newa (atype := .int) (t0 := 0) (N' := 40) (a0 := (40, .inl z0)) C rfl ac_int (by rw [w.2.1]; rfl) (fun C h => by cases h) rfl (by decide) (by decide) (by decide) ⟨Nat.le_of_ble_eq_true rfl, Nat.le_of_ble_eq_true rfl⟩ d_M_init_281 (fun C => ?_)
  have hX := hX.more 1 40
  generalize X35.more 1 40 = X36 at C hX ⊢
  refine Z_putF C.z C.2.2.2.2.2.1 39 tyXM (mem_l hh) (kE_at (mem_l hh) (by rw [va_up_ne _ _ (by omega)]; exact FM_h)) (by rw [w.1]; rfl) in_M tyXM_ok nmXM (by decide) fl_M_116 rfl rfl rfl (tyXM_ok 39 (by decide)) rfl rfl (Nat.le_of_ble_eq_true rfl) (kE_of (FM_s 35 hhb)) d_M_init_283 ?_
  have C : iC X36 G b 36 3425 b_M_init 2 y_M_init.cls 1 12 37 3465 := C
  show Z X36 (G.ext b 36) (iA G b) 2 (iQ X G b 37 3465 (FG cu h b F (msf 5) (plf 15))) (kE (G.ext b 36).2.2.2 (FM cu h b F 36)) 286 [(0, .ref h)] []
  refine Z_aload_n C.z 0 d_M_init_286 rfl rfl ?_
  refine Z_bipush (v := 40) C.z d_M_init_287 (by decide) ?_
  refine Y_newa (atype := .int) (t0 := 0) (N' := 40) (a0 := (40, .inl z0)) C rfl ac_int (by rw [w.2.1]; rfl) (fun C h => by cases h) rfl (by decide) (by decide) (by decide) ⟨Nat.le_of_ble_eq_true rfl, Nat.le_of_ble_eq_true rfl⟩ d_M_init_289 (fun C => ?_)
  have hX := hX.more 1 40
  generalize X36.more 1 40 = X37 at C hX ⊢
  refine Z_putF C.z C.2.2.2.2.2.1 41 tyXM (mem_l hh) (kE_at (mem_l hh) (by rw [va_up_ne _ _ (by omega)]; exact FM_h)) (by rw [w.1]; rfl) in_M tyXM_ok nmXM (by decide) fl_M_119 rfl rfl rfl (tyXM_ok 41 (by decide)) rfl rfl (Nat.le_of_ble_eq_true rfl) (kE_of (FM_s 36 hhb)) d_M_init_291 ?_
  have C : iC X37 G b 37 3465 b_M_init 2 y_M_init.cls 1 12 37 3465 := C
  show Z X37 (G.ext b 37) (iA G b) 2 (iQ X G b 37 3465 (FG cu h b F (msf 5) (plf 15))) (kE (G.ext b 37).2.2.2 (FM cu h b F 37)) 294 [(0, .ref h)] []
  refine Z_imp (kE_F (FG_in hhb)) ?_
  refine Z_iconst (v := 0) C.z d_M_init_294 (by decide) ?_
  refine Z_istore_n C.z d_M_init_295 rfl (by decide) rfl ?_
  have hb0 : b ∈ (G.ext b 37).2.2.2 := mem_r (i := 0) (by decide)
  have hb8 : b + 8 ∈ (G.ext b 37).2.2.2 := mem_r (by decide)
  have L2 : ∀ m k, k + m = 15 → Z X37 (G.ext b 37) (iA G b) 2 (iQ X G b 37 3465 (FG cu h b F (msf 5) (plf 15))) (kE (G.ext b 37).2.2.2 (FG cu h b F (msf 5) (plf k))) 398 [(1, .int (nI k)), (0, .ref h)] [] := by
    intro m
    induction m with
    | zero =>
      intro k hk
      obtain rfl : k = 15 := by omega
      refine Z_iload_n C.z 0 d_M_init_398 rfl rfl ?_
      refine Z_bipush (v := 15) C.z d_M_init_399 (by decide) ?_
      refine Z_icmp_ge (tgt := 417) C.z d_M_init_401 (by decide) (fun _ => ?_) (fun c => absurd (by decide) c)
      exact Y_vret' hX C rfl rfl hr d_M_init_417 (fun a _ => rfl)
    | succ m ih =>
      intro k hk
      refine Z_iload_n C.z 0 d_M_init_398 rfl rfl ?_
      refine Z_bipush (v := 15) C.z d_M_init_399 (by decide) ?_
      refine Z_icmp_ge (tgt := 417) C.z d_M_init_401 (by decide) (fun c => absurd c (nI_ge (a := k) (b := 15) (by omega) (by decide))) (fun c => ?_)
      refine Z_aload_n C.z 1 d_M_init_404 rfl rfl ?_
      refine Z_get C.z 10 (mem_l hh) (kE_at (mem_l hh) (FG_h hhb)) (by rw [w.1]; rfl) in_M (by decide) fl_M_34 rfl rfl d_M_init_405 ?_
      refine Z_iload_n C.z 0 d_M_init_408 rfl rfl ?_
      refine Z_iconst (v := -1) C.z d_M_init_409 (by decide) ?_
      refine Z_iast (t0 := 0) (K' := kE (G.ext b 37).2.2.2 (FG cu h b F (msf 5) (plf (k + 1)))) C.z hb8 (kE_at hb8 FG_8) (by rw [w.2.1]; rfl) (vp_in_nI (by omega) (by decide)) (by rw [nI_clamp (by omega), plf_s]; exact kE_of (FG_u8 _)) d_M_init_410 ?_
      refine Z_iinc 0 C.z d_M_init_411 rfl (nI_succ k).symm (by decide) rfl ?_
      refine Z_goto (tgt := 398) C.z d_M_init_414 (by decide) ?_
      exact ih (k + 1) (by omega)
  have L1 : ∀ m r, r + m = 5 → Z X37 (G.ext b 37) (iA G b) 2 (iQ X G b 37 3465 (FG cu h b F (msf 5) (plf 15))) (kE (G.ext b 37).2.2.2 (FG cu h b F (msf r) z0)) 296 [(1, .int (nI r)), (0, .ref h)] [] := by
    intro m
    induction m with
    | zero =>
      intro r hk
      obtain rfl : r = 5 := by omega
      refine Z_iload_n C.z 0 d_M_init_296 rfl rfl ?_
      refine Z_iconst (v := 5) C.z d_M_init_297 (by decide) ?_
      refine Z_icmp_ge (tgt := 396) C.z d_M_init_298 (by decide) (fun _ => ?_) (fun c => absurd (by decide) c)
      refine Z_iconst (v := 0) C.z d_M_init_396 (by decide) ?_
      refine Z_istore_n C.z d_M_init_397 rfl (by decide) rfl ?_
      refine Z_imp (kE_F (by rw [← plf_0])) (L2 15 0 (by omega))
    | succ m ih =>
      intro r hk
      refine Z_iload_n C.z 0 d_M_init_296 rfl rfl ?_
      refine Z_iconst (v := 5) C.z d_M_init_297 (by decide) ?_
      refine Z_icmp_ge (tgt := 396) C.z d_M_init_298 (by decide) (fun c => absurd c (nI_ge (a := r) (b := 5) (by omega) (by decide))) (fun c => ?_)
      refine Z_aload_n C.z 1 d_M_init_301 rfl rfl ?_
      refine Z_get C.z 2 (mem_l hh) (kE_at (mem_l hh) (FG_h hhb)) (by rw [w.1]; rfl) in_M (by decide) fl_M_7 rfl rfl d_M_init_302 ?_
      refine Z_bipush (v := 10) C.z d_M_init_305 (by decide) ?_
      refine Z_iload_n C.z 0 d_M_init_307 rfl rfl ?_
      refine Z_imul C.z d_M_init_308 ?_
      refine Z_bipush (v := 100) C.z d_M_init_309 (by decide) ?_
      refine M_ist C.z w.2.1 hb0 (10 * r) (by omega) (ixm0 r) d_M_init_311 ?_
      refine Z_aload_n C.z 1 d_M_init_312 rfl rfl ?_
      refine Z_get C.z 2 (mem_l hh) (kE_at (mem_l hh) (FG_h hhb)) (by rw [w.1]; rfl) in_M (by decide) fl_M_7 rfl rfl d_M_init_313 ?_
      refine Z_bipush (v := 10) C.z d_M_init_316 (by decide) ?_
      refine Z_iload_n C.z 0 d_M_init_318 rfl rfl ?_
      refine Z_imul C.z d_M_init_319 ?_
      refine Z_iconst (v := 1) C.z d_M_init_320 (by decide) ?_
      refine Z_iadd C.z d_M_init_321 ?_
      refine Z_bipush (v := 100) C.z d_M_init_322 (by decide) ?_
      refine M_ist C.z w.2.1 hb0 (10 * r + 1) (by omega) (ix10 r 1) d_M_init_324 ?_
      refine Z_aload_n C.z 1 d_M_init_325 rfl rfl ?_
      refine Z_get C.z 2 (mem_l hh) (kE_at (mem_l hh) (FG_h hhb)) (by rw [w.1]; rfl) in_M (by decide) fl_M_7 rfl rfl d_M_init_326 ?_
      refine Z_bipush (v := 10) C.z d_M_init_329 (by decide) ?_
      refine Z_iload_n C.z 0 d_M_init_331 rfl rfl ?_
      refine Z_imul C.z d_M_init_332 ?_
      refine Z_iconst (v := 2) C.z d_M_init_333 (by decide) ?_
      refine Z_iadd C.z d_M_init_334 ?_
      refine Z_iconst (v := 1) C.z d_M_init_335 (by decide) ?_
      refine M_ist C.z w.2.1 hb0 (10 * r + 2) (by omega) (ix10 r 2) d_M_init_336 ?_
      refine Z_aload_n C.z 1 d_M_init_337 rfl rfl ?_
      refine Z_get C.z 2 (mem_l hh) (kE_at (mem_l hh) (FG_h hhb)) (by rw [w.1]; rfl) in_M (by decide) fl_M_7 rfl rfl d_M_init_338 ?_
      refine Z_bipush (v := 10) C.z d_M_init_341 (by decide) ?_
      refine Z_iload_n C.z 0 d_M_init_343 rfl rfl ?_
      refine Z_imul C.z d_M_init_344 ?_
      refine Z_iconst (v := 3) C.z d_M_init_345 (by decide) ?_
      refine Z_iadd C.z d_M_init_346 ?_
      refine Z_iconst (v := 1) C.z d_M_init_347 (by decide) ?_
      refine M_ist C.z w.2.1 hb0 (10 * r + 3) (by omega) (ix10 r 3) d_M_init_348 ?_
      refine Z_aload_n C.z 1 d_M_init_349 rfl rfl ?_
      refine Z_get C.z 2 (mem_l hh) (kE_at (mem_l hh) (FG_h hhb)) (by rw [w.1]; rfl) in_M (by decide) fl_M_7 rfl rfl d_M_init_350 ?_
      refine Z_bipush (v := 10) C.z d_M_init_353 (by decide) ?_
      refine Z_iload_n C.z 0 d_M_init_355 rfl rfl ?_
      refine Z_imul C.z d_M_init_356 ?_
      refine Z_iconst (v := 4) C.z d_M_init_357 (by decide) ?_
      refine Z_iadd C.z d_M_init_358 ?_
      refine Z_ldc C.z co_M_122 d_M_init_359 ?_
      refine Z_iload_n C.z 0 d_M_init_361 rfl rfl ?_
      refine Z_iadd C.z d_M_init_362 ?_
      refine M_ist C.z w.2.1 hb0 (10 * r + 4) (by omega) (ix10 r 4) d_M_init_363 ?_
      refine Z_aload_n C.z 1 d_M_init_364 rfl rfl ?_
      refine Z_get C.z 2 (mem_l hh) (kE_at (mem_l hh) (FG_h hhb)) (by rw [w.1]; rfl) in_M (by decide) fl_M_7 rfl rfl d_M_init_365 ?_
      refine Z_bipush (v := 10) C.z d_M_init_368 (by decide) ?_
      refine Z_iload_n C.z 0 d_M_init_370 rfl rfl ?_
      refine Z_imul C.z d_M_init_371 ?_
      refine Z_iconst (v := 5) C.z d_M_init_372 (by decide) ?_
      refine Z_iadd C.z d_M_init_373 ?_
      refine Z_ldc C.z co_M_123 d_M_init_374 ?_
      refine M_ist C.z w.2.1 hb0 (10 * r + 5) (by omega) (ix10 r 5) d_M_init_376 ?_
      refine Z_aload_n C.z 1 d_M_init_377 rfl rfl ?_
      refine Z_get C.z 2 (mem_l hh) (kE_at (mem_l hh) (FG_h hhb)) (by rw [w.1]; rfl) in_M (by decide) fl_M_7 rfl rfl d_M_init_378 ?_
      refine Z_bipush (v := 10) C.z d_M_init_381 (by decide) ?_
      refine Z_iload_n C.z 0 d_M_init_383 rfl rfl ?_
      refine Z_imul C.z d_M_init_384 ?_
      refine Z_bipush (v := 6) C.z d_M_init_385 (by decide) ?_
      refine Z_iadd C.z d_M_init_387 ?_
      refine Z_iconst (v := 1) C.z d_M_init_388 (by decide) ?_
      refine M_ist C.z w.2.1 hb0 (10 * r + 6) (by omega) (ix10 r 6) d_M_init_389 ?_
      refine Z_imp (kE_F (by rw [msf_s])) ?_
      refine Z_iinc 0 C.z d_M_init_390 rfl (nI_succ r).symm (by decide) rfl ?_
      refine Z_goto (tgt := 296) C.z d_M_init_393 (by decide) ?_
      exact ih (r + 1) (by omega)
  exact Z_imp (kE_F (by rw [← msf_0])) (L1 5 0 (by omega))
