/-! the router -/
theorem nI_mulN (a c : Nat) : nI a * nI c = nI (a * c) := by
  unfold nI
  exact (Int32.ofNat_mul a c).symm
theorem nI_ses (i k : Nat) : (16 : Int32) * nI i + nI k + 1 = nI (16 * i + k + 1) := by
  rw [show (16 : Int32) = nI 16 from rfl, nI_mulN, nI_add, nI_1]
def sef (i : Nat) : Nat → Int32 := upd (upd (upd (upd (upd (upd (upd (upd (upd (upd z0 0 100) 1 100) 2 1) 3 1) 4 (167772160 + nI i)) 5 167772400) 6 1) 7 0) 8 0) 9 0
def syf (b k : Nat) : Nat → Option Nat := fun j => if j < k then some (b + (2 + j)) else none
theorem syf_s (b k : Nat) : va_up (syf b k) k (some (b + (2 + k))) = syf b (k + 1) := by
  funext j
  unfold syf va_up
  dsimp only
  by_cases h : j = k
  · rw [if_pos h, if_pos (by omega), h]
  · rw [if_neg h]
    by_cases h2 : j < k
    · rw [if_pos h2, if_pos (by omega)]
    · rw [if_neg h2, if_neg (by omega)]
theorem syf_0 (b : Nat) : syf b 0 = fun _ => none := by
  funext j
  unfold syf
  rw [if_neg (by omega)]
def FR (cs : zCs) (h b i : Nat) (F : Nat → va_E) (k ks : Nat) (hc : va_E) : Nat → va_E := fun a =>
  if a = h then hc else if a = b then eI cs.1 10 (sef i) else if a = b + 1 then eQ cs.2.2.2 5 (syf b ks) else if b + 2 ≤ a ∧ a < b + 2 + k then eSe (nI (16 * i + (a - b - 2) + 1)) (nI (a - b - 2)) else F a
section FRs
variable {cs : zCs} {h b i : Nat} {F : Nat → va_E} {k ks : Nat} {hc : va_E}
theorem FR_h : FR cs h b i F k ks hc h = hc := by unfold FR; rw [if_pos rfl]
theorem FR_1 (hb : h < b) : FR cs h b i F k ks hc (b + 1) = eQ cs.2.2.2 5 (syf b ks) := by unfold FR; rw [if_neg (by omega), if_neg (by omega), if_pos rfl]
theorem FR_u1 (hb : h < b) : va_up (FR cs h b i F k ks hc) (b + 1) (eQ cs.2.2.2 5 (va_up (syf b ks) ks (some (b + (2 + ks))))) = FR cs h b i F k (ks + 1) hc := by
  funext a
  by_cases h1 : a = b + 1
  · subst h1; rw [va_up_self, FR_1 hb, syf_s]
  · rw [va_up_ne _ _ h1]; unfold FR
    by_cases h2 : a = h
    · rw [if_pos h2, if_pos h2]
    · rw [if_neg h2, if_neg h2]
      by_cases h3 : a = b
      · rw [if_pos h3, if_pos h3]
      · rw [if_neg h3, if_neg h3, if_neg h1, if_neg h1]
theorem FR_se (hb : h < b) (x : va_E) : va_up (va_up (FR cs h b i F k ks hc) (b + (2 + k)) x) (b + (2 + k)) (eSe (nI (16 * i + k + 1)) (nI k)) = FR cs h b i F (k + 1) ks hc := by
  rw [va_up2]
  funext a
  by_cases h1 : a = b + (2 + k)
  · subst h1
    rw [va_up_self]
    unfold FR
    rw [if_neg (by omega), if_neg (by omega), if_neg (by omega), if_pos (by omega), show b + (2 + k) - b - 2 = k by omega]
  · rw [va_up_ne _ _ h1]
    unfold FR
    by_cases h3 : a = h
    · rw [if_pos h3, if_pos h3]
    · rw [if_neg h3, if_neg h3]
      by_cases h4 : a = b
      · rw [if_pos h4, if_pos h4]
      · rw [if_neg h4, if_neg h4]
        by_cases h5 : a = b + 1
        · rw [if_pos h5, if_pos h5]
        · rw [if_neg h5, if_neg h5]
          by_cases h6 : b + 2 ≤ a ∧ a < b + 2 + k
          · rw [if_pos h6, if_pos (show b + 2 ≤ a ∧ a < b + 2 + (k + 1) by omega)]
          · rw [if_neg h6, if_neg (show ¬ (b + 2 ≤ a ∧ a < b + 2 + (k + 1)) by omega)]
theorem FR_in (hb : h < b) (x y : va_E) : va_up (va_up (va_up (va_up (va_up F h x) b (eI cs.1 10 (sef i))) h y) (b + 1) (eQ cs.2.2.2 5 (fun _ => none))) h hc = FR cs h b i F 0 0 hc := by
  funext a
  by_cases h1 : a = h
  · subst h1; rw [va_up_self, FR_h]
  · rw [va_up_ne _ _ h1]
    by_cases h2 : a = b + 1
    · subst h2; rw [va_up_self, FR_1 hb, syf_0]
    · rw [va_up_ne _ _ h2, va_up_ne _ _ h1]
      by_cases h3 : a = b
      · subst h3; rw [va_up_self]; unfold FR; rw [if_neg h1, if_pos rfl]
      · rw [va_up_ne _ _ h3, va_up_ne _ _ h1]
        unfold FR
        rw [if_neg h1, if_neg h3, if_neg h2, if_neg (by omega)]
end FRs
set_option maxRecDepth 100000 in
set_option maxHeartbeats 4000000 in
theorem i_R {l : Launch} {G : zG} {cs : zCs} (w : iW G cs) (F : Nat → va_E) (b h : Nat) (hh : h ∈ G.2.2.2) (hhb : h < b) (hlt : ∀ q ∈ G.2.2.2, q < b) (i wq : Nat) (hF : F h = eRo 0 .null .null .null) : iF l y_R_init b_R_init 4 2 34 7 110 G b [.ref h, .int (nI i), .ref wq] F (FR cs h b i F 5 5 (eRo (nI i) (.ref wq) (.ref b) (.ref (b + 1)))) := by
  refine iF.ofZ (by decide) rfl w.2.2 (Nat.le_of_ble_eq_true rfl) (fun X hXl hr C => ?_)
  subst hXl
  have hne : h ≠ b := by omega
  show Z X (G.ext b 0) (iA G b) 4 _ (kE _ F) 0 [(0, .ref h), (1, .int (nI i)), (2, .ref wq)] []
  refine Z_aload_n C.z 0 d_R_init_0 rfl rfl ?_
  refine Z_objInit C.z mo_R ob_i ob_c ⟨Nat.le_of_ble_eq_true rfl, Nat.le_of_ble_eq_true rfl⟩ d_R_init_1 ?_
  refine Z_aload_n C.z 0 d_R_init_4 rfl rfl ?_
  refine Z_iload_n C.z 1 d_R_init_5 rfl rfl ?_
  refine Z_putF C.z C.2.2.2.2.2.1 0 tyX1 (mem_l hh) (kE_at (mem_l hh) hF) (by rw [w.1]; rfl) in_R tyX1_ok nmX1 (by decide) fl_R_9 rfl rfl rfl (tyX1_ok 0 (by decide)) rfl rfl (Nat.le_of_ble_eq_true rfl) kE_up d_R_init_6 ?_
  refine Z_aload_n C.z 0 d_R_init_9 rfl rfl ?_
  refine Z_aload_n C.z 2 d_R_init_10 rfl rfl ?_
  refine Z_putF C.z C.2.2.2.2.2.1 1 tyX1 (mem_l hh) (kE_at (mem_l hh) (va_up_self _ _ _)) (by rw [w.1]; rfl) in_R tyX1_ok nmX1 (by decide) fl_R_15 rfl rfl rfl (tyX1_ok 1 (by decide)) rfl rfl (Nat.le_of_ble_eq_true rfl) (kE_of (va_up2 _ _ _ _)) d_R_init_11 ?_
  refine Z_aload_n C.z 0 d_R_init_14 rfl rfl ?_
  refine Z_bipush (v := 10) C.z d_R_init_15 (by decide) ?_
  refine Y_newa (atype := .int) (t0 := 0) (N' := 10) (a0 := (10, .inl z0)) C rfl ac_int (by rw [w.2.1]; rfl) (fun C h => by cases h) rfl (by decide) (by decide) (by decide) ⟨Nat.le_of_ble_eq_true rfl, Nat.le_of_ble_eq_true rfl⟩ d_R_init_17 (fun C => ?_)
  have hX1 := (Xm.refl X).more 1 10
  generalize X.more 1 10 = X1 at C hX1 ⊢
  have hmb : b + 0 ∈ (G.ext b (0 + 1)).2.2.2 := mem_r (by decide)
  refine Z_dup C.z d_R_init_19 rfl ?_
  refine Z_iconst (v := 0) C.z d_R_init_20 (by decide) ?_
  refine Z_bipush (v := 100) C.z d_R_init_21 (by decide) ?_
  refine Y_ist (t0 := 0) C.z 0 (by decide) hmb (by rw [w.2.1]; rfl) (by unfold vp_in; decide) d_R_init_23 ?_
  refine Z_dup C.z d_R_init_24 rfl ?_
  refine Z_iconst (v := 1) C.z d_R_init_25 (by decide) ?_
  refine Z_bipush (v := 100) C.z d_R_init_26 (by decide) ?_
  refine Y_ist (t0 := 0) C.z 1 (by decide) hmb (by rw [w.2.1]; rfl) (by unfold vp_in; decide) d_R_init_28 ?_
  refine Z_dup C.z d_R_init_29 rfl ?_
  refine Z_iconst (v := 2) C.z d_R_init_30 (by decide) ?_
  refine Z_iconst (v := 1) C.z d_R_init_31 (by decide) ?_
  refine Y_ist (t0 := 0) C.z 2 (by decide) hmb (by rw [w.2.1]; rfl) (by unfold vp_in; decide) d_R_init_32 ?_
  refine Z_dup C.z d_R_init_33 rfl ?_
  refine Z_iconst (v := 3) C.z d_R_init_34 (by decide) ?_
  refine Z_iconst (v := 1) C.z d_R_init_35 (by decide) ?_
  refine Y_ist (t0 := 0) C.z 3 (by decide) hmb (by rw [w.2.1]; rfl) (by unfold vp_in; decide) d_R_init_36 ?_
  refine Z_dup C.z d_R_init_37 rfl ?_
  refine Z_iconst (v := 4) C.z d_R_init_38 (by decide) ?_
  refine Z_ldc C.z co_R_19 d_R_init_39 ?_
  refine Z_iload_n C.z 1 d_R_init_41 rfl rfl ?_
  refine Z_iadd C.z d_R_init_42 ?_
  refine Y_ist (t0 := 0) C.z 4 (by decide) hmb (by rw [w.2.1]; rfl) (by unfold vp_in; decide) d_R_init_43 ?_
  refine Z_dup C.z d_R_init_44 rfl ?_
  refine Z_iconst (v := 5) C.z d_R_init_45 (by decide) ?_
  refine Z_ldc C.z co_R_20 d_R_init_46 ?_
  refine Y_ist (t0 := 0) C.z 5 (by decide) hmb (by rw [w.2.1]; rfl) (by unfold vp_in; decide) d_R_init_48 ?_
  refine Z_dup C.z d_R_init_49 rfl ?_
  refine Z_bipush (v := 6) C.z d_R_init_50 (by decide) ?_
  refine Z_iconst (v := 1) C.z d_R_init_52 (by decide) ?_
  refine Y_ist (t0 := 0) C.z 6 (by decide) hmb (by rw [w.2.1]; rfl) (by unfold vp_in; decide) d_R_init_53 ?_
  refine Z_dup C.z d_R_init_54 rfl ?_
  refine Z_bipush (v := 7) C.z d_R_init_55 (by decide) ?_
  refine Z_iconst (v := 0) C.z d_R_init_57 (by decide) ?_
  refine Y_ist (t0 := 0) C.z 7 (by decide) hmb (by rw [w.2.1]; rfl) (by unfold vp_in; decide) d_R_init_58 ?_
  refine Z_dup C.z d_R_init_59 rfl ?_
  refine Z_bipush (v := 8) C.z d_R_init_60 (by decide) ?_
  refine Z_iconst (v := 0) C.z d_R_init_62 (by decide) ?_
  refine Y_ist (t0 := 0) C.z 8 (by decide) hmb (by rw [w.2.1]; rfl) (by unfold vp_in; decide) d_R_init_63 ?_
  refine Z_dup C.z d_R_init_64 rfl ?_
  refine Z_bipush (v := 9) C.z d_R_init_65 (by decide) ?_
  refine Z_iconst (v := 0) C.z d_R_init_67 (by decide) ?_
  refine Y_ist (t0 := 0) C.z 9 (by decide) hmb (by rw [w.2.1]; rfl) (by unfold vp_in; decide) d_R_init_68 ?_
  refine Z_putF C.z C.2.2.2.2.2.1 2 tyX1 (mem_l hh) (kE_at (mem_l hh) (by rw [va_up_ne _ _ (show h ≠ b + 0 by omega), va_up_self])) (by rw [w.1]; rfl) in_R tyX1_ok nmX1 (by decide) fl_R_21 rfl rfl rfl (tyX1_ok 2 (by decide)) rfl rfl (Nat.le_of_ble_eq_true rfl) kE_up d_R_init_69 ?_
  refine Z_aload_n C.z 0 d_R_init_72 rfl rfl ?_
  refine Z_iconst (v := 5) C.z d_R_init_73 (by decide) ?_
  refine Y_newq (t0 := 3) (N' := 5) C kl_R_25 C.2.2.2.2.2.2.2.2.2.2.2.2.2.2 (by rw [w.2.1]; rfl) (by decide) (by decide) (by decide) ⟨Nat.le_of_ble_eq_true rfl, Nat.le_of_ble_eq_true rfl⟩ d_R_init_74 (fun C => ?_)
  have hX2 := hX1.more 1 5
  generalize X1.more 1 5 = X2 at C hX2 ⊢
  refine Z_putF C.z C.2.2.2.2.2.1 3 tyX1 (mem_l hh) (kE_at (mem_l hh) (by rw [va_up_ne _ _ (show h ≠ b + (0 + 1) by omega), va_up_self])) (by rw [w.1]; rfl) in_R tyX1_ok nmX1 (by decide) fl_R_27 rfl rfl rfl (tyX1_ok 3 (by decide)) rfl rfl (Nat.le_of_ble_eq_true rfl) (kE_of (FR_in hhb _ _)) d_R_init_77 ?_
  refine Z_iconst (v := 0) C.z d_R_init_80 (by decide) ?_
  refine Z_istore_n C.z d_R_init_81 rfl (by decide) rfl ?_
  have L2 : ∀ m k X', Xm X X' → iC X' G b (2 + k) (15 + 19 * k) b_R_init 4 y_R_init.cls 2 34 7 110 → k + m = 5 → Z X' (G.ext b (2 + k)) (iA G b) 4 (iQ X G b 7 110 (FR cs h b i F 5 5 (eRo (nI i) (.ref wq) (.ref b) (.ref (b + 1))))) (kE (G.ext b (2 + k)).2.2.2 (FR cs h b i F k k (eRo (nI i) (.ref wq) (.ref b) (.ref (b + 1))))) 82 [(3, .int (nI k)), (0, .ref h), (1, .int (nI i)), (2, .ref wq)] [] := by
    intro m
    induction m with
    | zero =>
      intro k X' hX C hk
      obtain rfl : k = 5 := by omega
      refine Z_iload_n C.z 0 d_R_init_82 rfl rfl ?_
      refine Z_iconst (v := 5) C.z d_R_init_83 (by decide) ?_
      refine Z_icmp_ge (tgt := 115) C.z d_R_init_84 (by decide) (fun _ => ?_) (fun c => absurd (by decide) c)
      exact Y_vret' hX C rfl rfl hr d_R_init_115 (fun a _ => rfl)
    | succ m ih =>
      intro k X' hX C hk
      refine Z_iload_n C.z 0 d_R_init_82 rfl rfl ?_
      refine Z_iconst (v := 5) C.z d_R_init_83 (by decide) ?_
      refine Z_icmp_ge (tgt := 115) C.z d_R_init_84 (by decide) (fun c => absurd c (nI_ge (a := k) (b := 5) (by omega) (by decide))) (fun c => ?_)
      refine Z_aload_n C.z 1 d_R_init_87 rfl rfl ?_
      refine Z_get C.z 3 (mem_l hh) (kE_at (mem_l hh) FR_h) (by rw [w.1]; rfl) in_R (by decide) fl_R_27 rfl rfl d_R_init_88 ?_
      refine Z_iload_n C.z 0 d_R_init_91 rfl rfl ?_
      refine Y_new (ci := 2) (N := 19) C tyX2 tyX2_ok in_S kl_R_25 im_S iz_S (by rw [w.1]; rfl) df_S ⟨by omega, by omega⟩ d_R_init_92 (fun C => ?_)
      refine Z_dup C.z d_R_init_95 rfl ?_
      refine Z_bipush (v := 16) C.z d_R_init_96 (by decide) ?_
      refine Z_iload_n C.z 2 d_R_init_98 rfl rfl ?_
      refine Z_imul C.z d_R_init_99 ?_
      refine Z_iload_n C.z 0 d_R_init_100 rfl rfl ?_
      refine Z_iadd C.z d_R_init_101 ?_
      refine Z_iconst (v := 1) C.z d_R_init_102 (by decide) ?_
      refine Z_iadd C.z d_R_init_103 ?_
      refine Z_iload_n C.z 0 d_R_init_104 rfl rfl ?_
      rw [nI_ses]
      refine Y_callI (As := [.int (nI (16 * i + k + 1)), .int (nI k)]) C mk_S ml_R_31 (i_S (w.ext hlt _) _ _ _ (mem_r (by omega)) _ _ (va_up_self _ _ _)) ⟨Nat.le_of_ble_eq_true rfl, Nat.le_of_ble_eq_true rfl⟩ ⟨by omega, by omega⟩ rfl rfl (Nat.le_of_ble_eq_true rfl) d_R_init_105 (fun C => ?_)
      refine Z_imp (kE_F (FR_se hhb _)) ?_
      refine Z_aast (t0 := 3) (ci := 2) (r := (RX2, TX2, 19)) (K' := kE (G.ext b (2 + k + 1 + 0)).2.2.2 (FR cs h b i F (k + 1) (k + 1) (eRo (nI i) (.ref wq) (.ref b) (.ref (b + 1))))) C.z (mem_r (by omega)) (kE_at (mem_r (by omega)) (FR_1 hhb)) (mem_r (by omega)) (kE_at (mem_r (by omega)) (by unfold FR; rw [if_neg (by omega), if_neg (by omega), if_neg (by omega), if_pos (by omega)])) (by rw [w.2.1]; rfl) (by rw [w.1]; rfl) (vp_in_nI (by omega) (by decide)) (by rw [nI_clamp (by omega)]; exact kE_of (FR_u1 hhb)) d_R_init_108 ?_
      refine Z_iinc 0 C.z d_R_init_109 rfl (nI_succ k).symm (by decide) rfl ?_
      refine Z_goto (tgt := 82) C.z d_R_init_112 (by decide) ?_
      have hXn := (hX.more 1 19).more 0 0
      generalize (X'.more 1 19).more 0 0 = Xn at C hXn ⊢
      have e1 : 2 + k + 1 + 0 = 2 + (k + 1) := by omega
      have e2 : 15 + 19 * k + 19 + 0 = 15 + 19 * (k + 1) := by omega
      rw [e1, e2] at C
      rw [e1]
      exact ih (k + 1) Xn hXn C (by omega)
  exact L2 5 0 X2 hX2 C (by omega)
