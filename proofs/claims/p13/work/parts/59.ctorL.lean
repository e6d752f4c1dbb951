/-! the whole object: x its address, b = x + 1 the first cell that its constructor makes -/
def ryf (b k : Nat) : Nat → Option Nat := fun j => if j < k then some (b + (128 + 8 * j)) else none
theorem ryf_s (b k : Nat) : va_up (ryf b k) k (some (b + (128 + 8 * k))) = ryf b (k + 1) := by
  funext j
  unfold ryf va_up
  dsimp only
  by_cases h : j = k
  · rw [if_pos h, if_pos (by omega), h]
  · rw [if_neg h]
    by_cases h2 : j < k
    · rw [if_pos h2, if_pos (by omega)]
    · rw [if_neg h2, if_neg (by omega)]
theorem ryf_0 (b : Nat) : ryf b 0 = fun _ => none := by
  funext j
  unfold ryf
  rw [if_neg (by omega)]
/-- the cell at place m of router i's eight, its first at q -/
def rcell (cs : zCs) (wq i m q : Nat) : va_E := if m = 0 then eRo (nI i) (.ref wq) (.ref (q + 1)) (.ref (q + 2)) else if m = 1 then eI cs.1 10 (sef i) else if m = 2 then eQ cs.2.2.2 5 (syf (q + 1) 5) else eSe (nI (16 * i + (m - 3) + 1)) (nI (m - 3))
def FL (cs : zCs) (h b : Nat) (F : Nat → va_E) (k kr : Nat) (hc : va_E) : Nat → va_E := fun a =>
  if a = h then hc else if a = b + 127 then eQ cs.2.2.1 5 (ryf b kr) else if b + 128 ≤ a ∧ a < b + 128 + 8 * k then rcell cs b ((a - (b + 128)) / 8) ((a - (b + 128)) % 8) (b + (128 + 8 * ((a - (b + 128)) / 8))) else F a
section FLs
variable {cs : zCs} {h b : Nat} {F : Nat → va_E} {k kr : Nat} {hc : va_E}
theorem FL_h : FL cs h b F k kr hc h = hc := by unfold FL; rw [if_pos rfl]
theorem FL_1 (hb : h < b) : FL cs h b F k kr hc (b + 127) = eQ cs.2.2.1 5 (ryf b kr) := by unfold FL; rw [if_neg (by omega), if_pos rfl]
theorem FL_uh (hc' : va_E) : va_up (FL cs h b F k kr hc) h hc' = FL cs h b F k kr hc' := by
  funext a
  by_cases h1 : a = h
  · subst h1; rw [va_up_self, FL_h]
  · rw [va_up_ne _ _ h1]; unfold FL; rw [if_neg h1, if_neg h1]
theorem FL_u1 (hb : h < b) : va_up (FL cs h b F k kr hc) (b + 127) (eQ cs.2.2.1 5 (va_up (ryf b kr) kr (some (b + (128 + 8 * kr))))) = FL cs h b F k (kr + 1) hc := by
  funext a
  by_cases h1 : a = b + 127
  · subst h1; rw [va_up_self, FL_1 hb, ryf_s]
  · rw [va_up_ne _ _ h1]; unfold FL
    by_cases h2 : a = h
    · rw [if_pos h2, if_pos h2]
    · rw [if_neg h2, if_neg h2, if_neg h1, if_neg h1]
theorem FL_in (hb : h < b) (hF : F h = hc) : va_up F (b + 127) (eQ cs.2.2.1 5 (fun _ => none)) = FL cs h b F 0 0 hc := by
  funext a
  by_cases h1 : a = b + 127
  · subst h1; rw [va_up_self, FL_1 hb, ryf_0]
  · rw [va_up_ne _ _ h1]; unfold FL
    by_cases h2 : a = h
    · rw [if_pos h2, h2, hF]
    · rw [if_neg h2, if_neg h1, if_neg (by omega)]
theorem FL_ro (hb : h < b) (x : va_E) : FR cs (b + (128 + 8 * k)) (b + (128 + 8 * k + 1)) k (va_up (FL cs h b F k kr hc) (b + (128 + 8 * k)) x) 5 5 (eRo (nI k) (.ref b) (.ref (b + (128 + 8 * k + 1))) (.ref (b + (128 + 8 * k + 1) + 1))) = FL cs h b F (k + 1) kr hc := by
  funext a
  unfold FR
  by_cases h1 : a = b + (128 + 8 * k)
  · rw [if_pos h1]
    unfold FL
    rw [if_neg (by omega), if_neg (by omega), if_pos (by omega), show (a - (b + 128)) / 8 = k by omega, show (a - (b + 128)) % 8 = 0 by omega]
    unfold rcell
    rw [if_pos rfl]
    rfl
  · rw [if_neg h1]
    by_cases h2 : a = b + (128 + 8 * k + 1)
    · rw [if_pos h2]
      unfold FL
      rw [if_neg (by omega), if_neg (by omega), if_pos (by omega), show (a - (b + 128)) / 8 = k by omega, show (a - (b + 128)) % 8 = 1 by omega]
      unfold rcell
      rw [if_neg (by omega), if_pos rfl]
    · rw [if_neg h2]
      by_cases h3 : a = b + (128 + 8 * k + 1) + 1
      · rw [if_pos h3]
        unfold FL
        rw [if_neg (by omega), if_neg (by omega), if_pos (by omega), show (a - (b + 128)) / 8 = k by omega, show (a - (b + 128)) % 8 = 2 by omega]
        unfold rcell
        rw [if_neg (by omega), if_neg (by omega), if_pos rfl]
        rfl
      · rw [if_neg h3]
        by_cases h4 : b + (128 + 8 * k + 1) + 2 ≤ a ∧ a < b + (128 + 8 * k + 1) + 2 + 5
        · rw [if_pos h4]
          unfold FL
          rw [if_neg (by omega), if_neg (by omega), if_pos (by omega), show (a - (b + 128)) / 8 = k by omega]
          unfold rcell
          rw [if_neg (by omega), if_neg (by omega), if_neg (by omega), show a - (b + (128 + 8 * k + 1)) - 2 = (a - (b + 128)) % 8 - 3 by omega]
        · rw [if_neg h4, va_up_ne _ _ h1]
          unfold FL
          by_cases h5 : a = h
          · rw [if_pos h5, if_pos h5]
          · rw [if_neg h5, if_neg h5]
            by_cases h6 : a = b + 127
            · rw [if_pos h6, if_pos h6]
            · rw [if_neg h6, if_neg h6]
              by_cases h7 : b + 128 ≤ a ∧ a < b + 128 + 8 * k
              · rw [if_pos h7, if_pos (show b + 128 ≤ a ∧ a < b + 128 + 8 * (k + 1) by omega)]
              · rw [if_neg h7, if_neg (show ¬ (b + 128 ≤ a ∧ a < b + 128 + 8 * (k + 1)) by omega)]
end FLs
/-- what the cells hold behind the constructor -/
def FLend (cs : zCs) (h b : Nat) (F : Nat → va_E) : Nat → va_E :=
  va_up (va_up (va_up (FL cs h b (FW cs b (b + 1) (va_up F b (eWi .null .null .null .null)) 62 60 16 (eWi (.ref (b + 1)) (.ref (b + 2)) (.ref (b + 1 + 122)) (.ref (b + 1 + 124)))) 5 5 (eLa (.ref b) (.ref (b + 127)) .null)) (b + 169) (eI cs.1 40 z0)) (b + 168) (eFr (.ref (b + 169)))) h (eLa (.ref b) (.ref (b + 127)) (.ref (b + 168)))
set_option maxRecDepth 100000 in
set_option maxHeartbeats 4000000 in
theorem i_L {l : Launch} {G : zG} {cs : zCs} (w : iW G cs) (F : Nat → va_E) (b h : Nat) (hh : h ∈ G.2.2.2) (hhb : h < b) (hlt : ∀ q ∈ G.2.2.2, q < b) (hF : F h = eLa .null .null .null) : iF l y_L_init b_L_init 4 3 57 170 3779 G b [.ref h] F (FLend cs h b F) := by
  refine iF.ofZ (by decide) rfl w.2.2 (Nat.le_of_ble_eq_true rfl) (fun X hXl hr C => ?_)
  subst hXl
  show Z X (G.ext b 0) (iA G b) 4 _ (kE _ F) 0 [(0, .ref h)] []
  refine Z_aload_n C.z 0 d_L_init_0 rfl rfl ?_
  refine Z_objInit C.z mo_L ob_i ob_c ⟨Nat.le_of_ble_eq_true rfl, Nat.le_of_ble_eq_true rfl⟩ d_L_init_1 ?_
  refine Y_new (ci := 3) (N := 6) C tyX3 tyX3_ok in_W kl_L_7 im_W iz_W (by rw [w.1]; rfl) df_W ⟨Nat.le_of_ble_eq_true rfl, Nat.le_of_ble_eq_true rfl⟩ d_L_init_4 (fun C => ?_)
  refine Z_dup C.z d_L_init_7 rfl ?_
  refine Y_callI C mk_W ml_L_9 (i_W (w.ext hlt _) _ _ _ (mem_r (by omega)) (by omega) (ext_lt hlt) (va_up_self _ _ _)) ⟨Nat.le_of_ble_eq_true rfl, Nat.le_of_ble_eq_true rfl⟩ ⟨Nat.le_of_ble_eq_true rfl, Nat.le_of_ble_eq_true rfl⟩ rfl rfl (Nat.le_of_ble_eq_true rfl) d_L_init_8 (fun C => ?_)
  have hX1 := ((Xm.refl X).more 1 6).more 126 3114
  generalize (X.more 1 6).more 126 3114 = X1 at C hX1 ⊢
  refine Z_astore_n C.z d_L_init_11 rfl (by decide) rfl ?_
  refine Z_iconst (v := 5) C.z d_L_init_12 (by decide) ?_
  refine Y_newq (t0 := 2) (N' := 5) C kl_L_12 C.2.2.2.2.2.2.2.2.2.2.2.2.2.1 (by rw [w.2.1]; rfl) (by decide) (by decide) (by decide) ⟨Nat.le_of_ble_eq_true rfl, Nat.le_of_ble_eq_true rfl⟩ d_L_init_13 (fun C => ?_)
  have hX2 := hX1.more 1 5
  generalize X1.more 1 5 = X2 at C hX2 ⊢
  refine Z_imp (kE_F (FL_in (hc := eLa .null .null .null) hhb (by unfold FW; rw [if_neg (by omega), if_neg (by omega), if_neg (by omega), if_neg (by omega), va_up_ne _ _ (by omega)]; exact hF))) ?_
  refine Z_astore_n C.z d_L_init_16 rfl (by decide) rfl ?_
  refine Z_iconst (v := 0) C.z d_L_init_17 (by decide) ?_
  refine Z_istore_n C.z d_L_init_18 rfl (by decide) rfl ?_
  generalize hFW : FW cs (b + 0) (b + (0 + 1)) (va_up F (b + 0) (eWi .null .null .null .null)) 62 60 16 (eWi (.ref (b + (0 + 1))) (.ref (b + (0 + 1) + 1)) (.ref (b + (0 + 1) + 122)) (.ref (b + (0 + 1) + 124))) = FW0
  have L2 : ∀ m k X', Xm X X' → iC X' G b (128 + 8 * k) (3125 + 121 * k) b_L_init 4 y_L_init.cls 3 57 170 3779 → k + m = 5 → Z X' (G.ext b (128 + 8 * k)) (iA G b) 4 (iQ X G b 170 3779 (FLend cs h b F)) (kE (G.ext b (128 + 8 * k)).2.2.2 (FL cs h b FW0 k k (eLa .null .null .null))) 19 [(3, .int (nI k)), (2, .ref (b + 127)), (1, .ref b), (0, .ref h)] [] := by
    intro m
    induction m with
    | zero =>
      intro k X' hX C hk
      obtain rfl : k = 5 := by omega
      refine Z_iload_n C.z 0 d_L_init_19 rfl rfl ?_
      refine Z_iconst (v := 5) C.z d_L_init_20 (by decide) ?_
      refine Z_icmp_ge (tgt := 42) C.z d_L_init_21 (by decide) (fun _ => ?_) (fun c => absurd (by decide) c)
      refine Z_aload_n C.z 3 d_L_init_42 rfl rfl ?_
      refine Z_aload_n C.z 2 d_L_init_43 rfl rfl ?_
      refine Z_putF C.z C.2.2.2.2.2.1 0 tyX4 (mem_l hh) (kE_at (mem_l hh) FL_h) (by rw [w.1]; rfl) in_L tyX4_ok nmX4 (by decide) fl_L_17 rfl rfl rfl (tyX4_ok 0 (by decide)) rfl rfl (Nat.le_of_ble_eq_true rfl) (kE_of (FL_uh _)) d_L_init_44 ?_
      refine Z_aload_n C.z 3 d_L_init_47 rfl rfl ?_
      refine Z_aload_n C.z 1 d_L_init_48 rfl rfl ?_
      refine Z_putF C.z C.2.2.2.2.2.1 1 tyX4 (mem_l hh) (kE_at (mem_l hh) FL_h) (by rw [w.1]; rfl) in_L tyX4_ok nmX4 (by decide) fl_L_21 rfl rfl rfl (tyX4_ok 1 (by decide)) rfl rfl (Nat.le_of_ble_eq_true rfl) (kE_of (FL_uh _)) d_L_init_49 ?_
      refine Z_aload_n C.z 3 d_L_init_52 rfl rfl ?_
      refine Y_new (ci := 0) (N := 9) C tyX0 tyX0_ok in_F kl_L_25 im_F iz_F (by rw [w.1]; rfl) df_F ⟨Nat.le_of_ble_eq_true rfl, Nat.le_of_ble_eq_true rfl⟩ d_L_init_53 (fun C => ?_)
      refine Z_dup C.z d_L_init_56 rfl ?_
      refine Y_callI C mk_F ml_L_27 (i_F (w.ext hlt _) _ _ _ (mem_r (by omega)) (by omega) (va_up_self _ _ _)) ⟨Nat.le_of_ble_eq_true rfl, Nat.le_of_ble_eq_true rfl⟩ ⟨Nat.le_of_ble_eq_true rfl, Nat.le_of_ble_eq_true rfl⟩ rfl rfl (Nat.le_of_ble_eq_true rfl) d_L_init_57 (fun C => ?_)
      refine Z_putF C.z C.2.2.2.2.2.1 2 tyX4 (mem_l hh) (kE_at (mem_l hh) (by rw [va_up_ne _ _ (by omega), va_up_ne _ _ (by omega), va_up_ne _ _ (by omega)]; exact FL_h)) (by rw [w.1]; rfl) in_L tyX4_ok nmX4 (by decide) fl_L_28 rfl rfl rfl (tyX4_ok 2 (by decide)) rfl rfl (Nat.le_of_ble_eq_true rfl) kE_up d_L_init_60 ?_
      refine Y_vret' ((hX.more _ _).more _ _) C rfl rfl hr d_L_init_63 (fun a _ => ?_)
      subst hFW
      unfold FLend
      by_cases q1 : a = h
      · subst q1; rw [va_up_self, va_up_self]; rfl
      · rw [va_up_ne _ _ q1, va_up_ne _ _ q1]
        by_cases q2 : a = b + 168
        · subst q2; rw [va_up_self, va_up_self]
        · rw [va_up_ne _ _ q2, va_up_ne _ _ (show a ≠ b + (128 + 8 * 5) from q2)]
          by_cases q3 : a = b + 169
          · subst q3; rw [va_up_self, va_up_self]
          · rw [va_up_ne _ _ q3, va_up_ne _ _ (show a ≠ b + (128 + 8 * 5 + 1) from q3), va_up_ne _ _ (show a ≠ b + (128 + 8 * 5) from q2)]
            rfl
    | succ m ih =>
      intro k X' hX C hk
      refine Z_iload_n C.z 0 d_L_init_19 rfl rfl ?_
      refine Z_iconst (v := 5) C.z d_L_init_20 (by decide) ?_
      refine Z_icmp_ge (tgt := 42) C.z d_L_init_21 (by decide) (fun c => absurd c (nI_ge (a := k) (b := 5) (by omega) (by decide))) (fun c => ?_)
      refine Z_aload_n C.z 1 d_L_init_24 rfl rfl ?_
      refine Z_iload_n C.z 0 d_L_init_25 rfl rfl ?_
      refine Y_new (ci := 1) (N := 11) C tyX1 tyX1_ok in_R kl_L_12 im_R iz_R (by rw [w.1]; rfl) df_R ⟨by omega, by omega⟩ d_L_init_26 (fun C => ?_)
      refine Z_dup C.z d_L_init_29 rfl ?_
      refine Z_iload_n C.z 0 d_L_init_30 rfl rfl ?_
      refine Z_aload_n C.z 2 d_L_init_31 rfl rfl ?_
      refine Y_callI (As := [.int (nI k), .ref b]) C mk_R ml_L_14 (i_R (w.ext hlt _) _ _ _ (mem_r (by omega)) (by omega) (ext_lt hlt) k b (va_up_self _ _ _)) ⟨Nat.le_of_ble_eq_true rfl, Nat.le_of_ble_eq_true rfl⟩ ⟨by omega, by omega⟩ rfl rfl (Nat.le_of_ble_eq_true rfl) d_L_init_32 (fun C => ?_)
      refine Z_imp (kE_F (FL_ro hhb _)) ?_
      refine Z_aast (t0 := 2) (ci := 1) (r := (RX1, TX1, 11)) (K' := kE (G.ext b (128 + 8 * k + 1 + 7)).2.2.2 (FL cs h b FW0 (k + 1) (k + 1) (eLa .null .null .null))) C.z (mem_r (by omega)) (kE_at (mem_r (by omega)) (FL_1 hhb)) (mem_r (by omega)) (kE_at (mem_r (by omega)) (by unfold FL; rw [if_neg (by omega), if_neg (by omega), if_pos (by omega), show (b + (128 + 8 * k) - (b + 128)) % 8 = 0 by omega]; unfold rcell; rw [if_pos rfl])) (by rw [w.2.1]; rfl) (by rw [w.1]; rfl) (vp_in_nI (by omega) (by decide)) (by rw [nI_clamp (by omega)]; exact kE_of (FL_u1 hhb)) d_L_init_35 ?_
      refine Z_iinc 0 C.z d_L_init_36 rfl (nI_succ k).symm (by decide) rfl ?_
      refine Z_goto (tgt := 19) C.z d_L_init_39 (by decide) ?_
      have hXn := (hX.more 1 11).more 7 110
      generalize (X'.more 1 11).more 7 110 = Xn at C hXn ⊢
      have e1 : 128 + 8 * k + 1 + 7 = 128 + 8 * (k + 1) := by omega
      have e2 : 3125 + 121 * k + 11 + 110 = 3125 + 121 * (k + 1) := by omega
      rw [e1, e2] at C
      rw [e1]
      exact ih (k + 1) Xn hXn C (by omega)
  exact L2 5 0 X2 hX2 C (by omega)
