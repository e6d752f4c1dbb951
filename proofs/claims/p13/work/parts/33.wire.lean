theorem zst {X : zX} {G : zG} {A : Nat → Prop} {nL : Nat} {Q : State → Prop} {K : zK} {pc : Nat} {lv : List (Nat × Value)} {st st' : List Value} (h : st = st') (k : Z X G A nL Q K pc lv st') : Z X G A nL Q K pc lv st := h ▸ k
theorem zlv {X : zX} {G : zG} {A : Nat → Prop} {nL : Nat} {Q : State → Prop} {K : zK} {pc : Nat} {lv lv' : List (Nat × Value)} {st : List Value} (ks : List Nat) (h : lv_pick lv ks = lv') (k : Z X G A nL Q K pc lv' st) : Z X G A nL Q K pc lv st := fun f H locs ls hf hP hS hl => k f H locs ls hf hP hS (lv_sub hl ks h)
/-! weighed; the wire -/
def wStep (M : zM) (i s : Nat) (p : Int32) : Int32 := if (M 3 i 0 9 >>> (nI s &&& 31)) &&& 1 = 0 then p else if M 5 i s 2 = 0 then p else if M 5 i s 3 = 3 then p else p - M 3 i 0 8
def wgh (M : zM) (i : Nat) : Nat → Nat → Int32 → Int32
  | 0, _, p => p
  | n + 1, s, p => wgh M i n (s + 1) (wStep M i s p)
def rWeighed (M : zM) (i : Nat) : Int32 := if M 3 i 0 0 = 255 then M 3 i 0 0 else if 1 ≤ wgh M i 5 0 (M 3 i 0 0) then wgh M i 5 0 (M 3 i 0 0) else 1
set_option maxRecDepth 100000 in
set_option maxHeartbeats 4000000 in
theorem c_R_weighed {l : Launch} {G : zG} {V : zV} (w : wC G V) (M : zM) (P : Nat → Nat) (D : Nat × Nat) (i : Nat) (hi : i < 5) : zF l y_R_weighed b_R_weighed 3 (some .int) 0 0 G [.ref (V.1 2 i 0)] (eC V M P D) (some (.int (rWeighed M i))) (eC V M P D) := by
  refine zF.ofZ (by decide) w.2.2.2.2 (Nat.le_of_ble_eq_true rfl) (fun X hXl hN hr C => ?_)
  subst hXl
  show Z X G (zA G) 3 _ (eC V M P D) 0 [(0, .ref (V.1 2 i 0))] []
  refine Z_aload_n C 0 d_R_weighed_0 rfl rfl ?_
  refine C_gR C w (by assumption) 2 (by decide) fl_R_21 rfl rfl d_R_weighed_1 ?_
  refine Z_iconst (v := 0) C d_R_weighed_4 (by decide) ?_
  refine C_ldG C w (by assumption) 0 (by decide) (by unfold vp_in; decide) d_R_weighed_5 ?_
  refine Z_istore_n C d_R_weighed_6 rfl (by decide) rfl ?_
  refine Z_iload_n C 0 d_R_weighed_7 rfl rfl ?_
  refine Z_sipush (v := 255) C d_R_weighed_8 (by decide) ?_
  refine Z_icmp_ne (tgt := 16) C d_R_weighed_11 (by decide) (fun c11 => ?_) (fun c11 => ?_)
  · skip
    refine Z_iconst (v := 0) C d_R_weighed_16 (by decide) ?_
    refine Z_istore_n C d_R_weighed_17 rfl (by decide) rfl ?_
    have hlp : ∀ (n s : Nat) (p : Int32), s + n = 5 → wgh M i n s p = wgh M i 5 0 (M 3 i 0 0) → Z X G (zA G) 3 (zQ X G (some (.int (rWeighed M i))) (eC V M P D)) (eC V M P D) 18 [(2, .int (nI s)), (1, .int p), (0, .ref (V.1 2 i 0))] [] := by
      intro n
      induction n with
      | zero =>
        intro s p h1 h2
        refine Z_iload_n C 0 d_R_weighed_18 rfl rfl ?_
        refine Z_iconst (v := 5) C d_R_weighed_19 (by decide) ?_
        refine Z_icmp_ge (tgt := 78) C d_R_weighed_20 (by decide) (fun c20 => ?_) (fun c20 => ?_)
        · skip
          refine Z_iload_n C 1 d_R_weighed_78 rfl rfl ?_
          refine Z_iconst (v := 1) C d_R_weighed_79 (by decide) ?_
          refine Z_icmp_ge (tgt := 87) C d_R_weighed_80 (by decide) (fun c80 => ?_) (fun c80 => ?_)
          · skip
            refine Z_iload_n C 1 d_R_weighed_87 rfl rfl ?_
            exact Z_iret C hN hr d_R_weighed_88 (by unfold rWeighed; rw [if_neg c11, ← h2]; simp [wgh, c80]) (zeq (rfl))
          · skip
            refine Z_iconst (v := 1) C d_R_weighed_83 (by decide) ?_
            refine Z_goto (tgt := 88) C d_R_weighed_84 (by decide) ?_
            exact Z_iret C hN hr d_R_weighed_88 (by unfold rWeighed; rw [if_neg c11, ← h2]; simp [wgh, c80]) (zeq (rfl))
        · exact absurd (nI_le (a := 5) (b := s) (by omega) (by omega)) c20 --stop
      | succ n ih =>
        intro s p h1 h2
        have hs : s < 5 := by omega
        refine Z_iload_n C 0 d_R_weighed_18 rfl rfl ?_
        refine Z_iconst (v := 5) C d_R_weighed_19 (by decide) ?_
        refine Z_icmp_ge (tgt := 78) C d_R_weighed_20 (by decide) (fun c20 => ?_) (fun c20 => ?_)
        · exact absurd c20 (nI_ge (a := s) (b := 5) (by omega) (by decide)) --stop
        · skip
          refine Z_aload_n C 2 d_R_weighed_23 rfl rfl ?_
          refine C_gR C w (by assumption) 2 (by decide) fl_R_21 rfl rfl d_R_weighed_24 ?_
          refine Z_bipush (v := 9) C d_R_weighed_27 (by decide) ?_
          refine C_ldG C w (by assumption) 9 (by decide) (by unfold vp_in; decide) d_R_weighed_29 ?_
          refine Z_iload_n C 0 d_R_weighed_30 rfl rfl ?_
          refine Z_ishr C d_R_weighed_31 ?_
          refine Z_iconst (v := 1) C d_R_weighed_32 (by decide) ?_
          refine Z_iand C d_R_weighed_33 ?_
          refine Z_if_eq (tgt := 72) C d_R_weighed_34 (by decide) (fun c34 => ?_) (fun c34 => ?_)
          · skip
            refine Z_iinc 0 C d_R_weighed_72 rfl (nI_1 s) (by decide) rfl ?_
            refine Z_goto (tgt := 18) C d_R_weighed_75 (by decide) ?_
            exact ih (s + 1) _ (by omega) (by rw [← h2]; show _ = wgh M i n (s + 1) (wStep M i s p); congr 1; simp [wStep, c34])
          · skip
            refine Z_aload_n C 2 d_R_weighed_37 rfl rfl ?_
            refine C_gR C w (by assumption) 3 (by decide) fl_R_27 rfl rfl d_R_weighed_38 ?_
            refine Z_iload_n C 0 d_R_weighed_41 rfl rfl ?_
            refine C_ldX C w (by assumption) s (nI_clamp (by omega)) (vp_in_nI (by omega) (by decide)) d_R_weighed_42 ?_
            refine C_gS C w (by assumption) (by assumption) 2 (by decide) fl_R_69 rfl rfl d_R_weighed_43 ?_
            refine Z_if_eq (tgt := 72) C d_R_weighed_46 (by decide) (fun c46 => ?_) (fun c46 => ?_)
            · skip
              refine Z_iinc 0 C d_R_weighed_72 rfl (nI_1 s) (by decide) rfl ?_
              refine Z_goto (tgt := 18) C d_R_weighed_75 (by decide) ?_
              exact ih (s + 1) _ (by omega) (by rw [← h2]; show _ = wgh M i n (s + 1) (wStep M i s p); congr 1; simp [wStep, c34, c46])
            · skip
              refine Z_aload_n C 2 d_R_weighed_49 rfl rfl ?_
              refine C_gR C w (by assumption) 3 (by decide) fl_R_27 rfl rfl d_R_weighed_50 ?_
              refine Z_iload_n C 0 d_R_weighed_53 rfl rfl ?_
              refine C_ldX C w (by assumption) s (nI_clamp (by omega)) (vp_in_nI (by omega) (by decide)) d_R_weighed_54 ?_
              refine C_gS C w (by assumption) (by assumption) 3 (by decide) fl_R_73 rfl rfl d_R_weighed_55 ?_
              refine Z_iconst (v := 3) C d_R_weighed_58 (by decide) ?_
              refine Z_icmp_eq (tgt := 72) C d_R_weighed_59 (by decide) (fun c59 => ?_) (fun c59 => ?_)
              · skip
                refine Z_iinc 0 C d_R_weighed_72 rfl (nI_1 s) (by decide) rfl ?_
                refine Z_goto (tgt := 18) C d_R_weighed_75 (by decide) ?_
                exact ih (s + 1) _ (by omega) (by rw [← h2]; show _ = wgh M i n (s + 1) (wStep M i s p); congr 1; simp [wStep, c34, c46, c59])
              · skip
                refine Z_iload_n C 1 d_R_weighed_62 rfl rfl ?_
                refine Z_aload_n C 2 d_R_weighed_63 rfl rfl ?_
                refine C_gR C w (by assumption) 2 (by decide) fl_R_21 rfl rfl d_R_weighed_64 ?_
                refine Z_bipush (v := 8) C d_R_weighed_67 (by decide) ?_
                refine C_ldG C w (by assumption) 8 (by decide) (by unfold vp_in; decide) d_R_weighed_69 ?_
                refine Z_isub C d_R_weighed_70 ?_
                refine Z_istore_n C d_R_weighed_71 rfl (by decide) rfl ?_
                refine Z_iinc 1 C d_R_weighed_72 rfl (nI_1 s) (by decide) rfl ?_
                refine Z_goto (tgt := 18) C d_R_weighed_75 (by decide) ?_
                exact ih (s + 1) _ (by omega) (by rw [← h2]; show _ = wgh M i n (s + 1) (wStep M i s p); congr 1; simp [wStep, c34, c46, c59])
    exact hlp 5 0 _ rfl rfl
  · skip
    refine Z_iload_n C 0 d_R_weighed_14 rfl rfl ?_
    exact Z_iret C hN hr d_R_weighed_15 (by simp [rWeighed, c11]) (zeq (rfl))
def wPlace (M : zM) (x : Int32) : Int32 := if x < 0 then -1 else if 16 ≤ x then -1 else M 7 0 0 x.toNatClampNeg
def cDue (M : zM) (P : Nat → Nat) : Nat → Nat → Int32 → Int32
  | 0, _, a => a
  | n + 1, i, a => if M 6 0 0 2 ≤ nI i then a else if 60 ≤ nI i then a else cDue M P n (i + 1) (if M 9 (P i) 0 8 ≤ M 6 0 0 3 then a + 1 else a)
set_option maxRecDepth 100000 in
set_option maxHeartbeats 4000000 in
theorem c_W_placeOf {l : Launch} {G : zG} {V : zV} (w : wC G V) (M : zM) (P : Nat → Nat) (D : Nat × Nat) (x : Int32) : zF l y_W_placeOf b_W_placeOf 2 (some .int) 0 0 G [.ref (V.1 6 0 0), .int x] (eC V M P D) (some (.int (wPlace M x))) (eC V M P D) := by
  refine zF.ofZ (by decide) w.2.2.2.2 (Nat.le_of_ble_eq_true rfl) (fun X hXl hN hr C => ?_)
  subst hXl
  show Z X G (zA G) 2 _ (eC V M P D) 0 [(0, .ref (V.1 6 0 0)), (1, .int x)] []
  refine Z_iload_n C 1 d_W_placeOf_0 rfl rfl ?_
  refine Z_if_lt (tgt := 22) C d_W_placeOf_1 (by decide) (fun c1 => ?_) (fun c1 => ?_)
  · skip
    refine Z_iconst (v := (-1)) C d_W_placeOf_22 (by decide) ?_
    exact Z_iret C hN hr d_W_placeOf_23 (by simp [wPlace, c1]) (zeq (rfl))
  · skip
    refine Z_iload_n C 1 d_W_placeOf_4 rfl rfl ?_
    refine Z_aload_n C 0 d_W_placeOf_5 rfl rfl ?_
    refine C_gW C w 0 (by decide) fl_W_9 rfl rfl d_W_placeOf_6 ?_
    refine C_lenP C w d_W_placeOf_9 ?_
    refine Z_icmp_ge (tgt := 22) C d_W_placeOf_10 (by decide) (fun c10 => ?_) (fun c10 => ?_)
    · skip
      refine Z_iconst (v := (-1)) C d_W_placeOf_22 (by decide) ?_
      exact Z_iret C hN hr d_W_placeOf_23 (by simp [wPlace, c1, c10]) (zeq (rfl))
    · skip
      refine Z_aload_n C 0 d_W_placeOf_13 rfl rfl ?_
      refine C_gW C w 0 (by decide) fl_W_9 rfl rfl d_W_placeOf_14 ?_
      refine Z_iload_n C 1 d_W_placeOf_17 rfl rfl ?_
      refine C_ldP C w _ rfl (vp_inc c1 c10 rfl) d_W_placeOf_18 ?_
      refine Z_goto (tgt := 23) C d_W_placeOf_19 (by decide) ?_
      exact Z_iret C hN hr d_W_placeOf_23 (by simp [wPlace, c1, c10]) (zeq (rfl))
set_option maxRecDepth 100000 in
set_option maxHeartbeats 4000000 in
theorem c_W_countDue {l : Launch} {G : zG} {V : zV} (w : wC G V) (M : zM) (P : Nat → Nat) (D : Nat × Nat) (hPP : ∀ n, n < 60 → P n < 63) : zF l y_W_countDue b_W_countDue 3 (some .int) 0 0 G [.ref (V.1 6 0 0)] (eC V M P D) (some (.int (cDue M P 60 0 0))) (eC V M P D) := by
  refine zF.ofZ (by decide) w.2.2.2.2 (Nat.le_of_ble_eq_true rfl) (fun X hXl hN hr C => ?_)
  subst hXl
  show Z X G (zA G) 3 _ (eC V M P D) 0 [(0, .ref (V.1 6 0 0))] []
  refine Z_iconst (v := 0) C d_W_countDue_0 (by decide) ?_
  refine Z_istore_n C d_W_countDue_1 rfl (by decide) rfl ?_
  refine Z_iconst (v := 0) C d_W_countDue_2 (by decide) ?_
  refine Z_istore_n C d_W_countDue_3 rfl (by decide) rfl ?_
  have hlp : ∀ (n i : Nat) (a : Int32), i + n = 60 → cDue M P n i a = cDue M P 60 0 0 → Z X G (zA G) 3 (zQ X G (some (.int (cDue M P 60 0 0))) (eC V M P D)) (eC V M P D) 4 [(2, .int (nI i)), (1, .int a), (0, .ref (V.1 6 0 0))] [] := by
    intro n
    induction n with
    | zero =>
      intro i a h1 h2
      refine Z_iload_n C 0 d_W_countDue_4 rfl rfl ?_
      refine Z_aload_n C 2 d_W_countDue_5 rfl rfl ?_
      refine C_gW C w 2 (by decide) fl_W_29 rfl rfl d_W_countDue_6 ?_
      refine Z_icmp_ge (tgt := 46) C d_W_countDue_9 (by decide) (fun c9 => ?_) (fun c9 => ?_)
      · skip
        refine Z_iload_n C 1 d_W_countDue_46 rfl rfl ?_
        exact Z_iret C hN hr d_W_countDue_47 (by rw [← h2]; rfl) (zeq (rfl))
      · skip
        refine Z_iload_n C 0 d_W_countDue_12 rfl rfl ?_
        refine Z_aload_n C 2 d_W_countDue_13 rfl rfl ?_
        refine C_gW C w 1 (by decide) fl_W_17 rfl rfl d_W_countDue_14 ?_
        refine C_lenY C w d_W_countDue_17 ?_
        refine Z_icmp_ge (tgt := 46) C d_W_countDue_18 (by decide) (fun c18 => ?_) (fun c18 => ?_)
        · skip
          refine Z_iload_n C 1 d_W_countDue_46 rfl rfl ?_
          exact Z_iret C hN hr d_W_countDue_47 (by rw [← h2]; rfl) (zeq (rfl))
        · exact absurd (nI_le (a := 60) (b := i) (by omega) (by omega)) c18 --stop
    | succ n ih =>
      intro i a h1 h2
      have hpi : P i < 63 := hPP i (by omega)
      refine Z_iload_n C 0 d_W_countDue_4 rfl rfl ?_
      refine Z_aload_n C 2 d_W_countDue_5 rfl rfl ?_
      refine C_gW C w 2 (by decide) fl_W_29 rfl rfl d_W_countDue_6 ?_
      refine Z_icmp_ge (tgt := 46) C d_W_countDue_9 (by decide) (fun c9 => ?_) (fun c9 => ?_)
      · skip
        refine Z_iload_n C 1 d_W_countDue_46 rfl rfl ?_
        exact Z_iret C hN hr d_W_countDue_47 (by rw [← h2]; simp [cDue, c9]) (zeq (rfl))
      · skip
        refine Z_iload_n C 0 d_W_countDue_12 rfl rfl ?_
        refine Z_aload_n C 2 d_W_countDue_13 rfl rfl ?_
        refine C_gW C w 1 (by decide) fl_W_17 rfl rfl d_W_countDue_14 ?_
        refine C_lenY C w d_W_countDue_17 ?_
        refine Z_icmp_ge (tgt := 46) C d_W_countDue_18 (by decide) (fun c18 => ?_) (fun c18 => ?_)
        · skip
          refine Z_iload_n C 1 d_W_countDue_46 rfl rfl ?_
          exact Z_iret C hN hr d_W_countDue_47 (by rw [← h2]; simp [cDue, c9, c18]) (zeq (rfl))
        · skip
          refine Z_aload_n C 2 d_W_countDue_21 rfl rfl ?_
          refine C_gW C w 1 (by decide) fl_W_17 rfl rfl d_W_countDue_22 ?_
          refine Z_iload_n C 0 d_W_countDue_25 rfl rfl ?_
          refine C_ldY C w i (nI_clamp (by omega)) (vp_in_nI (by omega) (by decide)) d_W_countDue_26 ?_
          refine C_gF C w (by assumption) 8 (by decide) fl_W_33 rfl rfl d_W_countDue_27 ?_
          refine Z_aload_n C 2 d_W_countDue_30 rfl rfl ?_
          refine C_gW C w 3 (by decide) fl_W_36 rfl rfl d_W_countDue_31 ?_
          refine Z_icmp_gt (tgt := 40) C d_W_countDue_34 (by decide) (fun c34 => ?_) (fun c34 => ?_)
          · skip
            refine Z_iinc 0 C d_W_countDue_40 rfl (nI_1 i) (by decide) rfl ?_
            refine Z_goto (tgt := 4) C d_W_countDue_43 (by decide) ?_
            first | exact ih (i + 1) _ (by omega) (by rw [← h2]; (conv => rhs; unfold cDue; rw [if_neg c9, if_neg c18, if_pos (Int32.not_lt.mp c34)]); first | done | rfl) | exact ih (i + 1) _ (by omega) (by rw [← h2]; conv => rhs; unfold cDue; rw [if_neg c9, if_neg c18, if_neg (Int32.not_le.mpr c34)])
          · skip
            refine Z_iinc 1 C d_W_countDue_37 rfl rfl (by decide) rfl ?_
            refine zlv (lv' := [(2, _), (1, _), (0, .ref (V.1 6 0 0))]) [1, 0, 2] rfl ?_
            refine Z_iinc 0 C d_W_countDue_40 rfl (nI_1 i) (by decide) rfl ?_
            refine Z_goto (tgt := 4) C d_W_countDue_43 (by decide) ?_
            first | exact ih (i + 1) _ (by omega) (by rw [← h2]; (conv => rhs; unfold cDue; rw [if_neg c9, if_neg c18, if_pos (Int32.not_lt.mp c34)]); first | done | rfl) | exact ih (i + 1) _ (by omega) (by rw [← h2]; conv => rhs; unfold cDue; rw [if_neg c9, if_neg c18, if_neg (Int32.not_le.mpr c34)])
  exact hlp 60 0 _ rfl rfl
def wNew (M : zM) (d : Nat) (kind from_ to address : Int32) : zM := up (up (up (up (up (up M 9 d 0 1 0) 9 d 0 2 kind) 9 d 0 3 from_) 9 d 0 4 to) 9 d 0 5 address) 9 d 0 6 255
set_option maxRecDepth 100000 in
set_option maxHeartbeats 4000000 in
theorem c_W_newDraft {l : Launch} {G : zG} {V : zV} (w : wC G V) (M : zM) (P : Nat → Nat) (D : Nat × Nat) (hD : D.1 < 63) (kind from_ to address : Int32) : zF l y_W_newDraft b_W_newDraft 5 (some (.object "StandInLan$Frame")) 0 0 G [.ref (V.1 6 0 0), .int kind, .int from_, .int to, .int address] (eC V M P D) (some (.ref (V.1 9 D.1 0))) (eC V (wNew M D.1 kind from_ to address) P D) := by
  refine zF.ofZ (by decide) w.2.2.2.2 (Nat.le_of_ble_eq_true rfl) (fun X hXl hN hr C => ?_)
  subst hXl
  show Z X G (zA G) 5 _ (eC V M P D) 0 [(0, .ref (V.1 6 0 0)), (1, .int kind), (2, .int from_), (3, .int to), (4, .int address)] []
  refine Z_aload_n C 0 d_W_newDraft_0 rfl rfl ?_
  refine C_gW C w 4 (by decide) fl_W_22 rfl rfl d_W_newDraft_1 ?_
  refine Z_iconst (v := 0) C d_W_newDraft_4 (by decide) ?_
  refine C_pF C w (by assumption) 1 (by decide) fl_W_39 rfl rfl rfl rfl rfl d_W_newDraft_5 ?_
  refine Z_aload_n C 0 d_W_newDraft_8 rfl rfl ?_
  refine C_gW C w 4 (by decide) fl_W_22 rfl rfl d_W_newDraft_9 ?_
  refine Z_iload_n C 1 d_W_newDraft_12 rfl rfl ?_
  refine C_pF C w (by assumption) 2 (by decide) fl_W_42 rfl rfl rfl rfl rfl d_W_newDraft_13 ?_
  refine Z_aload_n C 0 d_W_newDraft_16 rfl rfl ?_
  refine C_gW C w 4 (by decide) fl_W_22 rfl rfl d_W_newDraft_17 ?_
  refine Z_iload_n C 2 d_W_newDraft_20 rfl rfl ?_
  refine C_pF C w (by assumption) 3 (by decide) fl_W_45 rfl rfl rfl rfl rfl d_W_newDraft_21 ?_
  refine Z_aload_n C 0 d_W_newDraft_24 rfl rfl ?_
  refine C_gW C w 4 (by decide) fl_W_22 rfl rfl d_W_newDraft_25 ?_
  refine Z_iload_n C 3 d_W_newDraft_28 rfl rfl ?_
  refine C_pF C w (by assumption) 4 (by decide) fl_W_48 rfl rfl rfl rfl rfl d_W_newDraft_29 ?_
  refine Z_aload_n C 0 d_W_newDraft_32 rfl rfl ?_
  refine C_gW C w 4 (by decide) fl_W_22 rfl rfl d_W_newDraft_33 ?_
  refine Z_iload C 4 d_W_newDraft_36 rfl ?_
  refine C_pF C w (by assumption) 5 (by decide) fl_W_51 rfl rfl rfl rfl rfl d_W_newDraft_38 ?_
  refine Z_aload_n C 0 d_W_newDraft_41 rfl rfl ?_
  refine C_gW C w 4 (by decide) fl_W_22 rfl rfl d_W_newDraft_42 ?_
  refine Z_sipush (v := 255) C d_W_newDraft_45 (by decide) ?_
  refine C_pF C w (by assumption) 6 (by decide) fl_W_54 rfl rfl rfl rfl rfl d_W_newDraft_48 ?_
  refine Z_aload_n C 0 d_W_newDraft_51 rfl rfl ?_
  refine C_gW C w 4 (by decide) fl_W_22 rfl rfl d_W_newDraft_52 ?_
  exact Z_aret C hN hr (Or.inl ⟨_, rfl⟩) (Or.inr ⟨_, rfl⟩) d_W_newDraft_55 (rfl) (zeq (rfl))
/-- the first frame that is due, from place i on -/
def kDue (M : zM) (P : Nat → Nat) (c : Nat) : Nat → Nat → Nat
  | 0, i => i
  | n + 1, i => if M 9 (P i) 0 8 ≤ M 6 0 0 3 then i else kDue M P c n (i + 1)
theorem kDue_le (M : zM) (P : Nat → Nat) (c : Nat) : ∀ n i, i ≤ kDue M P c n i ∧ kDue M P c n i ≤ i + n := by
  intro n
  induction n with
  | zero => intro i; exact ⟨Nat.le_refl _, Nat.le_refl _⟩
  | succ n ih =>
    intro i
    unfold kDue
    split
    · omega
    · have := ih (i + 1); omega
/-- the places behind k move up, as far as place m -/
def pShift (P : Nat → Nat) (k m : Nat) : Nat → Nat := fun n => if k ≤ n ∧ n + 1 < m then P (n + 1) else P n
theorem pShift_0 (P : Nat → Nat) (k : Nat) : pShift P k (k + 1) = P := by
  funext n
  unfold pShift
  rw [if_neg (by omega)]
theorem pShift_s (P : Nat → Nat) (k m : Nat) (h : k < m) : va_up (pShift P k m) (m - 1) (pShift P k m m) = pShift P k (m + 1) := by
  funext n
  by_cases hn : n = m - 1
  · subst hn
    rw [va_up_self]
    unfold pShift
    rw [if_neg (by omega), if_pos (by omega)]
    congr 1
    omega
  · rw [va_up_ne _ _ hn]
    unfold pShift
    by_cases h1 : k ≤ n ∧ n + 1 < m
    · rw [if_pos h1, if_pos (by omega)]
    · rw [if_neg h1, if_neg (by omega)]
def tkM (M : zM) (P : Nat → Nat) (c : Nat) : zM := if kDue M P c c 0 < c then up M 6 0 0 2 (nI (c - 1)) else M
def tkP (M : zM) (P : Nat → Nat) (D : Nat × Nat) (c : Nat) : Nat → Nat := if kDue M P c c 0 < c then va_up (pShift P (kDue M P c c 0) c) (c - 1) D.2 else P
def tkD (M : zM) (P : Nat → Nat) (D : Nat × Nat) (c : Nat) : Nat × Nat := if kDue M P c c 0 < c then (D.1, P (kDue M P c c 0)) else D

set_option maxRecDepth 100000 in
set_option maxHeartbeats 4000000 in
theorem c_W_takeDue {l : Launch} {G : zG} {V : zV} (w : wC G V) (M : zM) (P : Nat → Nat) (D : Nat × Nat) (c : Nat) (hc : M 6 0 0 2 = nI c) (hc60 : c ≤ 60) (hPP : ∀ n, n < 60 → P n < 63) (hD2 : D.2 < 63) : zF l y_W_takeDue b_W_takeDue 4 (some (.object "StandInLan$Frame")) 0 0 G [.ref (V.1 6 0 0)] (eC V M P D) (some (.ref (V.1 9 (tkD M P D c).2 0))) (eC V (tkM M P c) (tkP M P D c) (tkD M P D c)) := by
  refine zF.ofZ (by decide) w.2.2.2.2 (Nat.le_of_ble_eq_true rfl) (fun X hXl hN hr C => ?_)
  subst hXl
  show Z X G (zA G) 4 _ (eC V M P D) 0 [(0, .ref (V.1 6 0 0))] []
  refine Z_iconst (v := 0) C d_W_takeDue_0 (by decide) ?_
  refine Z_istore_n C d_W_takeDue_1 rfl (by decide) rfl ?_
  have hkd := kDue_le M P c c 0
  have hx : ∀ (k : Nat), k = kDue M P c c 0 → Z X G (zA G) 4 (zQ X G (some (.ref (V.1 9 (tkD M P D c).2 0))) (eC V (tkM M P c) (tkP M P D c) (tkD M P D c))) (eC V M P D) 41 [(1, .int (nI k)), (0, .ref (V.1 6 0 0))] [] := by
    intro k hk
    have hkc : k ≤ c := by omega
    refine Z_iload_n C 0 d_W_takeDue_41 rfl rfl ?_
    refine Z_aload_n C 1 d_W_takeDue_42 rfl rfl ?_
    refine C_gW C w 2 (by decide) fl_W_29 rfl rfl d_W_takeDue_43 ?_
    refine Z_icmp_ge (tgt := 128) C d_W_takeDue_46 (by decide) (fun c46 => ?_) (fun c46 => ?_)
    · rw [hc] at c46
      refine Z_aload_n C 1 d_W_takeDue_128 rfl rfl ?_
      refine C_gW C w 5 (by decide) fl_W_26 rfl rfl d_W_takeDue_129 ?_
      exact Z_aret C hN hr (Or.inl ⟨_, rfl⟩) (Or.inr ⟨_, rfl⟩) d_W_takeDue_132 (by unfold tkD; rw [if_neg (by have := le_of (by omega) (by omega) c46; omega)]) (zeq (by unfold tkM tkP tkD; rw [if_neg (by have := le_of (by omega) (by omega) c46; omega), if_neg (by have := le_of (by omega) (by omega) c46; omega), if_neg (by have := le_of (by omega) (by omega) c46; omega)]))
    · rw [hc] at c46
      have hlt : k < c := nlt_of (by omega) c46
      have hpk : P k < 63 := hPP k (by omega)
      refine Z_aload_n C 1 d_W_takeDue_49 rfl rfl ?_
      refine C_gW C w 2 (by decide) fl_W_29 rfl rfl d_W_takeDue_50 ?_
      refine Z_aload_n C 1 d_W_takeDue_53 rfl rfl ?_
      refine C_gW C w 1 (by decide) fl_W_17 rfl rfl d_W_takeDue_54 ?_
      refine C_lenY C w d_W_takeDue_57 ?_
      refine Z_icmp_gt (tgt := 128) C d_W_takeDue_58 (by decide) (fun c58 => ?_) (fun c58 => ?_)
      · rw [hc] at c58
        exact absurd c58 (nI_nlt (a := 60) (b := c) (by omega) (by omega)) --stop
      · skip
        refine Z_aload_n C 1 d_W_takeDue_61 rfl rfl ?_
        refine C_gW C w 1 (by decide) fl_W_17 rfl rfl d_W_takeDue_62 ?_
        refine Z_iload_n C 0 d_W_takeDue_65 rfl rfl ?_
        refine C_ldY C w k (nI_clamp (by omega)) (vp_in_nI (by omega) (by decide)) d_W_takeDue_66 ?_
        refine Z_astore_n C d_W_takeDue_67 rfl (by decide) rfl ?_
        refine Z_iload_n C 1 d_W_takeDue_68 rfl rfl ?_
        refine Z_iconst (v := 1) C d_W_takeDue_69 (by decide) ?_
        refine Z_iadd C d_W_takeDue_70 ?_
        refine Z_istore_n C d_W_takeDue_71 rfl (by decide) rfl ?_
        have hy : Z X G (zA G) 4 (zQ X G (some (.ref (V.1 9 (tkD M P D c).2 0))) (eC V (tkM M P c) (tkP M P D c) (tkD M P D c))) (eC V M (pShift P k c) D) 100 [(3, .int (nI c)), (2, .ref (V.1 9 (P k) 0)), (1, .int (nI k)), (0, .ref (V.1 6 0 0))] [] := by
          have hc1 : nI c - 1 = nI (c - 1) := by obtain ⟨z, rfl⟩ : ∃ z, c = z + 1 := ⟨c - 1, by omega⟩; rw [nI_pred]; rfl
          refine Z_aload_n C 3 d_W_takeDue_100 rfl rfl ?_
          refine Z_dup C d_W_takeDue_101 rfl ?_
          refine C_gW C w 2 (by decide) fl_W_29 rfl rfl d_W_takeDue_102 ?_
          refine Z_iconst (v := 1) C d_W_takeDue_105 (by decide) ?_
          refine Z_isub C d_W_takeDue_106 ?_
          refine C_pW C w 2 (by decide) fl_W_29 rfl rfl rfl rfl rfl d_W_takeDue_107 ?_
          refine Z_aload_n C 3 d_W_takeDue_110 rfl rfl ?_
          refine C_gW C w 1 (by decide) fl_W_17 rfl rfl d_W_takeDue_111 ?_
          refine Z_aload_n C 3 d_W_takeDue_114 rfl rfl ?_
          refine C_gW C w 2 (by decide) fl_W_29 rfl rfl d_W_takeDue_115 ?_
          refine Z_aload_n C 3 d_W_takeDue_118 rfl rfl ?_
          refine C_gW C w 5 (by decide) fl_W_26 rfl rfl d_W_takeDue_119 ?_
          refine C_stY C w (by assumption) (c - 1) (by show (M 6 0 0 2 - 1).toNatClampNeg = c - 1; rw [hc, hc1]; exact nI_clamp (by omega)) (by show vp_in (M 6 0 0 2 - 1) 60; rw [hc, hc1]; exact vp_in_nI (by omega) (by decide)) d_W_takeDue_122 ?_
          refine Z_aload_n C 3 d_W_takeDue_123 rfl rfl ?_
          refine Z_aload_n C 1 d_W_takeDue_124 rfl rfl ?_
          refine C_pT C w fl_W_26 d_W_takeDue_125 ?_
          refine Z_aload_n C 3 d_W_takeDue_128 rfl rfl ?_
          refine C_gW C w 5 (by decide) fl_W_26 rfl rfl d_W_takeDue_129 ?_
          exact Z_aret C hN hr (Or.inl ⟨_, rfl⟩) (Or.inr ⟨_, rfl⟩) d_W_takeDue_132 (by unfold tkD; rw [if_pos (by omega), ← hk]) (zeq (by unfold tkM tkP tkD; rw [if_pos (by omega), if_pos (by omega), if_pos (by omega), ← hk, ← hc1, ← hc]))
        have hlp : ∀ (n m : Nat), m + n = c → k < m → Z X G (zA G) 4 (zQ X G (some (.ref (V.1 9 (tkD M P D c).2 0))) (eC V (tkM M P c) (tkP M P D c) (tkD M P D c))) (eC V M (pShift P k m) D) 72 [(3, .int (nI m)), (2, .ref (V.1 9 (P k) 0)), (1, .int (nI k)), (0, .ref (V.1 6 0 0))] [] := by
          intro n
          induction n with
          | zero =>
            intro m h1 h2
            obtain rfl : m = c := by omega
            refine Z_iload_n C 0 d_W_takeDue_72 rfl rfl ?_
            refine Z_aload_n C 3 d_W_takeDue_73 rfl rfl ?_
            refine C_gW C w 2 (by decide) fl_W_29 rfl rfl d_W_takeDue_74 ?_
            refine Z_icmp_ge (tgt := 100) C d_W_takeDue_77 (by decide) (fun c77 => ?_) (fun c77 => ?_)
            · skip
              exact hy
            · rw [hc] at c77
              exact absurd (nI_le (Nat.le_refl _) (by omega)) c77 --stop
          | succ n ih =>
            intro m h1 h2
            have hpm : pShift P k m m < 63 := by unfold pShift; rw [if_neg (by omega)]; exact hPP m (by omega)
            have hm1 : nI m - 1 = nI (m - 1) := by obtain ⟨z, rfl⟩ : ∃ z, m = z + 1 := ⟨m - 1, by omega⟩; rw [nI_pred]; rfl
            refine Z_iload_n C 0 d_W_takeDue_72 rfl rfl ?_
            refine Z_aload_n C 3 d_W_takeDue_73 rfl rfl ?_
            refine C_gW C w 2 (by decide) fl_W_29 rfl rfl d_W_takeDue_74 ?_
            refine Z_icmp_ge (tgt := 100) C d_W_takeDue_77 (by decide) (fun c77 => ?_) (fun c77 => ?_)
            · rw [hc] at c77
              exact absurd c77 (nI_ge (a := m) (b := c) (by omega) (by omega)) --stop
            · skip
              refine Z_aload_n C 3 d_W_takeDue_80 rfl rfl ?_
              refine C_gW C w 1 (by decide) fl_W_17 rfl rfl d_W_takeDue_81 ?_
              refine Z_iload_n C 0 d_W_takeDue_84 rfl rfl ?_
              refine Z_iconst (v := 1) C d_W_takeDue_85 (by decide) ?_
              refine Z_isub C d_W_takeDue_86 ?_
              refine Z_aload_n C 3 d_W_takeDue_87 rfl rfl ?_
              refine C_gW C w 1 (by decide) fl_W_17 rfl rfl d_W_takeDue_88 ?_
              refine Z_iload_n C 0 d_W_takeDue_91 rfl rfl ?_
              refine C_ldY C w m (nI_clamp (by omega)) (vp_in_nI (by omega) (by decide)) d_W_takeDue_92 ?_
              refine C_stY C w (by assumption) (m - 1) (by rw [hm1]; exact nI_clamp (by omega)) (by rw [hm1]; exact vp_in_nI (by omega) (by decide)) d_W_takeDue_93 ?_
              refine Z_iinc 0 C d_W_takeDue_94 rfl (nI_1 m) (by decide) rfl ?_
              refine Z_goto (tgt := 72) C d_W_takeDue_97 (by decide) ?_
              have := ih (m + 1) (by omega) (by omega)
              rw [← pShift_s P k m h2] at this
              exact this
        have := hlp (c - (k + 1)) (k + 1) (by omega) (by omega)
        rw [pShift_0, ← nI_1] at this
        exact this
  have hlp : ∀ (n i : Nat), i + n = c → kDue M P c n i = kDue M P c c 0 → Z X G (zA G) 4 (zQ X G (some (.ref (V.1 9 (tkD M P D c).2 0))) (eC V (tkM M P c) (tkP M P D c) (tkD M P D c))) (eC V M P D) 2 [(1, .int (nI i)), (0, .ref (V.1 6 0 0))] [] := by
    intro n
    induction n with
    | zero =>
      intro i h1 h2
      refine Z_iload_n C 0 d_W_takeDue_2 rfl rfl ?_
      refine Z_aload_n C 1 d_W_takeDue_3 rfl rfl ?_
      refine C_gW C w 2 (by decide) fl_W_29 rfl rfl d_W_takeDue_4 ?_
      refine Z_icmp_ge (tgt := 41) C d_W_takeDue_7 (by decide) (fun c7 => ?_) (fun c7 => ?_)
      · skip
        exact hx i h2
      · rw [hc] at c7
        exact absurd (nI_le (by omega) (by omega)) c7 --stop
    | succ n ih =>
      intro i h1 h2
      have hpi : P i < 63 := hPP i (by omega)
      refine Z_iload_n C 0 d_W_takeDue_2 rfl rfl ?_
      refine Z_aload_n C 1 d_W_takeDue_3 rfl rfl ?_
      refine C_gW C w 2 (by decide) fl_W_29 rfl rfl d_W_takeDue_4 ?_
      refine Z_icmp_ge (tgt := 41) C d_W_takeDue_7 (by decide) (fun c7 => ?_) (fun c7 => ?_)
      · rw [hc] at c7
        exact absurd c7 (nI_ge (a := i) (b := c) (by omega) (by omega)) --stop
      · skip
        refine Z_iload_n C 0 d_W_takeDue_10 rfl rfl ?_
        refine Z_aload_n C 1 d_W_takeDue_11 rfl rfl ?_
        refine C_gW C w 1 (by decide) fl_W_17 rfl rfl d_W_takeDue_12 ?_
        refine C_lenY C w d_W_takeDue_15 ?_
        refine Z_icmp_ge (tgt := 41) C d_W_takeDue_16 (by decide) (fun c16 => ?_) (fun c16 => ?_)
        · exact absurd c16 (nI_ge (a := i) (b := 60) (by omega) (by decide)) --stop
        · skip
          refine Z_aload_n C 1 d_W_takeDue_19 rfl rfl ?_
          refine C_gW C w 1 (by decide) fl_W_17 rfl rfl d_W_takeDue_20 ?_
          refine Z_iload_n C 0 d_W_takeDue_23 rfl rfl ?_
          refine C_ldY C w i (nI_clamp (by omega)) (vp_in_nI (by omega) (by decide)) d_W_takeDue_24 ?_
          refine C_gF C w (by assumption) 8 (by decide) fl_W_33 rfl rfl d_W_takeDue_25 ?_
          refine Z_aload_n C 1 d_W_takeDue_28 rfl rfl ?_
          refine C_gW C w 3 (by decide) fl_W_36 rfl rfl d_W_takeDue_29 ?_
          refine Z_icmp_le (tgt := 41) C d_W_takeDue_32 (by decide) (fun c32 => ?_) (fun c32 => ?_)
          · skip
            exact hx i (by rw [← h2]; unfold kDue; rw [if_pos c32])
          · skip
            refine Z_iinc 0 C d_W_takeDue_35 rfl (nI_1 i) (by decide) rfl ?_
            refine Z_goto (tgt := 2) C d_W_takeDue_38 (by decide) ?_
            exact ih (i + 1) (by omega) (by rw [← h2]; conv => rhs; unfold kDue; rw [if_neg c32])
  exact hlp c 0 (by omega) rfl
/-- the draft goes over the switch, by a port, from a known station -/
def cyKnown (M : zM) (x : Int32) : Int32 := if x < 0 then 0 else if 16 ≤ x then 0 else if M 7 0 0 x.toNatClampNeg = -1 then 0 else 1
def cyPorts (M : zM) (x port : Int32) : Int32 := (if cyKnown M x = 0 then 31 else (1 : Int32) <<< (M 7 0 0 x.toNatClampNeg &&& 31)) &&& (((1 : Int32) <<< (port &&& 31)) ^^^ (-1))
def cyM (M : zM) (d c s : Nat) (port delay : Int32) : zM := if c = 60 then up M 7 0 0 s port else up (up (up (up M 7 0 0 s port) 9 d 0 7 (cyPorts (up M 7 0 0 s port) (M 9 d 0 4) port)) 9 d 0 8 (M 6 0 0 3 + delay)) 6 0 0 2 (nI (c + 1))
def cyP (P : Nat → Nat) (D : Nat × Nat) (c : Nat) : Nat → Nat := if c = 60 then P else va_up P c D.1
def cyD (P : Nat → Nat) (D : Nat × Nat) (c : Nat) : Nat × Nat := if c = 60 then D else (P c, D.2)
theorem cyKnown_in {M : zM} {x : Int32} (h : ¬ cyKnown M x = 0) : vp_in x 16 := by
  unfold cyKnown at h
  by_cases h1 : x < 0
  · rw [if_pos h1] at h; exact absurd rfl h
  · by_cases h2 : (16 : Int32) ≤ x
    · rw [if_neg h1, if_pos h2] at h; exact absurd rfl h
    · exact vp_inc h1 h2 rfl
theorem lt60 {x : Int32} {c : Nat} (hc : x = nI c) (h : c ≤ 60) (h1 : x < 60) : c < 60 := by
  rcases Nat.lt_or_ge c 60 with q | q
  · exact q
  · rw [hc] at h1
    exact absurd h1 (nI_nlt (a := c) (b := 60) q (by omega))
theorem ge60 {x : Int32} {c : Nat} (hc : x = nI c) (h : c ≤ 60) (h1 : ¬ x < 60) : c = 60 := by
  rcases Nat.lt_or_ge c 60 with q | q
  · rw [hc] at h1
    exact absurd (nI_lt (a := c) (b := 60) q (by omega)) h1
  · omega
set_option maxRecDepth 100000 in
set_option maxHeartbeats 4000000 in
theorem c_W_carryDraft {l : Launch} {G : zG} {V : zV} (w : wC G V) (M : zM) (P : Nat → Nat) (D : Nat × Nat) (port delay : Int32) (c s : Nat) (hc : M 6 0 0 2 = nI c) (hc60 : c ≤ 60) (hD1 : D.1 < 63) (hPP : ∀ n, n < 60 → P n < 63) (hs : M 9 D.1 0 3 = nI s) (hs16 : s < 16) : zF l y_W_carryDraft b_W_carryDraft 6 none 0 0 G [.ref (V.1 6 0 0), .int port, .int delay] (eC V M P D) none (eC V (cyM M D.1 c s port delay) (cyP P D c) (cyD P D c)) := by
  refine zF.ofZ (by decide) w.2.2.2.2 (Nat.le_of_ble_eq_true rfl) (fun X hXl hN hr C => ?_)
  subst hXl
  show Z X G (zA G) 6 _ (eC V M P D) 0 [(0, .ref (V.1 6 0 0)), (1, .int port), (2, .int delay)] []
  refine Z_aload_n C 0 d_W_carryDraft_0 rfl rfl ?_
  refine C_gW C w 4 (by decide) fl_W_22 rfl rfl d_W_carryDraft_1 ?_
  refine C_gF C w (by assumption) 3 (by decide) fl_W_45 rfl rfl d_W_carryDraft_4 ?_
  refine Z_if_lt (tgt := 38) C d_W_carryDraft_7 (by decide) (fun c7 => ?_) (fun c7 => ?_)
  · exact absurd (show nI s < 0 from by rw [← hs]; exact c7) (nI_pos (by omega)) --stop
  · skip
    refine Z_aload_n C 0 d_W_carryDraft_10 rfl rfl ?_
    refine C_gW C w 4 (by decide) fl_W_22 rfl rfl d_W_carryDraft_11 ?_
    refine C_gF C w (by assumption) 3 (by decide) fl_W_45 rfl rfl d_W_carryDraft_14 ?_
    refine Z_aload_n C 0 d_W_carryDraft_17 rfl rfl ?_
    refine C_gW C w 0 (by decide) fl_W_9 rfl rfl d_W_carryDraft_18 ?_
    refine C_lenP C w d_W_carryDraft_21 ?_
    refine Z_icmp_ge (tgt := 38) C d_W_carryDraft_22 (by decide) (fun c22 => ?_) (fun c22 => ?_)
    · exact absurd (show nI 16 ≤ nI s from by rw [← hs]; exact c22) (nI_ge (by omega) (by omega)) --stop
    · skip
      refine Z_aload_n C 0 d_W_carryDraft_25 rfl rfl ?_
      refine C_gW C w 0 (by decide) fl_W_9 rfl rfl d_W_carryDraft_26 ?_
      refine Z_aload_n C 0 d_W_carryDraft_29 rfl rfl ?_
      refine C_gW C w 4 (by decide) fl_W_22 rfl rfl d_W_carryDraft_30 ?_
      refine C_gF C w (by assumption) 3 (by decide) fl_W_45 rfl rfl d_W_carryDraft_33 ?_
      refine Z_iload_n C 1 d_W_carryDraft_36 rfl rfl ?_
      refine C_stP C w s (by show (M 9 D.1 0 3).toNatClampNeg = s; rw [hs]; exact nI_clamp (by omega)) (by show vp_in (M 9 D.1 0 3) 16; rw [hs]; exact vp_in_nI hs16 (by decide)) d_W_carryDraft_37 ?_
      refine Z_aload_n C 0 d_W_carryDraft_38 rfl rfl ?_
      refine C_gW C w 2 (by decide) fl_W_29 rfl rfl d_W_carryDraft_39 ?_
      refine Z_if_lt (tgt := 57) C d_W_carryDraft_42 (by decide) (fun c42 => ?_) (fun c42 => ?_)
      · exact absurd (show nI c < 0 from by rw [← hc]; exact c42) (nI_pos (by omega)) --stop
      · skip
        refine Z_aload_n C 0 d_W_carryDraft_45 rfl rfl ?_
        refine C_gW C w 2 (by decide) fl_W_29 rfl rfl d_W_carryDraft_46 ?_
        refine Z_aload_n C 0 d_W_carryDraft_49 rfl rfl ?_
        refine C_gW C w 1 (by decide) fl_W_17 rfl rfl d_W_carryDraft_50 ?_
        refine C_lenY C w d_W_carryDraft_53 ?_
        refine Z_icmp_lt (tgt := 58) C d_W_carryDraft_54 (by decide) (fun c54 => ?_) (fun c54 => ?_)
        · have hlt : c < 60 := lt60 hc hc60 c54
          refine Z_aload_n C 0 d_W_carryDraft_58 rfl rfl ?_
          refine C_gW C w 4 (by decide) fl_W_22 rfl rfl d_W_carryDraft_59 ?_
          refine C_gF C w (by assumption) 4 (by decide) fl_W_48 rfl rfl d_W_carryDraft_62 ?_
          refine Z_if_lt (tgt := 103) C d_W_carryDraft_65 (by decide) (fun c65 => ?_) (fun c65 => ?_)
          · have c65 : M 9 D.1 0 4 < 0 := c65
            refine Z_iconst (v := 0) C d_W_carryDraft_103 (by decide) ?_
            refine zst (st' := [.int (cyKnown (up M 7 0 0 s port) (M 9 D.1 0 4))]) (by unfold cyKnown; simp [c65]) ?_
            refine Z_istore_n C d_W_carryDraft_104 rfl (by decide) rfl ?_
            refine Z_iload_n C 0 d_W_carryDraft_105 rfl rfl ?_
            refine Z_if_eq (tgt := 126) C d_W_carryDraft_106 (by decide) (fun c106 => ?_) (fun c106 => ?_)
            · skip
              refine Z_bipush (v := 31) C d_W_carryDraft_126 (by decide) ?_
              refine zst (st' := [.int (if cyKnown (up M 7 0 0 s port) (M 9 D.1 0 4) = 0 then 31 else (1 : Int32) <<< ((up M 7 0 0 s port) 7 0 0 (M 9 D.1 0 4).toNatClampNeg &&& 31))]) (by first | (rw [if_pos c106]; done) | (rw [if_neg c106]; done) | (rw [if_neg c106]; rfl)) ?_
              refine Z_istore C d_W_carryDraft_128 (by decide) rfl ?_
              refine Z_aload_n C 2 d_W_carryDraft_130 rfl rfl ?_
              refine C_gW C w 4 (by decide) fl_W_22 rfl rfl d_W_carryDraft_131 ?_
              refine Z_iload C 0 d_W_carryDraft_134 rfl ?_
              refine Z_iconst (v := 1) C d_W_carryDraft_136 (by decide) ?_
              refine Z_iload_n C 3 d_W_carryDraft_137 rfl rfl ?_
              refine Z_ishl C d_W_carryDraft_138 ?_
              refine Z_iconst (v := (-1)) C d_W_carryDraft_139 (by decide) ?_
              refine Z_ixor C d_W_carryDraft_140 ?_
              refine Z_iand C d_W_carryDraft_141 ?_
              refine C_pF C w (by assumption) 7 (by decide) fl_W_57 rfl rfl rfl rfl rfl d_W_carryDraft_142 ?_
              refine Z_aload_n C 2 d_W_carryDraft_145 rfl rfl ?_
              refine C_gW C w 4 (by decide) fl_W_22 rfl rfl d_W_carryDraft_146 ?_
              refine Z_aload_n C 2 d_W_carryDraft_149 rfl rfl ?_
              refine C_gW C w 3 (by decide) fl_W_36 rfl rfl d_W_carryDraft_150 ?_
              refine Z_iload_n C 4 d_W_carryDraft_153 rfl rfl ?_
              refine Z_iadd C d_W_carryDraft_154 ?_
              refine C_pF C w (by assumption) 8 (by decide) fl_W_33 rfl rfl rfl rfl rfl d_W_carryDraft_155 ?_
              refine Z_aload_n C 2 d_W_carryDraft_158 rfl rfl ?_
              refine C_gW C w 1 (by decide) fl_W_17 rfl rfl d_W_carryDraft_159 ?_
              refine Z_aload_n C 2 d_W_carryDraft_162 rfl rfl ?_
              refine C_gW C w 2 (by decide) fl_W_29 rfl rfl d_W_carryDraft_163 ?_
              refine C_ldY C w c (by show (M 6 0 0 2).toNatClampNeg = c; rw [hc]; exact nI_clamp (by omega)) (by show vp_in (M 6 0 0 2) 60; rw [hc]; exact vp_in_nI (by omega) (by decide)) d_W_carryDraft_166 ?_
              refine Z_astore C d_W_carryDraft_167 (by decide) rfl ?_
              refine Z_aload_n C 3 d_W_carryDraft_169 rfl rfl ?_
              refine C_gW C w 1 (by decide) fl_W_17 rfl rfl d_W_carryDraft_170 ?_
              refine Z_aload_n C 3 d_W_carryDraft_173 rfl rfl ?_
              refine C_gW C w 2 (by decide) fl_W_29 rfl rfl d_W_carryDraft_174 ?_
              refine Z_aload_n C 3 d_W_carryDraft_177 rfl rfl ?_
              refine C_gW C w 4 (by decide) fl_W_22 rfl rfl d_W_carryDraft_178 ?_
              refine C_stY C w (by assumption) c (by show (M 6 0 0 2).toNatClampNeg = c; rw [hc]; exact nI_clamp (by omega)) (by show vp_in (M 6 0 0 2) 60; rw [hc]; exact vp_in_nI (by omega) (by decide)) d_W_carryDraft_181 ?_
              refine Z_aload_n C 3 d_W_carryDraft_182 rfl rfl ?_
              refine Z_dup C d_W_carryDraft_183 rfl ?_
              refine C_gW C w 2 (by decide) fl_W_29 rfl rfl d_W_carryDraft_184 ?_
              refine Z_iconst (v := 1) C d_W_carryDraft_187 (by decide) ?_
              refine Z_iadd C d_W_carryDraft_188 ?_
              refine C_pW C w 2 (by decide) fl_W_29 rfl rfl rfl rfl rfl d_W_carryDraft_189 ?_
              refine Z_aload_n C 3 d_W_carryDraft_192 rfl rfl ?_
              refine Z_aload C 0 d_W_carryDraft_193 rfl ?_
              refine C_pD C w fl_W_22 d_W_carryDraft_195 ?_
              exact Z_vret C hN hr d_W_carryDraft_198 rfl (zeq (by unfold cyM cyP cyD; rw [if_neg (show ¬ c = 60 by omega), if_neg (show ¬ c = 60 by omega), if_neg (show ¬ c = 60 by omega), ← nI_1, ← hc]; rfl))
            · skip
              refine Z_iconst (v := 1) C d_W_carryDraft_109 (by decide) ?_
              refine Z_aload_n C 1 d_W_carryDraft_110 rfl rfl ?_
              refine C_gW C w 0 (by decide) fl_W_9 rfl rfl d_W_carryDraft_111 ?_
              refine Z_aload_n C 1 d_W_carryDraft_114 rfl rfl ?_
              refine C_gW C w 4 (by decide) fl_W_22 rfl rfl d_W_carryDraft_115 ?_
              refine C_gF C w (by assumption) 4 (by decide) fl_W_48 rfl rfl d_W_carryDraft_118 ?_
              refine C_ldP C w (M 9 D.1 0 4).toNatClampNeg rfl (cyKnown_in c106) d_W_carryDraft_121 ?_
              refine Z_ishl C d_W_carryDraft_122 ?_
              refine Z_goto (tgt := 128) C d_W_carryDraft_123 (by decide) ?_
              refine zst (st' := [.int (if cyKnown (up M 7 0 0 s port) (M 9 D.1 0 4) = 0 then 31 else (1 : Int32) <<< ((up M 7 0 0 s port) 7 0 0 (M 9 D.1 0 4).toNatClampNeg &&& 31))]) (by first | (rw [if_pos c106]; done) | (rw [if_neg c106]; done) | (rw [if_neg c106]; rfl)) ?_
              refine Z_istore C d_W_carryDraft_128 (by decide) rfl ?_
              refine Z_aload_n C 2 d_W_carryDraft_130 rfl rfl ?_
              refine C_gW C w 4 (by decide) fl_W_22 rfl rfl d_W_carryDraft_131 ?_
              refine Z_iload C 0 d_W_carryDraft_134 rfl ?_
              refine Z_iconst (v := 1) C d_W_carryDraft_136 (by decide) ?_
              refine Z_iload_n C 3 d_W_carryDraft_137 rfl rfl ?_
              refine Z_ishl C d_W_carryDraft_138 ?_
              refine Z_iconst (v := (-1)) C d_W_carryDraft_139 (by decide) ?_
              refine Z_ixor C d_W_carryDraft_140 ?_
              refine Z_iand C d_W_carryDraft_141 ?_
              refine C_pF C w (by assumption) 7 (by decide) fl_W_57 rfl rfl rfl rfl rfl d_W_carryDraft_142 ?_
              refine Z_aload_n C 2 d_W_carryDraft_145 rfl rfl ?_
              refine C_gW C w 4 (by decide) fl_W_22 rfl rfl d_W_carryDraft_146 ?_
              refine Z_aload_n C 2 d_W_carryDraft_149 rfl rfl ?_
              refine C_gW C w 3 (by decide) fl_W_36 rfl rfl d_W_carryDraft_150 ?_
              refine Z_iload_n C 4 d_W_carryDraft_153 rfl rfl ?_
              refine Z_iadd C d_W_carryDraft_154 ?_
              refine C_pF C w (by assumption) 8 (by decide) fl_W_33 rfl rfl rfl rfl rfl d_W_carryDraft_155 ?_
              refine Z_aload_n C 2 d_W_carryDraft_158 rfl rfl ?_
              refine C_gW C w 1 (by decide) fl_W_17 rfl rfl d_W_carryDraft_159 ?_
              refine Z_aload_n C 2 d_W_carryDraft_162 rfl rfl ?_
              refine C_gW C w 2 (by decide) fl_W_29 rfl rfl d_W_carryDraft_163 ?_
              refine C_ldY C w c (by show (M 6 0 0 2).toNatClampNeg = c; rw [hc]; exact nI_clamp (by omega)) (by show vp_in (M 6 0 0 2) 60; rw [hc]; exact vp_in_nI (by omega) (by decide)) d_W_carryDraft_166 ?_
              refine Z_astore C d_W_carryDraft_167 (by decide) rfl ?_
              refine Z_aload_n C 3 d_W_carryDraft_169 rfl rfl ?_
              refine C_gW C w 1 (by decide) fl_W_17 rfl rfl d_W_carryDraft_170 ?_
              refine Z_aload_n C 3 d_W_carryDraft_173 rfl rfl ?_
              refine C_gW C w 2 (by decide) fl_W_29 rfl rfl d_W_carryDraft_174 ?_
              refine Z_aload_n C 3 d_W_carryDraft_177 rfl rfl ?_
              refine C_gW C w 4 (by decide) fl_W_22 rfl rfl d_W_carryDraft_178 ?_
              refine C_stY C w (by assumption) c (by show (M 6 0 0 2).toNatClampNeg = c; rw [hc]; exact nI_clamp (by omega)) (by show vp_in (M 6 0 0 2) 60; rw [hc]; exact vp_in_nI (by omega) (by decide)) d_W_carryDraft_181 ?_
              refine Z_aload_n C 3 d_W_carryDraft_182 rfl rfl ?_
              refine Z_dup C d_W_carryDraft_183 rfl ?_
              refine C_gW C w 2 (by decide) fl_W_29 rfl rfl d_W_carryDraft_184 ?_
              refine Z_iconst (v := 1) C d_W_carryDraft_187 (by decide) ?_
              refine Z_iadd C d_W_carryDraft_188 ?_
              refine C_pW C w 2 (by decide) fl_W_29 rfl rfl rfl rfl rfl d_W_carryDraft_189 ?_
              refine Z_aload_n C 3 d_W_carryDraft_192 rfl rfl ?_
              refine Z_aload C 0 d_W_carryDraft_193 rfl ?_
              refine C_pD C w fl_W_22 d_W_carryDraft_195 ?_
              exact Z_vret C hN hr d_W_carryDraft_198 rfl (zeq (by unfold cyM cyP cyD; rw [if_neg (show ¬ c = 60 by omega), if_neg (show ¬ c = 60 by omega), if_neg (show ¬ c = 60 by omega), ← nI_1, ← hc]; rfl))
          · have c65 : ¬ M 9 D.1 0 4 < 0 := c65
            refine Z_aload_n C 0 d_W_carryDraft_68 rfl rfl ?_
            refine C_gW C w 4 (by decide) fl_W_22 rfl rfl d_W_carryDraft_69 ?_
            refine C_gF C w (by assumption) 4 (by decide) fl_W_48 rfl rfl d_W_carryDraft_72 ?_
            refine Z_aload_n C 0 d_W_carryDraft_75 rfl rfl ?_
            refine C_gW C w 0 (by decide) fl_W_9 rfl rfl d_W_carryDraft_76 ?_
            refine C_lenP C w d_W_carryDraft_79 ?_
            refine Z_icmp_ge (tgt := 103) C d_W_carryDraft_80 (by decide) (fun c80 => ?_) (fun c80 => ?_)
            · have c80 : 16 ≤ M 9 D.1 0 4 := c80
              refine Z_iconst (v := 0) C d_W_carryDraft_103 (by decide) ?_
              refine zst (st' := [.int (cyKnown (up M 7 0 0 s port) (M 9 D.1 0 4))]) (by unfold cyKnown; simp [c65, c80]) ?_
              refine Z_istore_n C d_W_carryDraft_104 rfl (by decide) rfl ?_
              refine Z_iload_n C 0 d_W_carryDraft_105 rfl rfl ?_
              refine Z_if_eq (tgt := 126) C d_W_carryDraft_106 (by decide) (fun c106 => ?_) (fun c106 => ?_)
              · skip
                refine Z_bipush (v := 31) C d_W_carryDraft_126 (by decide) ?_
                refine zst (st' := [.int (if cyKnown (up M 7 0 0 s port) (M 9 D.1 0 4) = 0 then 31 else (1 : Int32) <<< ((up M 7 0 0 s port) 7 0 0 (M 9 D.1 0 4).toNatClampNeg &&& 31))]) (by first | (rw [if_pos c106]; done) | (rw [if_neg c106]; done) | (rw [if_neg c106]; rfl)) ?_
                refine Z_istore C d_W_carryDraft_128 (by decide) rfl ?_
                refine Z_aload_n C 2 d_W_carryDraft_130 rfl rfl ?_
                refine C_gW C w 4 (by decide) fl_W_22 rfl rfl d_W_carryDraft_131 ?_
                refine Z_iload C 0 d_W_carryDraft_134 rfl ?_
                refine Z_iconst (v := 1) C d_W_carryDraft_136 (by decide) ?_
                refine Z_iload_n C 3 d_W_carryDraft_137 rfl rfl ?_
                refine Z_ishl C d_W_carryDraft_138 ?_
                refine Z_iconst (v := (-1)) C d_W_carryDraft_139 (by decide) ?_
                refine Z_ixor C d_W_carryDraft_140 ?_
                refine Z_iand C d_W_carryDraft_141 ?_
                refine C_pF C w (by assumption) 7 (by decide) fl_W_57 rfl rfl rfl rfl rfl d_W_carryDraft_142 ?_
                refine Z_aload_n C 2 d_W_carryDraft_145 rfl rfl ?_
                refine C_gW C w 4 (by decide) fl_W_22 rfl rfl d_W_carryDraft_146 ?_
                refine Z_aload_n C 2 d_W_carryDraft_149 rfl rfl ?_
                refine C_gW C w 3 (by decide) fl_W_36 rfl rfl d_W_carryDraft_150 ?_
                refine Z_iload_n C 4 d_W_carryDraft_153 rfl rfl ?_
                refine Z_iadd C d_W_carryDraft_154 ?_
                refine C_pF C w (by assumption) 8 (by decide) fl_W_33 rfl rfl rfl rfl rfl d_W_carryDraft_155 ?_
                refine Z_aload_n C 2 d_W_carryDraft_158 rfl rfl ?_
                refine C_gW C w 1 (by decide) fl_W_17 rfl rfl d_W_carryDraft_159 ?_
                refine Z_aload_n C 2 d_W_carryDraft_162 rfl rfl ?_
                refine C_gW C w 2 (by decide) fl_W_29 rfl rfl d_W_carryDraft_163 ?_
                refine C_ldY C w c (by show (M 6 0 0 2).toNatClampNeg = c; rw [hc]; exact nI_clamp (by omega)) (by show vp_in (M 6 0 0 2) 60; rw [hc]; exact vp_in_nI (by omega) (by decide)) d_W_carryDraft_166 ?_
                refine Z_astore C d_W_carryDraft_167 (by decide) rfl ?_
                refine Z_aload_n C 3 d_W_carryDraft_169 rfl rfl ?_
                refine C_gW C w 1 (by decide) fl_W_17 rfl rfl d_W_carryDraft_170 ?_
                refine Z_aload_n C 3 d_W_carryDraft_173 rfl rfl ?_
                refine C_gW C w 2 (by decide) fl_W_29 rfl rfl d_W_carryDraft_174 ?_
                refine Z_aload_n C 3 d_W_carryDraft_177 rfl rfl ?_
                refine C_gW C w 4 (by decide) fl_W_22 rfl rfl d_W_carryDraft_178 ?_
                refine C_stY C w (by assumption) c (by show (M 6 0 0 2).toNatClampNeg = c; rw [hc]; exact nI_clamp (by omega)) (by show vp_in (M 6 0 0 2) 60; rw [hc]; exact vp_in_nI (by omega) (by decide)) d_W_carryDraft_181 ?_
                refine Z_aload_n C 3 d_W_carryDraft_182 rfl rfl ?_
                refine Z_dup C d_W_carryDraft_183 rfl ?_
                refine C_gW C w 2 (by decide) fl_W_29 rfl rfl d_W_carryDraft_184 ?_
                refine Z_iconst (v := 1) C d_W_carryDraft_187 (by decide) ?_
                refine Z_iadd C d_W_carryDraft_188 ?_
                refine C_pW C w 2 (by decide) fl_W_29 rfl rfl rfl rfl rfl d_W_carryDraft_189 ?_
                refine Z_aload_n C 3 d_W_carryDraft_192 rfl rfl ?_
                refine Z_aload C 0 d_W_carryDraft_193 rfl ?_
                refine C_pD C w fl_W_22 d_W_carryDraft_195 ?_
                exact Z_vret C hN hr d_W_carryDraft_198 rfl (zeq (by unfold cyM cyP cyD; rw [if_neg (show ¬ c = 60 by omega), if_neg (show ¬ c = 60 by omega), if_neg (show ¬ c = 60 by omega), ← nI_1, ← hc]; rfl))
              · skip
                refine Z_iconst (v := 1) C d_W_carryDraft_109 (by decide) ?_
                refine Z_aload_n C 1 d_W_carryDraft_110 rfl rfl ?_
                refine C_gW C w 0 (by decide) fl_W_9 rfl rfl d_W_carryDraft_111 ?_
                refine Z_aload_n C 1 d_W_carryDraft_114 rfl rfl ?_
                refine C_gW C w 4 (by decide) fl_W_22 rfl rfl d_W_carryDraft_115 ?_
                refine C_gF C w (by assumption) 4 (by decide) fl_W_48 rfl rfl d_W_carryDraft_118 ?_
                refine C_ldP C w (M 9 D.1 0 4).toNatClampNeg rfl (cyKnown_in c106) d_W_carryDraft_121 ?_
                refine Z_ishl C d_W_carryDraft_122 ?_
                refine Z_goto (tgt := 128) C d_W_carryDraft_123 (by decide) ?_
                refine zst (st' := [.int (if cyKnown (up M 7 0 0 s port) (M 9 D.1 0 4) = 0 then 31 else (1 : Int32) <<< ((up M 7 0 0 s port) 7 0 0 (M 9 D.1 0 4).toNatClampNeg &&& 31))]) (by first | (rw [if_pos c106]; done) | (rw [if_neg c106]; done) | (rw [if_neg c106]; rfl)) ?_
                refine Z_istore C d_W_carryDraft_128 (by decide) rfl ?_
                refine Z_aload_n C 2 d_W_carryDraft_130 rfl rfl ?_
                refine C_gW C w 4 (by decide) fl_W_22 rfl rfl d_W_carryDraft_131 ?_
                refine Z_iload C 0 d_W_carryDraft_134 rfl ?_
                refine Z_iconst (v := 1) C d_W_carryDraft_136 (by decide) ?_
                refine Z_iload_n C 3 d_W_carryDraft_137 rfl rfl ?_
                refine Z_ishl C d_W_carryDraft_138 ?_
                refine Z_iconst (v := (-1)) C d_W_carryDraft_139 (by decide) ?_
                refine Z_ixor C d_W_carryDraft_140 ?_
                refine Z_iand C d_W_carryDraft_141 ?_
                refine C_pF C w (by assumption) 7 (by decide) fl_W_57 rfl rfl rfl rfl rfl d_W_carryDraft_142 ?_
                refine Z_aload_n C 2 d_W_carryDraft_145 rfl rfl ?_
                refine C_gW C w 4 (by decide) fl_W_22 rfl rfl d_W_carryDraft_146 ?_
                refine Z_aload_n C 2 d_W_carryDraft_149 rfl rfl ?_
                refine C_gW C w 3 (by decide) fl_W_36 rfl rfl d_W_carryDraft_150 ?_
                refine Z_iload_n C 4 d_W_carryDraft_153 rfl rfl ?_
                refine Z_iadd C d_W_carryDraft_154 ?_
                refine C_pF C w (by assumption) 8 (by decide) fl_W_33 rfl rfl rfl rfl rfl d_W_carryDraft_155 ?_
                refine Z_aload_n C 2 d_W_carryDraft_158 rfl rfl ?_
                refine C_gW C w 1 (by decide) fl_W_17 rfl rfl d_W_carryDraft_159 ?_
                refine Z_aload_n C 2 d_W_carryDraft_162 rfl rfl ?_
                refine C_gW C w 2 (by decide) fl_W_29 rfl rfl d_W_carryDraft_163 ?_
                refine C_ldY C w c (by show (M 6 0 0 2).toNatClampNeg = c; rw [hc]; exact nI_clamp (by omega)) (by show vp_in (M 6 0 0 2) 60; rw [hc]; exact vp_in_nI (by omega) (by decide)) d_W_carryDraft_166 ?_
                refine Z_astore C d_W_carryDraft_167 (by decide) rfl ?_
                refine Z_aload_n C 3 d_W_carryDraft_169 rfl rfl ?_
                refine C_gW C w 1 (by decide) fl_W_17 rfl rfl d_W_carryDraft_170 ?_
                refine Z_aload_n C 3 d_W_carryDraft_173 rfl rfl ?_
                refine C_gW C w 2 (by decide) fl_W_29 rfl rfl d_W_carryDraft_174 ?_
                refine Z_aload_n C 3 d_W_carryDraft_177 rfl rfl ?_
                refine C_gW C w 4 (by decide) fl_W_22 rfl rfl d_W_carryDraft_178 ?_
                refine C_stY C w (by assumption) c (by show (M 6 0 0 2).toNatClampNeg = c; rw [hc]; exact nI_clamp (by omega)) (by show vp_in (M 6 0 0 2) 60; rw [hc]; exact vp_in_nI (by omega) (by decide)) d_W_carryDraft_181 ?_
                refine Z_aload_n C 3 d_W_carryDraft_182 rfl rfl ?_
                refine Z_dup C d_W_carryDraft_183 rfl ?_
                refine C_gW C w 2 (by decide) fl_W_29 rfl rfl d_W_carryDraft_184 ?_
                refine Z_iconst (v := 1) C d_W_carryDraft_187 (by decide) ?_
                refine Z_iadd C d_W_carryDraft_188 ?_
                refine C_pW C w 2 (by decide) fl_W_29 rfl rfl rfl rfl rfl d_W_carryDraft_189 ?_
                refine Z_aload_n C 3 d_W_carryDraft_192 rfl rfl ?_
                refine Z_aload C 0 d_W_carryDraft_193 rfl ?_
                refine C_pD C w fl_W_22 d_W_carryDraft_195 ?_
                exact Z_vret C hN hr d_W_carryDraft_198 rfl (zeq (by unfold cyM cyP cyD; rw [if_neg (show ¬ c = 60 by omega), if_neg (show ¬ c = 60 by omega), if_neg (show ¬ c = 60 by omega), ← nI_1, ← hc]; rfl))
            · have c80 : ¬ 16 ≤ M 9 D.1 0 4 := c80
              refine Z_aload_n C 0 d_W_carryDraft_83 rfl rfl ?_
              refine C_gW C w 0 (by decide) fl_W_9 rfl rfl d_W_carryDraft_84 ?_
              refine Z_aload_n C 0 d_W_carryDraft_87 rfl rfl ?_
              refine C_gW C w 4 (by decide) fl_W_22 rfl rfl d_W_carryDraft_88 ?_
              refine C_gF C w (by assumption) 4 (by decide) fl_W_48 rfl rfl d_W_carryDraft_91 ?_
              refine C_ldP C w (M 9 D.1 0 4).toNatClampNeg rfl (vp_inc c65 c80 rfl) d_W_carryDraft_94 ?_
              refine Z_iconst (v := (-1)) C d_W_carryDraft_95 (by decide) ?_
              refine Z_icmp_eq (tgt := 103) C d_W_carryDraft_96 (by decide) (fun c96 => ?_) (fun c96 => ?_)
              · have c96 : (up M 7 0 0 s port) 7 0 0 (M 9 D.1 0 4).toNatClampNeg = -1 := c96
                refine Z_iconst (v := 0) C d_W_carryDraft_103 (by decide) ?_
                refine zst (st' := [.int (cyKnown (up M 7 0 0 s port) (M 9 D.1 0 4))]) (by unfold cyKnown; simp [c65, c80, c96]) ?_
                refine Z_istore_n C d_W_carryDraft_104 rfl (by decide) rfl ?_
                refine Z_iload_n C 0 d_W_carryDraft_105 rfl rfl ?_
                refine Z_if_eq (tgt := 126) C d_W_carryDraft_106 (by decide) (fun c106 => ?_) (fun c106 => ?_)
                · skip
                  refine Z_bipush (v := 31) C d_W_carryDraft_126 (by decide) ?_
                  refine zst (st' := [.int (if cyKnown (up M 7 0 0 s port) (M 9 D.1 0 4) = 0 then 31 else (1 : Int32) <<< ((up M 7 0 0 s port) 7 0 0 (M 9 D.1 0 4).toNatClampNeg &&& 31))]) (by first | (rw [if_pos c106]; done) | (rw [if_neg c106]; done) | (rw [if_neg c106]; rfl)) ?_
                  refine Z_istore C d_W_carryDraft_128 (by decide) rfl ?_
                  refine Z_aload_n C 2 d_W_carryDraft_130 rfl rfl ?_
                  refine C_gW C w 4 (by decide) fl_W_22 rfl rfl d_W_carryDraft_131 ?_
                  refine Z_iload C 0 d_W_carryDraft_134 rfl ?_
                  refine Z_iconst (v := 1) C d_W_carryDraft_136 (by decide) ?_
                  refine Z_iload_n C 3 d_W_carryDraft_137 rfl rfl ?_
                  refine Z_ishl C d_W_carryDraft_138 ?_
                  refine Z_iconst (v := (-1)) C d_W_carryDraft_139 (by decide) ?_
                  refine Z_ixor C d_W_carryDraft_140 ?_
                  refine Z_iand C d_W_carryDraft_141 ?_
                  refine C_pF C w (by assumption) 7 (by decide) fl_W_57 rfl rfl rfl rfl rfl d_W_carryDraft_142 ?_
                  refine Z_aload_n C 2 d_W_carryDraft_145 rfl rfl ?_
                  refine C_gW C w 4 (by decide) fl_W_22 rfl rfl d_W_carryDraft_146 ?_
                  refine Z_aload_n C 2 d_W_carryDraft_149 rfl rfl ?_
                  refine C_gW C w 3 (by decide) fl_W_36 rfl rfl d_W_carryDraft_150 ?_
                  refine Z_iload_n C 4 d_W_carryDraft_153 rfl rfl ?_
                  refine Z_iadd C d_W_carryDraft_154 ?_
                  refine C_pF C w (by assumption) 8 (by decide) fl_W_33 rfl rfl rfl rfl rfl d_W_carryDraft_155 ?_
                  refine Z_aload_n C 2 d_W_carryDraft_158 rfl rfl ?_
                  refine C_gW C w 1 (by decide) fl_W_17 rfl rfl d_W_carryDraft_159 ?_
                  refine Z_aload_n C 2 d_W_carryDraft_162 rfl rfl ?_
                  refine C_gW C w 2 (by decide) fl_W_29 rfl rfl d_W_carryDraft_163 ?_
                  refine C_ldY C w c (by show (M 6 0 0 2).toNatClampNeg = c; rw [hc]; exact nI_clamp (by omega)) (by show vp_in (M 6 0 0 2) 60; rw [hc]; exact vp_in_nI (by omega) (by decide)) d_W_carryDraft_166 ?_
                  refine Z_astore C d_W_carryDraft_167 (by decide) rfl ?_
                  refine Z_aload_n C 3 d_W_carryDraft_169 rfl rfl ?_
                  refine C_gW C w 1 (by decide) fl_W_17 rfl rfl d_W_carryDraft_170 ?_
                  refine Z_aload_n C 3 d_W_carryDraft_173 rfl rfl ?_
                  refine C_gW C w 2 (by decide) fl_W_29 rfl rfl d_W_carryDraft_174 ?_
                  refine Z_aload_n C 3 d_W_carryDraft_177 rfl rfl ?_
                  refine C_gW C w 4 (by decide) fl_W_22 rfl rfl d_W_carryDraft_178 ?_
                  refine C_stY C w (by assumption) c (by show (M 6 0 0 2).toNatClampNeg = c; rw [hc]; exact nI_clamp (by omega)) (by show vp_in (M 6 0 0 2) 60; rw [hc]; exact vp_in_nI (by omega) (by decide)) d_W_carryDraft_181 ?_
                  refine Z_aload_n C 3 d_W_carryDraft_182 rfl rfl ?_
                  refine Z_dup C d_W_carryDraft_183 rfl ?_
                  refine C_gW C w 2 (by decide) fl_W_29 rfl rfl d_W_carryDraft_184 ?_
                  refine Z_iconst (v := 1) C d_W_carryDraft_187 (by decide) ?_
                  refine Z_iadd C d_W_carryDraft_188 ?_
                  refine C_pW C w 2 (by decide) fl_W_29 rfl rfl rfl rfl rfl d_W_carryDraft_189 ?_
                  refine Z_aload_n C 3 d_W_carryDraft_192 rfl rfl ?_
                  refine Z_aload C 0 d_W_carryDraft_193 rfl ?_
                  refine C_pD C w fl_W_22 d_W_carryDraft_195 ?_
                  exact Z_vret C hN hr d_W_carryDraft_198 rfl (zeq (by unfold cyM cyP cyD; rw [if_neg (show ¬ c = 60 by omega), if_neg (show ¬ c = 60 by omega), if_neg (show ¬ c = 60 by omega), ← nI_1, ← hc]; rfl))
                · skip
                  refine Z_iconst (v := 1) C d_W_carryDraft_109 (by decide) ?_
                  refine Z_aload_n C 1 d_W_carryDraft_110 rfl rfl ?_
                  refine C_gW C w 0 (by decide) fl_W_9 rfl rfl d_W_carryDraft_111 ?_
                  refine Z_aload_n C 1 d_W_carryDraft_114 rfl rfl ?_
                  refine C_gW C w 4 (by decide) fl_W_22 rfl rfl d_W_carryDraft_115 ?_
                  refine C_gF C w (by assumption) 4 (by decide) fl_W_48 rfl rfl d_W_carryDraft_118 ?_
                  refine C_ldP C w (M 9 D.1 0 4).toNatClampNeg rfl (cyKnown_in c106) d_W_carryDraft_121 ?_
                  refine Z_ishl C d_W_carryDraft_122 ?_
                  refine Z_goto (tgt := 128) C d_W_carryDraft_123 (by decide) ?_
                  refine zst (st' := [.int (if cyKnown (up M 7 0 0 s port) (M 9 D.1 0 4) = 0 then 31 else (1 : Int32) <<< ((up M 7 0 0 s port) 7 0 0 (M 9 D.1 0 4).toNatClampNeg &&& 31))]) (by first | (rw [if_pos c106]; done) | (rw [if_neg c106]; done) | (rw [if_neg c106]; rfl)) ?_
                  refine Z_istore C d_W_carryDraft_128 (by decide) rfl ?_
                  refine Z_aload_n C 2 d_W_carryDraft_130 rfl rfl ?_
                  refine C_gW C w 4 (by decide) fl_W_22 rfl rfl d_W_carryDraft_131 ?_
                  refine Z_iload C 0 d_W_carryDraft_134 rfl ?_
                  refine Z_iconst (v := 1) C d_W_carryDraft_136 (by decide) ?_
                  refine Z_iload_n C 3 d_W_carryDraft_137 rfl rfl ?_
                  refine Z_ishl C d_W_carryDraft_138 ?_
                  refine Z_iconst (v := (-1)) C d_W_carryDraft_139 (by decide) ?_
                  refine Z_ixor C d_W_carryDraft_140 ?_
                  refine Z_iand C d_W_carryDraft_141 ?_
                  refine C_pF C w (by assumption) 7 (by decide) fl_W_57 rfl rfl rfl rfl rfl d_W_carryDraft_142 ?_
                  refine Z_aload_n C 2 d_W_carryDraft_145 rfl rfl ?_
                  refine C_gW C w 4 (by decide) fl_W_22 rfl rfl d_W_carryDraft_146 ?_
                  refine Z_aload_n C 2 d_W_carryDraft_149 rfl rfl ?_
                  refine C_gW C w 3 (by decide) fl_W_36 rfl rfl d_W_carryDraft_150 ?_
                  refine Z_iload_n C 4 d_W_carryDraft_153 rfl rfl ?_
                  refine Z_iadd C d_W_carryDraft_154 ?_
                  refine C_pF C w (by assumption) 8 (by decide) fl_W_33 rfl rfl rfl rfl rfl d_W_carryDraft_155 ?_
                  refine Z_aload_n C 2 d_W_carryDraft_158 rfl rfl ?_
                  refine C_gW C w 1 (by decide) fl_W_17 rfl rfl d_W_carryDraft_159 ?_
                  refine Z_aload_n C 2 d_W_carryDraft_162 rfl rfl ?_
                  refine C_gW C w 2 (by decide) fl_W_29 rfl rfl d_W_carryDraft_163 ?_
                  refine C_ldY C w c (by show (M 6 0 0 2).toNatClampNeg = c; rw [hc]; exact nI_clamp (by omega)) (by show vp_in (M 6 0 0 2) 60; rw [hc]; exact vp_in_nI (by omega) (by decide)) d_W_carryDraft_166 ?_
                  refine Z_astore C d_W_carryDraft_167 (by decide) rfl ?_
                  refine Z_aload_n C 3 d_W_carryDraft_169 rfl rfl ?_
                  refine C_gW C w 1 (by decide) fl_W_17 rfl rfl d_W_carryDraft_170 ?_
                  refine Z_aload_n C 3 d_W_carryDraft_173 rfl rfl ?_
                  refine C_gW C w 2 (by decide) fl_W_29 rfl rfl d_W_carryDraft_174 ?_
                  refine Z_aload_n C 3 d_W_carryDraft_177 rfl rfl ?_
                  refine C_gW C w 4 (by decide) fl_W_22 rfl rfl d_W_carryDraft_178 ?_
                  refine C_stY C w (by assumption) c (by show (M 6 0 0 2).toNatClampNeg = c; rw [hc]; exact nI_clamp (by omega)) (by show vp_in (M 6 0 0 2) 60; rw [hc]; exact vp_in_nI (by omega) (by decide)) d_W_carryDraft_181 ?_
                  refine Z_aload_n C 3 d_W_carryDraft_182 rfl rfl ?_
                  refine Z_dup C d_W_carryDraft_183 rfl ?_
                  refine C_gW C w 2 (by decide) fl_W_29 rfl rfl d_W_carryDraft_184 ?_
                  refine Z_iconst (v := 1) C d_W_carryDraft_187 (by decide) ?_
                  refine Z_iadd C d_W_carryDraft_188 ?_
                  refine C_pW C w 2 (by decide) fl_W_29 rfl rfl rfl rfl rfl d_W_carryDraft_189 ?_
                  refine Z_aload_n C 3 d_W_carryDraft_192 rfl rfl ?_
                  refine Z_aload C 0 d_W_carryDraft_193 rfl ?_
                  refine C_pD C w fl_W_22 d_W_carryDraft_195 ?_
                  exact Z_vret C hN hr d_W_carryDraft_198 rfl (zeq (by unfold cyM cyP cyD; rw [if_neg (show ¬ c = 60 by omega), if_neg (show ¬ c = 60 by omega), if_neg (show ¬ c = 60 by omega), ← nI_1, ← hc]; rfl))
              · have c96 : ¬ (up M 7 0 0 s port) 7 0 0 (M 9 D.1 0 4).toNatClampNeg = -1 := c96
                refine Z_iconst (v := 1) C d_W_carryDraft_99 (by decide) ?_
                refine Z_goto (tgt := 104) C d_W_carryDraft_100 (by decide) ?_
                refine zst (st' := [.int (cyKnown (up M 7 0 0 s port) (M 9 D.1 0 4))]) (by unfold cyKnown; simp [c65, c80, c96]) ?_
                refine Z_istore_n C d_W_carryDraft_104 rfl (by decide) rfl ?_
                refine Z_iload_n C 0 d_W_carryDraft_105 rfl rfl ?_
                refine Z_if_eq (tgt := 126) C d_W_carryDraft_106 (by decide) (fun c106 => ?_) (fun c106 => ?_)
                · skip
                  refine Z_bipush (v := 31) C d_W_carryDraft_126 (by decide) ?_
                  refine zst (st' := [.int (if cyKnown (up M 7 0 0 s port) (M 9 D.1 0 4) = 0 then 31 else (1 : Int32) <<< ((up M 7 0 0 s port) 7 0 0 (M 9 D.1 0 4).toNatClampNeg &&& 31))]) (by first | (rw [if_pos c106]; done) | (rw [if_neg c106]; done) | (rw [if_neg c106]; rfl)) ?_
                  refine Z_istore C d_W_carryDraft_128 (by decide) rfl ?_
                  refine Z_aload_n C 2 d_W_carryDraft_130 rfl rfl ?_
                  refine C_gW C w 4 (by decide) fl_W_22 rfl rfl d_W_carryDraft_131 ?_
                  refine Z_iload C 0 d_W_carryDraft_134 rfl ?_
                  refine Z_iconst (v := 1) C d_W_carryDraft_136 (by decide) ?_
                  refine Z_iload_n C 3 d_W_carryDraft_137 rfl rfl ?_
                  refine Z_ishl C d_W_carryDraft_138 ?_
                  refine Z_iconst (v := (-1)) C d_W_carryDraft_139 (by decide) ?_
                  refine Z_ixor C d_W_carryDraft_140 ?_
                  refine Z_iand C d_W_carryDraft_141 ?_
                  refine C_pF C w (by assumption) 7 (by decide) fl_W_57 rfl rfl rfl rfl rfl d_W_carryDraft_142 ?_
                  refine Z_aload_n C 2 d_W_carryDraft_145 rfl rfl ?_
                  refine C_gW C w 4 (by decide) fl_W_22 rfl rfl d_W_carryDraft_146 ?_
                  refine Z_aload_n C 2 d_W_carryDraft_149 rfl rfl ?_
                  refine C_gW C w 3 (by decide) fl_W_36 rfl rfl d_W_carryDraft_150 ?_
                  refine Z_iload_n C 4 d_W_carryDraft_153 rfl rfl ?_
                  refine Z_iadd C d_W_carryDraft_154 ?_
                  refine C_pF C w (by assumption) 8 (by decide) fl_W_33 rfl rfl rfl rfl rfl d_W_carryDraft_155 ?_
                  refine Z_aload_n C 2 d_W_carryDraft_158 rfl rfl ?_
                  refine C_gW C w 1 (by decide) fl_W_17 rfl rfl d_W_carryDraft_159 ?_
                  refine Z_aload_n C 2 d_W_carryDraft_162 rfl rfl ?_
                  refine C_gW C w 2 (by decide) fl_W_29 rfl rfl d_W_carryDraft_163 ?_
                  refine C_ldY C w c (by show (M 6 0 0 2).toNatClampNeg = c; rw [hc]; exact nI_clamp (by omega)) (by show vp_in (M 6 0 0 2) 60; rw [hc]; exact vp_in_nI (by omega) (by decide)) d_W_carryDraft_166 ?_
                  refine Z_astore C d_W_carryDraft_167 (by decide) rfl ?_
                  refine Z_aload_n C 3 d_W_carryDraft_169 rfl rfl ?_
                  refine C_gW C w 1 (by decide) fl_W_17 rfl rfl d_W_carryDraft_170 ?_
                  refine Z_aload_n C 3 d_W_carryDraft_173 rfl rfl ?_
                  refine C_gW C w 2 (by decide) fl_W_29 rfl rfl d_W_carryDraft_174 ?_
                  refine Z_aload_n C 3 d_W_carryDraft_177 rfl rfl ?_
                  refine C_gW C w 4 (by decide) fl_W_22 rfl rfl d_W_carryDraft_178 ?_
                  refine C_stY C w (by assumption) c (by show (M 6 0 0 2).toNatClampNeg = c; rw [hc]; exact nI_clamp (by omega)) (by show vp_in (M 6 0 0 2) 60; rw [hc]; exact vp_in_nI (by omega) (by decide)) d_W_carryDraft_181 ?_
                  refine Z_aload_n C 3 d_W_carryDraft_182 rfl rfl ?_
                  refine Z_dup C d_W_carryDraft_183 rfl ?_
                  refine C_gW C w 2 (by decide) fl_W_29 rfl rfl d_W_carryDraft_184 ?_
                  refine Z_iconst (v := 1) C d_W_carryDraft_187 (by decide) ?_
                  refine Z_iadd C d_W_carryDraft_188 ?_
                  refine C_pW C w 2 (by decide) fl_W_29 rfl rfl rfl rfl rfl d_W_carryDraft_189 ?_
                  refine Z_aload_n C 3 d_W_carryDraft_192 rfl rfl ?_
                  refine Z_aload C 0 d_W_carryDraft_193 rfl ?_
                  refine C_pD C w fl_W_22 d_W_carryDraft_195 ?_
                  exact Z_vret C hN hr d_W_carryDraft_198 rfl (zeq (by unfold cyM cyP cyD; rw [if_neg (show ¬ c = 60 by omega), if_neg (show ¬ c = 60 by omega), if_neg (show ¬ c = 60 by omega), ← nI_1, ← hc]; rfl))
                · skip
                  refine Z_iconst (v := 1) C d_W_carryDraft_109 (by decide) ?_
                  refine Z_aload_n C 1 d_W_carryDraft_110 rfl rfl ?_
                  refine C_gW C w 0 (by decide) fl_W_9 rfl rfl d_W_carryDraft_111 ?_
                  refine Z_aload_n C 1 d_W_carryDraft_114 rfl rfl ?_
                  refine C_gW C w 4 (by decide) fl_W_22 rfl rfl d_W_carryDraft_115 ?_
                  refine C_gF C w (by assumption) 4 (by decide) fl_W_48 rfl rfl d_W_carryDraft_118 ?_
                  refine C_ldP C w (M 9 D.1 0 4).toNatClampNeg rfl (cyKnown_in c106) d_W_carryDraft_121 ?_
                  refine Z_ishl C d_W_carryDraft_122 ?_
                  refine Z_goto (tgt := 128) C d_W_carryDraft_123 (by decide) ?_
                  refine zst (st' := [.int (if cyKnown (up M 7 0 0 s port) (M 9 D.1 0 4) = 0 then 31 else (1 : Int32) <<< ((up M 7 0 0 s port) 7 0 0 (M 9 D.1 0 4).toNatClampNeg &&& 31))]) (by first | (rw [if_pos c106]; done) | (rw [if_neg c106]; done) | (rw [if_neg c106]; rfl)) ?_
                  refine Z_istore C d_W_carryDraft_128 (by decide) rfl ?_
                  refine Z_aload_n C 2 d_W_carryDraft_130 rfl rfl ?_
                  refine C_gW C w 4 (by decide) fl_W_22 rfl rfl d_W_carryDraft_131 ?_
                  refine Z_iload C 0 d_W_carryDraft_134 rfl ?_
                  refine Z_iconst (v := 1) C d_W_carryDraft_136 (by decide) ?_
                  refine Z_iload_n C 3 d_W_carryDraft_137 rfl rfl ?_
                  refine Z_ishl C d_W_carryDraft_138 ?_
                  refine Z_iconst (v := (-1)) C d_W_carryDraft_139 (by decide) ?_
                  refine Z_ixor C d_W_carryDraft_140 ?_
                  refine Z_iand C d_W_carryDraft_141 ?_
                  refine C_pF C w (by assumption) 7 (by decide) fl_W_57 rfl rfl rfl rfl rfl d_W_carryDraft_142 ?_
                  refine Z_aload_n C 2 d_W_carryDraft_145 rfl rfl ?_
                  refine C_gW C w 4 (by decide) fl_W_22 rfl rfl d_W_carryDraft_146 ?_
                  refine Z_aload_n C 2 d_W_carryDraft_149 rfl rfl ?_
                  refine C_gW C w 3 (by decide) fl_W_36 rfl rfl d_W_carryDraft_150 ?_
                  refine Z_iload_n C 4 d_W_carryDraft_153 rfl rfl ?_
                  refine Z_iadd C d_W_carryDraft_154 ?_
                  refine C_pF C w (by assumption) 8 (by decide) fl_W_33 rfl rfl rfl rfl rfl d_W_carryDraft_155 ?_
                  refine Z_aload_n C 2 d_W_carryDraft_158 rfl rfl ?_
                  refine C_gW C w 1 (by decide) fl_W_17 rfl rfl d_W_carryDraft_159 ?_
                  refine Z_aload_n C 2 d_W_carryDraft_162 rfl rfl ?_
                  refine C_gW C w 2 (by decide) fl_W_29 rfl rfl d_W_carryDraft_163 ?_
                  refine C_ldY C w c (by show (M 6 0 0 2).toNatClampNeg = c; rw [hc]; exact nI_clamp (by omega)) (by show vp_in (M 6 0 0 2) 60; rw [hc]; exact vp_in_nI (by omega) (by decide)) d_W_carryDraft_166 ?_
                  refine Z_astore C d_W_carryDraft_167 (by decide) rfl ?_
                  refine Z_aload_n C 3 d_W_carryDraft_169 rfl rfl ?_
                  refine C_gW C w 1 (by decide) fl_W_17 rfl rfl d_W_carryDraft_170 ?_
                  refine Z_aload_n C 3 d_W_carryDraft_173 rfl rfl ?_
                  refine C_gW C w 2 (by decide) fl_W_29 rfl rfl d_W_carryDraft_174 ?_
                  refine Z_aload_n C 3 d_W_carryDraft_177 rfl rfl ?_
                  refine C_gW C w 4 (by decide) fl_W_22 rfl rfl d_W_carryDraft_178 ?_
                  refine C_stY C w (by assumption) c (by show (M 6 0 0 2).toNatClampNeg = c; rw [hc]; exact nI_clamp (by omega)) (by show vp_in (M 6 0 0 2) 60; rw [hc]; exact vp_in_nI (by omega) (by decide)) d_W_carryDraft_181 ?_
                  refine Z_aload_n C 3 d_W_carryDraft_182 rfl rfl ?_
                  refine Z_dup C d_W_carryDraft_183 rfl ?_
                  refine C_gW C w 2 (by decide) fl_W_29 rfl rfl d_W_carryDraft_184 ?_
                  refine Z_iconst (v := 1) C d_W_carryDraft_187 (by decide) ?_
                  refine Z_iadd C d_W_carryDraft_188 ?_
                  refine C_pW C w 2 (by decide) fl_W_29 rfl rfl rfl rfl rfl d_W_carryDraft_189 ?_
                  refine Z_aload_n C 3 d_W_carryDraft_192 rfl rfl ?_
                  refine Z_aload C 0 d_W_carryDraft_193 rfl ?_
                  refine C_pD C w fl_W_22 d_W_carryDraft_195 ?_
                  exact Z_vret C hN hr d_W_carryDraft_198 rfl (zeq (by unfold cyM cyP cyD; rw [if_neg (show ¬ c = 60 by omega), if_neg (show ¬ c = 60 by omega), if_neg (show ¬ c = 60 by omega), ← nI_1, ← hc]; rfl))
        · have hge : c = 60 := ge60 hc hc60 c54
          exact Z_vret C hN hr d_W_carryDraft_57 rfl (zeq (by unfold cyM cyP cyD; rw [if_pos hge, if_pos hge, if_pos hge]))

