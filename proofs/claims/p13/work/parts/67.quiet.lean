/-! the reference's tick where nobody is on; its tape; the law's wrapper of tick, where it returns -/
set_option maxRecDepth 100000 in
set_option maxHeartbeats 4000000 in
theorem m_arriveAll_0 {l : Launch} {G : zG} {U : zU} (w : wR G U) (N : zR) (h : N 43 28 = 0) : zF l y_M_arriveAll b_M_arriveAll 8 none 0 0 G [.ref (U.1 43)] (eR U N) none (eR U N) := by
  refine zF.ofZ (by decide) w.2.2.2.2 (Nat.le_of_ble_eq_true rfl) (fun X hXl hN hr C => ?_)
  subst hXl
  show Z X G (zA G) 8 _ (eR U N) 0 [(0, .ref (U.1 43))] []
  refine Z_iconst (v := 0) C d_M_arriveAll_0 (by decide) ?_
  refine Z_istore_n C d_M_arriveAll_1 rfl (by decide) rfl ?_
  refine Z_iload_n C 0 d_M_arriveAll_2 rfl rfl ?_
  refine Z_aload_n C 1 d_M_arriveAll_3 rfl rfl ?_
  refine R_get C w 28 (by decide) fl_M_147 rfl rfl d_M_arriveAll_4 ?_
  refine Z_icmp_ge (tgt := 160) C d_M_arriveAll_7 (by decide) (fun _ => ?_) (fun c => absurd (show N 43 28 ≤ 0 from by rw [h]; decide) c)
  exact Z_vret C hN hr d_M_arriveAll_160 rfl (zeq rfl)
def mTk (N : zR) (k : Nat) : zR := u2 (u2 N 43 0 0) 43 1 (N 43 1 + nI k)
theorem mTk_0 (N : zR) : u2 N 43 0 0 = mTk N 0 := by
  funext b
  unfold mTk
  by_cases h : b = 43
  · subst h
    rw [u2_self, u2_self, u2_self]
    funext k
    by_cases h1 : k = 1
    · subst h1; simp [upd, nI_0]
    · simp [upd, h1]
  · rw [u2_ne h, u2_ne h, u2_ne h]
theorem mTk_c (N : zR) (k : Nat) : mTk N k 43 1 = N 43 1 + nI k := by simp [mTk, u2, upd]
theorem mTk_s (N : zR) (k : Nat) : u2 (mTk N k) 43 1 (mTk N k 43 1 + 1) = mTk N (k + 1) := by
  funext b
  rw [mTk_c]
  unfold mTk
  by_cases h : b = 43
  · subst h
    rw [u2_self, u2_self, u2_self, u2_self]
    funext j
    by_cases h1 : j = 1
    · subst h1; simp [upd, ← nI_1, Int32.add_assoc]
    · simp [upd, u2, h1]
  · rw [u2_ne h, u2_ne h, u2_ne h, u2_ne h, u2_ne h]
theorem mTk_o (N : zR) (k : Nat) {a : Nat} (h : a ≠ 43) : mTk N k a = N a := by unfold mTk; rw [u2_ne h, u2_ne h]
theorem mTk_f (N : zR) (k : Nat) : mTk N k 43 28 = N 43 28 := by simp [mTk, u2, upd]
theorem mTk_t (N : zR) (k : Nat) : mTk N k 43 0 = 0 := by simp [mTk, u2, upd]
set_option maxRecDepth 100000 in
set_option maxHeartbeats 4000000 in
theorem m_tick_0 {l : Launch} {G : zG} {U : zU} (w : wR G U) (N : zR) (n : Nat) (hn1 : 1 ≤ n) (hn4 : n ≤ 400) (hf : N 43 28 = 0) (ho : ∀ r, r < 5 → N 3 r = 0) : zF l y_M_tick b_M_tick 4 (some .int) 1 27 G [.ref (U.1 43), .int (nI n)] (eR U N) (some (.int (N 43 1 + nI n))) (eR U (mTk N n)) := by
  refine zF.ofZ (by decide) w.2.2.2.2 (Nat.le_of_ble_eq_true rfl) (fun X hXl hN hr C => ?_)
  subst hXl
  show Z X G (zA G) 4 _ (eR U N) 0 [(0, .ref (U.1 43)), (1, .int (nI n))] []
  refine Z_aload_n C 0 d_M_tick_0 rfl rfl ?_
  refine Z_iload_n C 1 d_M_tick_1 rfl rfl ?_
  refine Z_iconst (v := 1) C d_M_tick_2 (by decide) ?_
  refine Z_icmp_lt (tgt := 13) C d_M_tick_3 (by decide) (fun c => absurd c (nI_nlt (a := n) (b := 1) (by omega) (by omega))) (fun _ => ?_)
  refine Z_iload_n C 1 d_M_tick_6 rfl rfl ?_
  refine Z_sipush (v := 400) C d_M_tick_7 (by decide) ?_
  refine Z_icmp_le (tgt := 17) C d_M_tick_10 (by decide) (fun _ => ?_) (fun c => absurd (nI_le (a := n) (b := 400) (by omega) (by decide)) c)
  refine Z_iconst (v := 0) C d_M_tick_17 (by decide) ?_
  refine R_put C w 0 (by decide) fl_M_124 rfl rfl rfl rfl rfl d_M_tick_18 ?_
  refine Z_aload_n C 0 d_M_tick_21 rfl rfl ?_
  refine R_get C w 0 (by decide) fl_M_124 rfl rfl d_M_tick_22 ?_
  refine Z_if_eq (tgt := 30) C d_M_tick_25 (by decide) (fun _ => ?_) (fun c => absurd (by simp [u2, upd]) c)
  refine Z_iconst (v := 0) C d_M_tick_30 (by decide) ?_
  refine Z_istore_n C d_M_tick_31 rfl (by decide) rfl ?_
  have L1 : ∀ m k lv, k + m = n → lv = [(2, Value.int (nI k)), (0, .ref (U.1 43)), (1, .int (nI n))] → Z X G (zA G) 4 (zQ X G (some (.int (N 43 1 + nI n))) (eR U (mTk N n))) (eR U (mTk N k)) 32 lv [] := by
    intro m
    induction m with
    | zero =>
      intro k lv hk hlv
      subst hlv
      obtain rfl : k = n := by omega
      refine Z_iload_n C 0 d_M_tick_32 rfl rfl ?_
      refine Z_iload_n C 2 d_M_tick_33 rfl rfl ?_
      refine Z_icmp_ge (tgt := 75) C d_M_tick_34 (by decide) (fun _ => ?_) (fun c => absurd (Int32.le_refl _) c)
      refine Z_aload_n C 1 d_M_tick_75 rfl rfl ?_
      refine R_get C w 1 (by decide) fl_M_150 rfl rfl d_M_tick_76 ?_
      exact Z_iret C hN hr d_M_tick_79 (by rw [mTk_c]) (zeq rfl)
    | succ m ih =>
      intro k lv hk hlv
      subst hlv
      refine Z_iload_n C 0 d_M_tick_32 rfl rfl ?_
      refine Z_iload_n C 2 d_M_tick_33 rfl rfl ?_
      refine Z_icmp_ge (tgt := 75) C d_M_tick_34 (by decide) (fun c => absurd c (nI_ge (a := k) (b := n) (by omega) (by omega))) (fun _ => ?_)
      refine Z_aload_n C 1 d_M_tick_37 rfl rfl ?_
      refine Z_dup C d_M_tick_38 rfl ?_
      refine R_get C w 1 (by decide) fl_M_150 rfl rfl d_M_tick_39 ?_
      refine Z_iconst (v := 1) C d_M_tick_42 (by decide) ?_
      refine Z_iadd C d_M_tick_43 ?_
      refine R_put C w 1 (by decide) fl_M_150 rfl rfl rfl rfl rfl d_M_tick_44 ?_
      rw [mTk_s]
      refine Z_aload_n C 1 d_M_tick_47 rfl rfl ?_
      refine C_cMn C w mi_M_arriveAll ml_M_256 (m_arriveAll_0 w _ (by rw [mTk_f]; exact hf)) rfl rfl ⟨Nat.le_of_ble_eq_true rfl, Nat.le_of_ble_eq_true rfl⟩ rfl (Nat.le_of_ble_eq_true rfl) d_M_tick_48 ?_
      refine Z_iconst (v := 0) C d_M_tick_51 (by decide) ?_
      refine Z_istore_n C d_M_tick_52 rfl (by decide) rfl ?_
      have L2 : ∀ q r lv, r + q = 5 → lv = [(3, Value.int (nI r)), (2, .int (nI k)), (0, .ref (U.1 43)), (1, .int (nI n))] → Z X G (zA G) 4 (zQ X G (some (.int (N 43 1 + nI n))) (eR U (mTk N n))) (eR U (mTk N (k + 1))) 53 lv [] := by
        intro q
        induction q with
        | zero =>
          intro r lv hr5 hlv
          subst hlv
          obtain rfl : r = 5 := by omega
          refine Z_iload_n C 0 d_M_tick_53 rfl rfl ?_
          refine Z_iconst (v := 5) C d_M_tick_54 (by decide) ?_
          refine Z_icmp_ge (tgt := 69) C d_M_tick_55 (by decide) (fun _ => ?_) (fun c => absurd (by decide) c)
          refine Z_iinc 1 C d_M_tick_69 rfl (nI_succ k).symm (by decide) rfl ?_
          refine Z_goto (tgt := 32) C d_M_tick_72 (by decide) ?_
          refine zlv (lv' := [(2, .int (nI (k + 1))), (0, .ref (U.1 43)), (1, .int (nI n))]) [0, 2, 3] rfl ?_
          exact ih (k + 1) _ (by omega) rfl
        | succ q ihq =>
          intro r lv hr5 hlv
          subst hlv
          refine Z_iload_n C 0 d_M_tick_53 rfl rfl ?_
          refine Z_iconst (v := 5) C d_M_tick_54 (by decide) ?_
          refine Z_icmp_ge (tgt := 69) C d_M_tick_55 (by decide) (fun c => absurd c (nI_ge (a := r) (b := 5) (by omega) (by decide))) (fun _ => ?_)
          refine Z_aload_n C 2 d_M_tick_58 rfl rfl ?_
          refine Z_iload_n C 0 d_M_tick_59 rfl rfl ?_
          refine C_cMn C w mi_M_work ml_M_259 (m_work_off w _ r (by omega) (by rw [mTk_o _ _ (by decide)]; exact ho r (by omega))) rfl rfl ⟨Nat.le_of_ble_eq_true rfl, Nat.le_of_ble_eq_true rfl⟩ rfl (Nat.le_of_ble_eq_true rfl) d_M_tick_60 ?_
          refine Z_iinc 0 C d_M_tick_63 rfl (nI_succ r).symm (by decide) rfl ?_
          refine Z_goto (tgt := 53) C d_M_tick_66 (by decide) ?_
          exact ihq (r + 1) _ (by omega) rfl
      exact L2 5 0 _ rfl rfl
  refine Z_imp (zeq (by rw [mTk_0])) (L1 n 0 _ (by omega) rfl)
def myV (word : Int64) (m : Nat) : Int32 := ((word >>> ((8 * nI m).toInt64 &&& 63)) &&& 255).toInt32
def myS (word : Int64) (m : Nat) (N : zR) : zR := u2 (u2 N 41 (N 43 42).toNatClampNeg (myV word m)) 43 42 (u2 N 41 (N 43 42).toNatClampNeg (myV word m) 43 42 + 1)
def myL (word : Int64) : Nat → zR → zR
  | 0, N => N
  | m + 1, N => myL word m (myS word m N)
theorem myS_l (word : Int64) (m : Nat) (N : zR) : myS word m N 43 42 = N 43 42 + 1 := by simp [myS, u2, upd]
set_option maxRecDepth 100000 in
set_option maxHeartbeats 4000000 in
theorem m_type_no {l : Launch} {G : zG} {U : zU} (w : wR G U) (N : zR) (word : Int64) (x : Int32) (h : x < 1 ∨ 8 < x ∨ ¬ N 43 42 + x ≤ 40) : zF l y_M_type b_M_type 5 (some .boolean) 0 0 G [.ref (U.1 43), .long word, .int x] (eR U N) (some (.int 0)) (eR U (u2 N 43 0 0)) := by
  refine zF.ofZ (by decide) w.2.2.2.2 (Nat.le_of_ble_eq_true rfl) (fun X hXl hN hr C => ?_)
  subst hXl
  show Z X G (zA G) 5 _ (eR U N) 0 [(0, .ref (U.1 43)), (1, .long word), (3, .int x)] []
  have e : u2 N 43 0 0 43 42 = N 43 42 := by simp [u2, upd]
  refine Z_aload_n C 0 d_M_type_0 rfl rfl ?_
  refine Z_iconst (v := 0) C d_M_type_1 (by decide) ?_
  refine R_put C w 0 (by decide) fl_M_124 rfl rfl rfl rfl rfl d_M_type_2 ?_
  have fin : ∀ lv, Z X G (zA G) 5 (zQ X G (some (.int 0)) (eR U (u2 N 43 0 0))) (eR U (u2 N 43 0 0)) 27 lv [] := fun lv => by
    refine Z_iconst (v := 0) C d_M_type_27 (by decide) ?_
    exact Z_zret C hN hr (by decide) d_M_type_28 rfl (zeq rfl)
  refine Z_iload_n C 2 d_M_type_5 rfl rfl ?_
  refine Z_iconst (v := 1) C d_M_type_6 (by decide) ?_
  refine Z_icmp_lt (tgt := 27) C d_M_type_7 (by decide) (fun _ => fin _) (fun c7 => ?_)
  refine Z_iload_n C 2 d_M_type_10 rfl rfl ?_
  refine Z_bipush (v := 8) C d_M_type_11 (by decide) ?_
  refine Z_icmp_gt (tgt := 27) C d_M_type_13 (by decide) (fun _ => fin _) (fun c13 => ?_)
  refine Z_aload_n C 0 d_M_type_16 rfl rfl ?_
  refine R_get C w 42 (by decide) fl_M_262 rfl rfl d_M_type_17 ?_
  refine Z_iload_n C 2 d_M_type_20 rfl rfl ?_
  refine Z_iadd C d_M_type_21 ?_
  refine Z_bipush (v := 40) C d_M_type_22 (by decide) ?_
  exact Z_icmp_le (tgt := 29) C d_M_type_24 (by decide) (fun c => absurd (by rw [← e]; exact c) ((h.resolve_left c7).resolve_left c13)) (fun _ => fin _)
set_option maxRecDepth 100000 in
set_option maxHeartbeats 4000000 in
theorem m_type_0 {l : Launch} {G : zG} {U : zU} (w : wR G U) (N : zR) (word : Int64) (n j : Nat) (hn1 : 1 ≤ n) (hn8 : n ≤ 8) (hj : N 43 42 = nI j) (hjn : j + n ≤ 40) : zF l y_M_type b_M_type 5 (some .boolean) 0 0 G [.ref (U.1 43), .long word, .int (nI n)] (eR U N) (some (.int 1)) (eR U (myL word n (u2 N 43 0 0))) := by
  refine zF.ofZ (by decide) w.2.2.2.2 (Nat.le_of_ble_eq_true rfl) (fun X hXl hN hr C => ?_)
  subst hXl
  show Z X G (zA G) 5 _ (eR U N) 0 [(0, .ref (U.1 43)), (1, .long word), (3, .int (nI n))] []
  have e : u2 N 43 0 0 43 42 = nI j := by rw [← hj]; simp [u2, upd]
  refine Z_aload_n C 0 d_M_type_0 rfl rfl ?_
  refine Z_iconst (v := 0) C d_M_type_1 (by decide) ?_
  refine R_put C w 0 (by decide) fl_M_124 rfl rfl rfl rfl rfl d_M_type_2 ?_
  refine Z_iload_n C 2 d_M_type_5 rfl rfl ?_
  refine Z_iconst (v := 1) C d_M_type_6 (by decide) ?_
  refine Z_icmp_lt (tgt := 27) C d_M_type_7 (by decide) (fun c => absurd c (nI_nlt (a := n) (b := 1) (by omega) (by omega))) (fun _ => ?_)
  refine Z_iload_n C 2 d_M_type_10 rfl rfl ?_
  refine Z_bipush (v := 8) C d_M_type_11 (by decide) ?_
  refine Z_icmp_gt (tgt := 27) C d_M_type_13 (by decide) (fun c => absurd c (nI_nlt (a := 8) (b := n) (by omega) (by decide))) (fun _ => ?_)
  refine Z_aload_n C 0 d_M_type_16 rfl rfl ?_
  refine R_get C w 42 (by decide) fl_M_262 rfl rfl d_M_type_17 ?_
  refine Z_iload_n C 2 d_M_type_20 rfl rfl ?_
  refine Z_iadd C d_M_type_21 ?_
  refine Z_bipush (v := 40) C d_M_type_22 (by decide) ?_
  refine Z_icmp_le (tgt := 29) C d_M_type_24 (by decide) (fun _ => ?_) (fun c => absurd (by rw [e, nI_add]; exact nI_le (a := j + n) (b := 40) hjn (by decide)) c)
  refine Z_iload_n C 2 d_M_type_29 rfl rfl ?_
  refine Z_iconst (v := 1) C d_M_type_30 (by decide) ?_
  refine Z_isub C d_M_type_31 ?_
  refine Z_istore C d_M_type_32 (by decide) rfl ?_
  have L1 : ∀ m j N' lv, N' 43 42 = nI j → j + m ≤ 40 → lv = [(4, Value.int (nI m - 1)), (0, .ref (U.1 43)), (1, .long word), (3, .int (nI n))] → Z X G (zA G) 5 (zQ X G (some (.int 1)) (eR U (myL word m N'))) (eR U N') 34 lv [] := by
    intro m
    induction m with
    | zero =>
      intro j N' lv h1 h2 hlv
      subst hlv
      refine Z_iload C 0 d_M_type_34 rfl ?_
      refine Z_if_lt (tgt := 76) C d_M_type_36 (by decide) (fun _ => ?_) (fun c => absurd (by decide) c)
      refine Z_iconst (v := 1) C d_M_type_76 (by decide) ?_
      exact Z_zret C hN hr (by decide) d_M_type_77 rfl (zeq rfl)
    | succ m ih =>
      intro j N' lv h1 h2 hlv
      subst hlv
      rw [nI_pred]
      refine Z_iload C 0 d_M_type_34 rfl ?_
      refine Z_if_lt (tgt := 76) C d_M_type_36 (by decide) (fun c => absurd c (nI_pos (by omega))) (fun _ => ?_)
      refine Z_aload_n C 1 d_M_type_39 rfl rfl ?_
      refine R_get C w 41 (by decide) fl_M_119 rfl rfl d_M_type_40 ?_
      refine Z_aload_n C 1 d_M_type_43 rfl rfl ?_
      refine R_get C w 42 (by decide) fl_M_262 rfl rfl d_M_type_44 ?_
      refine Z_lload_n C 2 d_M_type_47 rfl rfl ?_
      refine Z_bipush (v := 8) C d_M_type_48 (by decide) ?_
      refine Z_iload C 0 d_M_type_50 rfl ?_
      refine Z_imul C d_M_type_52 ?_
      refine Z_lshr C d_M_type_53 ?_
      refine Z_ldc2 C cl_M_265 d_M_type_54 ?_
      refine Z_land C d_M_type_57 ?_
      refine Z_l2i C d_M_type_58 ?_
      refine R_st 41 C w rfl rfl (N' 43 42).toNatClampNeg rfl (by rw [h1]; exact vp_in_nI (n := j) (N := 40) (by omega) (by decide)) d_M_type_59 ?_
      refine Z_aload_n C 1 d_M_type_60 rfl rfl ?_
      refine Z_dup C d_M_type_61 rfl ?_
      refine R_get C w 42 (by decide) fl_M_262 rfl rfl d_M_type_62 ?_
      refine Z_iconst (v := 1) C d_M_type_65 (by decide) ?_
      refine Z_iadd C d_M_type_66 ?_
      refine R_put C w 42 (by decide) fl_M_262 rfl rfl rfl rfl rfl d_M_type_67 ?_
      refine Z_iinc 0 C d_M_type_70 rfl (show nI m + Int32.ofInt (-1) = nI m - 1 from by rw [Int32.sub_eq_add_neg]; rfl) (by decide) rfl ?_
      refine Z_goto (tgt := 34) C d_M_type_73 (by decide) ?_
      exact ih (j + 1) (myS word m N') [(4, .int (nI m - 1)), (0, .ref (U.1 43)), (1, .long word), (3, .int (nI n))] (by rw [myS_l, h1, nI_1]) (by omega) rfl
  exact L1 n j _ _ e hjn rfl
/-! the wrapper of tick -/
abbrev oP (o : Nat) (cL : ClassId) (fo : Nat → Int64) (H : Heap) : Prop := H[o]? = some (vp_cell cL (1, .inr (.inl fo)))
theorem J_last {X : zX} {A : Nat → Prop} {nL : Nat} {Q : State → Prop} {B B' : Heap → Prop} {pc : Nat} {lv : List (Nat × Value)} {st : List Value} {cc : ByteArray} {own : String} {fr lo o : Nat} {cL : ClassId} {fo : Nat → Int64} {x : Int64} (C : jC X cc nL own fr lo) (hAr : ArrOfT X.s cL .long) (hA : A o) (hB : ∀ H, B H → oP o cL fo H) (hd : decode cc pc = .ok (.lastore, 1)) (hB' : ∀ H H1, B H → H1.size = H.size → (∀ q, q ≠ o → H1[q]? = H[q]?) → oP o cL (vp_updL fo 0 x) H1 → B' H1) (kk : J X A nL Q B' (pc + 1) lv st) : J X A nL Q B pc lv (.long x :: .int 0 :: .ref o :: st) := fun H locs ls hb hS hl => by
  refine W.last C.1.1 C.1.2.1 (hB H hb) (hAr 1 (fun j => .long (fo j))) (fun q => by cases q) (by show ¬ ((0 : Int32) < 0 ∨ (arrV _ _ _).slots.size ≤ _); rw [arrV_size]; show ¬ ((0 : Int32) < 0 ∨ 1 ≤ Int32.toNatClampNeg 0); decide) rfl rfl hd fun H1 e z oq => ?_
  refine kk H1 _ ls (hB' H H1 hb z oq ?_) (hS.put z oq hA) hl
  show H1[o]? = some (vp_cell _ _)
  rw [e]
  rw [vp_cell_l, vp_cell_l, arrV_store]
  congr 2
  funext q
  by_cases hq : q = 0
  · subst hq
    simp [updV, vp_updL]
  · simp [updV, vp_updL, hq]
theorem J_lald {X : zX} {A : Nat → Prop} {nL : Nat} {Q : State → Prop} {B : Heap → Prop} {pc : Nat} {lv : List (Nat × Value)} {st : List Value} {cc : ByteArray} {own : String} {fr lo o : Nat} {cL : ClassId} {fo : Nat → Int64} (C : jC X cc nL own fr lo) (hAr : ArrOfT X.s cL .long) (hB : ∀ H, B H → oP o cL fo H) (hd : decode cc pc = .ok (.laload, 1)) (kk : J X A nL Q B (pc + 1) lv (.long (fo 0) :: st)) : J X A nL Q B pc lv (.int 0 :: .ref o :: st) := fun H locs ls hb hS hl =>
  W.lald (v := .long (fo 0)) C.1.1 C.1.2.1 (hB H hb) (hAr 1 (fun j => .long (fo j))) (fun q => by cases q) (by show ¬ ((0 : Int32) < 0 ∨ (arrV _ _ _).slots.size ≤ _); rw [arrV_size]; show ¬ ((0 : Int32) < 0 ∨ 1 ≤ Int32.toNatClampNeg 0); decide) (by show (arrV _ _ _).slots[_]? = _; rw [show (0 : Int32).toNatClampNeg = 0 from by decide, arrV_read _ _ (show 0 < 1 by decide)]) rfl rfl hd (kk H locs ls hb hS hl)
abbrev tA (G : zG) (o : Nat) : Nat → Prop := fun q => q ∈ G.2.2.2 ∨ q = o
set_option maxRecDepth 100000 in
set_option maxHeartbeats 4000000 in
theorem w_tick_0 {l : Launch} {G : zG} {V : zV} (w : wC G V) (M : zM) (P : Nat → Nat) (D : Nat × Nat) (n : Nat) (hn1 : 1 ≤ n) (hn4 : n ≤ 400) (hI : Inv M P D) (o : Nat) (cL : ClassId) (fo : Nat → Int64) (ho : o ∉ G.2.2.2) :
    wF l y_J_tick b_J_tick 4 (some .int) hs_tick 8 173 [.ref (V.1 0 0 0), .int (nI n), .ref o] (fun U => wBs G V M P D U ∧ oP o cL fo U.heap ∧ ArrOfT U cL .long) (tA G o) (some (.int 0)) (fun H => zP G (eC V (tiL n (M, P, D)).1 (tiL n (M, P, D)).2.1 (tiL n (M, P, D)).2.2) H ∧ oP o cL (vp_updL fo 0 ((tiL n (M, P, D)).1 6 0 0 3).toInt64) H) := by
  refine wF.ofJ (B := fun H => zP G (eC V M P D) H ∧ oP o cL fo H) (by decide) (Nat.le_of_ble_eq_true rfl) (fun U h => ⟨h.1.1.1, h.2.1⟩) (fun X hXl hr C hw hb => ?_)
  subst hXl
  obtain ⟨⟨hb, hn0⟩, hob, hAr⟩ := hb
  have hK := hb.2
  show J X (tA G o) 4 _ _ 0 [(0, .ref (V.1 0 0 0)), (1, .int (nI n)), (2, .ref o)] []
  refine J_aload_n C 2 d_J_tick_0 rfl rfl ?_
  refine J_iconst (v := 0) C d_J_tick_1 (by decide) ?_
  refine J_aload_n C 0 d_J_tick_2 rfl rfl ?_
  refine J_iload_n C 1 d_J_tick_3 rfl rfl ?_
  refine J_callV (B' := fun H => zP G (eC V (tiL n (M, P, D)).1 (tiL n (M, P, D)).2.1 (tiL n (M, P, D)).2.2) H ∧ oP o cL fo H) C hK w.2.2.2.2 (fun q h => Or.inl h) (fun _ h => h.1) (fun H H' h1 _ h3 h4 => ⟨h4, by show H'[o]? = _; rw [h3 o (Array.getElem?_eq_some_iff.mp h1.2).1 ho]; exact h1.2⟩) mi_L_tick ml_J_38 (c_L_tick w M P D n hn1 hn4 hI) ⟨Nat.le_of_ble_eq_true rfl, Nat.le_of_ble_eq_true rfl⟩ (w.2.2.1 0 0 0 ⟨rfl, rfl⟩) (fun f hf => hf 0 0 0 ⟨rfl, rfl⟩) (by rw [w.1]; rfl) rfl rfl (Nat.le_of_ble_eq_true rfl) d_J_tick_4 ?_
  refine J_i2l C d_J_tick_7 ?_
  refine J_last (B' := fun H => zP G (eC V (tiL n (M, P, D)).1 (tiL n (M, P, D)).2.1 (tiL n (M, P, D)).2.2) H ∧ oP o cL (vp_updL fo 0 ((tiL n (M, P, D)).1 6 0 0 3).toInt64) H) C hAr (Or.inr rfl) (fun _ h => h.2) d_J_tick_8 (fun H H1 h1 _ h3 h4 => ⟨h1.1.kept (fun q hq _ => h3 q (fun e => ho (e ▸ hq))), h4⟩) ?_
  refine J_goto (tgt := 15) C d_J_tick_9 (by decide) ?_
  refine J_iconst (v := 0) C d_J_tick_15 (by decide) ?_
  exact J_wret C hw.c0 hr d_J_tick_16 rfl (fun _ h => h)
