/-! THE REFERENCE: packets -/
def fly (N : zR) : Nat := (N 43 28).toNatClampNeg
def InvR (N : zR) : Prop := N 43 28 = nI (fly N) ∧ fly N ≤ 60
theorem InvR.of {N N' : zR} (h : InvR N) (e : N' 43 28 = N 43 28) : InvR N' := by
  have ef : fly N' = fly N := by unfold fly; rw [e]
  exact ⟨by rw [e, ef]; exact h.1, by rw [ef]; exact h.2⟩
theorem fly_of {N N' : zR} (e : N' 43 28 = N 43 28) : fly N' = fly N := by unfold fly; rw [e]
theorem mPut_a {N : zR} {b : Int32} {a : Nat} (h1 : a ≠ 37) (h2 : a ≠ 43) : mPut N b a = N a := by unfold mPut; rw [u2_ne h2, u2_ne h1]
theorem mPut_43 {N : zR} {b : Int32} {f : Nat} (h : f ≠ 38) : mPut N b 43 f = N 43 f := by
  unfold mPut
  rw [u2_self]
  show upd (u2 N 37 _ _ 43) 38 _ f = _
  rw [pk_un h, u2_ne (by decide)]
theorem mpL_a {v : Int32} {a : Nat} (h1 : a ≠ 37) (h2 : a ≠ 43) : ∀ (k : Nat) (N : zR), mpL v k N a = N a := by
  intro k
  induction k with
  | zero => intro N; rfl
  | succ k ih => intro N; show mpL v k _ a = _; rw [ih, mPut_a h1 h2]
theorem mpL_43 {v : Int32} {f : Nat} (h : f ≠ 38) : ∀ (k : Nat) (N : zR), mpL v k N 43 f = N 43 f := by
  intro k
  induction k with
  | zero => intro N; rfl
  | succ k ih => intro N; show mpL v k _ 43 f = _; rw [ih, mPut_43 h]
def PB (N : zR) (z : Nat) : Prop := N 43 38 = nI z ∧ Byt (N 37) z
theorem byt_and (b : Int32) : (b &&& 255) = nI (b &&& 255).toNatClampNeg ∧ (b &&& 255).toNatClampNeg < 256 := by
  obtain ⟨j, hj, e⟩ := pk_andE b 8 (m := 255) (by decide)
  rw [e, nI_clamp (by omega)]
  exact ⟨rfl, hj⟩
theorem PB.put {N : zR} {z : Nat} {b : Int32} (h : PB N z) (hz : z < 40) : PB (mPut N b) (z + 1) := by
  refine ⟨mPut_size h.1, fun k hk => ?_⟩
  have e : mPut N b 37 = upd (N 37) z (b &&& 255) := by
    unfold mPut
    rw [u2_ne (by decide), u2_self, h.1, nI_clamp (by omega)]
  unfold mbt
  rw [e]
  by_cases q : k = z
  · subst q
    rw [pk_us]
    exact byt_and b
  · rw [pk_un q]
    exact h.2 k (by omega)
theorem PB.vp {N : zR} {z : Nat} (h : PB N z) (hz : z < 40) : vp_in (N 43 38) 40 := by rw [h.1]; exact vp_in_nI hz (by decide)
theorem PB.many {v : Int32} : ∀ (k z : Nat) (N : zR), PB N z → z + k ≤ 40 → PB (mpL v k N) (z + k) := by
  intro k
  induction k with
  | zero => intro z N h _; exact h
  | succ k ih =>
    intro z N h hz
    have := ih (z + 1) _ (h.put (b := ush v (8 * nI k)) (by omega)) (by omega)
    rw [show z + (k + 1) = z + 1 + k by omega]
    exact this
theorem PB.zero (N : zR) : PB (u2 N 43 38 0) 0 := ⟨by rw [u2_self, pk_us]; rfl, fun k h => absurd h (by omega)⟩
def mA1 (N : zR) (r : Nat) : zR := mPut (mPut (u2 N 43 38 0) 49) (mPut (u2 N 43 38 0) 49 2 (10 * r + 3))
def mA2 (N : zR) (r : Nat) (pr : Int32) : zR := mPut (mPut (mA1 N r) pr) 1
def mA3 (N : zR) (r : Nat) (pr : Int32) : zR := mpL 0 2 (mpL (mA2 N r pr 2 (10 * r + 1)) 2 (mA2 N r pr))
def mA4 (N : zR) (r : Nat) (pr : Int32) : zR := mpL (mA3 N r pr 2 (10 * r + 5)) 4 (mA3 N r pr)
def mCk (N : zR) (r : Nat) (pr : Int32) : Int32 := 65535 - mSum (mA4 N r pr 37) (mA4 N r pr 2 (10 * r + 4))
def mA5 (N : zR) (r : Nat) (pr : Int32) : zR := u2 (u2 (mA4 N r pr) 37 6 (mCk N r pr >>> ((8 : Int32) &&& 31))) 37 7 (mCk N r pr &&& 255)
def mAdv (N : zR) (r : Nat) (pr : Int32) : zR := mSend (mA5 N r pr) r 1 9 15 (fly N) 12
theorem mA2_pb (N : zR) (r : Nat) (pr : Int32) : PB (mA2 N r pr) 4 := ((((PB.zero N).put (by decide)).put (by decide)).put (by decide)).put (by decide)
theorem mA3_pb (N : zR) (r : Nat) (pr : Int32) : PB (mA3 N r pr) 8 := PB.many 2 6 _ (PB.many 2 4 _ (mA2_pb N r pr) (by decide)) (by decide)
theorem mA4_pb (N : zR) (r : Nat) (pr : Int32) : PB (mA4 N r pr) 12 := PB.many 4 8 _ (mA3_pb N r pr) (by decide)
theorem mA4_43 {N : zR} {r f : Nat} {pr : Int32} (h : f ≠ 38) : mA4 N r pr 43 f = N 43 f := by
  unfold mA4 mA3 mA2 mA1
  rw [mpL_43 h, mpL_43 h, mpL_43 h, mPut_43 h, mPut_43 h, mPut_43 h, mPut_43 h, u2_self, pk_un h]
theorem mA5_43 {N : zR} {r f : Nat} {pr : Int32} : mA5 N r pr 43 f = mA4 N r pr 43 f := by unfold mA5; rw [u2_ne (by decide), u2_ne (by decide)]
theorem mA5_28 (N : zR) (r : Nat) (pr : Int32) : mA5 N r pr 43 28 = N 43 28 := by rw [mA5_43, mA4_43 (by decide)]
theorem mA5_38 (N : zR) (r : Nat) (pr : Int32) : mA5 N r pr 43 38 = nI 12 := by rw [mA5_43]; exact (mA4_pb N r pr).1
theorem InvR.send {N : zR} {r : Nat} {what : Int32} {s g z : Nat} (h : InvR N) : InvR (mSend N r what s g (fly N) z) := by
  have h1 : InvR (ms1 N r) := h.of (by unfold ms1; rw [u2_ne (by decide)])
  have h2 : InvR (ms2 N r s) := h1.of (by unfold ms2; rw [u2_ne (by decide)])
  unfold mSend
  split
  · exact h1
  · split
    · exact h2
    · split
      · exact h2
      · rename_i hne
        have e : mcL (fly N) z 0 (ms3 (ms2 N r s) r what s g (fly N) (mWhere (ms2 N r s) r g)) 43 28 = nI (fly N + 1) := by
          rw [mcL_o _ _ _ _ (by decide)]
          unfold ms3
          rw [u2_ne (by decide), u2_ne (by decide), u2_ne (by decide), u2_ne (by decide), u2_ne (by decide), u2_ne (by decide), u2_ne (by decide), u2_self, pk_us, h2.1, nI_1]
          congr 2
        have ef : fly (mcL (fly N) z 0 (ms3 (ms2 N r s) r what s g (fly N) (mWhere (ms2 N r s) r g))) = fly N + 1 := by unfold fly at e ⊢; rw [e]; exact nI_clamp (by have := h.2; unfold fly at this; omega)
        exact ⟨by rw [ef]; exact e, by rw [ef]; have := h.2; omega⟩
theorem InvR.adv {N : zR} {r : Nat} {pr : Int32} (h : InvR N) : InvR (mAdv N r pr) := by
  have h1 : InvR (mA5 N r pr) := h.of (mA5_28 N r pr)
  have h2 : fly (mA5 N r pr) = fly N := fly_of (mA5_28 N r pr)
  unfold mAdv
  rw [← h2]
  exact h1.send
/-- announces: a frame without a packet -/
def mEmp (N : zR) (r : Nat) (what : Int32) (s g : Nat) : zR := mSend (u2 N 43 38 0) r what s g (fly N) 0
theorem u38_28 (N : zR) : u2 N 43 38 0 43 28 = N 43 28 := by rw [u2_self, pk_un (by decide)]
theorem InvR.emp {N : zR} {r : Nat} {what : Int32} {s g : Nat} (h : InvR N) : InvR (mEmp N r what s g) := by
  have h1 : InvR (u2 N 43 38 0) := h.of (u38_28 N)
  have h2 : fly (u2 N 43 38 0) = fly N := fly_of (u38_28 N)
  unfold mEmp
  rw [← h2]
  exact h1.send
def mAc1 (N : zR) (r : Nat) : zR := mEmp (mAdv N r (mWeighed N r)) r 3 9 15
def mAct (N : zR) (r : Nat) : zR := u2 (u2 (u2 (mAc1 N r) 4 r (mAc1 N r 2 (10 * r + 1))) 3 r 2) 6 r (u2 (u2 (mAc1 N r) 4 r (mAc1 N r 2 (10 * r + 1))) 3 r 2 6 r + 1)
def mBack (N : zR) (r : Nat) : zR := u2 (u2 N 4 r (mMax 1 (3 * N 5 r + mSkew N r))) 3 r 1
def mTF (N : zR) (r : Nat) : zR := if N 3 r = 1 then mAct N r else u2 (mAdv N r (mWeighed N r)) 4 r (mAdv N r (mWeighed N r) 2 (10 * r + 1))
theorem InvR.act {N : zR} {r : Nat} (h : InvR N) : InvR (mAct N r) := by
  have h1 : InvR (mAc1 N r) := (InvR.adv h).emp
  exact h1.of (by unfold mAct; rw [u2_ne (by decide), u2_ne (by decide), u2_ne (by decide)])
theorem InvR.tf {N : zR} {r : Nat} (h : InvR N) : InvR (mTF N r) := by
  unfold mTF
  split
  · exact h.act
  · exact (InvR.adv h).of (by rw [u2_ne (by decide)])
set_option maxRecDepth 100000 in
set_option maxHeartbeats 4000000 in
theorem c_M_advertise {l : Launch} {G : zG} {U : zU} (w : wR G U) (N : zR) (r : Nat) (hr5 : r < 5) (pr : Int32) (hI : InvR N) : zF l y_M_advertise b_M_advertise 4 none 2 49 G [.ref (U.1 43), .int (nI r), .int pr] (eR U N) none (eR U (mAdv N r pr)) := by
  refine zF.ofZ (by decide) w.2.2.2.2 (Nat.le_of_ble_eq_true rfl) (fun X hXl hN hr C => ?_)
  subst hXl
  show Z X G (zA G) 4 _ (eR U N) 0 [(0, .ref (U.1 43)), (1, .int (nI r)), (2, .int pr)] []
  have p0 := PB.zero N
  have p1 : PB (mPut (u2 N 43 38 0) 49) 1 := p0.put (by decide)
  have p2 : PB (mA1 N r) 2 := p1.put (by decide)
  have p3 : PB (mPut (mA1 N r) pr) 3 := p2.put (by decide)
  have p4 := mA2_pb N r pr
  have p6 : PB (mpL (mA2 N r pr 2 (10 * r + 1)) 2 (mA2 N r pr)) 6 := PB.many 2 4 _ p4 (by decide)
  have p8 := mA3_pb N r pr
  have p12 := mA4_pb N r pr
  refine Z_aload_n C 0 d_M_advertise_0 rfl rfl ?_
  refine Z_iconst (v := 0) C d_M_advertise_1 (by decide) ?_
  refine R_put C w 38 (by decide) fl_M_136 rfl rfl rfl rfl rfl d_M_advertise_2 ?_
  refine Z_aload_n C 0 d_M_advertise_5 rfl rfl ?_
  refine Z_bipush (v := 49) C d_M_advertise_6 (by decide) ?_
  refine C_cMn C w mi_M_put ml_M_139 (c_M_put w _ _ (p0.vp (by decide))) rfl rfl (by decide) rfl (Nat.le_of_ble_eq_true rfl) d_M_advertise_8 ?_
  refine Z_aload_n C 0 d_M_advertise_11 rfl rfl ?_
  refine Z_aload_n C 0 d_M_advertise_12 rfl rfl ?_
  refine Z_iload_n C 1 d_M_advertise_13 rfl rfl ?_
  refine Z_iconst (v := 3) C d_M_advertise_14 (by decide) ?_
  refine C_cMv C w mi_M_is ml_M_143 (c_M_is w _ r 3 (by assumption) (by decide)) rfl rfl (by decide) rfl (Nat.le_of_ble_eq_true rfl) d_M_advertise_15 ?_
  refine C_cMn C w mi_M_put ml_M_139 (c_M_put w _ _ (p1.vp (by decide))) rfl rfl (by decide) rfl (Nat.le_of_ble_eq_true rfl) d_M_advertise_18 ?_
  refine Z_aload_n C 0 d_M_advertise_21 rfl rfl ?_
  refine Z_iload_n C 2 d_M_advertise_22 rfl rfl ?_
  refine C_cMn C w mi_M_put ml_M_139 (c_M_put w (mA1 N r) _ (p2.vp (by decide))) rfl rfl (by decide) rfl (Nat.le_of_ble_eq_true rfl) d_M_advertise_23 ?_
  refine Z_aload_n C 0 d_M_advertise_26 rfl rfl ?_
  refine Z_iconst (v := 1) C d_M_advertise_27 (by decide) ?_
  refine C_cMn C w mi_M_put ml_M_139 (c_M_put w _ _ (p3.vp (by decide))) rfl rfl (by decide) rfl (Nat.le_of_ble_eq_true rfl) d_M_advertise_28 ?_
  refine Z_aload_n C 0 d_M_advertise_31 rfl rfl ?_
  refine Z_aload_n C 0 d_M_advertise_32 rfl rfl ?_
  refine Z_iload_n C 1 d_M_advertise_33 rfl rfl ?_
  refine Z_iconst (v := 1) C d_M_advertise_34 (by decide) ?_
  refine C_cMv C w mi_M_is ml_M_143 (c_M_is w _ r 1 (by assumption) (by decide)) rfl rfl (by decide) rfl (Nat.le_of_ble_eq_true rfl) d_M_advertise_35 ?_
  refine Z_iconst (v := 2) C d_M_advertise_38 (by decide) ?_
  refine C_cMn C w mi_M_putMany ml_M_165 (c_M_putMany w (mA2 N r pr) _ 2 4 (by decide) p4.1 (by decide)) rfl rfl (by decide) rfl (Nat.le_of_ble_eq_true rfl) d_M_advertise_39 ?_
  refine Z_aload_n C 0 d_M_advertise_42 rfl rfl ?_
  refine Z_iconst (v := 0) C d_M_advertise_43 (by decide) ?_
  refine Z_iconst (v := 2) C d_M_advertise_44 (by decide) ?_
  refine C_cMn C w mi_M_putMany ml_M_165 (c_M_putMany w _ _ 2 6 (by decide) p6.1 (by decide)) rfl rfl (by decide) rfl (Nat.le_of_ble_eq_true rfl) d_M_advertise_45 ?_
  refine Z_aload_n C 0 d_M_advertise_48 rfl rfl ?_
  refine Z_aload_n C 0 d_M_advertise_49 rfl rfl ?_
  refine Z_iload_n C 1 d_M_advertise_50 rfl rfl ?_
  refine Z_iconst (v := 5) C d_M_advertise_51 (by decide) ?_
  refine C_cMv C w mi_M_is ml_M_143 (c_M_is w _ r 5 (by assumption) (by decide)) rfl rfl (by decide) rfl (Nat.le_of_ble_eq_true rfl) d_M_advertise_52 ?_
  refine Z_iconst (v := 4) C d_M_advertise_55 (by decide) ?_
  refine C_cMn C w mi_M_putMany ml_M_165 (c_M_putMany w (mA3 N r pr) _ 4 8 (by decide) p8.1 (by decide)) rfl rfl (by decide) rfl (Nat.le_of_ble_eq_true rfl) d_M_advertise_56 ?_
  refine Z_ldc C co_M_160 d_M_advertise_59 ?_
  refine Z_aload_n C 0 d_M_advertise_61 rfl rfl ?_
  refine R_get C w 37 (by decide) fl_M_113 rfl rfl d_M_advertise_62 ?_
  refine Z_aload_n C 0 d_M_advertise_65 rfl rfl ?_
  refine Z_iload_n C 1 d_M_advertise_66 rfl rfl ?_
  refine Z_iconst (v := 4) C d_M_advertise_67 (by decide) ?_
  refine C_cMv C w mi_M_is ml_M_143 (c_M_is w _ r 4 (by assumption) (by decide)) rfl rfl (by decide) rfl (Nat.le_of_ble_eq_true rfl) d_M_advertise_68 ?_
  refine C_csv C ms_M_sum ml_M_169 (c_M_sum37 w (mA4 N r pr) _ p12.2) rfl (by decide) rfl (Nat.le_of_ble_eq_true rfl) d_M_advertise_71 ?_
  refine Z_isub C d_M_advertise_74 ?_
  refine Z_istore_n C d_M_advertise_75 rfl (by decide) rfl ?_
  refine Z_aload_n C 1 d_M_advertise_76 rfl rfl ?_
  refine R_get C w 37 (by decide) fl_M_113 rfl rfl d_M_advertise_77 ?_
  refine Z_bipush (v := 6) C d_M_advertise_80 (by decide) ?_
  refine Z_iload_n C 0 d_M_advertise_82 rfl rfl ?_
  refine Z_bipush (v := 8) C d_M_advertise_83 (by decide) ?_
  refine Z_ishr C d_M_advertise_85 ?_
  refine R_st 37 C w rfl rfl 6 (by decide) (by unfold vp_in; decide) d_M_advertise_86 ?_
  refine Z_aload_n C 1 d_M_advertise_87 rfl rfl ?_
  refine R_get C w 37 (by decide) fl_M_113 rfl rfl d_M_advertise_88 ?_
  refine Z_bipush (v := 7) C d_M_advertise_91 (by decide) ?_
  refine Z_iload_n C 0 d_M_advertise_93 rfl rfl ?_
  refine Z_sipush (v := 255) C d_M_advertise_94 (by decide) ?_
  refine Z_iand C d_M_advertise_97 ?_
  refine R_st 37 C w rfl rfl 7 (by decide) (by unfold vp_in; decide) d_M_advertise_98 ?_
  refine Z_aload_n C 1 d_M_advertise_99 rfl rfl ?_
  refine Z_iload_n C 2 d_M_advertise_100 rfl rfl ?_
  refine Z_iconst (v := 1) C d_M_advertise_101 (by decide) ?_
  refine Z_bipush (v := 9) C d_M_advertise_102 (by decide) ?_
  refine Z_bipush (v := 15) C d_M_advertise_104 (by decide) ?_
  refine C_cMn C w mi_M_send ml_M_173 (c_M_send w (mA5 N r pr) r hr5 1 9 15 (fly N) 12 (by decide) (by decide) ((mA5_28 N r pr).trans hI.1) hI.2 (mA5_38 N r pr) (by decide)) rfl rfl (by decide) rfl (Nat.le_of_ble_eq_true rfl) d_M_advertise_106 ?_
  exact Z_vret C hN hr d_M_advertise_109 rfl (zeq (rfl))
set_option maxRecDepth 100000 in
set_option maxHeartbeats 4000000 in
theorem c_M_beActive {l : Launch} {G : zG} {U : zU} (w : wR G U) (N : zR) (r : Nat) (hr5 : r < 5) (hI : InvR N) : zF l y_M_beActive b_M_beActive 2 none 3 72 G [.ref (U.1 43), .int (nI r)] (eR U N) none (eR U (mAct N r)) := by
  refine zF.ofZ (by decide) w.2.2.2.2 (Nat.le_of_ble_eq_true rfl) (fun X hXl hN hr C => ?_)
  subst hXl
  show Z X G (zA G) 2 _ (eR U N) 0 [(0, .ref (U.1 43)), (1, .int (nI r))] []
  have hA := InvR.adv (r := r) (pr := mWeighed N r) hI
  refine Z_aload_n C 0 d_M_beActive_0 rfl rfl ?_
  refine Z_iload_n C 1 d_M_beActive_1 rfl rfl ?_
  refine Z_aload_n C 0 d_M_beActive_2 rfl rfl ?_
  refine Z_iload_n C 1 d_M_beActive_3 rfl rfl ?_
  refine C_cMv C w mi_M_weighed ml_M_156 (c_M_weighed w _ _ (by assumption)) rfl rfl (by decide) rfl (Nat.le_of_ble_eq_true rfl) d_M_beActive_4 ?_
  refine C_cMn C w mi_M_advertise ml_M_177 (c_M_advertise w _ _ (by assumption) _ (by assumption)) rfl rfl (by decide) rfl (Nat.le_of_ble_eq_true rfl) d_M_beActive_7 ?_
  refine Z_aload_n C 0 d_M_beActive_10 rfl rfl ?_
  refine Z_iconst (v := 0) C d_M_beActive_11 (by decide) ?_
  refine R_put C w 38 (by decide) fl_M_136 rfl rfl rfl rfl rfl d_M_beActive_12 ?_
  refine Z_aload_n C 0 d_M_beActive_15 rfl rfl ?_
  refine Z_iload_n C 1 d_M_beActive_16 rfl rfl ?_
  refine Z_iconst (v := 3) C d_M_beActive_17 (by decide) ?_
  refine Z_bipush (v := 9) C d_M_beActive_18 (by decide) ?_
  refine Z_bipush (v := 15) C d_M_beActive_20 (by decide) ?_
  refine C_cMn C w mi_M_send ml_M_173 (c_M_send w (u2 (mAdv N r (mWeighed N r)) 43 38 0) r hr5 3 9 15 (fly (mAdv N r (mWeighed N r))) 0 (by decide) (by decide) ((u38_28 _).trans hA.1) hA.2 (PB.zero _).1 (by decide)) rfl rfl (by decide) rfl (Nat.le_of_ble_eq_true rfl) d_M_beActive_22 ?_
  refine Z_aload_n C 0 d_M_beActive_25 rfl rfl ?_
  refine R_get C w 4 (by decide) fl_M_16 rfl rfl d_M_beActive_26 ?_
  refine Z_iload_n C 1 d_M_beActive_29 rfl rfl ?_
  refine Z_aload_n C 0 d_M_beActive_30 rfl rfl ?_
  refine Z_iload_n C 1 d_M_beActive_31 rfl rfl ?_
  refine Z_iconst (v := 1) C d_M_beActive_32 (by decide) ?_
  refine C_cMv C w mi_M_is ml_M_143 (c_M_is w _ r 1 (by assumption) (by decide)) rfl rfl (by decide) rfl (Nat.le_of_ble_eq_true rfl) d_M_beActive_33 ?_
  refine R_st 4 C w rfl rfl r (nI_clamp (by omega)) (vp_in_nI (n := r) (N := 5) hr5 (by decide)) d_M_beActive_36 ?_
  refine Z_aload_n C 0 d_M_beActive_37 rfl rfl ?_
  refine R_get C w 3 (by decide) fl_M_13 rfl rfl d_M_beActive_38 ?_
  refine Z_iload_n C 1 d_M_beActive_41 rfl rfl ?_
  refine Z_iconst (v := 2) C d_M_beActive_42 (by decide) ?_
  refine R_st 3 C w rfl rfl r (nI_clamp (by omega)) (vp_in_nI (n := r) (N := 5) hr5 (by decide)) d_M_beActive_43 ?_
  refine Z_aload_n C 0 d_M_beActive_44 rfl rfl ?_
  refine R_get C w 6 (by decide) fl_M_22 rfl rfl d_M_beActive_45 ?_
  refine Z_iload_n C 1 d_M_beActive_48 rfl rfl ?_
  refine Z_dup2_11 C d_M_beActive_49 rfl rfl ?_
  refine R_ld 6 C w rfl rfl r (nI_clamp (by omega)) (vp_in_nI (n := r) (N := 5) hr5 (by decide)) d_M_beActive_50 ?_
  refine Z_iconst (v := 1) C d_M_beActive_51 (by decide) ?_
  refine Z_iadd C d_M_beActive_52 ?_
  refine R_st 6 C w rfl rfl r (nI_clamp (by omega)) (vp_in_nI (n := r) (N := 5) hr5 (by decide)) d_M_beActive_53 ?_
  exact Z_vret C hN hr d_M_beActive_54 rfl (zeq (rfl))
set_option maxRecDepth 100000 in
set_option maxHeartbeats 4000000 in
theorem c_M_beBackup {l : Launch} {G : zG} {U : zU} (w : wR G U) (N : zR) (r : Nat) (hr5 : r < 5) : zF l y_M_beBackup b_M_beBackup 2 none 3 67 G [.ref (U.1 43), .int (nI r)] (eR U N) none (eR U (mBack N r)) := by
  refine zF.ofZ (by decide) w.2.2.2.2 (Nat.le_of_ble_eq_true rfl) (fun X hXl hN hr C => ?_)
  subst hXl
  show Z X G (zA G) 2 _ (eR U N) 0 [(0, .ref (U.1 43)), (1, .int (nI r))] []
  refine Z_aload_n C 0 d_M_beBackup_0 rfl rfl ?_
  refine R_get C w 4 (by decide) fl_M_16 rfl rfl d_M_beBackup_1 ?_
  refine Z_iload_n C 1 d_M_beBackup_4 rfl rfl ?_
  refine Z_iconst (v := 3) C d_M_beBackup_5 (by decide) ?_
  refine Z_aload_n C 0 d_M_beBackup_6 rfl rfl ?_
  refine R_get C w 5 (by decide) fl_M_19 rfl rfl d_M_beBackup_7 ?_
  refine Z_iload_n C 1 d_M_beBackup_10 rfl rfl ?_
  refine R_ld 5 C w rfl rfl r (nI_clamp (by omega)) (vp_in_nI (n := r) (N := 5) hr5 (by decide)) d_M_beBackup_11 ?_
  refine Z_imul C d_M_beBackup_12 ?_
  refine Z_aload_n C 0 d_M_beBackup_13 rfl rfl ?_
  refine Z_iload_n C 1 d_M_beBackup_14 rfl rfl ?_
  refine C_cMv C w mi_M_skew ml_M_180 (c_M_skew w _ _ (by assumption)) rfl rfl (by decide) rfl (Nat.le_of_ble_eq_true rfl) d_M_beBackup_15 ?_
  refine Z_iadd C d_M_beBackup_18 ?_
  refine C_csv C ms_M_atLeastOne ml_M_183 (c_M_atLeastOne w _ _) rfl (by decide) rfl (Nat.le_of_ble_eq_true rfl) d_M_beBackup_19 ?_
  refine R_st 4 C w rfl rfl r (nI_clamp (by omega)) (vp_in_nI (n := r) (N := 5) hr5 (by decide)) d_M_beBackup_22 ?_
  refine Z_aload_n C 0 d_M_beBackup_23 rfl rfl ?_
  refine R_get C w 3 (by decide) fl_M_13 rfl rfl d_M_beBackup_24 ?_
  refine Z_iload_n C 1 d_M_beBackup_27 rfl rfl ?_
  refine Z_iconst (v := 1) C d_M_beBackup_28 (by decide) ?_
  refine R_st 3 C w rfl rfl r (nI_clamp (by omega)) (vp_in_nI (n := r) (N := 5) hr5 (by decide)) d_M_beBackup_29 ?_
  exact Z_vret C hN hr d_M_beBackup_30 rfl (zeq (rfl))
set_option maxRecDepth 100000 in
set_option maxHeartbeats 4000000 in
theorem c_M_timerFires {l : Launch} {G : zG} {U : zU} (w : wR G U) (N : zR) (r : Nat) (hr5 : r < 5) (hI : InvR N) : zF l y_M_timerFires b_M_timerFires 2 none 4 93 G [.ref (U.1 43), .int (nI r)] (eR U N) none (eR U (mTF N r)) := by
  refine zF.ofZ (by decide) w.2.2.2.2 (Nat.le_of_ble_eq_true rfl) (fun X hXl hN hr C => ?_)
  subst hXl
  show Z X G (zA G) 2 _ (eR U N) 0 [(0, .ref (U.1 43)), (1, .int (nI r))] []
  refine Z_aload_n C 0 d_M_timerFires_0 rfl rfl ?_
  refine R_get C w 3 (by decide) fl_M_13 rfl rfl d_M_timerFires_1 ?_
  refine Z_iload_n C 1 d_M_timerFires_4 rfl rfl ?_
  refine R_ld 3 C w rfl rfl r (nI_clamp (by omega)) (vp_in_nI (n := r) (N := 5) hr5 (by decide)) d_M_timerFires_5 ?_
  refine Z_iconst (v := 1) C d_M_timerFires_6 (by decide) ?_
  refine Z_icmp_ne (tgt := 16) C d_M_timerFires_7 (by decide) (fun c7 => ?_) (fun c7 => ?_)
  · skip
    refine Z_aload_n C 0 d_M_timerFires_16 rfl rfl ?_
    refine Z_iload_n C 1 d_M_timerFires_17 rfl rfl ?_
    refine Z_aload_n C 0 d_M_timerFires_18 rfl rfl ?_
    refine Z_iload_n C 1 d_M_timerFires_19 rfl rfl ?_
    refine C_cMv C w mi_M_weighed ml_M_156 (c_M_weighed w _ _ (by assumption)) rfl rfl (by decide) rfl (Nat.le_of_ble_eq_true rfl) d_M_timerFires_20 ?_
    refine C_cMn C w mi_M_advertise ml_M_177 (c_M_advertise w _ _ (by assumption) _ (by assumption)) rfl rfl (by decide) rfl (Nat.le_of_ble_eq_true rfl) d_M_timerFires_23 ?_
    refine Z_aload_n C 0 d_M_timerFires_26 rfl rfl ?_
    refine R_get C w 4 (by decide) fl_M_16 rfl rfl d_M_timerFires_27 ?_
    refine Z_iload_n C 1 d_M_timerFires_30 rfl rfl ?_
    refine Z_aload_n C 0 d_M_timerFires_31 rfl rfl ?_
    refine Z_iload_n C 1 d_M_timerFires_32 rfl rfl ?_
    refine Z_iconst (v := 1) C d_M_timerFires_33 (by decide) ?_
    refine C_cMv C w mi_M_is ml_M_143 (c_M_is w _ r 1 (by assumption) (by decide)) rfl rfl (by decide) rfl (Nat.le_of_ble_eq_true rfl) d_M_timerFires_34 ?_
    refine R_st 4 C w rfl rfl r (nI_clamp (by omega)) (vp_in_nI (n := r) (N := 5) hr5 (by decide)) d_M_timerFires_37 ?_
    exact Z_vret C hN hr d_M_timerFires_38 rfl (zeq (by apply eR_N; unfold mTF; first | rw [if_pos c7] | rw [if_neg c7]))
  · skip
    refine Z_aload_n C 0 d_M_timerFires_10 rfl rfl ?_
    refine Z_iload_n C 1 d_M_timerFires_11 rfl rfl ?_
    refine C_cMn C w mi_M_beActive ml_M_186 (c_M_beActive w _ _ (by assumption) (by assumption)) rfl rfl (by decide) rfl (Nat.le_of_ble_eq_true rfl) d_M_timerFires_12 ?_
    exact Z_vret C hN hr d_M_timerFires_15 rfl (zeq (by apply eR_N; unfold mTF; first | rw [if_pos c7] | rw [if_neg c7]))

