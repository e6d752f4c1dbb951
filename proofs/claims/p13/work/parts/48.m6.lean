/-! THE REFERENCE: a session's packet; a frame is forgotten; what is heard -/
def mB2 (N : zR) (i : Nat) (bits : Int32) : zR := mPut (mPut (u2 N 43 38 0) (32 + u2 N 43 38 0 15 i)) (64 * mPut (u2 N 43 38 0) (32 + u2 N 43 38 0 15 i) 12 i + bits)
def mB4 (N : zR) (i : Nat) (bits : Int32) : zR := mPut (mPut (mB2 N i bits) (mB2 N i bits 20 i)) 24
def mB5 (N : zR) (r s i : Nat) (bits : Int32) : zR := mpL (16 * nI r + nI s + 1) 4 (mB4 N i bits)
def mB6 (N : zR) (r s i : Nat) (bits : Int32) : zR := mpL (mB5 N r s i bits 14 i) 4 (mB5 N r s i bits)
def mB7 (N : zR) (r s i : Nat) (bits : Int32) : zR := mpL (if mB6 N r s i bits 12 i = 3 then mB6 N r s i bits 16 i else mMax 100 (mB6 N r s i bits 16 i)) 4 (mB6 N r s i bits)
def mB8 (N : zR) (r s i : Nat) (bits : Int32) : zR := mpL (mB7 N r s i bits 17 i) 4 (mB7 N r s i bits)
def mB9 (N : zR) (r s i : Nat) (bits : Int32) : zR := mpL 0 4 (mB8 N r s i bits)
def mPk (N : zR) (r s : Nat) (bits : Int32) : zR := mSend (mB9 N r s (5 * r + s) bits) r 2 r s (fly N) 24
theorem mB4_pb (N : zR) (i : Nat) (bits : Int32) : PB (mB4 N i bits) 4 := ((((PB.zero N).put (by decide)).put (by decide)).put (by decide)).put (by decide)
theorem mB5_pb (N : zR) (r s i : Nat) (bits : Int32) : PB (mB5 N r s i bits) 8 := PB.many 4 4 _ (mB4_pb N i bits) (by decide)
theorem mB6_pb (N : zR) (r s i : Nat) (bits : Int32) : PB (mB6 N r s i bits) 12 := PB.many 4 8 _ (mB5_pb N r s i bits) (by decide)
theorem mB7_pb (N : zR) (r s i : Nat) (bits : Int32) : PB (mB7 N r s i bits) 16 := PB.many 4 12 _ (mB6_pb N r s i bits) (by decide)
theorem mB8_pb (N : zR) (r s i : Nat) (bits : Int32) : PB (mB8 N r s i bits) 20 := PB.many 4 16 _ (mB7_pb N r s i bits) (by decide)
theorem mB9_pb (N : zR) (r s i : Nat) (bits : Int32) : PB (mB9 N r s i bits) 24 := PB.many 4 20 _ (mB8_pb N r s i bits) (by decide)
theorem mB9_28 (N : zR) (r s i : Nat) (bits : Int32) : mB9 N r s i bits 43 28 = N 43 28 := by
  unfold mB9 mB8 mB7 mB6 mB5 mB4 mB2
  rw [mpL_43 (by decide), mpL_43 (by decide), mpL_43 (by decide), mpL_43 (by decide), mpL_43 (by decide), mPut_43 (by decide), mPut_43 (by decide), mPut_43 (by decide), mPut_43 (by decide), u2_self, pk_un (by decide)]
theorem InvR.pk {N : zR} {r s : Nat} {bits : Int32} (h : InvR N) : InvR (mPk N r s bits) := by
  have h1 : InvR (mB9 N r s (5 * r + s) bits) := h.of (mB9_28 N r s (5 * r + s) bits)
  have h2 : fly (mB9 N r s (5 * r + s) bits) = fly N := fly_of (mB9_28 N r s (5 * r + s) bits)
  unfold mPk
  rw [← h2]
  exact h1.send
/-- place k takes what lies at k + 1 -/
def fg1 (N : zR) (k : Nat) : zR := u2 (u2 (u2 (u2 (u2 (u2 (u2 N 29 k (N 29 (k + 1))) 30 k (N 30 (k + 1))) 31 k (N 31 (k + 1))) 32 k (N 32 (k + 1))) 33 k (N 33 (k + 1))) 34 k (N 34 (k + 1))) 35 k (N 35 (k + 1))
def fbL (k : Nat) : Nat → Nat → zR → zR
  | 0, _, N => N
  | n + 1, i, N => fbL k n (i + 1) (u2 N 36 (40 * k + i) (N 36 (40 * (k + 1) + i)))
def fgS (N : zR) (k : Nat) : zR := fbL k 40 0 (fg1 N k)
def fgL : Nat → Nat → zR → zR
  | 0, _, N => N
  | n + 1, k, N => fgL n (k + 1) (fgS N k)
def mForget (N : zR) (f c : Nat) : zR := u2 (fgL (c - 1 - f) f N) 43 28 (nI (c - 1))
theorem fbL_o {k : Nat} : ∀ (n i : Nat) (N : zR) (a : Nat), a ≠ 36 → fbL k n i N a = N a := by
  intro n
  induction n with
  | zero => intro i N a h; rfl
  | succ n ih => intro i N a h; show fbL k n (i + 1) _ a = _; rw [ih _ _ _ h, u2_ne h]
theorem fgS_43 (N : zR) (k : Nat) : fgS N k 43 = N 43 := by
  unfold fgS
  rw [fbL_o _ _ _ _ (by decide)]
  unfold fg1
  rw [u2_ne (by decide), u2_ne (by decide), u2_ne (by decide), u2_ne (by decide), u2_ne (by decide), u2_ne (by decide), u2_ne (by decide)]
theorem ix40b (k i : Nat) : (40 : Int32) * (nI k + 1) + nI i = nI (40 * (k + 1) + i) := by rw [nI_1]; exact ix40 (k + 1) i
theorem mIsR_in {x : Int32} (h : ¬ mIsR x = 0) : vp_in x 5 := lIsR_in (x := x) h
theorem mIsR_nI {x : Int32} (h : ¬ mIsR x = 0) : x = nI x.toNatClampNeg := lIsR_nI (x := x) h
theorem mIsR_lt {x : Int32} (h : ¬ mIsR x = 0) : x.toNatClampNeg < 5 := lIsR_lt (x := x) h
theorem ix5s {r : Nat} {st : Int32} (h : st = nI st.toNatClampNeg) : (5 : Int32) * nI r + st = nI (5 * r + st.toNatClampNeg) := by
  have e := ix5 r st.toNatClampNeg
  rw [← h] at e
  exact e
abbrev mNum (N : zR) : Int64 := mTold N 8 4
def mtF (N : zR) (r : Nat) : Nat → Nat → Option Nat
  | 0, _ => none
  | n + 1, s => if N 11 (5 * r + s) = 0 then mtF N r n (s + 1) else if ¬ lg_cmp (mNum N) (16 * nI r + nI s + 1).toInt64 = 0 then mtF N r n (s + 1) else some s
def mBegins (N : zR) (r : Nat) (st : Int32) : Int32 := if ¬ lg_cmp (mNum N) 0 = 0 then 0 else if 1 < N 39 1 >>> ((6 : Int32) &&& 31) then 0 else if mIsR st = 0 then 0 else if N 11 (5 * r + st.toNatClampNeg) = 0 then 0 else 1
def mMeant (N : zR) (r : Nat) (st : Int32) : Int32 := match mtF N r 5 0 with
  | some s => nI s
  | none => if mBegins N r st = 0 then -1 else st
set_option maxRecDepth 100000 in
set_option maxHeartbeats 4000000 in
theorem c_M_sendPacket {l : Launch} {G : zG} {U : zU} (w : wR G U) (N : zR) (r : Nat) (hr5 : r < 5) (s : Nat) (hs5 : s < 5) (bits : Int32) (hI : InvR N) : zF l y_M_sendPacket b_M_sendPacket 5 none 2 49 G [.ref (U.1 43), .int (nI r), .int (nI s), .int bits] (eR U N) none (eR U (mPk N r s bits)) := by
  refine zF.ofZ (by decide) w.2.2.2.2 (Nat.le_of_ble_eq_true rfl) (fun X hXl hN hr C => ?_)
  subst hXl
  show Z X G (zA G) 5 _ (eR U N) 0 [(0, .ref (U.1 43)), (1, .int (nI r)), (2, .int (nI s)), (3, .int bits)] []
  have p0 := PB.zero N
  have p1 : PB (mPut (u2 N 43 38 0) (32 + u2 N 43 38 0 15 (5 * r + s))) 1 := p0.put (by decide)
  have p2 : PB (mB2 N (5 * r + s) bits) 2 := p1.put (by decide)
  have p3 : PB (mPut (mB2 N (5 * r + s) bits) (mB2 N (5 * r + s) bits 20 (5 * r + s))) 3 := p2.put (by decide)
  have p4 := mB4_pb N (5 * r + s) bits
  have p8 := mB5_pb N r s (5 * r + s) bits
  have p12 := mB6_pb N r s (5 * r + s) bits
  have p16 := mB7_pb N r s (5 * r + s) bits
  have p20 := mB8_pb N r s (5 * r + s) bits
  have p24 := mB9_pb N r s (5 * r + s) bits
  refine Z_iconst (v := 5) C d_M_sendPacket_0 (by decide) ?_
  refine Z_iload_n C 1 d_M_sendPacket_1 rfl rfl ?_
  refine Z_imul C d_M_sendPacket_2 ?_
  refine Z_iload_n C 2 d_M_sendPacket_3 rfl rfl ?_
  refine Z_iadd C d_M_sendPacket_4 ?_
  refine zst (st' := [.int (nI (5 * r + s))]) (by rw [ix5]) ?_
  refine Z_istore C d_M_sendPacket_5 (by decide) rfl ?_
  refine Z_aload_n C 1 d_M_sendPacket_7 rfl rfl ?_
  refine Z_iconst (v := 0) C d_M_sendPacket_8 (by decide) ?_
  refine R_put C w 38 (by decide) fl_M_136 rfl rfl rfl rfl rfl d_M_sendPacket_9 ?_
  refine Z_aload_n C 1 d_M_sendPacket_12 rfl rfl ?_
  refine Z_bipush (v := 32) C d_M_sendPacket_13 (by decide) ?_
  refine Z_aload_n C 1 d_M_sendPacket_15 rfl rfl ?_
  refine R_get C w 15 (by decide) fl_M_50 rfl rfl d_M_sendPacket_16 ?_
  refine Z_iload C 0 d_M_sendPacket_19 rfl ?_
  refine R_ld 15 C w rfl rfl (5 * r + s) (nI_clamp (by omega)) (vp_in_nI (n := 5 * r + s) (N := 25) (by omega) (by decide)) d_M_sendPacket_21 ?_
  refine Z_iadd C d_M_sendPacket_22 ?_
  refine C_cMn C w mi_M_put ml_M_139 (c_M_put w _ _ (p0.vp (by decide))) rfl rfl (by decide) rfl (Nat.le_of_ble_eq_true rfl) d_M_sendPacket_23 ?_
  refine Z_aload_n C 1 d_M_sendPacket_26 rfl rfl ?_
  refine Z_bipush (v := 64) C d_M_sendPacket_27 (by decide) ?_
  refine Z_aload_n C 1 d_M_sendPacket_29 rfl rfl ?_
  refine R_get C w 12 (by decide) fl_M_41 rfl rfl d_M_sendPacket_30 ?_
  refine Z_iload C 0 d_M_sendPacket_33 rfl ?_
  refine R_ld 12 C w rfl rfl (5 * r + s) (nI_clamp (by omega)) (vp_in_nI (n := 5 * r + s) (N := 25) (by omega) (by decide)) d_M_sendPacket_35 ?_
  refine Z_imul C d_M_sendPacket_36 ?_
  refine Z_iload_n C 4 d_M_sendPacket_37 rfl rfl ?_
  refine Z_iadd C d_M_sendPacket_38 ?_
  refine C_cMn C w mi_M_put ml_M_139 (c_M_put w _ _ (p1.vp (by decide))) rfl rfl (by decide) rfl (Nat.le_of_ble_eq_true rfl) d_M_sendPacket_39 ?_
  refine Z_aload_n C 1 d_M_sendPacket_42 rfl rfl ?_
  refine Z_aload_n C 1 d_M_sendPacket_43 rfl rfl ?_
  refine R_get C w 20 (by decide) fl_M_65 rfl rfl d_M_sendPacket_44 ?_
  refine Z_iload C 0 d_M_sendPacket_47 rfl ?_
  refine R_ld 20 C w rfl rfl (5 * r + s) (nI_clamp (by omega)) (vp_in_nI (n := 5 * r + s) (N := 25) (by omega) (by decide)) d_M_sendPacket_49 ?_
  refine C_cMn C w mi_M_put ml_M_139 (c_M_put w (mB2 N (5 * r + s) bits) _ (p2.vp (by decide))) rfl rfl (by decide) rfl (Nat.le_of_ble_eq_true rfl) d_M_sendPacket_50 ?_
  refine Z_aload_n C 1 d_M_sendPacket_53 rfl rfl ?_
  refine Z_bipush (v := 24) C d_M_sendPacket_54 (by decide) ?_
  refine C_cMn C w mi_M_put ml_M_139 (c_M_put w _ _ (p3.vp (by decide))) rfl rfl (by decide) rfl (Nat.le_of_ble_eq_true rfl) d_M_sendPacket_56 ?_
  refine Z_aload_n C 1 d_M_sendPacket_59 rfl rfl ?_
  refine Z_bipush (v := 16) C d_M_sendPacket_60 (by decide) ?_
  refine Z_iload_n C 2 d_M_sendPacket_62 rfl rfl ?_
  refine Z_imul C d_M_sendPacket_63 ?_
  refine Z_iload_n C 3 d_M_sendPacket_64 rfl rfl ?_
  refine Z_iadd C d_M_sendPacket_65 ?_
  refine Z_iconst (v := 1) C d_M_sendPacket_66 (by decide) ?_
  refine Z_iadd C d_M_sendPacket_67 ?_
  refine Z_iconst (v := 4) C d_M_sendPacket_68 (by decide) ?_
  refine C_cMn C w mi_M_putMany ml_M_165 (c_M_putMany w (mB4 N (5 * r + s) bits) _ 4 4 (by decide) p4.1 (by decide)) rfl rfl (by decide) rfl (Nat.le_of_ble_eq_true rfl) d_M_sendPacket_69 ?_
  refine Z_aload_n C 1 d_M_sendPacket_72 rfl rfl ?_
  refine Z_aload_n C 1 d_M_sendPacket_73 rfl rfl ?_
  refine R_get C w 14 (by decide) fl_M_47 rfl rfl d_M_sendPacket_74 ?_
  refine Z_iload C 0 d_M_sendPacket_77 rfl ?_
  refine R_ld 14 C w rfl rfl (5 * r + s) (nI_clamp (by omega)) (vp_in_nI (n := 5 * r + s) (N := 25) (by omega) (by decide)) d_M_sendPacket_79 ?_
  refine Z_iconst (v := 4) C d_M_sendPacket_80 (by decide) ?_
  refine C_cMn C w mi_M_putMany ml_M_165 (c_M_putMany w (mB5 N r s (5 * r + s) bits) _ 4 8 (by decide) p8.1 (by decide)) rfl rfl (by decide) rfl (Nat.le_of_ble_eq_true rfl) d_M_sendPacket_81 ?_
  refine Z_aload_n C 1 d_M_sendPacket_84 rfl rfl ?_
  refine Z_aload_n C 1 d_M_sendPacket_85 rfl rfl ?_
  refine R_get C w 12 (by decide) fl_M_41 rfl rfl d_M_sendPacket_86 ?_
  refine Z_iload C 0 d_M_sendPacket_89 rfl ?_
  refine R_ld 12 C w rfl rfl (5 * r + s) (nI_clamp (by omega)) (vp_in_nI (n := 5 * r + s) (N := 25) (by omega) (by decide)) d_M_sendPacket_91 ?_
  refine Z_iconst (v := 3) C d_M_sendPacket_92 (by decide) ?_
  refine Z_icmp_ne (tgt := 106) C d_M_sendPacket_93 (by decide) (fun c93 => ?_) (fun c93 => ?_)
  · have c93 : ¬ mB6 N r s (5 * r + s) bits 12 (5 * r + s) = 3 := c93
    refine Z_bipush (v := 100) C d_M_sendPacket_106 (by decide) ?_
    refine Z_aload_n C 1 d_M_sendPacket_108 rfl rfl ?_
    refine R_get C w 16 (by decide) fl_M_53 rfl rfl d_M_sendPacket_109 ?_
    refine Z_iload C 0 d_M_sendPacket_112 rfl ?_
    refine R_ld 16 C w rfl rfl (5 * r + s) (nI_clamp (by omega)) (vp_in_nI (n := 5 * r + s) (N := 25) (by omega) (by decide)) d_M_sendPacket_114 ?_
    refine C_csv C ms_M_max ml_M_153 (c_M_max w _ _ _) rfl (by decide) rfl (Nat.le_of_ble_eq_true rfl) d_M_sendPacket_115 ?_
    refine zst (st' := [.int (if mB6 N r s (5 * r + s) bits 12 (5 * r + s) = 3 then mB6 N r s (5 * r + s) bits 16 (5 * r + s) else mMax 100 (mB6 N r s (5 * r + s) bits 16 (5 * r + s))), .ref (U.1 43)]) (by first | (rw [if_pos c93] <;> rfl) | (rw [if_neg c93] <;> rfl) | (rw [if_pos c93]) | (rw [if_neg c93])) ?_
    refine Z_iconst (v := 4) C d_M_sendPacket_118 (by decide) ?_
    refine C_cMn C w mi_M_putMany ml_M_165 (c_M_putMany w (mB6 N r s (5 * r + s) bits) _ 4 12 (by decide) p12.1 (by decide)) rfl rfl (by decide) rfl (Nat.le_of_ble_eq_true rfl) d_M_sendPacket_119 ?_
    refine Z_aload_n C 1 d_M_sendPacket_122 rfl rfl ?_
    refine Z_aload_n C 1 d_M_sendPacket_123 rfl rfl ?_
    refine R_get C w 17 (by decide) fl_M_56 rfl rfl d_M_sendPacket_124 ?_
    refine Z_iload C 0 d_M_sendPacket_127 rfl ?_
    refine R_ld 17 C w rfl rfl (5 * r + s) (nI_clamp (by omega)) (vp_in_nI (n := 5 * r + s) (N := 25) (by omega) (by decide)) d_M_sendPacket_129 ?_
    refine Z_iconst (v := 4) C d_M_sendPacket_130 (by decide) ?_
    refine C_cMn C w mi_M_putMany ml_M_165 (c_M_putMany w (mB7 N r s (5 * r + s) bits) _ 4 16 (by decide) p16.1 (by decide)) rfl rfl (by decide) rfl (Nat.le_of_ble_eq_true rfl) d_M_sendPacket_131 ?_
    refine Z_aload_n C 1 d_M_sendPacket_134 rfl rfl ?_
    refine Z_iconst (v := 0) C d_M_sendPacket_135 (by decide) ?_
    refine Z_iconst (v := 4) C d_M_sendPacket_136 (by decide) ?_
    refine C_cMn C w mi_M_putMany ml_M_165 (c_M_putMany w (mB8 N r s (5 * r + s) bits) _ 4 20 (by decide) p20.1 (by decide)) rfl rfl (by decide) rfl (Nat.le_of_ble_eq_true rfl) d_M_sendPacket_137 ?_
    refine Z_aload_n C 1 d_M_sendPacket_140 rfl rfl ?_
    refine Z_iload_n C 2 d_M_sendPacket_141 rfl rfl ?_
    refine Z_iconst (v := 2) C d_M_sendPacket_142 (by decide) ?_
    refine Z_iload_n C 2 d_M_sendPacket_143 rfl rfl ?_
    refine Z_iload_n C 3 d_M_sendPacket_144 rfl rfl ?_
    refine C_cMn C w mi_M_send ml_M_173 (c_M_send w (mB9 N r s (5 * r + s) bits) r hr5 2 r s (fly N) 24 (by omega) (by omega) ((mB9_28 N r s (5 * r + s) bits).trans hI.1) hI.2 p24.1 (by decide)) rfl rfl (by decide) rfl (Nat.le_of_ble_eq_true rfl) d_M_sendPacket_145 ?_
    exact Z_vret C hN hr d_M_sendPacket_148 rfl (zeq (rfl))
  · have c93 : mB6 N r s (5 * r + s) bits 12 (5 * r + s) = 3 := c93
    refine Z_aload_n C 1 d_M_sendPacket_96 rfl rfl ?_
    refine R_get C w 16 (by decide) fl_M_53 rfl rfl d_M_sendPacket_97 ?_
    refine Z_iload C 0 d_M_sendPacket_100 rfl ?_
    refine R_ld 16 C w rfl rfl (5 * r + s) (nI_clamp (by omega)) (vp_in_nI (n := 5 * r + s) (N := 25) (by omega) (by decide)) d_M_sendPacket_102 ?_
    refine Z_goto (tgt := 118) C d_M_sendPacket_103 (by decide) ?_
    refine zst (st' := [.int (if mB6 N r s (5 * r + s) bits 12 (5 * r + s) = 3 then mB6 N r s (5 * r + s) bits 16 (5 * r + s) else mMax 100 (mB6 N r s (5 * r + s) bits 16 (5 * r + s))), .ref (U.1 43)]) (by first | (rw [if_pos c93] <;> rfl) | (rw [if_neg c93] <;> rfl) | (rw [if_pos c93]) | (rw [if_neg c93])) ?_
    refine Z_iconst (v := 4) C d_M_sendPacket_118 (by decide) ?_
    refine C_cMn C w mi_M_putMany ml_M_165 (c_M_putMany w (mB6 N r s (5 * r + s) bits) _ 4 12 (by decide) p12.1 (by decide)) rfl rfl (by decide) rfl (Nat.le_of_ble_eq_true rfl) d_M_sendPacket_119 ?_
    refine Z_aload_n C 1 d_M_sendPacket_122 rfl rfl ?_
    refine Z_aload_n C 1 d_M_sendPacket_123 rfl rfl ?_
    refine R_get C w 17 (by decide) fl_M_56 rfl rfl d_M_sendPacket_124 ?_
    refine Z_iload C 0 d_M_sendPacket_127 rfl ?_
    refine R_ld 17 C w rfl rfl (5 * r + s) (nI_clamp (by omega)) (vp_in_nI (n := 5 * r + s) (N := 25) (by omega) (by decide)) d_M_sendPacket_129 ?_
    refine Z_iconst (v := 4) C d_M_sendPacket_130 (by decide) ?_
    refine C_cMn C w mi_M_putMany ml_M_165 (c_M_putMany w (mB7 N r s (5 * r + s) bits) _ 4 16 (by decide) p16.1 (by decide)) rfl rfl (by decide) rfl (Nat.le_of_ble_eq_true rfl) d_M_sendPacket_131 ?_
    refine Z_aload_n C 1 d_M_sendPacket_134 rfl rfl ?_
    refine Z_iconst (v := 0) C d_M_sendPacket_135 (by decide) ?_
    refine Z_iconst (v := 4) C d_M_sendPacket_136 (by decide) ?_
    refine C_cMn C w mi_M_putMany ml_M_165 (c_M_putMany w (mB8 N r s (5 * r + s) bits) _ 4 20 (by decide) p20.1 (by decide)) rfl rfl (by decide) rfl (Nat.le_of_ble_eq_true rfl) d_M_sendPacket_137 ?_
    refine Z_aload_n C 1 d_M_sendPacket_140 rfl rfl ?_
    refine Z_iload_n C 2 d_M_sendPacket_141 rfl rfl ?_
    refine Z_iconst (v := 2) C d_M_sendPacket_142 (by decide) ?_
    refine Z_iload_n C 2 d_M_sendPacket_143 rfl rfl ?_
    refine Z_iload_n C 3 d_M_sendPacket_144 rfl rfl ?_
    refine C_cMn C w mi_M_send ml_M_173 (c_M_send w (mB9 N r s (5 * r + s) bits) r hr5 2 r s (fly N) 24 (by omega) (by omega) ((mB9_28 N r s (5 * r + s) bits).trans hI.1) hI.2 p24.1 (by decide)) rfl rfl (by decide) rfl (Nat.le_of_ble_eq_true rfl) d_M_sendPacket_145 ?_
    exact Z_vret C hN hr d_M_sendPacket_148 rfl (zeq (rfl))
set_option maxRecDepth 100000 in
set_option maxHeartbeats 4000000 in
theorem c_M_forget {l : Launch} {G : zG} {U : zU} (w : wR G U) (N : zR) (f c : Nat) (hfc : f < c) (hc60 : c ≤ 60) (hc : N 43 28 = nI c) : zF l y_M_forget b_M_forget 4 none 0 0 G [.ref (U.1 43), .int (nI f)] (eR U N) none (eR U (mForget N f c)) := by
  refine zF.ofZ (by decide) w.2.2.2.2 (Nat.le_of_ble_eq_true rfl) (fun X hXl hN hr C => ?_)
  subst hXl
  show Z X G (zA G) 4 _ (eR U N) 0 [(0, .ref (U.1 43)), (1, .int (nI f))] []
  refine Z_iload_n C 1 d_M_forget_0 rfl rfl ?_
  refine Z_istore_n C d_M_forget_1 rfl (by decide) rfl ?_
  have hx : ∀ (N1 : zR) (x3 : Value) (lv : List (Nat × Value)), N1 43 28 = nI c → fgL (c - 1 - f) f N = N1 → lv_pick lv [0] = [(0, .ref (U.1 43))] → Z X G (zA G) 4 (zQ X G none (eR U (mForget N f c))) (eR U N1) 154 lv [] := by
    intro N1 x3 lv h1 h2 hlv
    refine zlv [0] hlv ?_
    have hc1 : nI c - 1 = nI (c - 1) := by obtain ⟨z, rfl⟩ : ∃ z, c = z + 1 := ⟨c - 1, by omega⟩; rw [nI_pred]; rfl
    refine Z_aload_n C 0 d_M_forget_154 rfl rfl ?_
    refine Z_dup C d_M_forget_155 rfl ?_
    refine R_get C w 28 (by decide) fl_M_147 rfl rfl d_M_forget_156 ?_
    refine Z_iconst (v := 1) C d_M_forget_159 (by decide) ?_
    refine Z_isub C d_M_forget_160 ?_
    refine R_put C w 28 (by decide) fl_M_147 rfl rfl rfl rfl rfl d_M_forget_161 ?_
    exact Z_vret C hN hr d_M_forget_164 rfl (zeq (by apply eR_N; unfold mForget; rw [h2, ← hc1, ← h1]))
  have hin : ∀ (k : Nat) (N2 : zR), k + 1 < 60 → (Z X G (zA G) 4 (zQ X G none (eR U (mForget N f c))) (eR U N2) 148 [(3, .int (nI 40)), (2, .int (nI k)), (0, .ref (U.1 43)), (1, .int (nI f))] []) → ∀ (n i : Nat) (N1 : zR), i + n = 40 → fbL k n i N1 = N2 → Z X G (zA G) 4 (zQ X G none (eR U (mForget N f c))) (eR U N1) 112 [(3, .int (nI i)), (2, .int (nI k)), (0, .ref (U.1 43)), (1, .int (nI f))] [] := by
    intro k N2 hk hx2 n
    induction n with
    | zero =>
      intro i N1 h1 h2
      obtain rfl : i = 40 := by omega
      subst h2
      refine Z_iload_n C 0 d_M_forget_112 rfl rfl ?_
      refine Z_bipush (v := 40) C d_M_forget_113 (by decide) ?_
      refine Z_icmp_ge (tgt := 148) C d_M_forget_115 (by decide) (fun c115 => ?_) (fun c115 => ?_)
      · skip
        exact hx2
      · exact absurd (nI_le (a := 40) (b := 40) (by omega) (by omega)) c115 --stop
    | succ n ih =>
      intro i N1 h1 h2
      refine Z_iload_n C 0 d_M_forget_112 rfl rfl ?_
      refine Z_bipush (v := 40) C d_M_forget_113 (by decide) ?_
      refine Z_icmp_ge (tgt := 148) C d_M_forget_115 (by decide) (fun c115 => ?_) (fun c115 => ?_)
      · exact absurd c115 (nI_ge (a := i) (b := 40) (by omega) (by decide)) --stop
      · skip
        refine Z_aload_n C 2 d_M_forget_118 rfl rfl ?_
        refine R_get C w 36 (by decide) fl_M_110 rfl rfl d_M_forget_119 ?_
        refine Z_bipush (v := 40) C d_M_forget_122 (by decide) ?_
        refine Z_iload_n C 1 d_M_forget_124 rfl rfl ?_
        refine Z_imul C d_M_forget_125 ?_
        refine Z_iload_n C 0 d_M_forget_126 rfl rfl ?_
        refine Z_iadd C d_M_forget_127 ?_
        refine Z_aload_n C 2 d_M_forget_128 rfl rfl ?_
        refine R_get C w 36 (by decide) fl_M_110 rfl rfl d_M_forget_129 ?_
        refine Z_bipush (v := 40) C d_M_forget_132 (by decide) ?_
        refine Z_iload_n C 1 d_M_forget_134 rfl rfl ?_
        refine Z_iconst (v := 1) C d_M_forget_135 (by decide) ?_
        refine Z_iadd C d_M_forget_136 ?_
        refine Z_imul C d_M_forget_137 ?_
        refine Z_iload_n C 0 d_M_forget_138 rfl rfl ?_
        refine Z_iadd C d_M_forget_139 ?_
        refine R_ld 36 C w rfl rfl (40 * (k + 1) + i) (by rw [ix40b]; exact nI_clamp (by omega)) (by rw [ix40b]; exact vp_in_nI (n := 40 * (k + 1) + i) (N := 2400) (by omega) (by decide)) d_M_forget_140 ?_
        refine R_st 36 C w rfl rfl (40 * k + i) (by rw [ix40]; exact nI_clamp (by omega)) (by rw [ix40]; exact vp_in_nI (n := 40 * k + i) (N := 2400) (by omega) (by decide)) d_M_forget_141 ?_
        refine Z_iinc 0 C d_M_forget_142 rfl (nI_1 i) (by decide) rfl ?_
        refine Z_goto (tgt := 112) C d_M_forget_145 (by decide) ?_
        exact ih (i + 1) _ (by omega) h2
  have hlp : ∀ (n k : Nat) (N1 : zR), k + 1 + n = c → N1 43 28 = nI c → fgL n k N1 = fgL (c - 1 - f) f N → ∀ (lv : List (Nat × Value)), lv_pick lv [0, 1, 2] = [(2, .int (nI k)), (0, .ref (U.1 43)), (1, .int (nI f))] → Z X G (zA G) 4 (zQ X G none (eR U (mForget N f c))) (eR U N1) 2 lv [] := by
    intro n
    induction n with
    | zero =>
      intro k N1 h1 h2 h3 lv hlv
      refine zlv [0, 1, 2] hlv ?_
      refine Z_iload_n C 0 d_M_forget_2 rfl rfl ?_
      refine Z_iconst (v := 1) C d_M_forget_3 (by decide) ?_
      refine Z_iadd C d_M_forget_4 ?_
      refine Z_aload_n C 1 d_M_forget_5 rfl rfl ?_
      refine R_get C w 28 (by decide) fl_M_147 rfl rfl d_M_forget_6 ?_
      refine Z_icmp_ge (tgt := 154) C d_M_forget_9 (by decide) (fun c9 => ?_) (fun c9 => ?_)
      · rw [h2] at c9
        refine zlv [1] (lv' := [(0, .ref (U.1 43))]) rfl ?_
        exact hx N1 .null _ h2 h3.symm rfl
      · rw [h2, nI_1] at c9
        exact absurd (nI_le (by omega) (by omega)) c9 --stop
    | succ n ih =>
      intro k N1 h1 h2 h3 lv hlv
      refine zlv [0, 1, 2] hlv ?_
      refine Z_iload_n C 0 d_M_forget_2 rfl rfl ?_
      refine Z_iconst (v := 1) C d_M_forget_3 (by decide) ?_
      refine Z_iadd C d_M_forget_4 ?_
      refine Z_aload_n C 1 d_M_forget_5 rfl rfl ?_
      refine R_get C w 28 (by decide) fl_M_147 rfl rfl d_M_forget_6 ?_
      refine Z_icmp_ge (tgt := 154) C d_M_forget_9 (by decide) (fun c9 => ?_) (fun c9 => ?_)
      · rw [h2, nI_1] at c9
        exact absurd c9 (nI_ge (a := k + 1) (b := c) (by omega) (by omega)) --stop
      · skip
        refine Z_aload_n C 1 d_M_forget_12 rfl rfl ?_
        refine R_get C w 29 (by decide) fl_M_89 rfl rfl d_M_forget_13 ?_
        refine Z_iload_n C 0 d_M_forget_16 rfl rfl ?_
        refine Z_aload_n C 1 d_M_forget_17 rfl rfl ?_
        refine R_get C w 29 (by decide) fl_M_89 rfl rfl d_M_forget_18 ?_
        refine Z_iload_n C 0 d_M_forget_21 rfl rfl ?_
        refine Z_iconst (v := 1) C d_M_forget_22 (by decide) ?_
        refine Z_iadd C d_M_forget_23 ?_
        refine R_ld 29 C w rfl rfl (k + 1) (by rw [nI_1]; exact nI_clamp (by omega)) (by rw [nI_1]; exact vp_in_nI (n := k + 1) (N := 60) (by omega) (by decide)) d_M_forget_24 ?_
        refine R_st 29 C w rfl rfl k (nI_clamp (by omega)) (vp_in_nI (n := k) (N := 60) (by omega) (by decide)) d_M_forget_25 ?_
        refine Z_aload_n C 1 d_M_forget_26 rfl rfl ?_
        refine R_get C w 30 (by decide) fl_M_92 rfl rfl d_M_forget_27 ?_
        refine Z_iload_n C 0 d_M_forget_30 rfl rfl ?_
        refine Z_aload_n C 1 d_M_forget_31 rfl rfl ?_
        refine R_get C w 30 (by decide) fl_M_92 rfl rfl d_M_forget_32 ?_
        refine Z_iload_n C 0 d_M_forget_35 rfl rfl ?_
        refine Z_iconst (v := 1) C d_M_forget_36 (by decide) ?_
        refine Z_iadd C d_M_forget_37 ?_
        refine R_ld 30 C w rfl rfl (k + 1) (by rw [nI_1]; exact nI_clamp (by omega)) (by rw [nI_1]; exact vp_in_nI (n := k + 1) (N := 60) (by omega) (by decide)) d_M_forget_38 ?_
        refine R_st 30 C w rfl rfl k (nI_clamp (by omega)) (vp_in_nI (n := k) (N := 60) (by omega) (by decide)) d_M_forget_39 ?_
        refine Z_aload_n C 1 d_M_forget_40 rfl rfl ?_
        refine R_get C w 31 (by decide) fl_M_95 rfl rfl d_M_forget_41 ?_
        refine Z_iload_n C 0 d_M_forget_44 rfl rfl ?_
        refine Z_aload_n C 1 d_M_forget_45 rfl rfl ?_
        refine R_get C w 31 (by decide) fl_M_95 rfl rfl d_M_forget_46 ?_
        refine Z_iload_n C 0 d_M_forget_49 rfl rfl ?_
        refine Z_iconst (v := 1) C d_M_forget_50 (by decide) ?_
        refine Z_iadd C d_M_forget_51 ?_
        refine R_ld 31 C w rfl rfl (k + 1) (by rw [nI_1]; exact nI_clamp (by omega)) (by rw [nI_1]; exact vp_in_nI (n := k + 1) (N := 60) (by omega) (by decide)) d_M_forget_52 ?_
        refine R_st 31 C w rfl rfl k (nI_clamp (by omega)) (vp_in_nI (n := k) (N := 60) (by omega) (by decide)) d_M_forget_53 ?_
        refine Z_aload_n C 1 d_M_forget_54 rfl rfl ?_
        refine R_get C w 32 (by decide) fl_M_98 rfl rfl d_M_forget_55 ?_
        refine Z_iload_n C 0 d_M_forget_58 rfl rfl ?_
        refine Z_aload_n C 1 d_M_forget_59 rfl rfl ?_
        refine R_get C w 32 (by decide) fl_M_98 rfl rfl d_M_forget_60 ?_
        refine Z_iload_n C 0 d_M_forget_63 rfl rfl ?_
        refine Z_iconst (v := 1) C d_M_forget_64 (by decide) ?_
        refine Z_iadd C d_M_forget_65 ?_
        refine R_ld 32 C w rfl rfl (k + 1) (by rw [nI_1]; exact nI_clamp (by omega)) (by rw [nI_1]; exact vp_in_nI (n := k + 1) (N := 60) (by omega) (by decide)) d_M_forget_66 ?_
        refine R_st 32 C w rfl rfl k (nI_clamp (by omega)) (vp_in_nI (n := k) (N := 60) (by omega) (by decide)) d_M_forget_67 ?_
        refine Z_aload_n C 1 d_M_forget_68 rfl rfl ?_
        refine R_get C w 33 (by decide) fl_M_101 rfl rfl d_M_forget_69 ?_
        refine Z_iload_n C 0 d_M_forget_72 rfl rfl ?_
        refine Z_aload_n C 1 d_M_forget_73 rfl rfl ?_
        refine R_get C w 33 (by decide) fl_M_101 rfl rfl d_M_forget_74 ?_
        refine Z_iload_n C 0 d_M_forget_77 rfl rfl ?_
        refine Z_iconst (v := 1) C d_M_forget_78 (by decide) ?_
        refine Z_iadd C d_M_forget_79 ?_
        refine R_ld 33 C w rfl rfl (k + 1) (by rw [nI_1]; exact nI_clamp (by omega)) (by rw [nI_1]; exact vp_in_nI (n := k + 1) (N := 60) (by omega) (by decide)) d_M_forget_80 ?_
        refine R_st 33 C w rfl rfl k (nI_clamp (by omega)) (vp_in_nI (n := k) (N := 60) (by omega) (by decide)) d_M_forget_81 ?_
        refine Z_aload_n C 1 d_M_forget_82 rfl rfl ?_
        refine R_get C w 34 (by decide) fl_M_104 rfl rfl d_M_forget_83 ?_
        refine Z_iload_n C 0 d_M_forget_86 rfl rfl ?_
        refine Z_aload_n C 1 d_M_forget_87 rfl rfl ?_
        refine R_get C w 34 (by decide) fl_M_104 rfl rfl d_M_forget_88 ?_
        refine Z_iload_n C 0 d_M_forget_91 rfl rfl ?_
        refine Z_iconst (v := 1) C d_M_forget_92 (by decide) ?_
        refine Z_iadd C d_M_forget_93 ?_
        refine R_ld 34 C w rfl rfl (k + 1) (by rw [nI_1]; exact nI_clamp (by omega)) (by rw [nI_1]; exact vp_in_nI (n := k + 1) (N := 60) (by omega) (by decide)) d_M_forget_94 ?_
        refine R_st 34 C w rfl rfl k (nI_clamp (by omega)) (vp_in_nI (n := k) (N := 60) (by omega) (by decide)) d_M_forget_95 ?_
        refine Z_aload_n C 1 d_M_forget_96 rfl rfl ?_
        refine R_get C w 35 (by decide) fl_M_107 rfl rfl d_M_forget_97 ?_
        refine Z_iload_n C 0 d_M_forget_100 rfl rfl ?_
        refine Z_aload_n C 1 d_M_forget_101 rfl rfl ?_
        refine R_get C w 35 (by decide) fl_M_107 rfl rfl d_M_forget_102 ?_
        refine Z_iload_n C 0 d_M_forget_105 rfl rfl ?_
        refine Z_iconst (v := 1) C d_M_forget_106 (by decide) ?_
        refine Z_iadd C d_M_forget_107 ?_
        refine R_ld 35 C w rfl rfl (k + 1) (by rw [nI_1]; exact nI_clamp (by omega)) (by rw [nI_1]; exact vp_in_nI (n := k + 1) (N := 60) (by omega) (by decide)) d_M_forget_108 ?_
        refine R_st 35 C w rfl rfl k (nI_clamp (by omega)) (vp_in_nI (n := k) (N := 60) (by omega) (by decide)) d_M_forget_109 ?_
        refine Z_iconst (v := 0) C d_M_forget_110 (by decide) ?_
        refine Z_istore_n C d_M_forget_111 rfl (by decide) rfl ?_
        refine hin k (fgS N1 k) (by omega) ?_ 40 0 (fg1 N1 k) rfl rfl
        refine Z_iinc 1 C d_M_forget_148 rfl (nI_1 k) (by decide) rfl ?_
        refine Z_goto (tgt := 2) C d_M_forget_151 (by decide) ?_
        refine zlv (lv' := [(2, .int (nI (k + 1))), (0, .ref (U.1 43)), (1, .int (nI f))]) [0, 2, 3] rfl ?_
        exact ih (k + 1) (fgS N1 k) (by omega) (by rw [fgS_43]; exact h2) h3 _ rfl
  exact hlp (c - 1 - f) f N (by omega) hc rfl _ rfl
set_option maxRecDepth 100000 in
set_option maxHeartbeats 4000000 in
theorem c_M_meant {l : Launch} {G : zG} {U : zU} (w : wR G U) (N : zR) (r : Nat) (hr5 : r < 5) (st : Int32) : zF l y_M_meant b_M_meant 6 (some .int) 1 25 G [.ref (U.1 43), .int (nI r), .int st] (eR U N) (some (.int (mMeant N r st))) (eR U N) := by
  refine zF.ofZ (by decide) w.2.2.2.2 (Nat.le_of_ble_eq_true rfl) (fun X hXl hN hr C => ?_)
  subst hXl
  show Z X G (zA G) 6 _ (eR U N) 0 [(0, .ref (U.1 43)), (1, .int (nI r)), (2, .int st)] []
  refine Z_aload_n C 0 d_M_meant_0 rfl rfl ?_
  refine Z_bipush (v := 8) C d_M_meant_1 (by decide) ?_
  refine Z_iconst (v := 4) C d_M_meant_3 (by decide) ?_
  refine C_cMv C w mi_M_told ml_M_195 (c_M_told w _ 8 4 (by decide)) rfl rfl (by decide) rfl (Nat.le_of_ble_eq_true rfl) d_M_meant_4 ?_
  refine Z_lstore_n C d_M_meant_7 rfl (by decide) rfl ?_
  refine Z_iconst (v := 0) C d_M_meant_8 (by decide) ?_
  refine Z_istore C d_M_meant_9 (by decide) rfl ?_
  have hx : mtF N r 5 0 = none → ∀ (x5 : Int32), Z X G (zA G) 6 (zQ X G (some (.int (mMeant N r st))) (eR U N)) (eR U N) 55 [(5, .int x5), (3, .long (mNum N)), (0, .ref (U.1 43)), (1, .int (nI r)), (2, .int st)] [] := by
    intro hno x5
    refine Z_lload_n C 1 d_M_meant_55 rfl rfl ?_
    refine Z_lconst (v := 0) C d_M_meant_56 rfl ?_
    refine Z_lcmp C d_M_meant_57 ?_
    refine Z_if_ne (tgt := 98) C d_M_meant_58 (by decide) (fun c58 => ?_) (fun c58 => ?_)
    · skip
      refine Z_iconst (v := 0) C d_M_meant_98 (by decide) ?_
      refine zst (st' := [.int (mBegins N r st)]) (by unfold mBegins; first | (rw [if_pos c58] <;> rfl) | (rw [if_neg (not_not_intro c58), if_pos c71] <;> rfl) | (rw [if_neg (not_not_intro c58), if_neg c71, if_pos c78] <;> rfl) | (rw [if_neg (not_not_intro c58), if_neg c71, if_neg c78, if_pos c91] <;> rfl) | (rw [if_neg (not_not_intro c58), if_neg c71, if_neg c78, if_neg c91] <;> rfl)) ?_
      refine Z_istore C d_M_meant_99 (by decide) rfl ?_
      refine Z_iload C 0 d_M_meant_101 rfl ?_
      refine Z_if_eq (tgt := 110) C d_M_meant_103 (by decide) (fun c103 => ?_) (fun c103 => ?_)
      · skip
        refine Z_iconst (v := (-1)) C d_M_meant_110 (by decide) ?_
        exact Z_iret C hN hr d_M_meant_111 (by unfold mMeant; rw [hno]; first | (dsimp only; rw [if_pos c103] <;> rfl) | (dsimp only; rw [if_neg c103] <;> rfl)) (zeq (rfl))
      · skip
        refine Z_iload_n C 4 d_M_meant_106 rfl rfl ?_
        refine Z_goto (tgt := 111) C d_M_meant_107 (by decide) ?_
        exact Z_iret C hN hr d_M_meant_111 (by unfold mMeant; rw [hno]; first | (dsimp only; rw [if_pos c103] <;> rfl) | (dsimp only; rw [if_neg c103] <;> rfl)) (zeq (rfl))
    · skip
      refine Z_aload_n C 2 d_M_meant_61 rfl rfl ?_
      refine R_get C w 39 (by decide) fl_M_116 rfl rfl d_M_meant_62 ?_
      refine Z_iconst (v := 1) C d_M_meant_65 (by decide) ?_
      refine R_ld 39 C w rfl rfl 1 (by decide) (by unfold vp_in; decide) d_M_meant_66 ?_
      refine Z_bipush (v := 6) C d_M_meant_67 (by decide) ?_
      refine Z_ishr C d_M_meant_69 ?_
      refine Z_iconst (v := 1) C d_M_meant_70 (by decide) ?_
      refine Z_icmp_gt (tgt := 98) C d_M_meant_71 (by decide) (fun c71 => ?_) (fun c71 => ?_)
      · skip
        refine Z_iconst (v := 0) C d_M_meant_98 (by decide) ?_
        refine zst (st' := [.int (mBegins N r st)]) (by unfold mBegins; first | (rw [if_pos c58] <;> rfl) | (rw [if_neg (not_not_intro c58), if_pos c71] <;> rfl) | (rw [if_neg (not_not_intro c58), if_neg c71, if_pos c78] <;> rfl) | (rw [if_neg (not_not_intro c58), if_neg c71, if_neg c78, if_pos c91] <;> rfl) | (rw [if_neg (not_not_intro c58), if_neg c71, if_neg c78, if_neg c91] <;> rfl)) ?_
        refine Z_istore C d_M_meant_99 (by decide) rfl ?_
        refine Z_iload C 0 d_M_meant_101 rfl ?_
        refine Z_if_eq (tgt := 110) C d_M_meant_103 (by decide) (fun c103 => ?_) (fun c103 => ?_)
        · skip
          refine Z_iconst (v := (-1)) C d_M_meant_110 (by decide) ?_
          exact Z_iret C hN hr d_M_meant_111 (by unfold mMeant; rw [hno]; first | (dsimp only; rw [if_pos c103] <;> rfl) | (dsimp only; rw [if_neg c103] <;> rfl)) (zeq (rfl))
        · skip
          refine Z_iload_n C 4 d_M_meant_106 rfl rfl ?_
          refine Z_goto (tgt := 111) C d_M_meant_107 (by decide) ?_
          exact Z_iret C hN hr d_M_meant_111 (by unfold mMeant; rw [hno]; first | (dsimp only; rw [if_pos c103] <;> rfl) | (dsimp only; rw [if_neg c103] <;> rfl)) (zeq (rfl))
      · skip
        refine Z_iload_n C 4 d_M_meant_74 rfl rfl ?_
        refine C_csv C ms_M_isRouter ml_M_128 (c_M_isRouter w _ _) rfl (by decide) rfl (Nat.le_of_ble_eq_true rfl) d_M_meant_75 ?_
        refine Z_if_eq (tgt := 98) C d_M_meant_78 (by decide) (fun c78 => ?_) (fun c78 => ?_)
        · skip
          refine Z_iconst (v := 0) C d_M_meant_98 (by decide) ?_
          refine zst (st' := [.int (mBegins N r st)]) (by unfold mBegins; first | (rw [if_pos c58] <;> rfl) | (rw [if_neg (not_not_intro c58), if_pos c71] <;> rfl) | (rw [if_neg (not_not_intro c58), if_neg c71, if_pos c78] <;> rfl) | (rw [if_neg (not_not_intro c58), if_neg c71, if_neg c78, if_pos c91] <;> rfl) | (rw [if_neg (not_not_intro c58), if_neg c71, if_neg c78, if_neg c91] <;> rfl)) ?_
          refine Z_istore C d_M_meant_99 (by decide) rfl ?_
          refine Z_iload C 0 d_M_meant_101 rfl ?_
          refine Z_if_eq (tgt := 110) C d_M_meant_103 (by decide) (fun c103 => ?_) (fun c103 => ?_)
          · skip
            refine Z_iconst (v := (-1)) C d_M_meant_110 (by decide) ?_
            exact Z_iret C hN hr d_M_meant_111 (by unfold mMeant; rw [hno]; first | (dsimp only; rw [if_pos c103] <;> rfl) | (dsimp only; rw [if_neg c103] <;> rfl)) (zeq (rfl))
          · skip
            refine Z_iload_n C 4 d_M_meant_106 rfl rfl ?_
            refine Z_goto (tgt := 111) C d_M_meant_107 (by decide) ?_
            exact Z_iret C hN hr d_M_meant_111 (by unfold mMeant; rw [hno]; first | (dsimp only; rw [if_pos c103] <;> rfl) | (dsimp only; rw [if_neg c103] <;> rfl)) (zeq (rfl))
        · have hq5 := mIsR_lt c78
          have hqn := mIsR_nI c78
          refine Z_aload_n C 2 d_M_meant_81 rfl rfl ?_
          refine R_get C w 11 (by decide) fl_M_37 rfl rfl d_M_meant_82 ?_
          refine Z_iconst (v := 5) C d_M_meant_85 (by decide) ?_
          refine Z_iload_n C 3 d_M_meant_86 rfl rfl ?_
          refine Z_imul C d_M_meant_87 ?_
          refine Z_iload_n C 4 d_M_meant_88 rfl rfl ?_
          refine Z_iadd C d_M_meant_89 ?_
          refine R_zld 11 C w rfl rfl (5 * r + st.toNatClampNeg) (by rw [ix5s hqn]; exact nI_clamp (by omega)) (by rw [ix5s hqn]; exact vp_in_nI (n := 5 * r + st.toNatClampNeg) (N := 25) (by omega) (by decide)) d_M_meant_90 ?_
          refine Z_if_eq (tgt := 98) C d_M_meant_91 (by decide) (fun c91 => ?_) (fun c91 => ?_)
          · skip
            refine Z_iconst (v := 0) C d_M_meant_98 (by decide) ?_
            refine zst (st' := [.int (mBegins N r st)]) (by unfold mBegins; first | (rw [if_pos c58] <;> rfl) | (rw [if_neg (not_not_intro c58), if_pos c71] <;> rfl) | (rw [if_neg (not_not_intro c58), if_neg c71, if_pos c78] <;> rfl) | (rw [if_neg (not_not_intro c58), if_neg c71, if_neg c78, if_pos c91] <;> rfl) | (rw [if_neg (not_not_intro c58), if_neg c71, if_neg c78, if_neg c91] <;> rfl)) ?_
            refine Z_istore C d_M_meant_99 (by decide) rfl ?_
            refine Z_iload C 0 d_M_meant_101 rfl ?_
            refine Z_if_eq (tgt := 110) C d_M_meant_103 (by decide) (fun c103 => ?_) (fun c103 => ?_)
            · skip
              refine Z_iconst (v := (-1)) C d_M_meant_110 (by decide) ?_
              exact Z_iret C hN hr d_M_meant_111 (by unfold mMeant; rw [hno]; first | (dsimp only; rw [if_pos c103] <;> rfl) | (dsimp only; rw [if_neg c103] <;> rfl)) (zeq (rfl))
            · skip
              refine Z_iload_n C 4 d_M_meant_106 rfl rfl ?_
              refine Z_goto (tgt := 111) C d_M_meant_107 (by decide) ?_
              exact Z_iret C hN hr d_M_meant_111 (by unfold mMeant; rw [hno]; first | (dsimp only; rw [if_pos c103] <;> rfl) | (dsimp only; rw [if_neg c103] <;> rfl)) (zeq (rfl))
          · skip
            refine Z_iconst (v := 1) C d_M_meant_94 (by decide) ?_
            refine Z_goto (tgt := 99) C d_M_meant_95 (by decide) ?_
            refine zst (st' := [.int (mBegins N r st)]) (by unfold mBegins; first | (rw [if_pos c58] <;> rfl) | (rw [if_neg (not_not_intro c58), if_pos c71] <;> rfl) | (rw [if_neg (not_not_intro c58), if_neg c71, if_pos c78] <;> rfl) | (rw [if_neg (not_not_intro c58), if_neg c71, if_neg c78, if_pos c91] <;> rfl) | (rw [if_neg (not_not_intro c58), if_neg c71, if_neg c78, if_neg c91] <;> rfl)) ?_
            refine Z_istore C d_M_meant_99 (by decide) rfl ?_
            refine Z_iload C 0 d_M_meant_101 rfl ?_
            refine Z_if_eq (tgt := 110) C d_M_meant_103 (by decide) (fun c103 => ?_) (fun c103 => ?_)
            · skip
              refine Z_iconst (v := (-1)) C d_M_meant_110 (by decide) ?_
              exact Z_iret C hN hr d_M_meant_111 (by unfold mMeant; rw [hno]; first | (dsimp only; rw [if_pos c103] <;> rfl) | (dsimp only; rw [if_neg c103] <;> rfl)) (zeq (rfl))
            · skip
              refine Z_iload_n C 4 d_M_meant_106 rfl rfl ?_
              refine Z_goto (tgt := 111) C d_M_meant_107 (by decide) ?_
              exact Z_iret C hN hr d_M_meant_111 (by unfold mMeant; rw [hno]; first | (dsimp only; rw [if_pos c103] <;> rfl) | (dsimp only; rw [if_neg c103] <;> rfl)) (zeq (rfl))
  have hlp : ∀ (n s : Nat), s + n = 5 → mtF N r n s = mtF N r 5 0 → Z X G (zA G) 6 (zQ X G (some (.int (mMeant N r st))) (eR U N)) (eR U N) 11 [(5, .int (nI s)), (3, .long (mNum N)), (0, .ref (U.1 43)), (1, .int (nI r)), (2, .int st)] [] := by
    intro n
    induction n with
    | zero =>
      intro s h1 h2
      refine Z_iload C 0 d_M_meant_11 rfl ?_
      refine Z_iconst (v := 5) C d_M_meant_13 (by decide) ?_
      refine Z_icmp_ge (tgt := 55) C d_M_meant_14 (by decide) (fun c14 => ?_) (fun c14 => ?_)
      · skip
        exact hx h2.symm _
      · exact absurd (nI_le (a := 5) (b := s) (by omega) (by omega)) c14 --stop
    | succ n ih =>
      intro s h1 h2
      refine Z_iload C 0 d_M_meant_11 rfl ?_
      refine Z_iconst (v := 5) C d_M_meant_13 (by decide) ?_
      refine Z_icmp_ge (tgt := 55) C d_M_meant_14 (by decide) (fun c14 => ?_) (fun c14 => ?_)
      · exact absurd c14 (nI_ge (a := s) (b := 5) (by omega) (by decide)) --stop
      · skip
        refine Z_aload_n C 2 d_M_meant_17 rfl rfl ?_
        refine R_get C w 11 (by decide) fl_M_37 rfl rfl d_M_meant_18 ?_
        refine Z_iconst (v := 5) C d_M_meant_21 (by decide) ?_
        refine Z_iload_n C 3 d_M_meant_22 rfl rfl ?_
        refine Z_imul C d_M_meant_23 ?_
        refine Z_iload C 0 d_M_meant_24 rfl ?_
        refine Z_iadd C d_M_meant_26 ?_
        refine R_zld 11 C w rfl rfl (5 * r + s) (by rw [ix5]; exact nI_clamp (by omega)) (by rw [ix5]; exact vp_in_nI (n := 5 * r + s) (N := 25) (by omega) (by decide)) d_M_meant_27 ?_
        refine Z_if_eq (tgt := 49) C d_M_meant_28 (by decide) (fun c28 => ?_) (fun c28 => ?_)
        · skip
          refine Z_iinc 0 C d_M_meant_49 rfl (nI_1 s) (by decide) rfl ?_
          refine Z_goto (tgt := 11) C d_M_meant_52 (by decide) ?_
          exact ih (s + 1) (by omega) (by rw [← h2]; conv => rhs; unfold mtF; first | rw [if_pos c28] | rw [if_neg c28, if_pos c43])
        · skip
          refine Z_lload_n C 1 d_M_meant_31 rfl rfl ?_
          refine Z_bipush (v := 16) C d_M_meant_32 (by decide) ?_
          refine Z_iload_n C 3 d_M_meant_34 rfl rfl ?_
          refine Z_imul C d_M_meant_35 ?_
          refine Z_iload C 0 d_M_meant_36 rfl ?_
          refine Z_iadd C d_M_meant_38 ?_
          refine Z_iconst (v := 1) C d_M_meant_39 (by decide) ?_
          refine Z_iadd C d_M_meant_40 ?_
          refine Z_i2l C d_M_meant_41 ?_
          refine Z_lcmp C d_M_meant_42 ?_
          refine Z_if_ne (tgt := 49) C d_M_meant_43 (by decide) (fun c43 => ?_) (fun c43 => ?_)
          · skip
            refine Z_iinc 0 C d_M_meant_49 rfl (nI_1 s) (by decide) rfl ?_
            refine Z_goto (tgt := 11) C d_M_meant_52 (by decide) ?_
            exact ih (s + 1) (by omega) (by rw [← h2]; conv => rhs; unfold mtF; first | rw [if_pos c28] | rw [if_neg c28, if_pos c43])
          · skip
            refine Z_iload C 0 d_M_meant_46 rfl ?_
            exact Z_iret C hN hr d_M_meant_48 (by unfold mMeant; rw [← h2]; unfold mtF; rw [if_neg c28, if_neg (not_not_intro c43)]) (zeq (rfl))
  exact hlp 5 0 rfl rfl

