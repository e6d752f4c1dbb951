/-! THE REFERENCE: a session's packet is heard; a frame reaches a router -/
def mPkR (N : zR) (r : Nat) (hops st : Int32) : Int32 := if ¬ hops = 255 then 0 else if N 43 40 < 24 then 0 else if N 39 0 < 32 then 0 else if 63 < N 39 0 then 0 else if N 39 3 < 24 then 0 else if N 43 40 < N 39 3 then 0 else if N 39 2 = 0 then 0 else if ¬ (N 39 1 &&& 5) = 0 then 0 else if lg_cmp (mTold N 4 4) 0 = 0 then 0 else if mMeant N r st = -1 then 0 else 1
abbrev mSaid (N : zR) : Int32 := N 39 1 >>> ((6 : Int32) &&& 31)
def mK1 (N : zR) (i : Nat) : zR := u2 N 14 i (mTold N 4 4).toInt32
def mK3 (N : zR) (i : Nat) : zR := u2 (u2 (mK1 N i) 13 i (mSaid N)) 23 i (u2 (mK1 N i) 13 i (mSaid N) 39 2)
def mK4 (N : zR) (i : Nat) : zR := u2 (mK3 N i) 22 i (mCap (mTold (mK3 N i) 12 4))
def mK5 (N : zR) (i : Nat) : zR := u2 (mK4 N i) 21 i (mCap (mTold (mK4 N i) 16 4))
def mK6 (N : zR) (i : Nat) : zR := if N 24 i = 0 then N else if (N 39 1 &&& 16) = 0 then N else u2 (u2 (u2 N 24 i 0) 18 i (u2 N 24 i 0 16 i)) 19 i (u2 (u2 N 24 i 0) 18 i (u2 N 24 i 0 16 i) 17 i)
abbrev mWait (N : zR) (i : Nat) : Int64 := (N 23 i).toInt64 * (mMax (N 19 i) (N 22 i)).toInt64
def mK7 (N : zR) (i : Nat) : zR := u2 N 26 i (if lg_cmp (mWait N i) 10000000 ≤ 0 then (mWait N i).toInt32 else 10000000)
def mK8 (N : zR) (i : Nat) (now said : Int32) : zR := if now = 0 then N else mTurn N i said
def mK9 (N : zR) (r s : Nat) : zR := if (N 39 1 &&& 32) = 0 then N else mPk N r s 16
def mK10 (N : zR) (i : Nat) (rxb now : Int32) : zR := if ¬ N 21 i = rxb then mHurry N i else if N 12 i = now then N else mHurry N i
def mPkT (N : zR) (r s : Nat) : zR := mK10 (mK9 (mK8 (mK7 (mK6 (mK5 N (5 * r + s)) (5 * r + s)) (5 * r + s)) (5 * r + s) (N 12 (5 * r + s)) (mSaid N)) r s) (5 * r + s) (N 21 (5 * r + s)) (N 12 (5 * r + s))
def mPkS (N : zR) (r : Nat) (hops st : Int32) : zR := if mPkR N r hops st = 0 then N else mPkT N r (mMeant N r st).toNatClampNeg
theorem mtF_lt (N : zR) (r : Nat) : ∀ (n s k : Nat), mtF N r n s = some k → k < s + n ∧ ¬ N 11 (5 * r + k) = 0 := by
  intro n
  induction n with
  | zero => intro s k h; simp [mtF] at h
  | succ n ih =>
    intro s k h
    unfold mtF at h
    by_cases h1 : N 11 (5 * r + s) = 0
    · rw [if_pos h1] at h; have := ih _ _ h; exact ⟨by omega, this.2⟩
    · rw [if_neg h1] at h
      by_cases h2 : ¬ lg_cmp (mNum N) (16 * nI r + nI s + 1).toInt64 = 0
      · rw [if_pos h2] at h; have := ih _ _ h; exact ⟨by omega, this.2⟩
      · rw [if_neg h2] at h
        cases h
        exact ⟨by omega, h1⟩
theorem mMeant_nI {N : zR} {r : Nat} {st : Int32} (h : ¬ mMeant N r st = -1) : ∃ s, s < 5 ∧ mMeant N r st = nI s ∧ ¬ N 11 (5 * r + s) = 0 := by
  unfold mMeant at h ⊢
  cases hq : mtF N r 5 0 with
  | some k =>
    have := mtF_lt N r 5 0 k hq
    exact ⟨k, by omega, rfl, this.2⟩
  | none =>
    rw [hq] at h
    by_cases hb : mBegins N r st = 0
    · simp [hb] at h
    · simp only [hb, if_false]
      have hi : ¬ mIsR st = 0 := fun z => hb (by unfold mBegins; simp [z])
      have ht : ¬ N 11 (5 * r + st.toNatClampNeg) = 0 := fun z => hb (by unfold mBegins; simp [z])
      exact ⟨st.toNatClampNeg, mIsR_lt hi, mIsR_nI hi, ht⟩
theorem mDown_43 (N : zR) (i : Nat) (w : Int32) : mDown N i w 43 = N 43 := rfl
theorem mUp_43 (N : zR) (i : Nat) : mUp N i 43 = N 43 := rfl
theorem mTurn_43 (N : zR) (i : Nat) (said : Int32) : mTurn N i said 43 = N 43 := by
  unfold mTurn
  split
  · split <;> rfl
  split
  · split
    · split <;> rfl
    · split <;> rfl
  split
  · split <;> rfl
  split <;> rfl
theorem mSet_43 (N : zR) (i : Nat) : mSet N i 43 = N 43 := rfl
theorem mHurry_43 (N : zR) (i : Nat) : mHurry N i 43 = N 43 := by
  unfold mHurry
  split
  · rfl
  split
  · rfl
  split <;> rfl
theorem mK6_43 (N : zR) (i : Nat) : mK6 N i 43 = N 43 := by
  unfold mK6
  split
  · rfl
  split <;> rfl
theorem mK8_43 (N : zR) (i : Nat) (now said : Int32) : mK8 N i now said 43 = N 43 := by
  unfold mK8
  split
  · rfl
  exact mTurn_43 N i said
/-- what a frame does at a router that it reaches -/
def mReG (N : zR) (r : Nat) (goal : Int32) : Int32 := if N 3 r = 0 then 0 else if ¬ (N 2 (10 * r + 7) &&& 2) = 0 then 0 else if goal = 15 then 1 else if goal = nI r then 1 else if ¬ goal = 9 then 0 else if N 3 r = 2 then 1 else 0
def mRe (N : zR) (r : Nat) (what : Int32) (a : Nat) (goal by_ : Int32) : zR := if mReG N r goal = 0 then N else if what = 1 then mAdS N r 255 by_ else if what = 2 then mPkS N r 255 (nI a) else if what = 3 then (if nI a = 9 then N else if N 3 r = 2 then mEmp N r 4 9 a else N) else if what = 4 then u2 N 9 r by_ else N
set_option maxRecDepth 100000 in
set_option maxHeartbeats 4000000 in
theorem c_M_packeted {l : Launch} {G : zG} {U : zU} (w : wR G U) (N : zR) (r : Nat) (hr5 : r < 5) (hops st : Int32) (hI : InvR N) : zF l y_M_packeted b_M_packeted 11 (some .boolean) 4 84 G [.ref (U.1 43), .int (nI r), .int hops, .int st] (eR U N) (some (.int (mPkR N r hops st))) (eR U (mPkS N r hops st)) := by
  refine zF.ofZ (by decide) w.2.2.2.2 (Nat.le_of_ble_eq_true rfl) (fun X hXl hN hr C => ?_)
  subst hXl
  show Z X G (zA G) 11 _ (eR U N) 0 [(0, .ref (U.1 43)), (1, .int (nI r)), (2, .int hops), (3, .int st)] []
  refine Z_iload_n C 2 d_M_packeted_0 rfl rfl ?_
  refine Z_sipush (v := 255) C d_M_packeted_1 (by decide) ?_
  refine Z_icmp_ne (tgt := 93) C d_M_packeted_4 (by decide) (fun c4 => ?_) (fun c4 => ?_)
  · skip
    refine Z_iconst (v := 0) C d_M_packeted_93 (by decide) ?_
    exact Z_zret C hN hr (by decide) d_M_packeted_94 (by simp [mPkR, c4]) (zeq (by apply eR_N; simp [mPkS, mPkR, c4]))
  · skip
    refine Z_aload_n C 0 d_M_packeted_7 rfl rfl ?_
    refine R_get C w 40 (by decide) fl_M_192 rfl rfl d_M_packeted_8 ?_
    refine Z_bipush (v := 24) C d_M_packeted_11 (by decide) ?_
    refine Z_icmp_lt (tgt := 93) C d_M_packeted_13 (by decide) (fun c13 => ?_) (fun c13 => ?_)
    · skip
      refine Z_iconst (v := 0) C d_M_packeted_93 (by decide) ?_
      exact Z_zret C hN hr (by decide) d_M_packeted_94 (by simp [mPkR, c4, c13]) (zeq (by apply eR_N; simp [mPkS, mPkR, c4, c13]))
    · skip
      refine Z_aload_n C 0 d_M_packeted_16 rfl rfl ?_
      refine R_get C w 39 (by decide) fl_M_116 rfl rfl d_M_packeted_17 ?_
      refine Z_iconst (v := 0) C d_M_packeted_20 (by decide) ?_
      refine R_ld 39 C w rfl rfl 0 (by decide) (by unfold vp_in; decide) d_M_packeted_21 ?_
      refine Z_bipush (v := 32) C d_M_packeted_22 (by decide) ?_
      refine Z_icmp_lt (tgt := 93) C d_M_packeted_24 (by decide) (fun c24 => ?_) (fun c24 => ?_)
      · skip
        refine Z_iconst (v := 0) C d_M_packeted_93 (by decide) ?_
        exact Z_zret C hN hr (by decide) d_M_packeted_94 (by simp [mPkR, c4, c13, c24]) (zeq (by apply eR_N; simp [mPkS, mPkR, c4, c13, c24]))
      · skip
        refine Z_aload_n C 0 d_M_packeted_27 rfl rfl ?_
        refine R_get C w 39 (by decide) fl_M_116 rfl rfl d_M_packeted_28 ?_
        refine Z_iconst (v := 0) C d_M_packeted_31 (by decide) ?_
        refine R_ld 39 C w rfl rfl 0 (by decide) (by unfold vp_in; decide) d_M_packeted_32 ?_
        refine Z_bipush (v := 63) C d_M_packeted_33 (by decide) ?_
        refine Z_icmp_gt (tgt := 93) C d_M_packeted_35 (by decide) (fun c35 => ?_) (fun c35 => ?_)
        · skip
          refine Z_iconst (v := 0) C d_M_packeted_93 (by decide) ?_
          exact Z_zret C hN hr (by decide) d_M_packeted_94 (by simp [mPkR, c4, c13, c24, c35]) (zeq (by apply eR_N; simp [mPkS, mPkR, c4, c13, c24, c35]))
        · skip
          refine Z_aload_n C 0 d_M_packeted_38 rfl rfl ?_
          refine R_get C w 39 (by decide) fl_M_116 rfl rfl d_M_packeted_39 ?_
          refine Z_iconst (v := 3) C d_M_packeted_42 (by decide) ?_
          refine R_ld 39 C w rfl rfl 3 (by decide) (by unfold vp_in; decide) d_M_packeted_43 ?_
          refine Z_bipush (v := 24) C d_M_packeted_44 (by decide) ?_
          refine Z_icmp_lt (tgt := 93) C d_M_packeted_46 (by decide) (fun c46 => ?_) (fun c46 => ?_)
          · skip
            refine Z_iconst (v := 0) C d_M_packeted_93 (by decide) ?_
            exact Z_zret C hN hr (by decide) d_M_packeted_94 (by simp [mPkR, c4, c13, c24, c35, c46]) (zeq (by apply eR_N; simp [mPkS, mPkR, c4, c13, c24, c35, c46]))
          · skip
            refine Z_aload_n C 0 d_M_packeted_49 rfl rfl ?_
            refine R_get C w 39 (by decide) fl_M_116 rfl rfl d_M_packeted_50 ?_
            refine Z_iconst (v := 3) C d_M_packeted_53 (by decide) ?_
            refine R_ld 39 C w rfl rfl 3 (by decide) (by unfold vp_in; decide) d_M_packeted_54 ?_
            refine Z_aload_n C 0 d_M_packeted_55 rfl rfl ?_
            refine R_get C w 40 (by decide) fl_M_192 rfl rfl d_M_packeted_56 ?_
            refine Z_icmp_gt (tgt := 93) C d_M_packeted_59 (by decide) (fun c59 => ?_) (fun c59 => ?_)
            · skip
              refine Z_iconst (v := 0) C d_M_packeted_93 (by decide) ?_
              exact Z_zret C hN hr (by decide) d_M_packeted_94 (by simp [mPkR, c4, c13, c24, c35, c46, c59]) (zeq (by apply eR_N; simp [mPkS, mPkR, c4, c13, c24, c35, c46, c59]))
            · skip
              refine Z_aload_n C 0 d_M_packeted_62 rfl rfl ?_
              refine R_get C w 39 (by decide) fl_M_116 rfl rfl d_M_packeted_63 ?_
              refine Z_iconst (v := 2) C d_M_packeted_66 (by decide) ?_
              refine R_ld 39 C w rfl rfl 2 (by decide) (by unfold vp_in; decide) d_M_packeted_67 ?_
              refine Z_if_eq (tgt := 93) C d_M_packeted_68 (by decide) (fun c68 => ?_) (fun c68 => ?_)
              · skip
                refine Z_iconst (v := 0) C d_M_packeted_93 (by decide) ?_
                exact Z_zret C hN hr (by decide) d_M_packeted_94 (by simp [mPkR, c4, c13, c24, c35, c46, c59, c68]) (zeq (by apply eR_N; simp [mPkS, mPkR, c4, c13, c24, c35, c46, c59, c68]))
              · skip
                refine Z_aload_n C 0 d_M_packeted_71 rfl rfl ?_
                refine R_get C w 39 (by decide) fl_M_116 rfl rfl d_M_packeted_72 ?_
                refine Z_iconst (v := 1) C d_M_packeted_75 (by decide) ?_
                refine R_ld 39 C w rfl rfl 1 (by decide) (by unfold vp_in; decide) d_M_packeted_76 ?_
                refine Z_iconst (v := 5) C d_M_packeted_77 (by decide) ?_
                refine Z_iand C d_M_packeted_78 ?_
                refine Z_if_ne (tgt := 93) C d_M_packeted_79 (by decide) (fun c79 => ?_) (fun c79 => ?_)
                · skip
                  refine Z_iconst (v := 0) C d_M_packeted_93 (by decide) ?_
                  exact Z_zret C hN hr (by decide) d_M_packeted_94 (by simp [mPkR, c4, c13, c24, c35, c46, c59, c68, c79]) (zeq (by apply eR_N; simp [mPkS, mPkR, c4, c13, c24, c35, c46, c59, c68, c79]))
                · skip
                  refine Z_aload_n C 0 d_M_packeted_82 rfl rfl ?_
                  refine Z_iconst (v := 4) C d_M_packeted_83 (by decide) ?_
                  refine Z_iconst (v := 4) C d_M_packeted_84 (by decide) ?_
                  refine C_cMv C w mi_M_told ml_M_195 (c_M_told w _ 4 4 (by decide)) rfl rfl (by decide) rfl (Nat.le_of_ble_eq_true rfl) d_M_packeted_85 ?_
                  refine Z_lconst (v := 0) C d_M_packeted_88 rfl ?_
                  refine Z_lcmp C d_M_packeted_89 ?_
                  refine Z_if_ne (tgt := 95) C d_M_packeted_90 (by decide) (fun c90 => ?_) (fun c90 => ?_)
                  · skip
                    refine Z_aload_n C 0 d_M_packeted_95 rfl rfl ?_
                    refine Z_iload_n C 1 d_M_packeted_96 rfl rfl ?_
                    refine Z_iload_n C 3 d_M_packeted_97 rfl rfl ?_
                    refine C_cMv C w mi_M_meant ml_M_219 (c_M_meant w _ r hr5 _) rfl rfl (by decide) rfl (Nat.le_of_ble_eq_true rfl) d_M_packeted_98 ?_
                    refine Z_istore C d_M_packeted_101 (by decide) rfl ?_
                    refine Z_iload C 0 d_M_packeted_103 rfl ?_
                    refine Z_iconst (v := (-1)) C d_M_packeted_105 (by decide) ?_
                    refine Z_icmp_ne (tgt := 111) C d_M_packeted_106 (by decide) (fun c106 => ?_) (fun c106 => ?_)
                    · skip
                      have hR : mPkR N r hops st = 1 := by simp [mPkR, c4, c13, c24, c35, c46, c59, c68, c79, c90, c106]
                      obtain ⟨s, hs5, hs, -⟩ := mMeant_nI c106
                      have hsc : (mMeant N r st).toNatClampNeg = s := by rw [hs]; exact nI_clamp (by omega)
                      rw [hs]
                      obtain ⟨i, hi⟩ : ∃ i, i = 5 * r + s := ⟨_, rfl⟩
                      have hi25 : i < 25 := by omega
                      have hJ : ∀ (N10 : zR) (lv : List (Nat × Value)), N10 = mK10 (mK9 (mK8 (mK7 (mK6 (mK5 N i) i) i) i (N 12 i) (mSaid N)) r s) i (N 21 i) (N 12 i) → Z X G (zA G) 11 (zQ X G (some (.int (mPkR N r hops st))) (eR U (mPkS N r hops st))) (eR U N10) 393 lv [] := by
                        intro N10 lv h10
                        refine Z_iconst (v := 1) C d_M_packeted_393 (by decide) ?_
                        exact Z_zret C hN hr (by decide) d_M_packeted_394 (by rw [hR]) (zeq (by apply eR_N; unfold mPkS; rw [hR, if_neg (by decide), hsc]; unfold mPkT; rw [← hi, ← h10]))
                      have hJ9 : ∀ (N9 N6 : zR), N9 = mK9 (mK8 (mK7 (mK6 (mK5 N i) i) i) i (N 12 i) (mSaid N)) r s → Z X G (zA G) 11 (zQ X G (some (.int (mPkR N r hops st))) (eR U (mPkS N r hops st))) (eR U N9) 363 [(9, .long (mWait N6 i)), (8, .int (mSaid N)), (7, .int (N 21 i)), (6, .int (N 12 i)), (5, .int (nI i)), (4, .int (nI s)), (0, .ref (U.1 43)), (1, .int (nI r)), (2, .int hops), (3, .int st)] [] := by
                        intro N9 N6 h9
                        refine Z_aload_n C 6 d_M_packeted_363 rfl rfl ?_
                        refine R_get C w 21 (by decide) fl_M_68 rfl rfl d_M_packeted_364 ?_
                        refine Z_iload C 4 d_M_packeted_367 rfl ?_
                        refine R_ld 21 C w rfl rfl i (nI_clamp (by omega)) (vp_in_nI (n := i) (N := 25) (by omega) (by decide)) d_M_packeted_369 ?_
                        refine Z_iload C 2 d_M_packeted_370 rfl ?_
                        refine Z_icmp_ne (tgt := 387) C d_M_packeted_372 (by decide) (fun c372 => ?_) (fun c372 => ?_)
                        · skip
                          refine Z_aload_n C 6 d_M_packeted_387 rfl rfl ?_
                          refine Z_iload C 4 d_M_packeted_388 rfl ?_
                          refine C_cMn C w mi_M_hurry ml_M_207 (c_M_hurry w _ i hi25) rfl rfl (by decide) rfl (Nat.le_of_ble_eq_true rfl) d_M_packeted_390 ?_
                          exact hJ _ _ (by rw [← h9]; unfold mK10; first | rw [if_pos c372] | rw [if_neg (fun z => z c372), if_neg c384] | rw [if_neg (fun z => z c372), if_pos c384])
                        · skip
                          refine Z_aload_n C 6 d_M_packeted_375 rfl rfl ?_
                          refine R_get C w 12 (by decide) fl_M_41 rfl rfl d_M_packeted_376 ?_
                          refine Z_iload C 4 d_M_packeted_379 rfl ?_
                          refine R_ld 12 C w rfl rfl i (nI_clamp (by omega)) (vp_in_nI (n := i) (N := 25) (by omega) (by decide)) d_M_packeted_381 ?_
                          refine Z_iload C 3 d_M_packeted_382 rfl ?_
                          refine Z_icmp_eq (tgt := 393) C d_M_packeted_384 (by decide) (fun c384 => ?_) (fun c384 => ?_)
                          · skip
                            exact hJ _ _ (by rw [← h9]; unfold mK10; first | rw [if_pos c372] | rw [if_neg (fun z => z c372), if_neg c384] | rw [if_neg (fun z => z c372), if_pos c384])
                          · skip
                            refine Z_aload_n C 6 d_M_packeted_387 rfl rfl ?_
                            refine Z_iload C 4 d_M_packeted_388 rfl ?_
                            refine C_cMn C w mi_M_hurry ml_M_207 (c_M_hurry w _ i hi25) rfl rfl (by decide) rfl (Nat.le_of_ble_eq_true rfl) d_M_packeted_390 ?_
                            exact hJ _ _ (by rw [← h9]; unfold mK10; first | rw [if_pos c372] | rw [if_neg (fun z => z c372), if_neg c384] | rw [if_neg (fun z => z c372), if_pos c384])
                      have hJ8 : ∀ (N8 N6 : zR), InvR N8 → N8 = mK8 (mK7 (mK6 (mK5 N i) i) i) i (N 12 i) (mSaid N) → Z X G (zA G) 11 (zQ X G (some (.int (mPkR N r hops st))) (eR U (mPkS N r hops st))) (eR U N8) 342 [(9, .long (mWait N6 i)), (8, .int (mSaid N)), (7, .int (N 21 i)), (6, .int (N 12 i)), (5, .int (nI i)), (4, .int (nI s)), (0, .ref (U.1 43)), (1, .int (nI r)), (2, .int hops), (3, .int st)] [] := by
                        intro N8 N6 hI8 h8
                        refine Z_aload_n C 6 d_M_packeted_342 rfl rfl ?_
                        refine R_get C w 39 (by decide) fl_M_116 rfl rfl d_M_packeted_343 ?_
                        refine Z_iconst (v := 1) C d_M_packeted_346 (by decide) ?_
                        refine R_ld 39 C w rfl rfl 1 (by decide) (by unfold vp_in; decide) d_M_packeted_347 ?_
                        refine Z_bipush (v := 32) C d_M_packeted_348 (by decide) ?_
                        refine Z_iand C d_M_packeted_350 ?_
                        refine Z_if_eq (tgt := 363) C d_M_packeted_351 (by decide) (fun c351 => ?_) (fun c351 => ?_)
                        · skip
                          exact hJ9 _ N6 (by rw [← h8]; unfold mK9; first | rw [if_pos c351] | rw [if_neg c351])
                        · skip
                          refine Z_aload_n C 6 d_M_packeted_354 rfl rfl ?_
                          refine Z_iload_n C 7 d_M_packeted_355 rfl rfl ?_
                          refine Z_iload C 5 d_M_packeted_356 rfl ?_
                          refine Z_bipush (v := 16) C d_M_packeted_358 (by decide) ?_
                          refine C_cMn C w mi_M_sendPacket ml_M_232 (c_M_sendPacket w _ r hr5 s hs5 _ hI8) rfl rfl (by decide) rfl (Nat.le_of_ble_eq_true rfl) d_M_packeted_360 ?_
                          exact hJ9 _ N6 (by rw [← h8]; unfold mK9; first | rw [if_pos c351] | rw [if_neg c351])
                      have hJ7 : ∀ (N6 : zR), InvR N6 → N6 = mK6 (mK5 N i) i → Z X G (zA G) 11 (zQ X G (some (.int (mPkR N r hops st))) (eR U (mPkS N r hops st))) (eR U (mK7 N6 i)) 329 [(9, .long (mWait N6 i)), (8, .int (mSaid N)), (7, .int (N 21 i)), (6, .int (N 12 i)), (5, .int (nI i)), (4, .int (nI s)), (0, .ref (U.1 43)), (1, .int (nI r)), (2, .int hops), (3, .int st)] [] := by
                        intro N6 hI6 h6
                        refine Z_iload C 3 d_M_packeted_329 rfl ?_
                        refine Z_if_eq (tgt := 342) C d_M_packeted_331 (by decide) (fun c331 => ?_) (fun c331 => ?_)
                        · skip
                          exact hJ8 _ N6 (hI6.of (by first | rfl | (rw [mTurn_43]; rfl))) (by rw [← h6]; unfold mK8; first | rw [if_pos c331] | rw [if_neg c331])
                        · skip
                          refine Z_aload_n C 6 d_M_packeted_334 rfl rfl ?_
                          refine Z_iload C 4 d_M_packeted_335 rfl ?_
                          refine Z_iload C 1 d_M_packeted_337 rfl ?_
                          refine C_cMn C w mi_M_turn ml_M_229 (c_M_turn w _ i hi25 _) rfl rfl (by decide) rfl (Nat.le_of_ble_eq_true rfl) d_M_packeted_339 ?_
                          exact hJ8 _ N6 (hI6.of (by first | rfl | (rw [mTurn_43]; rfl))) (by rw [← h6]; unfold mK8; first | rw [if_pos c331] | rw [if_neg c331])
                      have hJ6 : ∀ (N6 : zR), InvR N6 → N6 = mK6 (mK5 N i) i → Z X G (zA G) 11 (zQ X G (some (.int (mPkR N r hops st))) (eR U (mPkS N r hops st))) (eR U N6) 276 [(8, .int (mSaid N)), (7, .int (N 21 i)), (6, .int (N 12 i)), (5, .int (nI i)), (4, .int (nI s)), (0, .ref (U.1 43)), (1, .int (nI r)), (2, .int hops), (3, .int st)] [] := by
                        intro N6 hI6 h6
                        refine Z_aload_n C 5 d_M_packeted_276 rfl rfl ?_
                        refine R_get C w 23 (by decide) fl_M_74 rfl rfl d_M_packeted_277 ?_
                        refine Z_iload C 3 d_M_packeted_280 rfl ?_
                        refine R_ld 23 C w rfl rfl i (nI_clamp (by omega)) (vp_in_nI (n := i) (N := 25) (by omega) (by decide)) d_M_packeted_282 ?_
                        refine Z_i2l C d_M_packeted_283 ?_
                        refine Z_aload_n C 5 d_M_packeted_284 rfl rfl ?_
                        refine R_get C w 19 (by decide) fl_M_62 rfl rfl d_M_packeted_285 ?_
                        refine Z_iload C 3 d_M_packeted_288 rfl ?_
                        refine R_ld 19 C w rfl rfl i (nI_clamp (by omega)) (vp_in_nI (n := i) (N := 25) (by omega) (by decide)) d_M_packeted_290 ?_
                        refine Z_aload_n C 5 d_M_packeted_291 rfl rfl ?_
                        refine R_get C w 22 (by decide) fl_M_71 rfl rfl d_M_packeted_292 ?_
                        refine Z_iload C 3 d_M_packeted_295 rfl ?_
                        refine R_ld 22 C w rfl rfl i (nI_clamp (by omega)) (vp_in_nI (n := i) (N := 25) (by omega) (by decide)) d_M_packeted_297 ?_
                        refine C_csv C ms_M_max ml_M_153 (c_M_max w _ _ _) rfl (by decide) rfl (Nat.le_of_ble_eq_true rfl) d_M_packeted_298 ?_
                        refine Z_i2l C d_M_packeted_301 ?_
                        refine Z_lmul C d_M_packeted_302 ?_
                        refine Z_lstore C d_M_packeted_303 (by decide) rfl ?_
                        refine Z_aload_n C 6 d_M_packeted_305 rfl rfl ?_
                        refine R_get C w 26 (by decide) fl_M_83 rfl rfl d_M_packeted_306 ?_
                        refine Z_iload C 4 d_M_packeted_309 rfl ?_
                        refine Z_lload C 0 d_M_packeted_311 rfl ?_
                        refine Z_ldc2 C cl_M_226 d_M_packeted_313 ?_
                        refine Z_lcmp C d_M_packeted_316 ?_
                        refine Z_if_le (tgt := 325) C d_M_packeted_317 (by decide) (fun c317 => ?_) (fun c317 => ?_)
                        · skip
                          refine Z_lload C 0 d_M_packeted_325 rfl ?_
                          refine Z_l2i C d_M_packeted_327 ?_
                          refine zst (st' := [.int (if lg_cmp (mWait N6 i) 10000000 ≤ 0 then (mWait N6 i).toInt32 else 10000000), .int (nI i), .ref (U.1 26)]) (by first | rw [if_pos c317] | rw [if_neg c317]) ?_
                          refine R_st 26 C w rfl rfl i (nI_clamp (by omega)) (vp_in_nI (n := i) (N := 25) (by omega) (by decide)) d_M_packeted_328 ?_
                          exact hJ7 N6 hI6 h6
                        · skip
                          refine Z_ldc C co_M_228 d_M_packeted_320 ?_
                          refine Z_goto (tgt := 328) C d_M_packeted_322 (by decide) ?_
                          refine zst (st' := [.int (if lg_cmp (mWait N6 i) 10000000 ≤ 0 then (mWait N6 i).toInt32 else 10000000), .int (nI i), .ref (U.1 26)]) (by first | rw [if_pos c317] | rw [if_neg c317]) ?_
                          refine R_st 26 C w rfl rfl i (nI_clamp (by omega)) (vp_in_nI (n := i) (N := 25) (by omega) (by decide)) d_M_packeted_328 ?_
                          exact hJ7 N6 hI6 h6
                      refine Z_iconst (v := 5) C d_M_packeted_111 (by decide) ?_
                      refine Z_iload_n C 2 d_M_packeted_112 rfl rfl ?_
                      refine Z_imul C d_M_packeted_113 ?_
                      refine Z_iload C 0 d_M_packeted_114 rfl ?_
                      refine Z_iadd C d_M_packeted_116 ?_
                      refine zst (st' := [.int (nI i)]) (by rw [ix5, hi]) ?_
                      refine Z_istore C d_M_packeted_117 (by decide) rfl ?_
                      refine Z_aload_n C 2 d_M_packeted_119 rfl rfl ?_
                      refine R_get C w 12 (by decide) fl_M_41 rfl rfl d_M_packeted_120 ?_
                      refine Z_iload C 0 d_M_packeted_123 rfl ?_
                      refine R_ld 12 C w rfl rfl i (nI_clamp (by omega)) (vp_in_nI (n := i) (N := 25) (by omega) (by decide)) d_M_packeted_125 ?_
                      refine Z_istore C d_M_packeted_126 (by decide) rfl ?_
                      refine Z_aload_n C 3 d_M_packeted_128 rfl rfl ?_
                      refine R_get C w 21 (by decide) fl_M_68 rfl rfl d_M_packeted_129 ?_
                      refine Z_iload C 1 d_M_packeted_132 rfl ?_
                      refine R_ld 21 C w rfl rfl i (nI_clamp (by omega)) (vp_in_nI (n := i) (N := 25) (by omega) (by decide)) d_M_packeted_134 ?_
                      refine Z_istore C d_M_packeted_135 (by decide) rfl ?_
                      refine Z_aload_n C 4 d_M_packeted_137 rfl rfl ?_
                      refine R_get C w 39 (by decide) fl_M_116 rfl rfl d_M_packeted_138 ?_
                      refine Z_iconst (v := 1) C d_M_packeted_141 (by decide) ?_
                      refine R_ld 39 C w rfl rfl 1 (by decide) (by unfold vp_in; decide) d_M_packeted_142 ?_
                      refine Z_bipush (v := 6) C d_M_packeted_143 (by decide) ?_
                      refine Z_ishr C d_M_packeted_145 ?_
                      refine Z_istore C d_M_packeted_146 (by decide) rfl ?_
                      refine Z_aload_n C 5 d_M_packeted_148 rfl rfl ?_
                      refine R_get C w 14 (by decide) fl_M_47 rfl rfl d_M_packeted_149 ?_
                      refine Z_iload C 3 d_M_packeted_152 rfl ?_
                      refine Z_aload_n C 5 d_M_packeted_154 rfl rfl ?_
                      refine Z_iconst (v := 4) C d_M_packeted_155 (by decide) ?_
                      refine Z_iconst (v := 4) C d_M_packeted_156 (by decide) ?_
                      refine C_cMv C w mi_M_told ml_M_195 (c_M_told w _ 4 4 (by decide)) rfl rfl (by decide) rfl (Nat.le_of_ble_eq_true rfl) d_M_packeted_157 ?_
                      refine Z_l2i C d_M_packeted_160 ?_
                      refine R_st 14 C w rfl rfl i (nI_clamp (by omega)) (vp_in_nI (n := i) (N := 25) (by omega) (by decide)) d_M_packeted_161 ?_
                      refine Z_aload_n C 5 d_M_packeted_162 rfl rfl ?_
                      refine R_get C w 13 (by decide) fl_M_44 rfl rfl d_M_packeted_163 ?_
                      refine Z_iload C 3 d_M_packeted_166 rfl ?_
                      refine Z_iload C 0 d_M_packeted_168 rfl ?_
                      refine R_st 13 C w rfl rfl i (nI_clamp (by omega)) (vp_in_nI (n := i) (N := 25) (by omega) (by decide)) d_M_packeted_170 ?_
                      refine Z_aload_n C 5 d_M_packeted_171 rfl rfl ?_
                      refine R_get C w 23 (by decide) fl_M_74 rfl rfl d_M_packeted_172 ?_
                      refine Z_iload C 3 d_M_packeted_175 rfl ?_
                      refine Z_aload_n C 5 d_M_packeted_177 rfl rfl ?_
                      refine R_get C w 39 (by decide) fl_M_116 rfl rfl d_M_packeted_178 ?_
                      refine Z_iconst (v := 2) C d_M_packeted_181 (by decide) ?_
                      refine R_ld 39 C w rfl rfl 2 (by decide) (by unfold vp_in; decide) d_M_packeted_182 ?_
                      refine R_st 23 C w rfl rfl i (nI_clamp (by omega)) (vp_in_nI (n := i) (N := 25) (by omega) (by decide)) d_M_packeted_183 ?_
                      refine Z_aload_n C 5 d_M_packeted_184 rfl rfl ?_
                      refine R_get C w 22 (by decide) fl_M_71 rfl rfl d_M_packeted_185 ?_
                      refine Z_iload C 3 d_M_packeted_188 rfl ?_
                      refine Z_aload_n C 5 d_M_packeted_190 rfl rfl ?_
                      refine Z_bipush (v := 12) C d_M_packeted_191 (by decide) ?_
                      refine Z_iconst (v := 4) C d_M_packeted_193 (by decide) ?_
                      refine C_cMv C w mi_M_told ml_M_195 (c_M_told w _ 12 4 (by decide)) rfl rfl (by decide) rfl (Nat.le_of_ble_eq_true rfl) d_M_packeted_194 ?_
                      refine C_csv C ms_M_capped ml_M_222 (c_M_capped w _ _) rfl (by decide) rfl (Nat.le_of_ble_eq_true rfl) d_M_packeted_197 ?_
                      refine R_st 22 C w rfl rfl i (nI_clamp (by omega)) (vp_in_nI (n := i) (N := 25) (by omega) (by decide)) d_M_packeted_200 ?_
                      refine Z_aload_n C 5 d_M_packeted_201 rfl rfl ?_
                      refine R_get C w 21 (by decide) fl_M_68 rfl rfl d_M_packeted_202 ?_
                      refine Z_iload C 3 d_M_packeted_205 rfl ?_
                      refine Z_aload_n C 5 d_M_packeted_207 rfl rfl ?_
                      refine Z_bipush (v := 16) C d_M_packeted_208 (by decide) ?_
                      refine Z_iconst (v := 4) C d_M_packeted_210 (by decide) ?_
                      refine C_cMv C w mi_M_told ml_M_195 (c_M_told w _ 16 4 (by decide)) rfl rfl (by decide) rfl (Nat.le_of_ble_eq_true rfl) d_M_packeted_211 ?_
                      refine C_csv C ms_M_capped ml_M_222 (c_M_capped w _ _) rfl (by decide) rfl (Nat.le_of_ble_eq_true rfl) d_M_packeted_214 ?_
                      refine R_st 21 C w rfl rfl i (nI_clamp (by omega)) (vp_in_nI (n := i) (N := 25) (by omega) (by decide)) d_M_packeted_217 ?_
                      show Z X G (zA G) 11 _ (eR U (mK5 N i)) 218 _ []
                      refine Z_aload_n C 5 d_M_packeted_218 rfl rfl ?_
                      refine R_get C w 24 (by decide) fl_M_77 rfl rfl d_M_packeted_219 ?_
                      refine Z_iload C 3 d_M_packeted_222 rfl ?_
                      refine R_zld 24 C w rfl rfl i (nI_clamp (by omega)) (vp_in_nI (n := i) (N := 25) (by omega) (by decide)) d_M_packeted_224 ?_
                      refine Z_if_eq (tgt := 276) C d_M_packeted_225 (by decide) (fun c225 => ?_) (fun c225 => ?_)
                      · skip
                        exact hJ6 _ (hI.of rfl) (by unfold mK6; first | rw [if_pos c225] | rw [if_neg c225, if_pos c237] | (rw [if_neg c225, if_neg c237]))
                      · skip
                        refine Z_aload_n C 5 d_M_packeted_228 rfl rfl ?_
                        refine R_get C w 39 (by decide) fl_M_116 rfl rfl d_M_packeted_229 ?_
                        refine Z_iconst (v := 1) C d_M_packeted_232 (by decide) ?_
                        refine R_ld 39 C w rfl rfl 1 (by decide) (by unfold vp_in; decide) d_M_packeted_233 ?_
                        refine Z_bipush (v := 16) C d_M_packeted_234 (by decide) ?_
                        refine Z_iand C d_M_packeted_236 ?_
                        refine Z_if_eq (tgt := 276) C d_M_packeted_237 (by decide) (fun c237 => ?_) (fun c237 => ?_)
                        · skip
                          exact hJ6 _ (hI.of rfl) (by unfold mK6; first | rw [if_pos c225] | rw [if_neg c225, if_pos c237] | (rw [if_neg c225, if_neg c237]))
                        · skip
                          refine Z_aload_n C 5 d_M_packeted_240 rfl rfl ?_
                          refine R_get C w 24 (by decide) fl_M_77 rfl rfl d_M_packeted_241 ?_
                          refine Z_iload C 3 d_M_packeted_244 rfl ?_
                          refine Z_iconst (v := 0) C d_M_packeted_246 (by decide) ?_
                          refine R_zst 24 C w rfl rfl i (nI_clamp (by omega)) (vp_in_nI (n := i) (N := 25) (by omega) (by decide)) rfl d_M_packeted_247 ?_
                          refine Z_aload_n C 5 d_M_packeted_248 rfl rfl ?_
                          refine R_get C w 18 (by decide) fl_M_59 rfl rfl d_M_packeted_249 ?_
                          refine Z_iload C 3 d_M_packeted_252 rfl ?_
                          refine Z_aload_n C 5 d_M_packeted_254 rfl rfl ?_
                          refine R_get C w 16 (by decide) fl_M_53 rfl rfl d_M_packeted_255 ?_
                          refine Z_iload C 3 d_M_packeted_258 rfl ?_
                          refine R_ld 16 C w rfl rfl i (nI_clamp (by omega)) (vp_in_nI (n := i) (N := 25) (by omega) (by decide)) d_M_packeted_260 ?_
                          refine R_st 18 C w rfl rfl i (nI_clamp (by omega)) (vp_in_nI (n := i) (N := 25) (by omega) (by decide)) d_M_packeted_261 ?_
                          refine Z_aload_n C 5 d_M_packeted_262 rfl rfl ?_
                          refine R_get C w 19 (by decide) fl_M_62 rfl rfl d_M_packeted_263 ?_
                          refine Z_iload C 3 d_M_packeted_266 rfl ?_
                          refine Z_aload_n C 5 d_M_packeted_268 rfl rfl ?_
                          refine R_get C w 17 (by decide) fl_M_56 rfl rfl d_M_packeted_269 ?_
                          refine Z_iload C 3 d_M_packeted_272 rfl ?_
                          refine R_ld 17 C w rfl rfl i (nI_clamp (by omega)) (vp_in_nI (n := i) (N := 25) (by omega) (by decide)) d_M_packeted_274 ?_
                          refine R_st 19 C w rfl rfl i (nI_clamp (by omega)) (vp_in_nI (n := i) (N := 25) (by omega) (by decide)) d_M_packeted_275 ?_
                          exact hJ6 _ (hI.of rfl) (by unfold mK6; first | rw [if_pos c225] | rw [if_neg c225, if_pos c237] | (rw [if_neg c225, if_neg c237]))
                    · skip
                      refine Z_iconst (v := 0) C d_M_packeted_109 (by decide) ?_
                      exact Z_zret C hN hr (by decide) d_M_packeted_110 (by simp [mPkR, c4, c13, c24, c35, c46, c59, c68, c79, c90, c106]) (zeq (by apply eR_N; simp [mPkS, mPkR, c4, c13, c24, c35, c46, c59, c68, c79, c90, c106]))
                  · skip
                    refine Z_iconst (v := 0) C d_M_packeted_93 (by decide) ?_
                    exact Z_zret C hN hr (by decide) d_M_packeted_94 (by simp [mPkR, c4, c13, c24, c35, c46, c59, c68, c79, c90]) (zeq (by apply eR_N; simp [mPkS, mPkR, c4, c13, c24, c35, c46, c59, c68, c79, c90]))
set_option maxRecDepth 100000 in
set_option maxHeartbeats 4000000 in
theorem c_M_reach {l : Launch} {G : zG} {U : zU} (w : wR G U) (N : zR) (r : Nat) (hr5 : r < 5) (what : Int32) (a : Nat) (ha : a < 15) (goal by_ : Int32) (hI : InvR N) (hB : Byt (N 39) 12) : zF l y_M_reach b_M_reach 7 none 5 115 G [.ref (U.1 43), .int (nI r), .int what, .int (nI a), .int goal, .int by_] (eR U N) none (eR U (mRe N r what a goal by_)) := by
  refine zF.ofZ (by decide) w.2.2.2.2 (Nat.le_of_ble_eq_true rfl) (fun X hXl hN hr C => ?_)
  subst hXl
  show Z X G (zA G) 7 _ (eR U N) 0 [(0, .ref (U.1 43)), (1, .int (nI r)), (2, .int what), (3, .int (nI a)), (4, .int goal), (5, .int by_)] []
  refine Z_aload_n C 0 d_M_reach_0 rfl rfl ?_
  refine R_get C w 3 (by decide) fl_M_13 rfl rfl d_M_reach_1 ?_
  refine Z_iload_n C 1 d_M_reach_4 rfl rfl ?_
  refine R_ld 3 C w rfl rfl r (nI_clamp (by omega)) (vp_in_nI (n := r) (N := 5) (by omega) (by decide)) d_M_reach_5 ?_
  refine Z_if_eq (tgt := 21) C d_M_reach_6 (by decide) (fun c6 => ?_) (fun c6 => ?_)
  · skip
    exact Z_vret C hN hr d_M_reach_21 rfl (zeq (by first | (apply eR_N; simp [mRe, mReG, mEmp, c6]; done) | (exact absurd (c94.symm.trans c132) (by decide)) | (exact absurd c49 c110) | (exact absurd c110 c49) | (apply eR_N; unfold mRe; rw [if_pos (show mReG N r goal = 0 from by unfold mReG; rw [if_neg c6, if_neg (show ¬ ¬ (N 2 (10 * r + 7) &&& 2) = 0 from fun z => z c18), if_neg c26, if_neg c32, if_neg (show ¬ ¬ goal = 9 from fun z => z c39), if_neg c49])])))
  · skip
    refine Z_aload_n C 0 d_M_reach_9 rfl rfl ?_
    refine Z_iload_n C 1 d_M_reach_10 rfl rfl ?_
    refine Z_bipush (v := 7) C d_M_reach_11 (by decide) ?_
    refine C_cMv C w mi_M_is ml_M_143 (c_M_is w _ r 7 (by assumption) (by decide)) rfl rfl (by decide) rfl (Nat.le_of_ble_eq_true rfl) d_M_reach_13 ?_
    refine Z_iconst (v := 2) C d_M_reach_16 (by decide) ?_
    refine Z_iand C d_M_reach_17 ?_
    refine Z_if_eq (tgt := 22) C d_M_reach_18 (by decide) (fun c18 => ?_) (fun c18 => ?_)
    · skip
      refine Z_iload C 4 d_M_reach_22 rfl ?_
      refine Z_bipush (v := 15) C d_M_reach_24 (by decide) ?_
      refine Z_icmp_eq (tgt := 53) C d_M_reach_26 (by decide) (fun c26 => ?_) (fun c26 => ?_)
      · skip
        refine Z_iload_n C 2 d_M_reach_53 rfl rfl ?_
        refine Z_iconst (v := 1) C d_M_reach_54 (by decide) ?_
        refine Z_icmp_ne (tgt := 73) C d_M_reach_55 (by decide) (fun c55 => ?_) (fun c55 => ?_)
        · skip
          refine Z_iload_n C 2 d_M_reach_73 rfl rfl ?_
          refine Z_iconst (v := 2) C d_M_reach_74 (by decide) ?_
          refine Z_icmp_ne (tgt := 92) C d_M_reach_75 (by decide) (fun c75 => ?_) (fun c75 => ?_)
          · skip
            refine Z_iload_n C 2 d_M_reach_92 rfl rfl ?_
            refine Z_iconst (v := 3) C d_M_reach_93 (by decide) ?_
            refine Z_icmp_ne (tgt := 130) C d_M_reach_94 (by decide) (fun c94 => ?_) (fun c94 => ?_)
            · skip
              refine Z_iload_n C 2 d_M_reach_130 rfl rfl ?_
              refine Z_iconst (v := 4) C d_M_reach_131 (by decide) ?_
              refine Z_icmp_ne (tgt := 143) C d_M_reach_132 (by decide) (fun c132 => ?_) (fun c132 => ?_)
              · skip
                exact Z_vret C hN hr d_M_reach_143 rfl (zeq (by first | (apply eR_N; simp [mRe, mReG, mEmp, c6, c18, c26, c55, c75, c94, c132]; done) | (exact absurd (c94.symm.trans c132) (by decide)) | (exact absurd c49 c110) | (exact absurd c110 c49) | (apply eR_N; unfold mRe; rw [if_pos (show mReG N r goal = 0 from by unfold mReG; rw [if_neg c6, if_neg (show ¬ ¬ (N 2 (10 * r + 7) &&& 2) = 0 from fun z => z c18), if_neg c26, if_neg c32, if_neg (show ¬ ¬ goal = 9 from fun z => z c39), if_neg c49])])))
              · skip
                refine Z_aload_n C 0 d_M_reach_135 rfl rfl ?_
                refine R_get C w 9 (by decide) fl_M_31 rfl rfl d_M_reach_136 ?_
                refine Z_iload_n C 1 d_M_reach_139 rfl rfl ?_
                refine Z_iload C 5 d_M_reach_140 rfl ?_
                refine R_st 9 C w rfl rfl r (nI_clamp (by omega)) (vp_in_nI (n := r) (N := 5) (by omega) (by decide)) d_M_reach_142 ?_
                exact Z_vret C hN hr d_M_reach_143 rfl (zeq (by first | (apply eR_N; simp [mRe, mReG, mEmp, c6, c18, c26, c55, c75, c94, c132]; done) | (exact absurd (c94.symm.trans c132) (by decide)) | (exact absurd c49 c110) | (exact absurd c110 c49) | (apply eR_N; unfold mRe; rw [if_pos (show mReG N r goal = 0 from by unfold mReG; rw [if_neg c6, if_neg (show ¬ ¬ (N 2 (10 * r + 7) &&& 2) = 0 from fun z => z c18), if_neg c26, if_neg c32, if_neg (show ¬ ¬ goal = 9 from fun z => z c39), if_neg c49])])))
            · skip
              refine Z_iload_n C 3 d_M_reach_97 rfl rfl ?_
              refine Z_bipush (v := 9) C d_M_reach_98 (by decide) ?_
              refine Z_icmp_eq (tgt := 130) C d_M_reach_100 (by decide) (fun c100 => ?_) (fun c100 => ?_)
              · skip
                refine Z_iload_n C 2 d_M_reach_130 rfl rfl ?_
                refine Z_iconst (v := 4) C d_M_reach_131 (by decide) ?_
                refine Z_icmp_ne (tgt := 143) C d_M_reach_132 (by decide) (fun c132 => ?_) (fun c132 => ?_)
                · skip
                  exact Z_vret C hN hr d_M_reach_143 rfl (zeq (by first | (apply eR_N; simp [mRe, mReG, mEmp, c6, c18, c26, c55, c75, c94, c100, c132]; done) | (exact absurd (c94.symm.trans c132) (by decide)) | (exact absurd c49 c110) | (exact absurd c110 c49) | (apply eR_N; unfold mRe; rw [if_pos (show mReG N r goal = 0 from by unfold mReG; rw [if_neg c6, if_neg (show ¬ ¬ (N 2 (10 * r + 7) &&& 2) = 0 from fun z => z c18), if_neg c26, if_neg c32, if_neg (show ¬ ¬ goal = 9 from fun z => z c39), if_neg c49])])))
                · skip
                  refine Z_aload_n C 0 d_M_reach_135 rfl rfl ?_
                  refine R_get C w 9 (by decide) fl_M_31 rfl rfl d_M_reach_136 ?_
                  refine Z_iload_n C 1 d_M_reach_139 rfl rfl ?_
                  refine Z_iload C 5 d_M_reach_140 rfl ?_
                  refine R_st 9 C w rfl rfl r (nI_clamp (by omega)) (vp_in_nI (n := r) (N := 5) (by omega) (by decide)) d_M_reach_142 ?_
                  exact Z_vret C hN hr d_M_reach_143 rfl (zeq (by first | (apply eR_N; simp [mRe, mReG, mEmp, c6, c18, c26, c55, c75, c94, c100, c132]; done) | (exact absurd (c94.symm.trans c132) (by decide)) | (exact absurd c49 c110) | (exact absurd c110 c49) | (apply eR_N; unfold mRe; rw [if_pos (show mReG N r goal = 0 from by unfold mReG; rw [if_neg c6, if_neg (show ¬ ¬ (N 2 (10 * r + 7) &&& 2) = 0 from fun z => z c18), if_neg c26, if_neg c32, if_neg (show ¬ ¬ goal = 9 from fun z => z c39), if_neg c49])])))
              · skip
                refine Z_aload_n C 0 d_M_reach_103 rfl rfl ?_
                refine R_get C w 3 (by decide) fl_M_13 rfl rfl d_M_reach_104 ?_
                refine Z_iload_n C 1 d_M_reach_107 rfl rfl ?_
                refine R_ld 3 C w rfl rfl r (nI_clamp (by omega)) (vp_in_nI (n := r) (N := 5) (by omega) (by decide)) d_M_reach_108 ?_
                refine Z_iconst (v := 2) C d_M_reach_109 (by decide) ?_
                refine Z_icmp_ne (tgt := 130) C d_M_reach_110 (by decide) (fun c110 => ?_) (fun c110 => ?_)
                · skip
                  refine Z_iload_n C 2 d_M_reach_130 rfl rfl ?_
                  refine Z_iconst (v := 4) C d_M_reach_131 (by decide) ?_
                  refine Z_icmp_ne (tgt := 143) C d_M_reach_132 (by decide) (fun c132 => ?_) (fun c132 => ?_)
                  · skip
                    exact Z_vret C hN hr d_M_reach_143 rfl (zeq (by first | (apply eR_N; simp [mRe, mReG, mEmp, c6, c18, c26, c55, c75, c94, c100, c110, c132]; done) | (exact absurd (c94.symm.trans c132) (by decide)) | (exact absurd c49 c110) | (exact absurd c110 c49) | (apply eR_N; unfold mRe; rw [if_pos (show mReG N r goal = 0 from by unfold mReG; rw [if_neg c6, if_neg (show ¬ ¬ (N 2 (10 * r + 7) &&& 2) = 0 from fun z => z c18), if_neg c26, if_neg c32, if_neg (show ¬ ¬ goal = 9 from fun z => z c39), if_neg c49])])))
                  · skip
                    refine Z_aload_n C 0 d_M_reach_135 rfl rfl ?_
                    refine R_get C w 9 (by decide) fl_M_31 rfl rfl d_M_reach_136 ?_
                    refine Z_iload_n C 1 d_M_reach_139 rfl rfl ?_
                    refine Z_iload C 5 d_M_reach_140 rfl ?_
                    refine R_st 9 C w rfl rfl r (nI_clamp (by omega)) (vp_in_nI (n := r) (N := 5) (by omega) (by decide)) d_M_reach_142 ?_
                    exact Z_vret C hN hr d_M_reach_143 rfl (zeq (by first | (apply eR_N; simp [mRe, mReG, mEmp, c6, c18, c26, c55, c75, c94, c100, c110, c132]; done) | (exact absurd (c94.symm.trans c132) (by decide)) | (exact absurd c49 c110) | (exact absurd c110 c49) | (apply eR_N; unfold mRe; rw [if_pos (show mReG N r goal = 0 from by unfold mReG; rw [if_neg c6, if_neg (show ¬ ¬ (N 2 (10 * r + 7) &&& 2) = 0 from fun z => z c18), if_neg c26, if_neg c32, if_neg (show ¬ ¬ goal = 9 from fun z => z c39), if_neg c49])])))
                · skip
                  refine Z_aload_n C 0 d_M_reach_113 rfl rfl ?_
                  refine Z_iconst (v := 0) C d_M_reach_114 (by decide) ?_
                  refine R_put C w 38 (by decide) fl_M_136 rfl rfl rfl rfl rfl d_M_reach_115 ?_
                  refine Z_aload_n C 0 d_M_reach_118 rfl rfl ?_
                  refine Z_iload_n C 1 d_M_reach_119 rfl rfl ?_
                  refine Z_iconst (v := 4) C d_M_reach_120 (by decide) ?_
                  refine Z_bipush (v := 9) C d_M_reach_121 (by decide) ?_
                  refine Z_iload_n C 3 d_M_reach_123 rfl rfl ?_
                  refine C_cMn C w mi_M_send ml_M_173 (c_M_send w (u2 N 43 38 0) r hr5 4 9 a (fly N) 0 (by decide) (by omega) hI.1 hI.2 rfl (by decide)) rfl rfl (by decide) rfl (Nat.le_of_ble_eq_true rfl) d_M_reach_124 ?_
                  refine Z_goto (tgt := 143) C d_M_reach_127 (by decide) ?_
                  exact Z_vret C hN hr d_M_reach_143 rfl (zeq (by first | (apply eR_N; simp [mRe, mReG, mEmp, c6, c18, c26, c55, c75, c94, c100, c110]; done) | (exact absurd (c94.symm.trans c132) (by decide)) | (exact absurd c49 c110) | (exact absurd c110 c49) | (apply eR_N; unfold mRe; rw [if_pos (show mReG N r goal = 0 from by unfold mReG; rw [if_neg c6, if_neg (show ¬ ¬ (N 2 (10 * r + 7) &&& 2) = 0 from fun z => z c18), if_neg c26, if_neg c32, if_neg (show ¬ ¬ goal = 9 from fun z => z c39), if_neg c49])])))
          · skip
            refine Z_aload_n C 0 d_M_reach_78 rfl rfl ?_
            refine Z_iload_n C 1 d_M_reach_79 rfl rfl ?_
            refine Z_sipush (v := 255) C d_M_reach_80 (by decide) ?_
            refine Z_iload_n C 3 d_M_reach_83 rfl rfl ?_
            refine C_cMv C w mi_M_packeted ml_M_240 (c_M_packeted w _ r hr5 255 (nI a) hI) rfl rfl (by decide) rfl (Nat.le_of_ble_eq_true rfl) d_M_reach_84 ?_
            refine Z_istore C d_M_reach_87 (by decide) rfl ?_
            refine Z_goto (tgt := 143) C d_M_reach_89 (by decide) ?_
            exact Z_vret C hN hr d_M_reach_143 rfl (zeq (by first | (apply eR_N; simp [mRe, mReG, mEmp, c6, c18, c26, c55, c75]; done) | (exact absurd (c94.symm.trans c132) (by decide)) | (exact absurd c49 c110) | (exact absurd c110 c49) | (apply eR_N; unfold mRe; rw [if_pos (show mReG N r goal = 0 from by unfold mReG; rw [if_neg c6, if_neg (show ¬ ¬ (N 2 (10 * r + 7) &&& 2) = 0 from fun z => z c18), if_neg c26, if_neg c32, if_neg (show ¬ ¬ goal = 9 from fun z => z c39), if_neg c49])])))
        · skip
          refine Z_aload_n C 0 d_M_reach_58 rfl rfl ?_
          refine Z_iload_n C 1 d_M_reach_59 rfl rfl ?_
          refine Z_sipush (v := 255) C d_M_reach_60 (by decide) ?_
          refine Z_iload C 5 d_M_reach_63 rfl ?_
          refine C_cMv C w mi_M_advertised ml_M_236 (c_M_advertised w _ r hr5 255 by_ hI hB) rfl rfl (by decide) rfl (Nat.le_of_ble_eq_true rfl) d_M_reach_65 ?_
          refine Z_istore C d_M_reach_68 (by decide) rfl ?_
          refine Z_goto (tgt := 143) C d_M_reach_70 (by decide) ?_
          exact Z_vret C hN hr d_M_reach_143 rfl (zeq (by first | (apply eR_N; simp [mRe, mReG, mEmp, c6, c18, c26, c55]; done) | (exact absurd (c94.symm.trans c132) (by decide)) | (exact absurd c49 c110) | (exact absurd c110 c49) | (apply eR_N; unfold mRe; rw [if_pos (show mReG N r goal = 0 from by unfold mReG; rw [if_neg c6, if_neg (show ¬ ¬ (N 2 (10 * r + 7) &&& 2) = 0 from fun z => z c18), if_neg c26, if_neg c32, if_neg (show ¬ ¬ goal = 9 from fun z => z c39), if_neg c49])])))
      · skip
        refine Z_iload C 4 d_M_reach_29 rfl ?_
        refine Z_iload_n C 1 d_M_reach_31 rfl rfl ?_
        refine Z_icmp_eq (tgt := 53) C d_M_reach_32 (by decide) (fun c32 => ?_) (fun c32 => ?_)
        · skip
          refine Z_iload_n C 2 d_M_reach_53 rfl rfl ?_
          refine Z_iconst (v := 1) C d_M_reach_54 (by decide) ?_
          refine Z_icmp_ne (tgt := 73) C d_M_reach_55 (by decide) (fun c55 => ?_) (fun c55 => ?_)
          · skip
            refine Z_iload_n C 2 d_M_reach_73 rfl rfl ?_
            refine Z_iconst (v := 2) C d_M_reach_74 (by decide) ?_
            refine Z_icmp_ne (tgt := 92) C d_M_reach_75 (by decide) (fun c75 => ?_) (fun c75 => ?_)
            · skip
              refine Z_iload_n C 2 d_M_reach_92 rfl rfl ?_
              refine Z_iconst (v := 3) C d_M_reach_93 (by decide) ?_
              refine Z_icmp_ne (tgt := 130) C d_M_reach_94 (by decide) (fun c94 => ?_) (fun c94 => ?_)
              · skip
                refine Z_iload_n C 2 d_M_reach_130 rfl rfl ?_
                refine Z_iconst (v := 4) C d_M_reach_131 (by decide) ?_
                refine Z_icmp_ne (tgt := 143) C d_M_reach_132 (by decide) (fun c132 => ?_) (fun c132 => ?_)
                · skip
                  exact Z_vret C hN hr d_M_reach_143 rfl (zeq (by first | (apply eR_N; simp [mRe, mReG, mEmp, c6, c18, c26, c32, c55, c75, c94, c132]; done) | (exact absurd (c94.symm.trans c132) (by decide)) | (exact absurd c49 c110) | (exact absurd c110 c49) | (apply eR_N; unfold mRe; rw [if_pos (show mReG N r goal = 0 from by unfold mReG; rw [if_neg c6, if_neg (show ¬ ¬ (N 2 (10 * r + 7) &&& 2) = 0 from fun z => z c18), if_neg c26, if_neg c32, if_neg (show ¬ ¬ goal = 9 from fun z => z c39), if_neg c49])])))
                · skip
                  refine Z_aload_n C 0 d_M_reach_135 rfl rfl ?_
                  refine R_get C w 9 (by decide) fl_M_31 rfl rfl d_M_reach_136 ?_
                  refine Z_iload_n C 1 d_M_reach_139 rfl rfl ?_
                  refine Z_iload C 5 d_M_reach_140 rfl ?_
                  refine R_st 9 C w rfl rfl r (nI_clamp (by omega)) (vp_in_nI (n := r) (N := 5) (by omega) (by decide)) d_M_reach_142 ?_
                  exact Z_vret C hN hr d_M_reach_143 rfl (zeq (by first | (apply eR_N; simp [mRe, mReG, mEmp, c6, c18, c26, c32, c55, c75, c94, c132]; done) | (exact absurd (c94.symm.trans c132) (by decide)) | (exact absurd c49 c110) | (exact absurd c110 c49) | (apply eR_N; unfold mRe; rw [if_pos (show mReG N r goal = 0 from by unfold mReG; rw [if_neg c6, if_neg (show ¬ ¬ (N 2 (10 * r + 7) &&& 2) = 0 from fun z => z c18), if_neg c26, if_neg c32, if_neg (show ¬ ¬ goal = 9 from fun z => z c39), if_neg c49])])))
              · skip
                refine Z_iload_n C 3 d_M_reach_97 rfl rfl ?_
                refine Z_bipush (v := 9) C d_M_reach_98 (by decide) ?_
                refine Z_icmp_eq (tgt := 130) C d_M_reach_100 (by decide) (fun c100 => ?_) (fun c100 => ?_)
                · skip
                  refine Z_iload_n C 2 d_M_reach_130 rfl rfl ?_
                  refine Z_iconst (v := 4) C d_M_reach_131 (by decide) ?_
                  refine Z_icmp_ne (tgt := 143) C d_M_reach_132 (by decide) (fun c132 => ?_) (fun c132 => ?_)
                  · skip
                    exact Z_vret C hN hr d_M_reach_143 rfl (zeq (by first | (apply eR_N; simp [mRe, mReG, mEmp, c6, c18, c26, c32, c55, c75, c94, c100, c132]; done) | (exact absurd (c94.symm.trans c132) (by decide)) | (exact absurd c49 c110) | (exact absurd c110 c49) | (apply eR_N; unfold mRe; rw [if_pos (show mReG N r goal = 0 from by unfold mReG; rw [if_neg c6, if_neg (show ¬ ¬ (N 2 (10 * r + 7) &&& 2) = 0 from fun z => z c18), if_neg c26, if_neg c32, if_neg (show ¬ ¬ goal = 9 from fun z => z c39), if_neg c49])])))
                  · skip
                    refine Z_aload_n C 0 d_M_reach_135 rfl rfl ?_
                    refine R_get C w 9 (by decide) fl_M_31 rfl rfl d_M_reach_136 ?_
                    refine Z_iload_n C 1 d_M_reach_139 rfl rfl ?_
                    refine Z_iload C 5 d_M_reach_140 rfl ?_
                    refine R_st 9 C w rfl rfl r (nI_clamp (by omega)) (vp_in_nI (n := r) (N := 5) (by omega) (by decide)) d_M_reach_142 ?_
                    exact Z_vret C hN hr d_M_reach_143 rfl (zeq (by first | (apply eR_N; simp [mRe, mReG, mEmp, c6, c18, c26, c32, c55, c75, c94, c100, c132]; done) | (exact absurd (c94.symm.trans c132) (by decide)) | (exact absurd c49 c110) | (exact absurd c110 c49) | (apply eR_N; unfold mRe; rw [if_pos (show mReG N r goal = 0 from by unfold mReG; rw [if_neg c6, if_neg (show ¬ ¬ (N 2 (10 * r + 7) &&& 2) = 0 from fun z => z c18), if_neg c26, if_neg c32, if_neg (show ¬ ¬ goal = 9 from fun z => z c39), if_neg c49])])))
                · skip
                  refine Z_aload_n C 0 d_M_reach_103 rfl rfl ?_
                  refine R_get C w 3 (by decide) fl_M_13 rfl rfl d_M_reach_104 ?_
                  refine Z_iload_n C 1 d_M_reach_107 rfl rfl ?_
                  refine R_ld 3 C w rfl rfl r (nI_clamp (by omega)) (vp_in_nI (n := r) (N := 5) (by omega) (by decide)) d_M_reach_108 ?_
                  refine Z_iconst (v := 2) C d_M_reach_109 (by decide) ?_
                  refine Z_icmp_ne (tgt := 130) C d_M_reach_110 (by decide) (fun c110 => ?_) (fun c110 => ?_)
                  · skip
                    refine Z_iload_n C 2 d_M_reach_130 rfl rfl ?_
                    refine Z_iconst (v := 4) C d_M_reach_131 (by decide) ?_
                    refine Z_icmp_ne (tgt := 143) C d_M_reach_132 (by decide) (fun c132 => ?_) (fun c132 => ?_)
                    · skip
                      exact Z_vret C hN hr d_M_reach_143 rfl (zeq (by first | (apply eR_N; simp [mRe, mReG, mEmp, c6, c18, c26, c32, c55, c75, c94, c100, c110, c132]; done) | (exact absurd (c94.symm.trans c132) (by decide)) | (exact absurd c49 c110) | (exact absurd c110 c49) | (apply eR_N; unfold mRe; rw [if_pos (show mReG N r goal = 0 from by unfold mReG; rw [if_neg c6, if_neg (show ¬ ¬ (N 2 (10 * r + 7) &&& 2) = 0 from fun z => z c18), if_neg c26, if_neg c32, if_neg (show ¬ ¬ goal = 9 from fun z => z c39), if_neg c49])])))
                    · skip
                      refine Z_aload_n C 0 d_M_reach_135 rfl rfl ?_
                      refine R_get C w 9 (by decide) fl_M_31 rfl rfl d_M_reach_136 ?_
                      refine Z_iload_n C 1 d_M_reach_139 rfl rfl ?_
                      refine Z_iload C 5 d_M_reach_140 rfl ?_
                      refine R_st 9 C w rfl rfl r (nI_clamp (by omega)) (vp_in_nI (n := r) (N := 5) (by omega) (by decide)) d_M_reach_142 ?_
                      exact Z_vret C hN hr d_M_reach_143 rfl (zeq (by first | (apply eR_N; simp [mRe, mReG, mEmp, c6, c18, c26, c32, c55, c75, c94, c100, c110, c132]; done) | (exact absurd (c94.symm.trans c132) (by decide)) | (exact absurd c49 c110) | (exact absurd c110 c49) | (apply eR_N; unfold mRe; rw [if_pos (show mReG N r goal = 0 from by unfold mReG; rw [if_neg c6, if_neg (show ¬ ¬ (N 2 (10 * r + 7) &&& 2) = 0 from fun z => z c18), if_neg c26, if_neg c32, if_neg (show ¬ ¬ goal = 9 from fun z => z c39), if_neg c49])])))
                  · skip
                    refine Z_aload_n C 0 d_M_reach_113 rfl rfl ?_
                    refine Z_iconst (v := 0) C d_M_reach_114 (by decide) ?_
                    refine R_put C w 38 (by decide) fl_M_136 rfl rfl rfl rfl rfl d_M_reach_115 ?_
                    refine Z_aload_n C 0 d_M_reach_118 rfl rfl ?_
                    refine Z_iload_n C 1 d_M_reach_119 rfl rfl ?_
                    refine Z_iconst (v := 4) C d_M_reach_120 (by decide) ?_
                    refine Z_bipush (v := 9) C d_M_reach_121 (by decide) ?_
                    refine Z_iload_n C 3 d_M_reach_123 rfl rfl ?_
                    refine C_cMn C w mi_M_send ml_M_173 (c_M_send w (u2 N 43 38 0) r hr5 4 9 a (fly N) 0 (by decide) (by omega) hI.1 hI.2 rfl (by decide)) rfl rfl (by decide) rfl (Nat.le_of_ble_eq_true rfl) d_M_reach_124 ?_
                    refine Z_goto (tgt := 143) C d_M_reach_127 (by decide) ?_
                    exact Z_vret C hN hr d_M_reach_143 rfl (zeq (by first | (apply eR_N; simp [mRe, mReG, mEmp, c6, c18, c26, c32, c55, c75, c94, c100, c110]; done) | (exact absurd (c94.symm.trans c132) (by decide)) | (exact absurd c49 c110) | (exact absurd c110 c49) | (apply eR_N; unfold mRe; rw [if_pos (show mReG N r goal = 0 from by unfold mReG; rw [if_neg c6, if_neg (show ¬ ¬ (N 2 (10 * r + 7) &&& 2) = 0 from fun z => z c18), if_neg c26, if_neg c32, if_neg (show ¬ ¬ goal = 9 from fun z => z c39), if_neg c49])])))
            · skip
              refine Z_aload_n C 0 d_M_reach_78 rfl rfl ?_
              refine Z_iload_n C 1 d_M_reach_79 rfl rfl ?_
              refine Z_sipush (v := 255) C d_M_reach_80 (by decide) ?_
              refine Z_iload_n C 3 d_M_reach_83 rfl rfl ?_
              refine C_cMv C w mi_M_packeted ml_M_240 (c_M_packeted w _ r hr5 255 (nI a) hI) rfl rfl (by decide) rfl (Nat.le_of_ble_eq_true rfl) d_M_reach_84 ?_
              refine Z_istore C d_M_reach_87 (by decide) rfl ?_
              refine Z_goto (tgt := 143) C d_M_reach_89 (by decide) ?_
              exact Z_vret C hN hr d_M_reach_143 rfl (zeq (by first | (apply eR_N; simp [mRe, mReG, mEmp, c6, c18, c26, c32, c55, c75]; done) | (exact absurd (c94.symm.trans c132) (by decide)) | (exact absurd c49 c110) | (exact absurd c110 c49) | (apply eR_N; unfold mRe; rw [if_pos (show mReG N r goal = 0 from by unfold mReG; rw [if_neg c6, if_neg (show ¬ ¬ (N 2 (10 * r + 7) &&& 2) = 0 from fun z => z c18), if_neg c26, if_neg c32, if_neg (show ¬ ¬ goal = 9 from fun z => z c39), if_neg c49])])))
          · skip
            refine Z_aload_n C 0 d_M_reach_58 rfl rfl ?_
            refine Z_iload_n C 1 d_M_reach_59 rfl rfl ?_
            refine Z_sipush (v := 255) C d_M_reach_60 (by decide) ?_
            refine Z_iload C 5 d_M_reach_63 rfl ?_
            refine C_cMv C w mi_M_advertised ml_M_236 (c_M_advertised w _ r hr5 255 by_ hI hB) rfl rfl (by decide) rfl (Nat.le_of_ble_eq_true rfl) d_M_reach_65 ?_
            refine Z_istore C d_M_reach_68 (by decide) rfl ?_
            refine Z_goto (tgt := 143) C d_M_reach_70 (by decide) ?_
            exact Z_vret C hN hr d_M_reach_143 rfl (zeq (by first | (apply eR_N; simp [mRe, mReG, mEmp, c6, c18, c26, c32, c55]; done) | (exact absurd (c94.symm.trans c132) (by decide)) | (exact absurd c49 c110) | (exact absurd c110 c49) | (apply eR_N; unfold mRe; rw [if_pos (show mReG N r goal = 0 from by unfold mReG; rw [if_neg c6, if_neg (show ¬ ¬ (N 2 (10 * r + 7) &&& 2) = 0 from fun z => z c18), if_neg c26, if_neg c32, if_neg (show ¬ ¬ goal = 9 from fun z => z c39), if_neg c49])])))
        · skip
          refine Z_iload C 4 d_M_reach_35 rfl ?_
          refine Z_bipush (v := 9) C d_M_reach_37 (by decide) ?_
          refine Z_icmp_ne (tgt := 52) C d_M_reach_39 (by decide) (fun c39 => ?_) (fun c39 => ?_)
          · skip
            exact Z_vret C hN hr d_M_reach_52 rfl (zeq (by first | (apply eR_N; simp [mRe, mReG, mEmp, c6, c18, c26, c32, c39]; done) | (exact absurd (c94.symm.trans c132) (by decide)) | (exact absurd c49 c110) | (exact absurd c110 c49) | (apply eR_N; unfold mRe; rw [if_pos (show mReG N r goal = 0 from by unfold mReG; rw [if_neg c6, if_neg (show ¬ ¬ (N 2 (10 * r + 7) &&& 2) = 0 from fun z => z c18), if_neg c26, if_neg c32, if_neg (show ¬ ¬ goal = 9 from fun z => z c39), if_neg c49])])))
          · skip
            refine Z_aload_n C 0 d_M_reach_42 rfl rfl ?_
            refine R_get C w 3 (by decide) fl_M_13 rfl rfl d_M_reach_43 ?_
            refine Z_iload_n C 1 d_M_reach_46 rfl rfl ?_
            refine R_ld 3 C w rfl rfl r (nI_clamp (by omega)) (vp_in_nI (n := r) (N := 5) (by omega) (by decide)) d_M_reach_47 ?_
            refine Z_iconst (v := 2) C d_M_reach_48 (by decide) ?_
            refine Z_icmp_eq (tgt := 53) C d_M_reach_49 (by decide) (fun c49 => ?_) (fun c49 => ?_)
            · skip
              refine Z_iload_n C 2 d_M_reach_53 rfl rfl ?_
              refine Z_iconst (v := 1) C d_M_reach_54 (by decide) ?_
              refine Z_icmp_ne (tgt := 73) C d_M_reach_55 (by decide) (fun c55 => ?_) (fun c55 => ?_)
              · skip
                refine Z_iload_n C 2 d_M_reach_73 rfl rfl ?_
                refine Z_iconst (v := 2) C d_M_reach_74 (by decide) ?_
                refine Z_icmp_ne (tgt := 92) C d_M_reach_75 (by decide) (fun c75 => ?_) (fun c75 => ?_)
                · skip
                  refine Z_iload_n C 2 d_M_reach_92 rfl rfl ?_
                  refine Z_iconst (v := 3) C d_M_reach_93 (by decide) ?_
                  refine Z_icmp_ne (tgt := 130) C d_M_reach_94 (by decide) (fun c94 => ?_) (fun c94 => ?_)
                  · skip
                    refine Z_iload_n C 2 d_M_reach_130 rfl rfl ?_
                    refine Z_iconst (v := 4) C d_M_reach_131 (by decide) ?_
                    refine Z_icmp_ne (tgt := 143) C d_M_reach_132 (by decide) (fun c132 => ?_) (fun c132 => ?_)
                    · skip
                      exact Z_vret C hN hr d_M_reach_143 rfl (zeq (by first | (apply eR_N; simp [mRe, mReG, mEmp, c6, c18, c26, c32, c39, c49, c55, c75, c94, c132]; done) | (exact absurd (c94.symm.trans c132) (by decide)) | (exact absurd c49 c110) | (exact absurd c110 c49) | (apply eR_N; unfold mRe; rw [if_pos (show mReG N r goal = 0 from by unfold mReG; rw [if_neg c6, if_neg (show ¬ ¬ (N 2 (10 * r + 7) &&& 2) = 0 from fun z => z c18), if_neg c26, if_neg c32, if_neg (show ¬ ¬ goal = 9 from fun z => z c39), if_neg c49])])))
                    · skip
                      refine Z_aload_n C 0 d_M_reach_135 rfl rfl ?_
                      refine R_get C w 9 (by decide) fl_M_31 rfl rfl d_M_reach_136 ?_
                      refine Z_iload_n C 1 d_M_reach_139 rfl rfl ?_
                      refine Z_iload C 5 d_M_reach_140 rfl ?_
                      refine R_st 9 C w rfl rfl r (nI_clamp (by omega)) (vp_in_nI (n := r) (N := 5) (by omega) (by decide)) d_M_reach_142 ?_
                      exact Z_vret C hN hr d_M_reach_143 rfl (zeq (by first | (apply eR_N; simp [mRe, mReG, mEmp, c6, c18, c26, c32, c39, c49, c55, c75, c94, c132]; done) | (exact absurd (c94.symm.trans c132) (by decide)) | (exact absurd c49 c110) | (exact absurd c110 c49) | (apply eR_N; unfold mRe; rw [if_pos (show mReG N r goal = 0 from by unfold mReG; rw [if_neg c6, if_neg (show ¬ ¬ (N 2 (10 * r + 7) &&& 2) = 0 from fun z => z c18), if_neg c26, if_neg c32, if_neg (show ¬ ¬ goal = 9 from fun z => z c39), if_neg c49])])))
                  · skip
                    refine Z_iload_n C 3 d_M_reach_97 rfl rfl ?_
                    refine Z_bipush (v := 9) C d_M_reach_98 (by decide) ?_
                    refine Z_icmp_eq (tgt := 130) C d_M_reach_100 (by decide) (fun c100 => ?_) (fun c100 => ?_)
                    · skip
                      refine Z_iload_n C 2 d_M_reach_130 rfl rfl ?_
                      refine Z_iconst (v := 4) C d_M_reach_131 (by decide) ?_
                      refine Z_icmp_ne (tgt := 143) C d_M_reach_132 (by decide) (fun c132 => ?_) (fun c132 => ?_)
                      · skip
                        exact Z_vret C hN hr d_M_reach_143 rfl (zeq (by first | (apply eR_N; simp [mRe, mReG, mEmp, c6, c18, c26, c32, c39, c49, c55, c75, c94, c100, c132]; done) | (exact absurd (c94.symm.trans c132) (by decide)) | (exact absurd c49 c110) | (exact absurd c110 c49) | (apply eR_N; unfold mRe; rw [if_pos (show mReG N r goal = 0 from by unfold mReG; rw [if_neg c6, if_neg (show ¬ ¬ (N 2 (10 * r + 7) &&& 2) = 0 from fun z => z c18), if_neg c26, if_neg c32, if_neg (show ¬ ¬ goal = 9 from fun z => z c39), if_neg c49])])))
                      · skip
                        refine Z_aload_n C 0 d_M_reach_135 rfl rfl ?_
                        refine R_get C w 9 (by decide) fl_M_31 rfl rfl d_M_reach_136 ?_
                        refine Z_iload_n C 1 d_M_reach_139 rfl rfl ?_
                        refine Z_iload C 5 d_M_reach_140 rfl ?_
                        refine R_st 9 C w rfl rfl r (nI_clamp (by omega)) (vp_in_nI (n := r) (N := 5) (by omega) (by decide)) d_M_reach_142 ?_
                        exact Z_vret C hN hr d_M_reach_143 rfl (zeq (by first | (apply eR_N; simp [mRe, mReG, mEmp, c6, c18, c26, c32, c39, c49, c55, c75, c94, c100, c132]; done) | (exact absurd (c94.symm.trans c132) (by decide)) | (exact absurd c49 c110) | (exact absurd c110 c49) | (apply eR_N; unfold mRe; rw [if_pos (show mReG N r goal = 0 from by unfold mReG; rw [if_neg c6, if_neg (show ¬ ¬ (N 2 (10 * r + 7) &&& 2) = 0 from fun z => z c18), if_neg c26, if_neg c32, if_neg (show ¬ ¬ goal = 9 from fun z => z c39), if_neg c49])])))
                    · skip
                      refine Z_aload_n C 0 d_M_reach_103 rfl rfl ?_
                      refine R_get C w 3 (by decide) fl_M_13 rfl rfl d_M_reach_104 ?_
                      refine Z_iload_n C 1 d_M_reach_107 rfl rfl ?_
                      refine R_ld 3 C w rfl rfl r (nI_clamp (by omega)) (vp_in_nI (n := r) (N := 5) (by omega) (by decide)) d_M_reach_108 ?_
                      refine Z_iconst (v := 2) C d_M_reach_109 (by decide) ?_
                      refine Z_icmp_ne (tgt := 130) C d_M_reach_110 (by decide) (fun c110 => ?_) (fun c110 => ?_)
                      · skip
                        refine Z_iload_n C 2 d_M_reach_130 rfl rfl ?_
                        refine Z_iconst (v := 4) C d_M_reach_131 (by decide) ?_
                        refine Z_icmp_ne (tgt := 143) C d_M_reach_132 (by decide) (fun c132 => ?_) (fun c132 => ?_)
                        · skip
                          exact Z_vret C hN hr d_M_reach_143 rfl (zeq (by first | (apply eR_N; simp [mRe, mReG, mEmp, c6, c18, c26, c32, c39, c49, c55, c75, c94, c100, c110, c132]; done) | (exact absurd (c94.symm.trans c132) (by decide)) | (exact absurd c49 c110) | (exact absurd c110 c49) | (apply eR_N; unfold mRe; rw [if_pos (show mReG N r goal = 0 from by unfold mReG; rw [if_neg c6, if_neg (show ¬ ¬ (N 2 (10 * r + 7) &&& 2) = 0 from fun z => z c18), if_neg c26, if_neg c32, if_neg (show ¬ ¬ goal = 9 from fun z => z c39), if_neg c49])])))
                        · skip
                          refine Z_aload_n C 0 d_M_reach_135 rfl rfl ?_
                          refine R_get C w 9 (by decide) fl_M_31 rfl rfl d_M_reach_136 ?_
                          refine Z_iload_n C 1 d_M_reach_139 rfl rfl ?_
                          refine Z_iload C 5 d_M_reach_140 rfl ?_
                          refine R_st 9 C w rfl rfl r (nI_clamp (by omega)) (vp_in_nI (n := r) (N := 5) (by omega) (by decide)) d_M_reach_142 ?_
                          exact Z_vret C hN hr d_M_reach_143 rfl (zeq (by first | (apply eR_N; simp [mRe, mReG, mEmp, c6, c18, c26, c32, c39, c49, c55, c75, c94, c100, c110, c132]; done) | (exact absurd (c94.symm.trans c132) (by decide)) | (exact absurd c49 c110) | (exact absurd c110 c49) | (apply eR_N; unfold mRe; rw [if_pos (show mReG N r goal = 0 from by unfold mReG; rw [if_neg c6, if_neg (show ¬ ¬ (N 2 (10 * r + 7) &&& 2) = 0 from fun z => z c18), if_neg c26, if_neg c32, if_neg (show ¬ ¬ goal = 9 from fun z => z c39), if_neg c49])])))
                      · skip
                        refine Z_aload_n C 0 d_M_reach_113 rfl rfl ?_
                        refine Z_iconst (v := 0) C d_M_reach_114 (by decide) ?_
                        refine R_put C w 38 (by decide) fl_M_136 rfl rfl rfl rfl rfl d_M_reach_115 ?_
                        refine Z_aload_n C 0 d_M_reach_118 rfl rfl ?_
                        refine Z_iload_n C 1 d_M_reach_119 rfl rfl ?_
                        refine Z_iconst (v := 4) C d_M_reach_120 (by decide) ?_
                        refine Z_bipush (v := 9) C d_M_reach_121 (by decide) ?_
                        refine Z_iload_n C 3 d_M_reach_123 rfl rfl ?_
                        refine C_cMn C w mi_M_send ml_M_173 (c_M_send w (u2 N 43 38 0) r hr5 4 9 a (fly N) 0 (by decide) (by omega) hI.1 hI.2 rfl (by decide)) rfl rfl (by decide) rfl (Nat.le_of_ble_eq_true rfl) d_M_reach_124 ?_
                        refine Z_goto (tgt := 143) C d_M_reach_127 (by decide) ?_
                        exact Z_vret C hN hr d_M_reach_143 rfl (zeq (by first | (apply eR_N; simp [mRe, mReG, mEmp, c6, c18, c26, c32, c39, c49, c55, c75, c94, c100, c110]; done) | (exact absurd (c94.symm.trans c132) (by decide)) | (exact absurd c49 c110) | (exact absurd c110 c49) | (apply eR_N; unfold mRe; rw [if_pos (show mReG N r goal = 0 from by unfold mReG; rw [if_neg c6, if_neg (show ¬ ¬ (N 2 (10 * r + 7) &&& 2) = 0 from fun z => z c18), if_neg c26, if_neg c32, if_neg (show ¬ ¬ goal = 9 from fun z => z c39), if_neg c49])])))
                · skip
                  refine Z_aload_n C 0 d_M_reach_78 rfl rfl ?_
                  refine Z_iload_n C 1 d_M_reach_79 rfl rfl ?_
                  refine Z_sipush (v := 255) C d_M_reach_80 (by decide) ?_
                  refine Z_iload_n C 3 d_M_reach_83 rfl rfl ?_
                  refine C_cMv C w mi_M_packeted ml_M_240 (c_M_packeted w _ r hr5 255 (nI a) hI) rfl rfl (by decide) rfl (Nat.le_of_ble_eq_true rfl) d_M_reach_84 ?_
                  refine Z_istore C d_M_reach_87 (by decide) rfl ?_
                  refine Z_goto (tgt := 143) C d_M_reach_89 (by decide) ?_
                  exact Z_vret C hN hr d_M_reach_143 rfl (zeq (by first | (apply eR_N; simp [mRe, mReG, mEmp, c6, c18, c26, c32, c39, c49, c55, c75]; done) | (exact absurd (c94.symm.trans c132) (by decide)) | (exact absurd c49 c110) | (exact absurd c110 c49) | (apply eR_N; unfold mRe; rw [if_pos (show mReG N r goal = 0 from by unfold mReG; rw [if_neg c6, if_neg (show ¬ ¬ (N 2 (10 * r + 7) &&& 2) = 0 from fun z => z c18), if_neg c26, if_neg c32, if_neg (show ¬ ¬ goal = 9 from fun z => z c39), if_neg c49])])))
              · skip
                refine Z_aload_n C 0 d_M_reach_58 rfl rfl ?_
                refine Z_iload_n C 1 d_M_reach_59 rfl rfl ?_
                refine Z_sipush (v := 255) C d_M_reach_60 (by decide) ?_
                refine Z_iload C 5 d_M_reach_63 rfl ?_
                refine C_cMv C w mi_M_advertised ml_M_236 (c_M_advertised w _ r hr5 255 by_ hI hB) rfl rfl (by decide) rfl (Nat.le_of_ble_eq_true rfl) d_M_reach_65 ?_
                refine Z_istore C d_M_reach_68 (by decide) rfl ?_
                refine Z_goto (tgt := 143) C d_M_reach_70 (by decide) ?_
                exact Z_vret C hN hr d_M_reach_143 rfl (zeq (by first | (apply eR_N; simp [mRe, mReG, mEmp, c6, c18, c26, c32, c39, c49, c55]; done) | (exact absurd (c94.symm.trans c132) (by decide)) | (exact absurd c49 c110) | (exact absurd c110 c49) | (apply eR_N; unfold mRe; rw [if_pos (show mReG N r goal = 0 from by unfold mReG; rw [if_neg c6, if_neg (show ¬ ¬ (N 2 (10 * r + 7) &&& 2) = 0 from fun z => z c18), if_neg c26, if_neg c32, if_neg (show ¬ ¬ goal = 9 from fun z => z c39), if_neg c49])])))
            · skip
              exact Z_vret C hN hr d_M_reach_52 rfl (zeq (by first | (apply eR_N; simp [mRe, mReG, mEmp, c6, c18, c26, c32, c39, c49]; done) | (exact absurd (c94.symm.trans c132) (by decide)) | (exact absurd c49 c110) | (exact absurd c110 c49) | (apply eR_N; unfold mRe; rw [if_pos (show mReG N r goal = 0 from by unfold mReG; rw [if_neg c6, if_neg (show ¬ ¬ (N 2 (10 * r + 7) &&& 2) = 0 from fun z => z c18), if_neg c26, if_neg c32, if_neg (show ¬ ¬ goal = 9 from fun z => z c39), if_neg c49])])))
    · skip
      exact Z_vret C hN hr d_M_reach_21 rfl (zeq (by first | (apply eR_N; simp [mRe, mReG, mEmp, c6, c18]; done) | (exact absurd (c94.symm.trans c132) (by decide)) | (exact absurd c49 c110) | (exact absurd c110 c49) | (apply eR_N; unfold mRe; rw [if_pos (show mReG N r goal = 0 from by unfold mReG; rw [if_neg c6, if_neg (show ¬ ¬ (N 2 (10 * r + 7) &&& 2) = 0 from fun z => z c18), if_neg c26, if_neg c32, if_neg (show ¬ ¬ goal = 9 from fun z => z c39), if_neg c49])])))

