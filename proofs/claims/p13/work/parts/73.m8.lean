/-! THE REFERENCE: an advertisement is heard -/
def mAdR (N : zR) (r : Nat) (hops by_ : Int32) : Int32 := if ¬ hops = 255 then 0 else if ¬ N 43 40 = 12 then 0 else if ¬ N 39 0 = 49 then 0 else if ¬ N 39 1 = N 2 (10 * r + 3) then 0 else if ¬ (mTold N 8 4).toInt32 = N 2 (10 * r + 5) then 0 else if ¬ N 39 3 = 1 then 0 else if ¬ mSum (N 39) by_ = 65535 then 0 else if N 2 (10 * r) = 255 then 0 else 1
def mAd1 (N : zR) (r : Nat) : zR := u2 N 7 r (N 7 r + 1)
def mAdI (N : zR) : Int32 := mMax 1 ((mTold N 4 2).toInt32 &&& 4095)
def mAdK (N : zR) (r : Nat) : zR := u2 (u2 N 5 r (mAdI N)) 4 r (mMax 1 (3 * u2 N 5 r (mAdI N) 5 r + mSkew (u2 N 5 r (mAdI N)) r))
def mAdB (N : zR) (r : Nat) : zR := if N 39 2 = 0 then u2 N 4 r (mMax 1 (mSkew N r)) else if N 2 (10 * r + 2) = 0 then mAdK N r else if N 39 2 < mWeighed N r then N else mAdK N r
def mHigh (N : zR) (r : Nat) (by_ : Int32) : Int32 := if mWeighed N r < N 39 2 then 1 else if ¬ N 39 2 = mWeighed N r then 0 else if lg_cmp (by_.toInt64 &&& 4294967295) ((N 2 (10 * r + 4)).toInt64 &&& 4294967295) ≤ 0 then 0 else 1
def mAdA (N : zR) (r : Nat) (by_ : Int32) : zR := if N 39 2 = 0 then u2 (mAdv N r (mWeighed N r)) 4 r (mAdv N r (mWeighed N r) 2 (10 * r + 1)) else if mHigh N r by_ = 0 then mAdv N r (mWeighed N r) else mBack (u2 N 5 r (mAdI N)) r
def mAdT (N : zR) (r : Nat) (by_ : Int32) : zR := if N 3 r = 1 then mAdB N r else mAdA N r by_
def mAdS (N : zR) (r : Nat) (hops by_ : Int32) : zR := if mAdR N r hops by_ = 0 then N else mAdT (mAd1 N r) r by_
set_option maxRecDepth 100000 in
set_option maxHeartbeats 4000000 in
theorem c_M_advertised {l : Launch} {G : zG} {U : zU} (w : wR G U) (N : zR) (r : Nat) (hr5 : r < 5) (hops by_ : Int32) (hI : InvR N) (hB : Byt (N 39) 12) : zF l y_M_advertised b_M_advertised 8 (some .boolean) 4 88 G [.ref (U.1 43), .int (nI r), .int hops, .int by_] (eR U N) (some (.int (mAdR N r hops by_))) (eR U (mAdS N r hops by_)) := by
  refine zF.ofZ (by decide) w.2.2.2.2 (Nat.le_of_ble_eq_true rfl) (fun X hXl hN hr C => ?_)
  subst hXl
  show Z X G (zA G) 8 _ (eR U N) 0 [(0, .ref (U.1 43)), (1, .int (nI r)), (2, .int hops), (3, .int by_)] []
  refine Z_iload_n C 2 d_M_advertised_0 rfl rfl ?_
  refine Z_sipush (v := 255) C d_M_advertised_1 (by decide) ?_
  refine Z_icmp_ne (tgt := 59) C d_M_advertised_4 (by decide) (fun c4 => ?_) (fun c4 => ?_)
  · skip
    refine Z_iconst (v := 0) C d_M_advertised_59 (by decide) ?_
    exact Z_zret C hN hr (by decide) d_M_advertised_60 (by simp [mAdR, c4]) (zeq (by apply eR_N; simp [mAdS, mAdR, c4]))
  · skip
    refine Z_aload_n C 0 d_M_advertised_7 rfl rfl ?_
    refine R_get C w 40 (by decide) fl_M_192 rfl rfl d_M_advertised_8 ?_
    refine Z_bipush (v := 12) C d_M_advertised_11 (by decide) ?_
    refine Z_icmp_ne (tgt := 59) C d_M_advertised_13 (by decide) (fun c13 => ?_) (fun c13 => ?_)
    · skip
      refine Z_iconst (v := 0) C d_M_advertised_59 (by decide) ?_
      exact Z_zret C hN hr (by decide) d_M_advertised_60 (by simp [mAdR, c4, c13]) (zeq (by apply eR_N; simp [mAdS, mAdR, c4, c13]))
    · skip
      refine Z_aload_n C 0 d_M_advertised_16 rfl rfl ?_
      refine R_get C w 39 (by decide) fl_M_116 rfl rfl d_M_advertised_17 ?_
      refine Z_iconst (v := 0) C d_M_advertised_20 (by decide) ?_
      refine R_ld 39 C w rfl rfl 0 (by decide) (by unfold vp_in; decide) d_M_advertised_21 ?_
      refine Z_bipush (v := 49) C d_M_advertised_22 (by decide) ?_
      refine Z_icmp_ne (tgt := 59) C d_M_advertised_24 (by decide) (fun c24 => ?_) (fun c24 => ?_)
      · skip
        refine Z_iconst (v := 0) C d_M_advertised_59 (by decide) ?_
        exact Z_zret C hN hr (by decide) d_M_advertised_60 (by simp [mAdR, c4, c13, c24]) (zeq (by apply eR_N; simp [mAdS, mAdR, c4, c13, c24]))
      · skip
        refine Z_aload_n C 0 d_M_advertised_27 rfl rfl ?_
        refine R_get C w 39 (by decide) fl_M_116 rfl rfl d_M_advertised_28 ?_
        refine Z_iconst (v := 1) C d_M_advertised_31 (by decide) ?_
        refine R_ld 39 C w rfl rfl 1 (by decide) (by unfold vp_in; decide) d_M_advertised_32 ?_
        refine Z_aload_n C 0 d_M_advertised_33 rfl rfl ?_
        refine Z_iload_n C 1 d_M_advertised_34 rfl rfl ?_
        refine Z_iconst (v := 3) C d_M_advertised_35 (by decide) ?_
        refine C_cMv C w mi_M_is ml_M_143 (c_M_is w _ r 3 (by assumption) (by decide)) rfl rfl (by decide) rfl (Nat.le_of_ble_eq_true rfl) d_M_advertised_36 ?_
        refine Z_icmp_ne (tgt := 59) C d_M_advertised_39 (by decide) (fun c39 => ?_) (fun c39 => ?_)
        · skip
          refine Z_iconst (v := 0) C d_M_advertised_59 (by decide) ?_
          exact Z_zret C hN hr (by decide) d_M_advertised_60 (by simp [mAdR, c4, c13, c24, c39]) (zeq (by apply eR_N; simp [mAdS, mAdR, c4, c13, c24, c39]))
        · skip
          refine Z_aload_n C 0 d_M_advertised_42 rfl rfl ?_
          refine Z_bipush (v := 8) C d_M_advertised_43 (by decide) ?_
          refine Z_iconst (v := 4) C d_M_advertised_45 (by decide) ?_
          refine C_cMv C w mi_M_told ml_M_195 (c_M_told w _ 8 4 (by decide)) rfl rfl (by decide) rfl (Nat.le_of_ble_eq_true rfl) d_M_advertised_46 ?_
          refine Z_l2i C d_M_advertised_49 ?_
          refine Z_aload_n C 0 d_M_advertised_50 rfl rfl ?_
          refine Z_iload_n C 1 d_M_advertised_51 rfl rfl ?_
          refine Z_iconst (v := 5) C d_M_advertised_52 (by decide) ?_
          refine C_cMv C w mi_M_is ml_M_143 (c_M_is w _ r 5 (by assumption) (by decide)) rfl rfl (by decide) rfl (Nat.le_of_ble_eq_true rfl) d_M_advertised_53 ?_
          refine Z_icmp_eq (tgt := 61) C d_M_advertised_56 (by decide) (fun c56 => ?_) (fun c56 => ?_)
          · skip
            refine Z_aload_n C 0 d_M_advertised_61 rfl rfl ?_
            refine R_get C w 39 (by decide) fl_M_116 rfl rfl d_M_advertised_62 ?_
            refine Z_iconst (v := 3) C d_M_advertised_65 (by decide) ?_
            refine R_ld 39 C w rfl rfl 3 (by decide) (by unfold vp_in; decide) d_M_advertised_66 ?_
            refine Z_iconst (v := 1) C d_M_advertised_67 (by decide) ?_
            refine Z_icmp_ne (tgt := 96) C d_M_advertised_68 (by decide) (fun c68 => ?_) (fun c68 => ?_)
            · skip
              refine Z_iconst (v := 0) C d_M_advertised_96 (by decide) ?_
              exact Z_zret C hN hr (by decide) d_M_advertised_97 (by simp [mAdR, c4, c13, c24, c39, c56, c68]) (zeq (by apply eR_N; simp [mAdS, mAdR, c4, c13, c24, c39, c56, c68]))
            · skip
              refine Z_aload_n C 0 d_M_advertised_71 rfl rfl ?_
              refine R_get C w 39 (by decide) fl_M_116 rfl rfl d_M_advertised_72 ?_
              refine Z_iload_n C 3 d_M_advertised_75 rfl rfl ?_
              refine C_csv C ms_M_sum ml_M_169 (c_M_sum39 w N by_ hB) rfl (by decide) rfl (Nat.le_of_ble_eq_true rfl) d_M_advertised_76 ?_
              refine Z_ldc C co_M_160 d_M_advertised_79 ?_
              refine Z_icmp_ne (tgt := 96) C d_M_advertised_81 (by decide) (fun c81 => ?_) (fun c81 => ?_)
              · skip
                refine Z_iconst (v := 0) C d_M_advertised_96 (by decide) ?_
                exact Z_zret C hN hr (by decide) d_M_advertised_97 (by simp [mAdR, c4, c13, c24, c39, c56, c68, c81]) (zeq (by apply eR_N; simp [mAdS, mAdR, c4, c13, c24, c39, c56, c68, c81]))
              · skip
                refine Z_aload_n C 0 d_M_advertised_84 rfl rfl ?_
                refine Z_iload_n C 1 d_M_advertised_85 rfl rfl ?_
                refine Z_iconst (v := 0) C d_M_advertised_86 (by decide) ?_
                refine C_cMv C w mi_M_is ml_M_143 (c_M_is w _ r 0 (by assumption) (by decide)) rfl rfl (by decide) rfl (Nat.le_of_ble_eq_true rfl) d_M_advertised_87 ?_
                refine Z_sipush (v := 255) C d_M_advertised_90 (by decide) ?_
                refine Z_icmp_ne (tgt := 98) C d_M_advertised_93 (by decide) (fun c93 => ?_) (fun c93 => ?_)
                · have c93 : ¬ N 2 (10 * r) = 255 := c93
                  have hR : mAdR N r hops by_ = 1 := by simp [mAdR, c4, c13, c24, c39, c56, c68, c81, c93]
                  refine Z_aload_n C 0 d_M_advertised_98 rfl rfl ?_
                  refine R_get C w 7 (by decide) fl_M_25 rfl rfl d_M_advertised_99 ?_
                  refine Z_iload_n C 1 d_M_advertised_102 rfl rfl ?_
                  refine Z_dup2_11 C d_M_advertised_103 rfl rfl ?_
                  refine R_ld 7 C w rfl rfl r (nI_clamp (by omega)) (vp_in_nI (n := r) (N := 5) (by omega) (by decide)) d_M_advertised_104 ?_
                  refine Z_iconst (v := 1) C d_M_advertised_105 (by decide) ?_
                  refine Z_iadd C d_M_advertised_106 ?_
                  refine R_st 7 C w rfl rfl r (nI_clamp (by omega)) (vp_in_nI (n := r) (N := 5) (by omega) (by decide)) d_M_advertised_107 ?_
                  obtain ⟨N1, hN1⟩ : ∃ N1, N1 = mAd1 N r := ⟨_, rfl⟩
                  have hI1 : InvR N1 := by rw [hN1]; exact hI.of rfl
                  refine Z_imp (zeq (show eR U (u2 N 7 r (N 7 r + 1)) = eR U N1 from by rw [hN1]; rfl)) ?_
                  refine Z_aload_n C 0 d_M_advertised_108 rfl rfl ?_
                  refine R_get C w 39 (by decide) fl_M_116 rfl rfl d_M_advertised_109 ?_
                  refine Z_iconst (v := 2) C d_M_advertised_112 (by decide) ?_
                  refine R_ld 39 C w rfl rfl 2 (by decide) (by unfold vp_in; decide) d_M_advertised_113 ?_
                  refine Z_istore C d_M_advertised_114 (by decide) rfl ?_
                  refine Z_aload_n C 1 d_M_advertised_116 rfl rfl ?_
                  refine Z_iconst (v := 4) C d_M_advertised_117 (by decide) ?_
                  refine Z_iconst (v := 2) C d_M_advertised_118 (by decide) ?_
                  refine C_cMv C w mi_M_told ml_M_195 (c_M_told w _ 4 2 (by decide)) rfl rfl (by decide) rfl (Nat.le_of_ble_eq_true rfl) d_M_advertised_119 ?_
                  refine Z_l2i C d_M_advertised_122 ?_
                  refine Z_sipush (v := 4095) C d_M_advertised_123 (by decide) ?_
                  refine Z_iand C d_M_advertised_126 ?_
                  refine C_csv C ms_M_atLeastOne ml_M_183 (c_M_atLeastOne w _ _) rfl (by decide) rfl (Nat.le_of_ble_eq_true rfl) d_M_advertised_127 ?_
                  refine Z_istore C d_M_advertised_130 (by decide) rfl ?_
                  refine Z_aload_n C 2 d_M_advertised_132 rfl rfl ?_
                  refine R_get C w 3 (by decide) fl_M_13 rfl rfl d_M_advertised_133 ?_
                  refine Z_iload_n C 3 d_M_advertised_136 rfl rfl ?_
                  refine R_ld 3 C w rfl rfl r (nI_clamp (by omega)) (vp_in_nI (n := r) (N := 5) (by omega) (by decide)) d_M_advertised_137 ?_
                  refine Z_iconst (v := 1) C d_M_advertised_138 (by decide) ?_
                  refine Z_icmp_ne (tgt := 216) C d_M_advertised_139 (by decide) (fun c139 => ?_) (fun c139 => ?_)
                  · skip
                    refine Z_aload_n C 2 d_M_advertised_216 rfl rfl ?_
                    refine Z_iload_n C 3 d_M_advertised_217 rfl rfl ?_
                    refine C_cMv C w mi_M_weighed ml_M_156 (c_M_weighed w _ r hr5) rfl rfl (by decide) rfl (Nat.le_of_ble_eq_true rfl) d_M_advertised_218 ?_
                    refine Z_istore C d_M_advertised_221 (by decide) rfl ?_
                    refine Z_iload C 2 d_M_advertised_223 rfl ?_
                    refine Z_iload C 0 d_M_advertised_225 rfl ?_
                    refine Z_icmp_gt (tgt := 258) C d_M_advertised_227 (by decide) (fun c227 => ?_) (fun c227 => ?_)
                    · skip
                      refine Z_iconst (v := 1) C d_M_advertised_258 (by decide) ?_
                      refine Z_goto (tgt := 263) C d_M_advertised_259 (by decide) ?_
                      refine zst (st' := [.int (mHigh N1 r by_)]) (by simp [mHigh, c227]) ?_
                      refine Z_istore C d_M_advertised_263 (by decide) rfl ?_
                      refine Z_iload C 3 d_M_advertised_265 rfl ?_
                      refine Z_if_ne (tgt := 292) C d_M_advertised_267 (by decide) (fun c267 => ?_) (fun c267 => ?_)
                      · skip
                        refine Z_iload C 0 d_M_advertised_292 rfl ?_
                        refine Z_if_eq (tgt := 313) C d_M_advertised_294 (by decide) (fun c294 => ?_) (fun c294 => ?_)
                        · skip
                          refine Z_aload_n C 4 d_M_advertised_313 rfl rfl ?_
                          refine Z_iload_n C 5 d_M_advertised_314 rfl rfl ?_
                          refine Z_iload C 1 d_M_advertised_315 rfl ?_
                          refine C_cMn C w mi_M_advertise ml_M_177 (c_M_advertise w N1 r hr5 _ hI1) rfl rfl (by decide) rfl (Nat.le_of_ble_eq_true rfl) d_M_advertised_317 ?_
                          refine Z_iconst (v := 1) C d_M_advertised_320 (by decide) ?_
                          exact Z_zret C hN hr (by decide) d_M_advertised_321 (by rw [hR]) (zeq (by apply eR_N; unfold mAdS; rw [hR, if_neg (by decide), ← hN1]; simp [mAdT, mAdB, mAdA, mAdK, mAdI, c139, c267, c294]))
                        · skip
                          refine Z_aload_n C 4 d_M_advertised_297 rfl rfl ?_
                          refine R_get C w 5 (by decide) fl_M_19 rfl rfl d_M_advertised_298 ?_
                          refine Z_iload_n C 5 d_M_advertised_301 rfl rfl ?_
                          refine Z_iload C 2 d_M_advertised_302 rfl ?_
                          refine R_st 5 C w rfl rfl r (nI_clamp (by omega)) (vp_in_nI (n := r) (N := 5) (by omega) (by decide)) d_M_advertised_304 ?_
                          refine Z_aload_n C 4 d_M_advertised_305 rfl rfl ?_
                          refine Z_iload_n C 5 d_M_advertised_306 rfl rfl ?_
                          refine C_cMn C w mi_M_beBackup ml_M_189 (c_M_beBackup w _ r hr5) rfl rfl (by decide) rfl (Nat.le_of_ble_eq_true rfl) d_M_advertised_307 ?_
                          refine Z_goto (tgt := 320) C d_M_advertised_310 (by decide) ?_
                          refine Z_iconst (v := 1) C d_M_advertised_320 (by decide) ?_
                          exact Z_zret C hN hr (by decide) d_M_advertised_321 (by rw [hR]) (zeq (by apply eR_N; unfold mAdS; rw [hR, if_neg (by decide), ← hN1]; simp [mAdT, mAdB, mAdA, mAdK, mAdI, c139, c267, c294]))
                      · skip
                        refine Z_aload_n C 4 d_M_advertised_270 rfl rfl ?_
                        refine Z_iload_n C 5 d_M_advertised_271 rfl rfl ?_
                        refine Z_iload C 1 d_M_advertised_272 rfl ?_
                        refine C_cMn C w mi_M_advertise ml_M_177 (c_M_advertise w N1 r hr5 _ hI1) rfl rfl (by decide) rfl (Nat.le_of_ble_eq_true rfl) d_M_advertised_274 ?_
                        refine Z_aload_n C 4 d_M_advertised_277 rfl rfl ?_
                        refine R_get C w 4 (by decide) fl_M_16 rfl rfl d_M_advertised_278 ?_
                        refine Z_iload_n C 5 d_M_advertised_281 rfl rfl ?_
                        refine Z_aload_n C 4 d_M_advertised_282 rfl rfl ?_
                        refine Z_iload_n C 5 d_M_advertised_283 rfl rfl ?_
                        refine Z_iconst (v := 1) C d_M_advertised_284 (by decide) ?_
                        refine C_cMv C w mi_M_is ml_M_143 (c_M_is w _ r 1 (by assumption) (by decide)) rfl rfl (by decide) rfl (Nat.le_of_ble_eq_true rfl) d_M_advertised_285 ?_
                        refine R_st 4 C w rfl rfl r (nI_clamp (by omega)) (vp_in_nI (n := r) (N := 5) (by omega) (by decide)) d_M_advertised_288 ?_
                        refine Z_goto (tgt := 320) C d_M_advertised_289 (by decide) ?_
                        refine Z_iconst (v := 1) C d_M_advertised_320 (by decide) ?_
                        exact Z_zret C hN hr (by decide) d_M_advertised_321 (by rw [hR]) (zeq (by apply eR_N; unfold mAdS; rw [hR, if_neg (by decide), ← hN1]; simp [mAdT, mAdB, mAdA, mAdK, mAdI, c139, c267]))
                    · skip
                      refine Z_iload C 2 d_M_advertised_230 rfl ?_
                      refine Z_iload C 0 d_M_advertised_232 rfl ?_
                      refine Z_icmp_ne (tgt := 262) C d_M_advertised_234 (by decide) (fun c234 => ?_) (fun c234 => ?_)
                      · skip
                        refine Z_iconst (v := 0) C d_M_advertised_262 (by decide) ?_
                        refine zst (st' := [.int (mHigh N1 r by_)]) (by simp [mHigh, c227, c234]) ?_
                        refine Z_istore C d_M_advertised_263 (by decide) rfl ?_
                        refine Z_iload C 3 d_M_advertised_265 rfl ?_
                        refine Z_if_ne (tgt := 292) C d_M_advertised_267 (by decide) (fun c267 => ?_) (fun c267 => ?_)
                        · skip
                          refine Z_iload C 0 d_M_advertised_292 rfl ?_
                          refine Z_if_eq (tgt := 313) C d_M_advertised_294 (by decide) (fun c294 => ?_) (fun c294 => ?_)
                          · skip
                            refine Z_aload_n C 4 d_M_advertised_313 rfl rfl ?_
                            refine Z_iload_n C 5 d_M_advertised_314 rfl rfl ?_
                            refine Z_iload C 1 d_M_advertised_315 rfl ?_
                            refine C_cMn C w mi_M_advertise ml_M_177 (c_M_advertise w N1 r hr5 _ hI1) rfl rfl (by decide) rfl (Nat.le_of_ble_eq_true rfl) d_M_advertised_317 ?_
                            refine Z_iconst (v := 1) C d_M_advertised_320 (by decide) ?_
                            exact Z_zret C hN hr (by decide) d_M_advertised_321 (by rw [hR]) (zeq (by apply eR_N; unfold mAdS; rw [hR, if_neg (by decide), ← hN1]; simp [mAdT, mAdB, mAdA, mAdK, mAdI, c139, c267, c294]))
                          · skip
                            refine Z_aload_n C 4 d_M_advertised_297 rfl rfl ?_
                            refine R_get C w 5 (by decide) fl_M_19 rfl rfl d_M_advertised_298 ?_
                            refine Z_iload_n C 5 d_M_advertised_301 rfl rfl ?_
                            refine Z_iload C 2 d_M_advertised_302 rfl ?_
                            refine R_st 5 C w rfl rfl r (nI_clamp (by omega)) (vp_in_nI (n := r) (N := 5) (by omega) (by decide)) d_M_advertised_304 ?_
                            refine Z_aload_n C 4 d_M_advertised_305 rfl rfl ?_
                            refine Z_iload_n C 5 d_M_advertised_306 rfl rfl ?_
                            refine C_cMn C w mi_M_beBackup ml_M_189 (c_M_beBackup w _ r hr5) rfl rfl (by decide) rfl (Nat.le_of_ble_eq_true rfl) d_M_advertised_307 ?_
                            refine Z_goto (tgt := 320) C d_M_advertised_310 (by decide) ?_
                            refine Z_iconst (v := 1) C d_M_advertised_320 (by decide) ?_
                            exact Z_zret C hN hr (by decide) d_M_advertised_321 (by rw [hR]) (zeq (by apply eR_N; unfold mAdS; rw [hR, if_neg (by decide), ← hN1]; simp [mAdT, mAdB, mAdA, mAdK, mAdI, c139, c267, c294]))
                        · skip
                          refine Z_aload_n C 4 d_M_advertised_270 rfl rfl ?_
                          refine Z_iload_n C 5 d_M_advertised_271 rfl rfl ?_
                          refine Z_iload C 1 d_M_advertised_272 rfl ?_
                          refine C_cMn C w mi_M_advertise ml_M_177 (c_M_advertise w N1 r hr5 _ hI1) rfl rfl (by decide) rfl (Nat.le_of_ble_eq_true rfl) d_M_advertised_274 ?_
                          refine Z_aload_n C 4 d_M_advertised_277 rfl rfl ?_
                          refine R_get C w 4 (by decide) fl_M_16 rfl rfl d_M_advertised_278 ?_
                          refine Z_iload_n C 5 d_M_advertised_281 rfl rfl ?_
                          refine Z_aload_n C 4 d_M_advertised_282 rfl rfl ?_
                          refine Z_iload_n C 5 d_M_advertised_283 rfl rfl ?_
                          refine Z_iconst (v := 1) C d_M_advertised_284 (by decide) ?_
                          refine C_cMv C w mi_M_is ml_M_143 (c_M_is w _ r 1 (by assumption) (by decide)) rfl rfl (by decide) rfl (Nat.le_of_ble_eq_true rfl) d_M_advertised_285 ?_
                          refine R_st 4 C w rfl rfl r (nI_clamp (by omega)) (vp_in_nI (n := r) (N := 5) (by omega) (by decide)) d_M_advertised_288 ?_
                          refine Z_goto (tgt := 320) C d_M_advertised_289 (by decide) ?_
                          refine Z_iconst (v := 1) C d_M_advertised_320 (by decide) ?_
                          exact Z_zret C hN hr (by decide) d_M_advertised_321 (by rw [hR]) (zeq (by apply eR_N; unfold mAdS; rw [hR, if_neg (by decide), ← hN1]; simp [mAdT, mAdB, mAdA, mAdK, mAdI, c139, c267]))
                      · skip
                        refine Z_iload_n C 6 d_M_advertised_237 rfl rfl ?_
                        refine Z_i2l C d_M_advertised_238 ?_
                        refine Z_ldc2 C cl_M_199 d_M_advertised_239 ?_
                        refine Z_land C d_M_advertised_242 ?_
                        refine Z_aload_n C 3 d_M_advertised_243 rfl rfl ?_
                        refine Z_iload_n C 4 d_M_advertised_244 rfl rfl ?_
                        refine Z_iconst (v := 4) C d_M_advertised_245 (by decide) ?_
                        refine C_cMv C w mi_M_is ml_M_143 (c_M_is w _ r 4 (by assumption) (by decide)) rfl rfl (by decide) rfl (Nat.le_of_ble_eq_true rfl) d_M_advertised_246 ?_
                        refine Z_i2l C d_M_advertised_249 ?_
                        refine Z_ldc2 C cl_M_199 d_M_advertised_250 ?_
                        refine Z_land C d_M_advertised_253 ?_
                        refine Z_lcmp C d_M_advertised_254 ?_
                        refine Z_if_le (tgt := 262) C d_M_advertised_255 (by decide) (fun c255 => ?_) (fun c255 => ?_)
                        · skip
                          refine Z_iconst (v := 0) C d_M_advertised_262 (by decide) ?_
                          refine zst (st' := [.int (mHigh N1 r by_)]) (by simp [mHigh, c227, c234, c255]) ?_
                          refine Z_istore C d_M_advertised_263 (by decide) rfl ?_
                          refine Z_iload C 3 d_M_advertised_265 rfl ?_
                          refine Z_if_ne (tgt := 292) C d_M_advertised_267 (by decide) (fun c267 => ?_) (fun c267 => ?_)
                          · skip
                            refine Z_iload C 0 d_M_advertised_292 rfl ?_
                            refine Z_if_eq (tgt := 313) C d_M_advertised_294 (by decide) (fun c294 => ?_) (fun c294 => ?_)
                            · skip
                              refine Z_aload_n C 4 d_M_advertised_313 rfl rfl ?_
                              refine Z_iload_n C 5 d_M_advertised_314 rfl rfl ?_
                              refine Z_iload C 1 d_M_advertised_315 rfl ?_
                              refine C_cMn C w mi_M_advertise ml_M_177 (c_M_advertise w N1 r hr5 _ hI1) rfl rfl (by decide) rfl (Nat.le_of_ble_eq_true rfl) d_M_advertised_317 ?_
                              refine Z_iconst (v := 1) C d_M_advertised_320 (by decide) ?_
                              exact Z_zret C hN hr (by decide) d_M_advertised_321 (by rw [hR]) (zeq (by apply eR_N; unfold mAdS; rw [hR, if_neg (by decide), ← hN1]; simp [mAdT, mAdB, mAdA, mAdK, mAdI, c139, c267, c294]))
                            · skip
                              refine Z_aload_n C 4 d_M_advertised_297 rfl rfl ?_
                              refine R_get C w 5 (by decide) fl_M_19 rfl rfl d_M_advertised_298 ?_
                              refine Z_iload_n C 5 d_M_advertised_301 rfl rfl ?_
                              refine Z_iload C 2 d_M_advertised_302 rfl ?_
                              refine R_st 5 C w rfl rfl r (nI_clamp (by omega)) (vp_in_nI (n := r) (N := 5) (by omega) (by decide)) d_M_advertised_304 ?_
                              refine Z_aload_n C 4 d_M_advertised_305 rfl rfl ?_
                              refine Z_iload_n C 5 d_M_advertised_306 rfl rfl ?_
                              refine C_cMn C w mi_M_beBackup ml_M_189 (c_M_beBackup w _ r hr5) rfl rfl (by decide) rfl (Nat.le_of_ble_eq_true rfl) d_M_advertised_307 ?_
                              refine Z_goto (tgt := 320) C d_M_advertised_310 (by decide) ?_
                              refine Z_iconst (v := 1) C d_M_advertised_320 (by decide) ?_
                              exact Z_zret C hN hr (by decide) d_M_advertised_321 (by rw [hR]) (zeq (by apply eR_N; unfold mAdS; rw [hR, if_neg (by decide), ← hN1]; simp [mAdT, mAdB, mAdA, mAdK, mAdI, c139, c267, c294]))
                          · skip
                            refine Z_aload_n C 4 d_M_advertised_270 rfl rfl ?_
                            refine Z_iload_n C 5 d_M_advertised_271 rfl rfl ?_
                            refine Z_iload C 1 d_M_advertised_272 rfl ?_
                            refine C_cMn C w mi_M_advertise ml_M_177 (c_M_advertise w N1 r hr5 _ hI1) rfl rfl (by decide) rfl (Nat.le_of_ble_eq_true rfl) d_M_advertised_274 ?_
                            refine Z_aload_n C 4 d_M_advertised_277 rfl rfl ?_
                            refine R_get C w 4 (by decide) fl_M_16 rfl rfl d_M_advertised_278 ?_
                            refine Z_iload_n C 5 d_M_advertised_281 rfl rfl ?_
                            refine Z_aload_n C 4 d_M_advertised_282 rfl rfl ?_
                            refine Z_iload_n C 5 d_M_advertised_283 rfl rfl ?_
                            refine Z_iconst (v := 1) C d_M_advertised_284 (by decide) ?_
                            refine C_cMv C w mi_M_is ml_M_143 (c_M_is w _ r 1 (by assumption) (by decide)) rfl rfl (by decide) rfl (Nat.le_of_ble_eq_true rfl) d_M_advertised_285 ?_
                            refine R_st 4 C w rfl rfl r (nI_clamp (by omega)) (vp_in_nI (n := r) (N := 5) (by omega) (by decide)) d_M_advertised_288 ?_
                            refine Z_goto (tgt := 320) C d_M_advertised_289 (by decide) ?_
                            refine Z_iconst (v := 1) C d_M_advertised_320 (by decide) ?_
                            exact Z_zret C hN hr (by decide) d_M_advertised_321 (by rw [hR]) (zeq (by apply eR_N; unfold mAdS; rw [hR, if_neg (by decide), ← hN1]; simp [mAdT, mAdB, mAdA, mAdK, mAdI, c139, c267]))
                        · skip
                          refine Z_iconst (v := 1) C d_M_advertised_258 (by decide) ?_
                          refine Z_goto (tgt := 263) C d_M_advertised_259 (by decide) ?_
                          refine zst (st' := [.int (mHigh N1 r by_)]) (by simp [mHigh, c227, c234, c255]) ?_
                          refine Z_istore C d_M_advertised_263 (by decide) rfl ?_
                          refine Z_iload C 3 d_M_advertised_265 rfl ?_
                          refine Z_if_ne (tgt := 292) C d_M_advertised_267 (by decide) (fun c267 => ?_) (fun c267 => ?_)
                          · skip
                            refine Z_iload C 0 d_M_advertised_292 rfl ?_
                            refine Z_if_eq (tgt := 313) C d_M_advertised_294 (by decide) (fun c294 => ?_) (fun c294 => ?_)
                            · skip
                              refine Z_aload_n C 4 d_M_advertised_313 rfl rfl ?_
                              refine Z_iload_n C 5 d_M_advertised_314 rfl rfl ?_
                              refine Z_iload C 1 d_M_advertised_315 rfl ?_
                              refine C_cMn C w mi_M_advertise ml_M_177 (c_M_advertise w N1 r hr5 _ hI1) rfl rfl (by decide) rfl (Nat.le_of_ble_eq_true rfl) d_M_advertised_317 ?_
                              refine Z_iconst (v := 1) C d_M_advertised_320 (by decide) ?_
                              exact Z_zret C hN hr (by decide) d_M_advertised_321 (by rw [hR]) (zeq (by apply eR_N; unfold mAdS; rw [hR, if_neg (by decide), ← hN1]; simp [mAdT, mAdB, mAdA, mAdK, mAdI, c139, c267, c294]))
                            · skip
                              refine Z_aload_n C 4 d_M_advertised_297 rfl rfl ?_
                              refine R_get C w 5 (by decide) fl_M_19 rfl rfl d_M_advertised_298 ?_
                              refine Z_iload_n C 5 d_M_advertised_301 rfl rfl ?_
                              refine Z_iload C 2 d_M_advertised_302 rfl ?_
                              refine R_st 5 C w rfl rfl r (nI_clamp (by omega)) (vp_in_nI (n := r) (N := 5) (by omega) (by decide)) d_M_advertised_304 ?_
                              refine Z_aload_n C 4 d_M_advertised_305 rfl rfl ?_
                              refine Z_iload_n C 5 d_M_advertised_306 rfl rfl ?_
                              refine C_cMn C w mi_M_beBackup ml_M_189 (c_M_beBackup w _ r hr5) rfl rfl (by decide) rfl (Nat.le_of_ble_eq_true rfl) d_M_advertised_307 ?_
                              refine Z_goto (tgt := 320) C d_M_advertised_310 (by decide) ?_
                              refine Z_iconst (v := 1) C d_M_advertised_320 (by decide) ?_
                              exact Z_zret C hN hr (by decide) d_M_advertised_321 (by rw [hR]) (zeq (by apply eR_N; unfold mAdS; rw [hR, if_neg (by decide), ← hN1]; simp [mAdT, mAdB, mAdA, mAdK, mAdI, c139, c267, c294]))
                          · skip
                            refine Z_aload_n C 4 d_M_advertised_270 rfl rfl ?_
                            refine Z_iload_n C 5 d_M_advertised_271 rfl rfl ?_
                            refine Z_iload C 1 d_M_advertised_272 rfl ?_
                            refine C_cMn C w mi_M_advertise ml_M_177 (c_M_advertise w N1 r hr5 _ hI1) rfl rfl (by decide) rfl (Nat.le_of_ble_eq_true rfl) d_M_advertised_274 ?_
                            refine Z_aload_n C 4 d_M_advertised_277 rfl rfl ?_
                            refine R_get C w 4 (by decide) fl_M_16 rfl rfl d_M_advertised_278 ?_
                            refine Z_iload_n C 5 d_M_advertised_281 rfl rfl ?_
                            refine Z_aload_n C 4 d_M_advertised_282 rfl rfl ?_
                            refine Z_iload_n C 5 d_M_advertised_283 rfl rfl ?_
                            refine Z_iconst (v := 1) C d_M_advertised_284 (by decide) ?_
                            refine C_cMv C w mi_M_is ml_M_143 (c_M_is w _ r 1 (by assumption) (by decide)) rfl rfl (by decide) rfl (Nat.le_of_ble_eq_true rfl) d_M_advertised_285 ?_
                            refine R_st 4 C w rfl rfl r (nI_clamp (by omega)) (vp_in_nI (n := r) (N := 5) (by omega) (by decide)) d_M_advertised_288 ?_
                            refine Z_goto (tgt := 320) C d_M_advertised_289 (by decide) ?_
                            refine Z_iconst (v := 1) C d_M_advertised_320 (by decide) ?_
                            exact Z_zret C hN hr (by decide) d_M_advertised_321 (by rw [hR]) (zeq (by apply eR_N; unfold mAdS; rw [hR, if_neg (by decide), ← hN1]; simp [mAdT, mAdB, mAdA, mAdK, mAdI, c139, c267]))
                  · skip
                    refine Z_iload C 1 d_M_advertised_142 rfl ?_
                    refine Z_if_ne (tgt := 164) C d_M_advertised_144 (by decide) (fun c144 => ?_) (fun c144 => ?_)
                    · skip
                      refine Z_aload_n C 2 d_M_advertised_164 rfl rfl ?_
                      refine Z_iload_n C 3 d_M_advertised_165 rfl rfl ?_
                      refine Z_iconst (v := 2) C d_M_advertised_166 (by decide) ?_
                      refine C_cMv C w mi_M_is ml_M_143 (c_M_is w _ r 2 (by assumption) (by decide)) rfl rfl (by decide) rfl (Nat.le_of_ble_eq_true rfl) d_M_advertised_167 ?_
                      refine Z_if_eq (tgt := 183) C d_M_advertised_170 (by decide) (fun c170 => ?_) (fun c170 => ?_)
                      · skip
                        refine Z_aload_n C 2 d_M_advertised_183 rfl rfl ?_
                        refine R_get C w 5 (by decide) fl_M_19 rfl rfl d_M_advertised_184 ?_
                        refine Z_iload_n C 3 d_M_advertised_187 rfl rfl ?_
                        refine Z_iload C 0 d_M_advertised_188 rfl ?_
                        refine R_st 5 C w rfl rfl r (nI_clamp (by omega)) (vp_in_nI (n := r) (N := 5) (by omega) (by decide)) d_M_advertised_190 ?_
                        refine Z_aload_n C 2 d_M_advertised_191 rfl rfl ?_
                        refine R_get C w 4 (by decide) fl_M_16 rfl rfl d_M_advertised_192 ?_
                        refine Z_iload_n C 3 d_M_advertised_195 rfl rfl ?_
                        refine Z_iconst (v := 3) C d_M_advertised_196 (by decide) ?_
                        refine Z_aload_n C 2 d_M_advertised_197 rfl rfl ?_
                        refine R_get C w 5 (by decide) fl_M_19 rfl rfl d_M_advertised_198 ?_
                        refine Z_iload_n C 3 d_M_advertised_201 rfl rfl ?_
                        refine R_ld 5 C w rfl rfl r (nI_clamp (by omega)) (vp_in_nI (n := r) (N := 5) (by omega) (by decide)) d_M_advertised_202 ?_
                        refine Z_imul C d_M_advertised_203 ?_
                        refine Z_aload_n C 2 d_M_advertised_204 rfl rfl ?_
                        refine Z_iload_n C 3 d_M_advertised_205 rfl rfl ?_
                        refine C_cMv C w mi_M_skew ml_M_180 (c_M_skew w _ r hr5) rfl rfl (by decide) rfl (Nat.le_of_ble_eq_true rfl) d_M_advertised_206 ?_
                        refine Z_iadd C d_M_advertised_209 ?_
                        refine C_csv C ms_M_atLeastOne ml_M_183 (c_M_atLeastOne w _ _) rfl (by decide) rfl (Nat.le_of_ble_eq_true rfl) d_M_advertised_210 ?_
                        refine R_st 4 C w rfl rfl r (nI_clamp (by omega)) (vp_in_nI (n := r) (N := 5) (by omega) (by decide)) d_M_advertised_213 ?_
                        refine Z_iconst (v := 1) C d_M_advertised_214 (by decide) ?_
                        exact Z_zret C hN hr (by decide) d_M_advertised_215 (by rw [hR]) (zeq (by apply eR_N; unfold mAdS; rw [hR, if_neg (by decide), ← hN1]; simp [mAdT, mAdB, mAdA, mAdK, mAdI, c139, c144, c170]))
                      · skip
                        refine Z_iload C 1 d_M_advertised_173 rfl ?_
                        refine Z_aload_n C 2 d_M_advertised_175 rfl rfl ?_
                        refine Z_iload_n C 3 d_M_advertised_176 rfl rfl ?_
                        refine C_cMv C w mi_M_weighed ml_M_156 (c_M_weighed w _ r hr5) rfl rfl (by decide) rfl (Nat.le_of_ble_eq_true rfl) d_M_advertised_177 ?_
                        refine Z_icmp_lt (tgt := 214) C d_M_advertised_180 (by decide) (fun c180 => ?_) (fun c180 => ?_)
                        · skip
                          refine Z_iconst (v := 1) C d_M_advertised_214 (by decide) ?_
                          exact Z_zret C hN hr (by decide) d_M_advertised_215 (by rw [hR]) (zeq (by apply eR_N; unfold mAdS; rw [hR, if_neg (by decide), ← hN1]; simp [mAdT, mAdB, mAdA, mAdK, mAdI, c139, c144, c170, c180]))
                        · skip
                          refine Z_aload_n C 2 d_M_advertised_183 rfl rfl ?_
                          refine R_get C w 5 (by decide) fl_M_19 rfl rfl d_M_advertised_184 ?_
                          refine Z_iload_n C 3 d_M_advertised_187 rfl rfl ?_
                          refine Z_iload C 0 d_M_advertised_188 rfl ?_
                          refine R_st 5 C w rfl rfl r (nI_clamp (by omega)) (vp_in_nI (n := r) (N := 5) (by omega) (by decide)) d_M_advertised_190 ?_
                          refine Z_aload_n C 2 d_M_advertised_191 rfl rfl ?_
                          refine R_get C w 4 (by decide) fl_M_16 rfl rfl d_M_advertised_192 ?_
                          refine Z_iload_n C 3 d_M_advertised_195 rfl rfl ?_
                          refine Z_iconst (v := 3) C d_M_advertised_196 (by decide) ?_
                          refine Z_aload_n C 2 d_M_advertised_197 rfl rfl ?_
                          refine R_get C w 5 (by decide) fl_M_19 rfl rfl d_M_advertised_198 ?_
                          refine Z_iload_n C 3 d_M_advertised_201 rfl rfl ?_
                          refine R_ld 5 C w rfl rfl r (nI_clamp (by omega)) (vp_in_nI (n := r) (N := 5) (by omega) (by decide)) d_M_advertised_202 ?_
                          refine Z_imul C d_M_advertised_203 ?_
                          refine Z_aload_n C 2 d_M_advertised_204 rfl rfl ?_
                          refine Z_iload_n C 3 d_M_advertised_205 rfl rfl ?_
                          refine C_cMv C w mi_M_skew ml_M_180 (c_M_skew w _ r hr5) rfl rfl (by decide) rfl (Nat.le_of_ble_eq_true rfl) d_M_advertised_206 ?_
                          refine Z_iadd C d_M_advertised_209 ?_
                          refine C_csv C ms_M_atLeastOne ml_M_183 (c_M_atLeastOne w _ _) rfl (by decide) rfl (Nat.le_of_ble_eq_true rfl) d_M_advertised_210 ?_
                          refine R_st 4 C w rfl rfl r (nI_clamp (by omega)) (vp_in_nI (n := r) (N := 5) (by omega) (by decide)) d_M_advertised_213 ?_
                          refine Z_iconst (v := 1) C d_M_advertised_214 (by decide) ?_
                          exact Z_zret C hN hr (by decide) d_M_advertised_215 (by rw [hR]) (zeq (by apply eR_N; unfold mAdS; rw [hR, if_neg (by decide), ← hN1]; simp [mAdT, mAdB, mAdA, mAdK, mAdI, c139, c144, c170, c180]))
                    · skip
                      refine Z_aload_n C 2 d_M_advertised_147 rfl rfl ?_
                      refine R_get C w 4 (by decide) fl_M_16 rfl rfl d_M_advertised_148 ?_
                      refine Z_iload_n C 3 d_M_advertised_151 rfl rfl ?_
                      refine Z_aload_n C 2 d_M_advertised_152 rfl rfl ?_
                      refine Z_iload_n C 3 d_M_advertised_153 rfl rfl ?_
                      refine C_cMv C w mi_M_skew ml_M_180 (c_M_skew w _ r hr5) rfl rfl (by decide) rfl (Nat.le_of_ble_eq_true rfl) d_M_advertised_154 ?_
                      refine C_csv C ms_M_atLeastOne ml_M_183 (c_M_atLeastOne w _ _) rfl (by decide) rfl (Nat.le_of_ble_eq_true rfl) d_M_advertised_157 ?_
                      refine R_st 4 C w rfl rfl r (nI_clamp (by omega)) (vp_in_nI (n := r) (N := 5) (by omega) (by decide)) d_M_advertised_160 ?_
                      refine Z_goto (tgt := 214) C d_M_advertised_161 (by decide) ?_
                      refine Z_iconst (v := 1) C d_M_advertised_214 (by decide) ?_
                      exact Z_zret C hN hr (by decide) d_M_advertised_215 (by rw [hR]) (zeq (by apply eR_N; unfold mAdS; rw [hR, if_neg (by decide), ← hN1]; simp [mAdT, mAdB, mAdA, mAdK, mAdI, c139, c144]))
                · have c93 : N 2 (10 * r) = 255 := c93
                  refine Z_iconst (v := 0) C d_M_advertised_96 (by decide) ?_
                  exact Z_zret C hN hr (by decide) d_M_advertised_97 (by simp [mAdR, c4, c13, c24, c39, c56, c68, c81, c93]) (zeq (by apply eR_N; simp [mAdS, mAdR, c4, c13, c24, c39, c56, c68, c81, c93]))
          · skip
            refine Z_iconst (v := 0) C d_M_advertised_59 (by decide) ?_
            exact Z_zret C hN hr (by decide) d_M_advertised_60 (by simp [mAdR, c4, c13, c24, c39, c56]) (zeq (by apply eR_N; simp [mAdS, mAdR, c4, c13, c24, c39, c56]))

