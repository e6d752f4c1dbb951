/-! THE REFERENCE: all that arrives; a router's work; a tick -/
theorem aL_0 {n f : Nat} {N : zR} (h : fly N ≤ f) : aL (n + 1) f N = N := by show (if fly N ≤ f then N else _) = N; rw [if_pos h]
theorem aL_1 {n f : Nat} {N : zR} (h : f < fly N) (hd : ¬ N 29 f = N 43 1) : aL (n + 1) f N = aL n (f + 1) N := by show (if fly N ≤ f then N else if ¬ N 29 f = N 43 1 then aL n (f + 1) N else aL n f (mArr N f)) = _; rw [if_neg (by omega), if_pos hd]
theorem aL_2 {n f : Nat} {N : zR} (h : f < fly N) (hd : N 29 f = N 43 1) : aL (n + 1) f N = aL n f (mArr N f) := by show (if fly N ≤ f then N else if ¬ N 29 f = N 43 1 then aL n (f + 1) N else aL n f (mArr N f)) = _; rw [if_neg (by omega), if_neg (fun z => z hd)]
def wk1 (N : zR) (r : Nat) : zR := if N 4 r ≤ 0 then N else if ¬ u2 N 4 r (N 4 r - 1) 4 r = 0 then u2 N 4 r (N 4 r - 1) else mTF (u2 N 4 r (N 4 r - 1)) r
def ws1 (N : zR) (i : Nat) : zR := if N 26 i ≤ 0 then N else if ¬ u2 N 26 i (N 26 i - 1) 26 i = 0 then u2 N 26 i (N 26 i - 1) else mFires (u2 N 26 i (N 26 i - 1)) i
def ws2 (N : zR) (r s i : Nat) : zR := if N 25 i ≤ 0 then N else if ¬ u2 N 25 i (N 25 i - 1) 25 i = 0 then u2 N 25 i (N 25 i - 1) else mSet (mPk (u2 N 25 i (N 25 i - 1)) r s (if u2 N 25 i (N 25 i - 1) 24 i = 0 then 0 else 32)) i
def wqS (N : zR) (r s : Nat) : zR := if N 11 (5 * r + s) = 0 then N else ws2 (ws1 N (5 * r + s)) r s (5 * r + s)
def wsL (r : Nat) : Nat → Nat → zR → zR
  | 0, _, N => N
  | n + 1, s, N => wsL r n (s + 1) (wqS N r s)
def mWork (N : zR) (r : Nat) : zR := if N 3 r = 0 then N else wsL r 5 0 (wk1 N r)
theorem go_wk1 {N : zR} {r : Nat} (h : IV N) (hr : r < 5) (h3 : ¬ N 3 r = 0) : Go N (wk1 N r) := by
  unfold wk1
  split
  · exact Go.rf h
  have h1 := go_u (a := 4) (k := r) (v := N 4 r - 1) h rfl
  split
  · exact h1
  · exact h1.tr (go_tf h1.iv hr (by rw [u2_ne (by decide)]; exact h3))
theorem go_ws1 {N : zR} {i : Nat} (h : IV N) : Go N (ws1 N i) := by
  unfold ws1
  split
  · exact Go.rf h
  have h1 := go_u (a := 26) (k := i) (v := N 26 i - 1) h rfl
  split
  · exact h1
  · exact h1.tr (go_fires h1.iv)
theorem go_ws2 {N : zR} {r s i : Nat} (h : IV N) (hr : r < 5) : Go N (ws2 N r s i) := by
  unfold ws2
  split
  · exact Go.rf h
  have h1 := go_u (a := 25) (k := i) (v := N 25 i - 1) h rfl
  split
  · exact h1
  have h2 := h1.tr (go_pk (s := s) (bits := if u2 N 25 i (N 25 i - 1) 24 i = 0 then 0 else 32) h1.iv hr)
  exact h2.tr (go_set h2.iv)
theorem go_wqS {N : zR} {r s : Nat} (h : IV N) (hr : r < 5) : Go N (wqS N r s) := by
  unfold wqS
  split
  · exact Go.rf h
  have h1 := go_ws1 (i := 5 * r + s) h
  exact h1.tr (go_ws2 h1.iv hr)
theorem go_wsL {r : Nat} (hr : r < 5) : ∀ (n s : Nat) {N : zR}, IV N → Go N (wsL r n s N) := by
  intro n
  induction n with
  | zero => intro s N h; exact Go.rf h
  | succ n ih =>
    intro s N h
    have h1 := go_wqS (s := s) h hr
    exact h1.tr (ih (s + 1) h1.iv)
theorem go_work {N : zR} {r : Nat} (h : IV N) (hr : r < 5) : Go N (mWork N r) := by
  unfold mWork
  split
  · exact Go.rf h
  rename_i h3
  have h1 := go_wk1 h hr h3
  exact h1.tr (go_wsL hr 5 0 h1.iv)
def mwL : Nat → Nat → zR → zR
  | 0, _, N => N
  | n + 1, r, N => mwL n (r + 1) (mWork N r)
theorem go_mwL : ∀ (n r : Nat) {N : zR}, IV N → r + n ≤ 5 → Go N (mwL n r N) := by
  intro n
  induction n with
  | zero => intro r N h _; exact Go.rf h
  | succ n ih =>
    intro r N h hr
    have h1 := go_work (r := r) h (by omega)
    exact h1.tr (ih (r + 1) h1.iv (by omega))
def mCk1 (N : zR) : zR := u2 N 43 1 (N 43 1 + 1)
theorem iv_ck {N : zR} (h : IV N) : IV (mCk1 N) := by
  obtain ⟨i1, i2, i3, i4, i5, i6, i7, i8⟩ := h
  exact ⟨i1.of (by unfold mCk1; rw [u2_self, pk_un (by decide)]), i2, i3, i4, i5, i6, i7, by unfold mCk1; rw [u2_self, pk_un (by decide)]; exact i8⟩
def mOne (N : zR) : zR := mwL 5 0 (mAA (mCk1 N))
/-- one tick: the clock moves, all else that Ga speaks of stands -/
theorem one_ok {N : zR} (h : IV N) : IV (mOne N) ∧ mOne N 43 1 = N 43 1 + 1 ∧ mOne N 2 = N 2 ∧ Sm N (mOne N) ∧ ∀ r, mOne N 3 r = 0 ↔ N 3 r = 0 := by
  have h0 := iv_ck h
  have h1 : Ga (mCk1 N) (mAA (mCk1 N)) := ga_aL 3800 0 h0
  have h2 := h1.tr (go_mwL 5 0 h1.1 (by omega)).a
  have e : Sm N (mCk1 N) := ⟨by unfold mCk1; rw [u2_self, pk_un (by decide)], by unfold mCk1; rw [u2_self, pk_un (by decide)], rfl, fun _ => Iff.rfl⟩
  exact ⟨h2.1, h2.2.1.1.trans (by unfold mCk1; rw [u2_self, pk_us]), h2.2.1.2, e.tr h2.2.2.1, fun r => h2.2.2.2 r⟩
def mTi : Nat → zR → zR
  | 0, N => N
  | n + 1, N => mTi n (mOne N)
theorem ti_ok : ∀ (n : Nat) {N : zR}, IV N → IV (mTi n N) ∧ mTi n N 43 1 = N 43 1 + nI n ∧ mTi n N 2 = N 2 ∧ Sm N (mTi n N) ∧ ∀ r, mTi n N 3 r = 0 ↔ N 3 r = 0 := by
  intro n
  induction n with
  | zero => intro N h; exact ⟨h, by show N 43 1 = _ + nI 0; rw [nI_0, Int32.add_zero], rfl, Sm.rf N, fun _ => Iff.rfl⟩
  | succ n ih =>
    intro N h
    have h1 := one_ok h
    have h2 := ih h1.1
    refine ⟨h2.1, ?_, h2.2.2.1.trans h1.2.2.1, h1.2.2.2.1.tr h2.2.2.2.1, fun r => (h2.2.2.2.2 r).trans (h1.2.2.2.2 r)⟩
    show mTi n (mOne N) 43 1 = _
    rw [h2.2.1, h1.2.1, Int32.add_assoc, ← nI_1, Int32.add_comm (1 : Int32)]
set_option maxRecDepth 100000 in
set_option maxHeartbeats 4000000 in
theorem c_M_arriveAll {l : Launch} {G : zG} {U : zU} (w : wR G U) (N : zR) (hI : IV N) : zF l y_M_arriveAll b_M_arriveAll 8 none 6 141 G [.ref (U.1 43)] (eR U N) none (eR U (mAA N)) := by
  refine zF.ofZ (by decide) w.2.2.2.2 (Nat.le_of_ble_eq_true rfl) (fun X hXl hN hr C => ?_)
  subst hXl
  show Z X G (zA G) 8 _ (eR U N) 0 [(0, .ref (U.1 43))] []
  refine Z_iconst (v := 0) C d_M_arriveAll_0 (by decide) ?_
  refine Z_istore_n C d_M_arriveAll_1 rfl (by decide) rfl ?_
  have hlp : ∀ (n f : Nat) (N1 : zR) (ks : List Nat) (lv : List (Nat × Value)), IV N1 → f ≤ fly N1 → 61 * dC N1 f + (60 - f) < n → aL n f N1 = mAA N → lv_pick lv ks = [(1, .int (nI f)), (0, .ref (U.1 43))] → Z X G (zA G) 8 (zQ X G none (eR U (mAA N))) (eR U N1) 2 lv [] := by
    intro n
    induction n with
    | zero => intro f N1 ks lv _ _ h; omega
    | succ n ih =>
      intro f N1 ks lv hI hf hm he hlv
      refine zlv ks hlv ?_
      have hc60 := hI.1.2
      refine Z_iload_n C 0 d_M_arriveAll_2 rfl rfl ?_
      refine Z_aload_n C 1 d_M_arriveAll_3 rfl rfl ?_
      refine R_get C w 28 (by decide) fl_M_147 rfl rfl d_M_arriveAll_4 ?_
      refine Z_icmp_ge (tgt := 160) C d_M_arriveAll_7 (by decide) (fun c7 => ?_) (fun c7 => ?_)
      · have c7 := fl_ge hI.1 (by omega) c7
        exact Z_vret C hN hr d_M_arriveAll_160 rfl (zeq (by apply eR_N; rw [← he, aL_0 c7]))
      · have c7 := fl_lt hI.1 (by omega) c7
        refine Z_aload_n C 1 d_M_arriveAll_10 rfl rfl ?_
        refine R_get C w 29 (by decide) fl_M_89 rfl rfl d_M_arriveAll_11 ?_
        refine Z_iload_n C 0 d_M_arriveAll_14 rfl rfl ?_
        refine R_ld 29 C w rfl rfl f (nI_clamp (by omega)) (vp_in_nI (n := f) (N := 60) (by omega) (by decide)) d_M_arriveAll_15 ?_
        refine Z_aload_n C 1 d_M_arriveAll_16 rfl rfl ?_
        refine R_get C w 1 (by decide) fl_M_150 rfl rfl d_M_arriveAll_17 ?_
        refine Z_icmp_eq (tgt := 29) C d_M_arriveAll_20 (by decide) (fun c20 => ?_) (fun c20 => ?_)
        · skip
          obtain ⟨⟨a, ha, ea⟩, z, hz, ez⟩ := hI.2.2.1 f (by omega)
          have har := arr_ok1 hI c7
          have hae : (N1 31 f).toNatClampNeg = a := by rw [ea]; exact nI_clamp (by omega)
          have hze : (N1 35 f).toNatClampNeg = z := by rw [ez]; exact nI_clamp (by omega)
          refine Z_aload_n C 1 d_M_arriveAll_29 rfl rfl ?_
          refine R_get C w 30 (by decide) fl_M_92 rfl rfl d_M_arriveAll_30 ?_
          refine Z_iload_n C 0 d_M_arriveAll_33 rfl rfl ?_
          refine R_ld 30 C w rfl rfl f (nI_clamp (by omega)) (vp_in_nI (n := f) (N := 60) (by omega) (by decide)) d_M_arriveAll_34 ?_
          refine Z_istore_n C d_M_arriveAll_35 rfl (by decide) rfl ?_
          refine Z_aload_n C 2 d_M_arriveAll_36 rfl rfl ?_
          refine R_get C w 31 (by decide) fl_M_95 rfl rfl d_M_arriveAll_37 ?_
          refine Z_iload_n C 1 d_M_arriveAll_40 rfl rfl ?_
          refine R_ld 31 C w rfl rfl f (nI_clamp (by omega)) (vp_in_nI (n := f) (N := 60) (by omega) (by decide)) d_M_arriveAll_41 ?_
          rw [ea]
          refine Z_istore_n C d_M_arriveAll_42 rfl (by decide) rfl ?_
          refine Z_aload_n C 3 d_M_arriveAll_43 rfl rfl ?_
          refine R_get C w 32 (by decide) fl_M_98 rfl rfl d_M_arriveAll_44 ?_
          refine Z_iload_n C 2 d_M_arriveAll_47 rfl rfl ?_
          refine R_ld 32 C w rfl rfl f (nI_clamp (by omega)) (vp_in_nI (n := f) (N := 60) (by omega) (by decide)) d_M_arriveAll_48 ?_
          refine Z_istore C d_M_arriveAll_49 (by decide) rfl ?_
          refine Z_aload_n C 4 d_M_arriveAll_51 rfl rfl ?_
          refine R_get C w 33 (by decide) fl_M_101 rfl rfl d_M_arriveAll_52 ?_
          refine Z_iload_n C 3 d_M_arriveAll_55 rfl rfl ?_
          refine R_ld 33 C w rfl rfl f (nI_clamp (by omega)) (vp_in_nI (n := f) (N := 60) (by omega) (by decide)) d_M_arriveAll_56 ?_
          refine Z_istore C d_M_arriveAll_57 (by decide) rfl ?_
          refine Z_aload_n C 5 d_M_arriveAll_59 rfl rfl ?_
          refine R_get C w 34 (by decide) fl_M_104 rfl rfl d_M_arriveAll_60 ?_
          refine Z_iload_n C 4 d_M_arriveAll_63 rfl rfl ?_
          refine R_ld 34 C w rfl rfl f (nI_clamp (by omega)) (vp_in_nI (n := f) (N := 60) (by omega) (by decide)) d_M_arriveAll_64 ?_
          refine Z_istore C d_M_arriveAll_65 (by decide) rfl ?_
          refine Z_aload_n C 6 d_M_arriveAll_67 rfl rfl ?_
          refine Z_aload_n C 6 d_M_arriveAll_68 rfl rfl ?_
          refine R_get C w 35 (by decide) fl_M_107 rfl rfl d_M_arriveAll_69 ?_
          refine Z_iload_n C 5 d_M_arriveAll_72 rfl rfl ?_
          refine R_ld 35 C w rfl rfl f (nI_clamp (by omega)) (vp_in_nI (n := f) (N := 60) (by omega) (by decide)) d_M_arriveAll_73 ?_
          refine R_put C w 40 (by decide) fl_M_192 rfl rfl rfl rfl rfl d_M_arriveAll_74 ?_
          refine Z_iconst (v := 0) C d_M_arriveAll_77 (by decide) ?_
          refine Z_istore C d_M_arriveAll_78 (by decide) rfl ?_
          have hrl : ∀ (n r : Nat) (N3 : zR), r + n = 5 → IV N3 → reL (N1 34 f) (N1 30 f) a (N1 32 f) (N1 33 f) n r N3 = mArr N1 f → Z X G (zA G) 8 (zQ X G none (eR U (mAA N))) (eR U N3) 122 [(7, .int (nI r)), (6, .int (N1 34 f)), (5, .int (N1 33 f)), (4, .int (N1 32 f)), (3, .int (nI a)), (2, .int (N1 30 f)), (1, .int (nI f)), (0, .ref (U.1 43))] [] := by
            intro n3
            induction n3 with
            | zero =>
              intro r N3 h1 h2 h3
              obtain rfl : r = 5 := by omega
              refine Z_iload C 0 d_M_arriveAll_122 rfl ?_
              refine Z_iconst (v := 5) C d_M_arriveAll_124 (by decide) ?_
              refine Z_icmp_ge (tgt := 157) C d_M_arriveAll_125 (by decide) (fun c125 => ?_) (fun c125 => ?_)
              · skip
                refine Z_goto (tgt := 2) C d_M_arriveAll_157 (by decide) ?_
                have h3 : N3 = mArr N1 f := h3
                rw [h3]
                exact ih f (mArr N1 f) [6, 7] _ har.1.1 har.2.1 (by have := har.2.2 c20; omega) (by rw [← he, aL_2 c7 c20]) rfl
              · exact absurd (by decide) c125 --stop
            | succ n3 ih3 =>
              intro r N3 h1 h2 h3
              refine Z_iload C 0 d_M_arriveAll_122 rfl ?_
              refine Z_iconst (v := 5) C d_M_arriveAll_124 (by decide) ?_
              refine Z_icmp_ge (tgt := 157) C d_M_arriveAll_125 (by decide) (fun c125 => ?_) (fun c125 => ?_)
              · exact absurd c125 (nI_ge (a := r) (b := 5) (by omega) (by decide)) --stop
              · skip
                refine Z_iload C 1 d_M_arriveAll_128 rfl ?_
                refine Z_iload C 0 d_M_arriveAll_130 rfl ?_
                refine Z_ishr C d_M_arriveAll_132 ?_
                refine Z_iconst (v := 1) C d_M_arriveAll_133 (by decide) ?_
                refine Z_iand C d_M_arriveAll_134 ?_
                refine Z_iconst (v := 1) C d_M_arriveAll_135 (by decide) ?_
                refine Z_icmp_ne (tgt := 151) C d_M_arriveAll_136 (by decide) (fun c136 => ?_) (fun c136 => ?_)
                · skip
                  refine Z_iinc 0 C d_M_arriveAll_151 rfl (nI_1 r) (by decide) rfl ?_
                  refine Z_goto (tgt := 122) C d_M_arriveAll_154 (by decide) ?_
                  exact ih3 (r + 1) _ (by omega) (by first | exact h2 | exact (go_re h2 (by omega) ha).iv) (by rw [← h3]; show _ = reL _ _ _ _ _ n3 (r + 1) _; first | rw [if_pos c136] | rw [if_neg (fun z => z c136)])
                · skip
                  refine Z_aload_n C 7 d_M_arriveAll_139 rfl rfl ?_
                  refine Z_iload C 0 d_M_arriveAll_140 rfl ?_
                  refine Z_iload_n C 5 d_M_arriveAll_142 rfl rfl ?_
                  refine Z_iload_n C 4 d_M_arriveAll_143 rfl rfl ?_
                  refine Z_iload C 3 d_M_arriveAll_144 rfl ?_
                  refine Z_iload C 2 d_M_arriveAll_146 rfl ?_
                  refine C_cMn C w mi_M_reach ml_M_246 (c_M_reach w _ r (by omega) _ a ha _ _ h2.1 (h2.2.2.2.2.2.1.le (by decide))) rfl rfl (by decide) rfl (Nat.le_of_ble_eq_true rfl) d_M_arriveAll_148 ?_
                  refine Z_iinc 0 C d_M_arriveAll_151 rfl (nI_1 r) (by decide) rfl ?_
                  refine Z_goto (tgt := 122) C d_M_arriveAll_154 (by decide) ?_
                  exact ih3 (r + 1) _ (by omega) (by first | exact h2 | exact (go_re h2 (by omega) ha).iv) (by rw [← h3]; show _ = reL _ _ _ _ _ n3 (r + 1) _; first | rw [if_pos c136] | rw [if_neg (fun z => z c136)])
          have hcp : ∀ (n k : Nat) (N2 : zR), k + n = z → N2 43 40 = nI z → N2 43 28 = nI (fly N1) → hcL f n k N2 = mHeard N1 f z → Z X G (zA G) 8 (zQ X G none (eR U (mAA N))) (eR U N2) 80 [(7, .int (nI k)), (6, .int (N1 34 f)), (5, .int (N1 33 f)), (4, .int (N1 32 f)), (3, .int (nI a)), (2, .int (N1 30 f)), (1, .int (nI f)), (0, .ref (U.1 43))] [] := by
            intro n2
            induction n2 with
            | zero =>
              intro k N2 h1 h2 h4 h3
              obtain rfl : k = z := by omega
              have h3 : N2 = mHeard N1 f k := h3
              refine Z_iload C 0 d_M_arriveAll_80 rfl ?_
              refine Z_aload_n C 7 d_M_arriveAll_82 rfl rfl ?_
              refine R_get C w 40 (by decide) fl_M_192 rfl rfl d_M_arriveAll_83 ?_
              refine Z_icmp_ge (tgt := 114) C d_M_arriveAll_86 (by decide) (fun c86 => ?_) (fun c86 => ?_)
              · skip
                refine Z_aload_n C 7 d_M_arriveAll_114 rfl rfl ?_
                refine Z_iload_n C 6 d_M_arriveAll_115 rfl rfl ?_
                refine C_cMn C w mi_M_forget ml_M_243 (c_M_forget w _ f (fly N1) c7 hc60 h4) rfl rfl (by decide) rfl (Nat.le_of_ble_eq_true rfl) d_M_arriveAll_116 ?_
                refine Z_iconst (v := 0) C d_M_arriveAll_119 (by decide) ?_
                refine Z_istore C d_M_arriveAll_120 (by decide) rfl ?_
                refine hrl 5 0 _ rfl ?_ ?_
                · rw [h3, ← hze]
                  have hg := go_heard hI (f := f) (by omega)
                  have := ga_forget (f := f) hg.iv (by rw [fly_heard]; exact c7)
                  rw [fly_heard] at this
                  exact this.1
                · unfold mArr; rw [hae, hze, ← h3]
              · exact absurd (by rw [h2]; exact Int32.le_refl _) c86 --stop
            | succ n2 ih2 =>
              intro k N2 h1 h2 h4 h3
              refine Z_iload C 0 d_M_arriveAll_80 rfl ?_
              refine Z_aload_n C 7 d_M_arriveAll_82 rfl rfl ?_
              refine R_get C w 40 (by decide) fl_M_192 rfl rfl d_M_arriveAll_83 ?_
              refine Z_icmp_ge (tgt := 114) C d_M_arriveAll_86 (by decide) (fun c86 => ?_) (fun c86 => ?_)
              · exact absurd c86 (by rw [h2]; exact nI_ge (a := k) (b := z) (by omega) (by omega)) --stop
              · skip
                refine Z_aload_n C 7 d_M_arriveAll_89 rfl rfl ?_
                refine R_get C w 39 (by decide) fl_M_116 rfl rfl d_M_arriveAll_90 ?_
                refine Z_iload C 0 d_M_arriveAll_93 rfl ?_
                refine Z_aload_n C 7 d_M_arriveAll_95 rfl rfl ?_
                refine R_get C w 36 (by decide) fl_M_110 rfl rfl d_M_arriveAll_96 ?_
                refine Z_bipush (v := 40) C d_M_arriveAll_99 (by decide) ?_
                refine Z_iload_n C 6 d_M_arriveAll_101 rfl rfl ?_
                refine Z_imul C d_M_arriveAll_102 ?_
                refine Z_iload C 0 d_M_arriveAll_103 rfl ?_
                refine Z_iadd C d_M_arriveAll_105 ?_
                refine R_ld 36 C w rfl rfl (40 * f + k) (by rw [ix40]; exact nI_clamp (by omega)) (by rw [ix40]; exact vp_in_nI (n := 40 * f + k) (N := 2400) (by omega) (by decide)) d_M_arriveAll_106 ?_
                refine R_st 39 C w rfl rfl k (nI_clamp (by omega)) (vp_in_nI (n := k) (N := 40) (by omega) (by decide)) d_M_arriveAll_107 ?_
                refine Z_iinc 0 C d_M_arriveAll_108 rfl (nI_1 k) (by decide) rfl ?_
                refine Z_goto (tgt := 80) C d_M_arriveAll_111 (by decide) ?_
                exact ih2 (k + 1) _ (by omega) h2 h4 h3
          exact hcp z 0 _ (by omega) (by rw [u2_self, pk_us]; exact ez) (by rw [u2_self, pk_un (by decide)]; exact hI.1.1) rfl
        · skip
          refine Z_iinc 0 C d_M_arriveAll_23 rfl (nI_1 f) (by decide) rfl ?_
          refine Z_goto (tgt := 2) C d_M_arriveAll_26 (by decide) ?_
          exact ih (f + 1) N1 [0, 1] _ hI (by omega) (by rw [dC_s c7 c20]; omega) (by rw [← he, aL_1 c7 c20]) rfl
  exact hlp 3800 0 N [0, 1] _ hI (Nat.zero_le _) (by have := dn_le (q := N 29) (c := N 43 1) (fly N - 0) 0; have := hI.1.2; unfold dC; omega) rfl rfl
set_option maxRecDepth 100000 in
set_option maxHeartbeats 4000000 in
theorem c_M_work {l : Launch} {G : zG} {U : zU} (w : wR G U) (N : zR) (r : Nat) (hr5 : r < 5) (hI : IV N) : zF l y_M_work b_M_work 4 none 5 114 G [.ref (U.1 43), .int (nI r)] (eR U N) none (eR U (mWork N r)) := by
  refine zF.ofZ (by decide) w.2.2.2.2 (Nat.le_of_ble_eq_true rfl) (fun X hXl hN hr C => ?_)
  subst hXl
  show Z X G (zA G) 4 _ (eR U N) 0 [(0, .ref (U.1 43)), (1, .int (nI r))] []
  refine Z_aload_n C 0 d_M_work_0 rfl rfl ?_
  refine R_get C w 3 (by decide) fl_M_13 rfl rfl d_M_work_1 ?_
  refine Z_iload_n C 1 d_M_work_4 rfl rfl ?_
  refine R_ld 3 C w rfl rfl r (nI_clamp (by omega)) (vp_in_nI (n := r) (N := 5) (by omega) (by decide)) d_M_work_5 ?_
  refine Z_if_ne (tgt := 10) C d_M_work_6 (by decide) (fun c6 => ?_) (fun c6 => ?_)
  · skip
    have hk1 := go_wk1 hI hr5 c6
    have hlp : ∀ (n s : Nat) (N1 : zR) (ks : List Nat) (lv : List (Nat × Value)), s + n = 5 → IV N1 → wsL r n s N1 = mWork N r → lv_pick lv ks = [(2, .int (nI s)), (0, .ref (U.1 43)), (1, .int (nI r))] → Z X G (zA G) 4 (zQ X G none (eR U (mWork N r))) (eR U N1) 45 lv [] := by
      intro n
      induction n with
      | zero =>
        intro s N1 ks lv h1 h2 h3 hlv
        refine zlv ks hlv ?_
        obtain rfl : s = 5 := by omega
        refine Z_iload_n C 0 d_M_work_45 rfl rfl ?_
        refine Z_iconst (v := 5) C d_M_work_46 (by decide) ?_
        refine Z_icmp_ge (tgt := 161) C d_M_work_47 (by decide) (fun c47 => ?_) (fun c47 => ?_)
        · skip
          exact Z_vret C hN hr d_M_work_161 rfl (zeq (by apply eR_N; exact h3))
        · exact absurd (by decide) c47 --stop
      | succ n ih =>
        intro s N1 ks lv h1 h2 h3 hlv
        refine zlv ks hlv ?_
        obtain ⟨i, hi⟩ : ∃ i, i = 5 * r + s := ⟨_, rfl⟩
        refine Z_iload_n C 0 d_M_work_45 rfl rfl ?_
        refine Z_iconst (v := 5) C d_M_work_46 (by decide) ?_
        refine Z_icmp_ge (tgt := 161) C d_M_work_47 (by decide) (fun c47 => ?_) (fun c47 => ?_)
        · exact absurd c47 (nI_ge (a := s) (b := 5) (by omega) (by decide)) --stop
        · skip
          refine Z_iconst (v := 5) C d_M_work_50 (by decide) ?_
          refine Z_iload_n C 2 d_M_work_51 rfl rfl ?_
          refine Z_imul C d_M_work_52 ?_
          refine Z_iload_n C 0 d_M_work_53 rfl rfl ?_
          refine Z_iadd C d_M_work_54 ?_
          refine zst (st' := [.int (nI i)]) (by rw [ix5, hi]) ?_
          have hE : ∀ (N2 : zR) (ks : List Nat) (lv : List (Nat × Value)), N2 = wqS N1 r s → lv_pick lv ks = [(2, .int (nI s)), (0, .ref (U.1 43)), (1, .int (nI r))] → Z X G (zA G) 4 (zQ X G none (eR U (mWork N r))) (eR U N2) 155 lv [] := by
            intro N2 ks lv h4 hlv
            refine zlv ks hlv ?_
            refine Z_iinc 0 C d_M_work_155 rfl (nI_1 s) (by decide) rfl ?_
            refine Z_goto (tgt := 45) C d_M_work_158 (by decide) ?_
            exact ih (s + 1) N2 [0, 1, 2] _ (by omega) (by rw [h4]; exact (go_wqS h2 hr5).iv) (by rw [h4]; exact h3) rfl
          have hM : ∀ (N2 : zR), ¬ N1 11 i = 0 → IV N2 → N2 = ws1 N1 i → Z X G (zA G) 4 (zQ X G none (eR U (mWork N r))) (eR U N2) 101 [(3, .int (nI i)), (2, .int (nI s)), (0, .ref (U.1 43)), (1, .int (nI r))] [] := by
            intro N2 h11 h5 h4
            refine Z_aload_n C 2 d_M_work_101 rfl rfl ?_
            refine R_get C w 25 (by decide) fl_M_80 rfl rfl d_M_work_102 ?_
            refine Z_iload_n C 0 d_M_work_105 rfl rfl ?_
            refine R_ld 25 C w rfl rfl i (nI_clamp (by omega)) (vp_in_nI (n := i) (N := 25) (by omega) (by decide)) d_M_work_106 ?_
            refine Z_if_le (tgt := 155) C d_M_work_107 (by decide) (fun c107 => ?_) (fun c107 => ?_)
            · skip
              exact hE _ [1, 2, 3] _ (by unfold wqS; rw [if_neg (by rw [← hi]; exact h11), ← hi, ← h4]; unfold ws2; first | rw [if_pos c107] | rw [if_neg c107, if_pos c126] | rw [if_neg c107, if_neg (fun z => z c126), if_pos c138] | rw [if_neg c107, if_neg (fun z => z c126), if_neg c138]) rfl
            · skip
              refine Z_aload_n C 2 d_M_work_110 rfl rfl ?_
              refine R_get C w 25 (by decide) fl_M_80 rfl rfl d_M_work_111 ?_
              refine Z_iload_n C 0 d_M_work_114 rfl rfl ?_
              refine Z_dup2_11 C d_M_work_115 rfl rfl ?_
              refine R_ld 25 C w rfl rfl i (nI_clamp (by omega)) (vp_in_nI (n := i) (N := 25) (by omega) (by decide)) d_M_work_116 ?_
              refine Z_iconst (v := 1) C d_M_work_117 (by decide) ?_
              refine Z_isub C d_M_work_118 ?_
              refine R_st 25 C w rfl rfl i (nI_clamp (by omega)) (vp_in_nI (n := i) (N := 25) (by omega) (by decide)) d_M_work_119 ?_
              refine Z_aload_n C 2 d_M_work_120 rfl rfl ?_
              refine R_get C w 25 (by decide) fl_M_80 rfl rfl d_M_work_121 ?_
              refine Z_iload_n C 0 d_M_work_124 rfl rfl ?_
              refine R_ld 25 C w rfl rfl i (nI_clamp (by omega)) (vp_in_nI (n := i) (N := 25) (by omega) (by decide)) d_M_work_125 ?_
              refine Z_if_ne (tgt := 155) C d_M_work_126 (by decide) (fun c126 => ?_) (fun c126 => ?_)
              · skip
                exact hE _ [1, 2, 3] _ (by unfold wqS; rw [if_neg (by rw [← hi]; exact h11), ← hi, ← h4]; unfold ws2; first | rw [if_pos c107] | rw [if_neg c107, if_pos c126] | rw [if_neg c107, if_neg (fun z => z c126), if_pos c138] | rw [if_neg c107, if_neg (fun z => z c126), if_neg c138]) rfl
              · skip
                refine Z_aload_n C 2 d_M_work_129 rfl rfl ?_
                refine Z_iload_n C 3 d_M_work_130 rfl rfl ?_
                refine Z_iload_n C 1 d_M_work_131 rfl rfl ?_
                refine Z_aload_n C 2 d_M_work_132 rfl rfl ?_
                refine R_get C w 24 (by decide) fl_M_77 rfl rfl d_M_work_133 ?_
                refine Z_iload_n C 0 d_M_work_136 rfl rfl ?_
                refine R_zld 24 C w rfl rfl i (nI_clamp (by omega)) (vp_in_nI (n := i) (N := 25) (by omega) (by decide)) d_M_work_137 ?_
                refine Z_if_eq (tgt := 146) C d_M_work_138 (by decide) (fun c138 => ?_) (fun c138 => ?_)
                · skip
                  refine Z_iconst (v := 0) C d_M_work_146 (by decide) ?_
                  refine C_cMn C w mi_M_sendPacket ml_M_232 (c_M_sendPacket w _ r hr5 s (by omega) _ (h5.1.of rfl)) rfl rfl (by decide) rfl (Nat.le_of_ble_eq_true rfl) d_M_work_147 ?_
                  refine Z_aload_n C 2 d_M_work_150 rfl rfl ?_
                  refine Z_iload_n C 0 d_M_work_151 rfl rfl ?_
                  refine C_cMn C w mi_M_setSend ml_M_204 (c_M_setSend w _ i (by omega)) rfl rfl (by decide) rfl (Nat.le_of_ble_eq_true rfl) d_M_work_152 ?_
                  exact hE _ [1, 2, 3] _ (by unfold wqS; rw [if_neg (by rw [← hi]; exact h11), ← hi, ← h4]; unfold ws2; first | rw [if_pos c107] | rw [if_neg c107, if_pos c126] | rw [if_neg c107, if_neg (fun z => z c126), if_pos c138] | rw [if_neg c107, if_neg (fun z => z c126), if_neg c138]) rfl
                · skip
                  refine Z_bipush (v := 32) C d_M_work_141 (by decide) ?_
                  refine Z_goto (tgt := 147) C d_M_work_143 (by decide) ?_
                  refine C_cMn C w mi_M_sendPacket ml_M_232 (c_M_sendPacket w _ r hr5 s (by omega) _ (h5.1.of rfl)) rfl rfl (by decide) rfl (Nat.le_of_ble_eq_true rfl) d_M_work_147 ?_
                  refine Z_aload_n C 2 d_M_work_150 rfl rfl ?_
                  refine Z_iload_n C 0 d_M_work_151 rfl rfl ?_
                  refine C_cMn C w mi_M_setSend ml_M_204 (c_M_setSend w _ i (by omega)) rfl rfl (by decide) rfl (Nat.le_of_ble_eq_true rfl) d_M_work_152 ?_
                  exact hE _ [1, 2, 3] _ (by unfold wqS; rw [if_neg (by rw [← hi]; exact h11), ← hi, ← h4]; unfold ws2; first | rw [if_pos c107] | rw [if_neg c107, if_pos c126] | rw [if_neg c107, if_neg (fun z => z c126), if_pos c138] | rw [if_neg c107, if_neg (fun z => z c126), if_neg c138]) rfl
          refine Z_istore_n C d_M_work_55 rfl (by decide) rfl ?_
          refine Z_aload_n C 2 d_M_work_56 rfl rfl ?_
          refine R_get C w 11 (by decide) fl_M_37 rfl rfl d_M_work_57 ?_
          refine Z_iload_n C 0 d_M_work_60 rfl rfl ?_
          refine R_zld 11 C w rfl rfl i (nI_clamp (by omega)) (vp_in_nI (n := i) (N := 25) (by omega) (by decide)) d_M_work_61 ?_
          refine Z_if_ne (tgt := 68) C d_M_work_62 (by decide) (fun c62 => ?_) (fun c62 => ?_)
          · skip
            refine Z_aload_n C 2 d_M_work_68 rfl rfl ?_
            refine R_get C w 26 (by decide) fl_M_83 rfl rfl d_M_work_69 ?_
            refine Z_iload_n C 0 d_M_work_72 rfl rfl ?_
            refine R_ld 26 C w rfl rfl i (nI_clamp (by omega)) (vp_in_nI (n := i) (N := 25) (by omega) (by decide)) d_M_work_73 ?_
            refine Z_if_le (tgt := 101) C d_M_work_74 (by decide) (fun c74 => ?_) (fun c74 => ?_)
            · skip
              exact hM _ c62 (by first | exact h2 | exact (go_u h2 rfl).iv | exact ((go_u h2 rfl).tr (go_fires (go_u h2 rfl).iv)).iv) (by unfold ws1; first | rw [if_pos c74] | rw [if_neg c74, if_pos c93] | rw [if_neg c74, if_neg (fun z => z c93)])
            · skip
              refine Z_aload_n C 2 d_M_work_77 rfl rfl ?_
              refine R_get C w 26 (by decide) fl_M_83 rfl rfl d_M_work_78 ?_
              refine Z_iload_n C 0 d_M_work_81 rfl rfl ?_
              refine Z_dup2_11 C d_M_work_82 rfl rfl ?_
              refine R_ld 26 C w rfl rfl i (nI_clamp (by omega)) (vp_in_nI (n := i) (N := 25) (by omega) (by decide)) d_M_work_83 ?_
              refine Z_iconst (v := 1) C d_M_work_84 (by decide) ?_
              refine Z_isub C d_M_work_85 ?_
              refine R_st 26 C w rfl rfl i (nI_clamp (by omega)) (vp_in_nI (n := i) (N := 25) (by omega) (by decide)) d_M_work_86 ?_
              refine Z_aload_n C 2 d_M_work_87 rfl rfl ?_
              refine R_get C w 26 (by decide) fl_M_83 rfl rfl d_M_work_88 ?_
              refine Z_iload_n C 0 d_M_work_91 rfl rfl ?_
              refine R_ld 26 C w rfl rfl i (nI_clamp (by omega)) (vp_in_nI (n := i) (N := 25) (by omega) (by decide)) d_M_work_92 ?_
              refine Z_if_ne (tgt := 101) C d_M_work_93 (by decide) (fun c93 => ?_) (fun c93 => ?_)
              · skip
                exact hM _ c62 (by first | exact h2 | exact (go_u h2 rfl).iv | exact ((go_u h2 rfl).tr (go_fires (go_u h2 rfl).iv)).iv) (by unfold ws1; first | rw [if_pos c74] | rw [if_neg c74, if_pos c93] | rw [if_neg c74, if_neg (fun z => z c93)])
              · skip
                refine Z_aload_n C 2 d_M_work_96 rfl rfl ?_
                refine Z_iload_n C 0 d_M_work_97 rfl rfl ?_
                refine C_cMn C w mi_M_detectFires ml_M_253 (c_M_detectFires w _ i (by omega)) rfl rfl (by decide) rfl (Nat.le_of_ble_eq_true rfl) d_M_work_98 ?_
                exact hM _ c62 (by first | exact h2 | exact (go_u h2 rfl).iv | exact ((go_u h2 rfl).tr (go_fires (go_u h2 rfl).iv)).iv) (by unfold ws1; first | rw [if_pos c74] | rw [if_neg c74, if_pos c93] | rw [if_neg c74, if_neg (fun z => z c93)])
          · skip
            refine Z_goto (tgt := 155) C d_M_work_65 (by decide) ?_
            exact hE _ [1, 2, 3] _ (by unfold wqS; rw [if_pos (by rw [← hi]; exact c62)]) rfl
    have hJ : ∀ (N1 : zR) (lv : List (Nat × Value)), N1 = wk1 N r → lv = [(0, .ref (U.1 43)), (1, .int (nI r))] → Z X G (zA G) 4 (zQ X G none (eR U (mWork N r))) (eR U N1) 43 lv [] := by
      intro N1 lv hN1 hlv
      subst hlv
      subst hN1
      refine Z_iconst (v := 0) C d_M_work_43 (by decide) ?_
      refine Z_istore_n C d_M_work_44 rfl (by decide) rfl ?_
      exact hlp 5 0 _ [0, 1, 2] _ rfl (by first | exact hk1.iv | (rw [← hN1]; exact hk1.iv)) (by unfold mWork; rw [if_neg c6]) rfl
    refine Z_aload_n C 0 d_M_work_10 rfl rfl ?_
    refine R_get C w 4 (by decide) fl_M_16 rfl rfl d_M_work_11 ?_
    refine Z_iload_n C 1 d_M_work_14 rfl rfl ?_
    refine R_ld 4 C w rfl rfl r (nI_clamp (by omega)) (vp_in_nI (n := r) (N := 5) (by omega) (by decide)) d_M_work_15 ?_
    refine Z_if_le (tgt := 43) C d_M_work_16 (by decide) (fun c16 => ?_) (fun c16 => ?_)
    · skip
      exact hJ _ _ (by unfold wk1; first | rw [if_pos c16] | rw [if_neg c16, if_pos c35] | rw [if_neg c16, if_neg (fun z => z c35)]) rfl
    · skip
      refine Z_aload_n C 0 d_M_work_19 rfl rfl ?_
      refine R_get C w 4 (by decide) fl_M_16 rfl rfl d_M_work_20 ?_
      refine Z_iload_n C 1 d_M_work_23 rfl rfl ?_
      refine Z_dup2_11 C d_M_work_24 rfl rfl ?_
      refine R_ld 4 C w rfl rfl r (nI_clamp (by omega)) (vp_in_nI (n := r) (N := 5) (by omega) (by decide)) d_M_work_25 ?_
      refine Z_iconst (v := 1) C d_M_work_26 (by decide) ?_
      refine Z_isub C d_M_work_27 ?_
      refine R_st 4 C w rfl rfl r (nI_clamp (by omega)) (vp_in_nI (n := r) (N := 5) (by omega) (by decide)) d_M_work_28 ?_
      refine Z_aload_n C 0 d_M_work_29 rfl rfl ?_
      refine R_get C w 4 (by decide) fl_M_16 rfl rfl d_M_work_30 ?_
      refine Z_iload_n C 1 d_M_work_33 rfl rfl ?_
      refine R_ld 4 C w rfl rfl r (nI_clamp (by omega)) (vp_in_nI (n := r) (N := 5) (by omega) (by decide)) d_M_work_34 ?_
      refine Z_if_ne (tgt := 43) C d_M_work_35 (by decide) (fun c35 => ?_) (fun c35 => ?_)
      · skip
        exact hJ _ _ (by unfold wk1; first | rw [if_pos c16] | rw [if_neg c16, if_pos c35] | rw [if_neg c16, if_neg (fun z => z c35)]) rfl
      · skip
        refine Z_aload_n C 0 d_M_work_38 rfl rfl ?_
        refine Z_iload_n C 1 d_M_work_39 rfl rfl ?_
        refine C_cMn C w mi_M_timerFires ml_M_250 (c_M_timerFires w _ r hr5 (hI.1.of rfl)) rfl rfl (by decide) rfl (Nat.le_of_ble_eq_true rfl) d_M_work_40 ?_
        exact hJ _ _ (by unfold wk1; first | rw [if_pos c16] | rw [if_neg c16, if_pos c35] | rw [if_neg c16, if_neg (fun z => z c35)]) rfl
  · skip
    exact Z_vret C hN hr d_M_work_9 rfl (zeq (by apply eR_N; unfold mWork; rw [if_pos c6]))
set_option maxRecDepth 100000 in
set_option maxHeartbeats 4000000 in
theorem m_tick {l : Launch} {G : zG} {U : zU} (w : wR G U) (N : zR) (n : Nat) (hn1 : 1 ≤ n) (hn4 : n ≤ 400) (hI0 : IV (u2 N 43 0 0)) : zF l y_M_tick b_M_tick 4 (some .int) 7 168 G [.ref (U.1 43), .int (nI n)] (eR U N) (some (.int (mTi n (u2 N 43 0 0) 43 1))) (eR U (mTi n (u2 N 43 0 0))) := by
  refine zF.ofZ (by decide) w.2.2.2.2 (Nat.le_of_ble_eq_true rfl) (fun X hXl hN hr C => ?_)
  subst hXl
  show Z X G (zA G) 4 _ (eR U N) 0 [(0, .ref (U.1 43)), (1, .int (nI n))] []
  refine Z_aload_n C 0 d_M_tick_0 rfl rfl ?_
  refine Z_iload_n C 1 d_M_tick_1 rfl rfl ?_
  refine Z_iconst (v := 1) C d_M_tick_2 (by decide) ?_
  refine Z_icmp_lt (tgt := 13) C d_M_tick_3 (by decide) (fun c3 => ?_) (fun c3 => ?_)
  · exact absurd c3 (nI_nlt (a := n) (b := 1) (by omega) (by omega)) --stop
  · skip
    refine Z_iload_n C 1 d_M_tick_6 rfl rfl ?_
    refine Z_sipush (v := 400) C d_M_tick_7 (by decide) ?_
    refine Z_icmp_le (tgt := 17) C d_M_tick_10 (by decide) (fun c10 => ?_) (fun c10 => ?_)
    · skip
      refine Z_iconst (v := 0) C d_M_tick_17 (by decide) ?_
      refine R_put C w 0 (by decide) fl_M_124 rfl rfl rfl rfl rfl d_M_tick_18 ?_
      refine Z_aload_n C 0 d_M_tick_21 rfl rfl ?_
      refine R_get C w 0 (by decide) fl_M_124 rfl rfl d_M_tick_22 ?_
      refine Z_if_eq (tgt := 30) C d_M_tick_25 (by decide) (fun c25 => ?_) (fun c25 => ?_)
      · skip
        refine Z_iconst (v := 0) C d_M_tick_30 (by decide) ?_
        refine Z_istore_n C d_M_tick_31 rfl (by decide) rfl ?_
        have hlp : ∀ (m k : Nat) (N1 : zR) (ks : List Nat) (lv : List (Nat × Value)), k + m = n → IV N1 → mTi m N1 = mTi n (u2 N 43 0 0) → lv_pick lv ks = [(2, .int (nI k)), (0, .ref (U.1 43)), (1, .int (nI n))] → Z X G (zA G) 4 (zQ X G (some (.int (mTi n (u2 N 43 0 0) 43 1))) (eR U (mTi n (u2 N 43 0 0)))) (eR U N1) 32 lv [] := by
          intro m
          induction m with
          | zero =>
            intro k N1 ks lv h1 h2 h3 hlv
            refine zlv ks hlv ?_
            obtain rfl : k = n := by omega
            have h3 : N1 = mTi k (u2 N 43 0 0) := h3
            refine Z_iload_n C 0 d_M_tick_32 rfl rfl ?_
            refine Z_iload_n C 2 d_M_tick_33 rfl rfl ?_
            refine Z_icmp_ge (tgt := 75) C d_M_tick_34 (by decide) (fun c34 => ?_) (fun c34 => ?_)
            · skip
              refine Z_aload_n C 1 d_M_tick_75 rfl rfl ?_
              refine R_get C w 1 (by decide) fl_M_150 rfl rfl d_M_tick_76 ?_
              exact Z_iret C hN hr d_M_tick_79 (by rw [h3]) (zeq (by apply eR_N; exact h3))
            · exact absurd (Int32.le_refl _) c34 --stop
          | succ m ih =>
            intro k N1 ks lv h1 h2 h3 hlv
            refine zlv ks hlv ?_
            have h0 := iv_ck h2
            have hA : IV (mAA (mCk1 N1)) := (ga_aL 3800 0 h0).1
            refine Z_iload_n C 0 d_M_tick_32 rfl rfl ?_
            refine Z_iload_n C 2 d_M_tick_33 rfl rfl ?_
            refine Z_icmp_ge (tgt := 75) C d_M_tick_34 (by decide) (fun c34 => ?_) (fun c34 => ?_)
            · exact absurd c34 (nI_ge (a := k) (b := n) (by omega) (by omega)) --stop
            · skip
              refine Z_aload_n C 1 d_M_tick_37 rfl rfl ?_
              refine Z_dup C d_M_tick_38 rfl ?_
              refine R_get C w 1 (by decide) fl_M_150 rfl rfl d_M_tick_39 ?_
              refine Z_iconst (v := 1) C d_M_tick_42 (by decide) ?_
              refine Z_iadd C d_M_tick_43 ?_
              refine R_put C w 1 (by decide) fl_M_150 rfl rfl rfl rfl rfl d_M_tick_44 ?_
              refine Z_aload_n C 1 d_M_tick_47 rfl rfl ?_
              refine C_cMn C w mi_M_arriveAll ml_M_256 (c_M_arriveAll w (mCk1 N1) h0) rfl rfl (by decide) rfl (Nat.le_of_ble_eq_true rfl) d_M_tick_48 ?_
              refine Z_iconst (v := 0) C d_M_tick_51 (by decide) ?_
              refine Z_istore_n C d_M_tick_52 rfl (by decide) rfl ?_
              have hw5 : ∀ (q r : Nat) (N2 : zR), r + q = 5 → IV N2 → mwL q r N2 = mOne N1 → Z X G (zA G) 4 (zQ X G (some (.int (mTi n (u2 N 43 0 0) 43 1))) (eR U (mTi n (u2 N 43 0 0)))) (eR U N2) 53 [(3, .int (nI r)), (2, .int (nI k)), (0, .ref (U.1 43)), (1, .int (nI n))] [] := by
                intro q
                induction q with
                | zero =>
                  intro r N2 g1 g2 g3
                  obtain rfl : r = 5 := by omega
                  have g3 : N2 = mOne N1 := g3
                  refine Z_iload_n C 0 d_M_tick_53 rfl rfl ?_
                  refine Z_iconst (v := 5) C d_M_tick_54 (by decide) ?_
                  refine Z_icmp_ge (tgt := 69) C d_M_tick_55 (by decide) (fun c55 => ?_) (fun c55 => ?_)
                  · skip
                    refine Z_iinc 1 C d_M_tick_69 rfl (nI_1 k) (by decide) rfl ?_
                    refine Z_goto (tgt := 32) C d_M_tick_72 (by decide) ?_
                    rw [g3]
                    exact ih (k + 1) (mOne N1) [0, 2, 3] _ (by omega) (one_ok h2).1 h3 rfl
                  · exact absurd (by decide) c55 --stop
                | succ q ihq =>
                  intro r N2 g1 g2 g3
                  refine Z_iload_n C 0 d_M_tick_53 rfl rfl ?_
                  refine Z_iconst (v := 5) C d_M_tick_54 (by decide) ?_
                  refine Z_icmp_ge (tgt := 69) C d_M_tick_55 (by decide) (fun c55 => ?_) (fun c55 => ?_)
                  · exact absurd c55 (nI_ge (a := r) (b := 5) (by omega) (by decide)) --stop
                  · skip
                    refine Z_aload_n C 2 d_M_tick_58 rfl rfl ?_
                    refine Z_iload_n C 0 d_M_tick_59 rfl rfl ?_
                    refine C_cMn C w mi_M_work ml_M_259 (c_M_work w _ r (by omega) g2) rfl rfl (by decide) rfl (Nat.le_of_ble_eq_true rfl) d_M_tick_60 ?_
                    refine Z_iinc 0 C d_M_tick_63 rfl (nI_1 r) (by decide) rfl ?_
                    refine Z_goto (tgt := 53) C d_M_tick_66 (by decide) ?_
                    exact ihq (r + 1) _ (by omega) (go_work g2 (by omega)).iv g3
              exact hw5 5 0 _ rfl hA rfl
        exact hlp n 0 _ [0, 1, 2] _ (by omega) hI0 rfl rfl
      · exact absurd (by simp [u2, upd]) c25 --stop
    · exact absurd (nI_le (a := n) (b := 400) (by omega) (by decide)) c10 --stop

