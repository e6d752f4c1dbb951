/-! THE REFERENCE'S CALLS: those that say 'thrown', those of a fresh object -/
def mFits (x v : Int32) : Int32 := if x = 0 then (if v < 1 then 0 else if 255 < v then 0 else 1) else if x = 1 then (if v < 1 then 0 else if 4095 < v then 0 else 1) else if x = 2 then (if v = 0 then 1 else if v = 1 then 1 else 0) else if x = 3 then (if v < 1 then 0 else if 255 < v then 0 else 1) else if x = 6 then (if v < 1 then 0 else if 50 < v then 0 else 1) else if x = 7 then (if v < 0 then 0 else if 3 < v then 0 else 1) else if x = 8 then (if v < 0 then 0 else if 254 < v then 0 else 1) else if x = 9 then (if v < 0 then 0 else if 31 < v then 0 else 1) else 1
theorem mIsR_ne {r : Nat} (h : r < 5) : ¬ mIsR (nI r) = 0 := by
  unfold mIsR
  rw [if_neg (nI_pos (by omega)), if_neg (show ¬ (5 : Int32) ≤ nI r from nI_ge (a := r) (b := 5) h (by omega))]
  decide
def mRoff (N : zR) (r : Nat) (x : Int32) : Int32 := if x = 0 then N 3 r else if x = 1 then 0 else if x = 2 then 0 else if x = 3 then 0 else if x = 4 then N 6 r else if x = 5 then N 7 r else if x = 6 then N 8 r else N 9 r
set_option maxRecDepth 100000 in
set_option maxHeartbeats 4000000 in
theorem c_M_fits {l : Launch} {G : zG} {U : zU} (w : wR G U) (N : zR) (x v : Int32) : zF l y_M_fits b_M_fits 2 (some .boolean) 0 0 G [.int x, .int v] (eR U N) (some (.int (mFits x v))) (eR U N) := by
  refine zF.ofZ (by decide) w.2.2.2.2 (Nat.le_of_ble_eq_true rfl) (fun X hXl hN hr C => ?_)
  subst hXl
  show Z X G (zA G) 2 _ (eR U N) 0 [(0, .int x), (1, .int v)] []
  refine Z_iload_n C 0 d_M_fits_0 rfl rfl ?_
  refine Z_tsw C d_M_fits_1 [(0, 56), (1, 74), (2, 92), (3, 107), (4, 190), (5, 190), (6, 125), (7, 142), (8, 157), (9, 174)] 190 (by decide +kernel) (by decide +kernel) (by decide) ?_ ?_
  · simp only [List.forall_mem_cons]
    refine ⟨fun c1 => ?_, fun c1 => ?_, fun c1 => ?_, fun c1 => ?_, fun c1 => ?_, fun c1 => ?_, fun c1 => ?_, fun c1 => ?_, fun c1 => ?_, fun c1 => ?_, fun _ h => absurd h List.not_mem_nil⟩
    · skip
      refine Z_iload_n C 1 d_M_fits_56 rfl rfl ?_
      refine Z_iconst (v := 1) C d_M_fits_57 (by decide) ?_
      refine Z_icmp_lt (tgt := 72) C d_M_fits_58 (by decide) (fun c58 => ?_) (fun c58 => ?_)
      · skip
        refine Z_iconst (v := 0) C d_M_fits_72 (by decide) ?_
        exact Z_zret C hN hr (by decide) d_M_fits_73 (by simp [mFits, c1, c58]) (zeq (rfl))
      · skip
        refine Z_iload_n C 1 d_M_fits_61 rfl rfl ?_
        refine Z_sipush (v := 255) C d_M_fits_62 (by decide) ?_
        refine Z_icmp_gt (tgt := 72) C d_M_fits_65 (by decide) (fun c65 => ?_) (fun c65 => ?_)
        · skip
          refine Z_iconst (v := 0) C d_M_fits_72 (by decide) ?_
          exact Z_zret C hN hr (by decide) d_M_fits_73 (by simp [mFits, c1, c58, c65]) (zeq (rfl))
        · skip
          refine Z_iconst (v := 1) C d_M_fits_68 (by decide) ?_
          refine Z_goto (tgt := 73) C d_M_fits_69 (by decide) ?_
          exact Z_zret C hN hr (by decide) d_M_fits_73 (by simp [mFits, c1, c58, c65]) (zeq (rfl))
    · skip
      refine Z_iload_n C 1 d_M_fits_74 rfl rfl ?_
      refine Z_iconst (v := 1) C d_M_fits_75 (by decide) ?_
      refine Z_icmp_lt (tgt := 90) C d_M_fits_76 (by decide) (fun c76 => ?_) (fun c76 => ?_)
      · skip
        refine Z_iconst (v := 0) C d_M_fits_90 (by decide) ?_
        exact Z_zret C hN hr (by decide) d_M_fits_91 (by simp [mFits, c1, c76]) (zeq (rfl))
      · skip
        refine Z_iload_n C 1 d_M_fits_79 rfl rfl ?_
        refine Z_sipush (v := 4095) C d_M_fits_80 (by decide) ?_
        refine Z_icmp_gt (tgt := 90) C d_M_fits_83 (by decide) (fun c83 => ?_) (fun c83 => ?_)
        · skip
          refine Z_iconst (v := 0) C d_M_fits_90 (by decide) ?_
          exact Z_zret C hN hr (by decide) d_M_fits_91 (by simp [mFits, c1, c76, c83]) (zeq (rfl))
        · skip
          refine Z_iconst (v := 1) C d_M_fits_86 (by decide) ?_
          refine Z_goto (tgt := 91) C d_M_fits_87 (by decide) ?_
          exact Z_zret C hN hr (by decide) d_M_fits_91 (by simp [mFits, c1, c76, c83]) (zeq (rfl))
    · skip
      refine Z_iload_n C 1 d_M_fits_92 rfl rfl ?_
      refine Z_if_eq (tgt := 101) C d_M_fits_93 (by decide) (fun c93 => ?_) (fun c93 => ?_)
      · skip
        refine Z_iconst (v := 1) C d_M_fits_101 (by decide) ?_
        refine Z_goto (tgt := 106) C d_M_fits_102 (by decide) ?_
        exact Z_zret C hN hr (by decide) d_M_fits_106 (by simp [mFits, c1, c93]) (zeq (rfl))
      · skip
        refine Z_iload_n C 1 d_M_fits_96 rfl rfl ?_
        refine Z_iconst (v := 1) C d_M_fits_97 (by decide) ?_
        refine Z_icmp_ne (tgt := 105) C d_M_fits_98 (by decide) (fun c98 => ?_) (fun c98 => ?_)
        · skip
          refine Z_iconst (v := 0) C d_M_fits_105 (by decide) ?_
          exact Z_zret C hN hr (by decide) d_M_fits_106 (by simp [mFits, c1, c93, c98]) (zeq (rfl))
        · skip
          refine Z_iconst (v := 1) C d_M_fits_101 (by decide) ?_
          refine Z_goto (tgt := 106) C d_M_fits_102 (by decide) ?_
          exact Z_zret C hN hr (by decide) d_M_fits_106 (by simp [mFits, c1, c93, c98]) (zeq (rfl))
    · skip
      refine Z_iload_n C 1 d_M_fits_107 rfl rfl ?_
      refine Z_iconst (v := 1) C d_M_fits_108 (by decide) ?_
      refine Z_icmp_lt (tgt := 123) C d_M_fits_109 (by decide) (fun c109 => ?_) (fun c109 => ?_)
      · skip
        refine Z_iconst (v := 0) C d_M_fits_123 (by decide) ?_
        exact Z_zret C hN hr (by decide) d_M_fits_124 (by simp [mFits, c1, c109]) (zeq (rfl))
      · skip
        refine Z_iload_n C 1 d_M_fits_112 rfl rfl ?_
        refine Z_sipush (v := 255) C d_M_fits_113 (by decide) ?_
        refine Z_icmp_gt (tgt := 123) C d_M_fits_116 (by decide) (fun c116 => ?_) (fun c116 => ?_)
        · skip
          refine Z_iconst (v := 0) C d_M_fits_123 (by decide) ?_
          exact Z_zret C hN hr (by decide) d_M_fits_124 (by simp [mFits, c1, c109, c116]) (zeq (rfl))
        · skip
          refine Z_iconst (v := 1) C d_M_fits_119 (by decide) ?_
          refine Z_goto (tgt := 124) C d_M_fits_120 (by decide) ?_
          exact Z_zret C hN hr (by decide) d_M_fits_124 (by simp [mFits, c1, c109, c116]) (zeq (rfl))
    · skip
      refine Z_iconst (v := 1) C d_M_fits_190 (by decide) ?_
      exact Z_zret C hN hr (by decide) d_M_fits_191 (by simp [mFits, c1]) (zeq (rfl))
    · skip
      refine Z_iconst (v := 1) C d_M_fits_190 (by decide) ?_
      exact Z_zret C hN hr (by decide) d_M_fits_191 (by simp [mFits, c1]) (zeq (rfl))
    · skip
      refine Z_iload_n C 1 d_M_fits_125 rfl rfl ?_
      refine Z_iconst (v := 1) C d_M_fits_126 (by decide) ?_
      refine Z_icmp_lt (tgt := 140) C d_M_fits_127 (by decide) (fun c127 => ?_) (fun c127 => ?_)
      · skip
        refine Z_iconst (v := 0) C d_M_fits_140 (by decide) ?_
        exact Z_zret C hN hr (by decide) d_M_fits_141 (by simp [mFits, c1, c127]) (zeq (rfl))
      · skip
        refine Z_iload_n C 1 d_M_fits_130 rfl rfl ?_
        refine Z_bipush (v := 50) C d_M_fits_131 (by decide) ?_
        refine Z_icmp_gt (tgt := 140) C d_M_fits_133 (by decide) (fun c133 => ?_) (fun c133 => ?_)
        · skip
          refine Z_iconst (v := 0) C d_M_fits_140 (by decide) ?_
          exact Z_zret C hN hr (by decide) d_M_fits_141 (by simp [mFits, c1, c127, c133]) (zeq (rfl))
        · skip
          refine Z_iconst (v := 1) C d_M_fits_136 (by decide) ?_
          refine Z_goto (tgt := 141) C d_M_fits_137 (by decide) ?_
          exact Z_zret C hN hr (by decide) d_M_fits_141 (by simp [mFits, c1, c127, c133]) (zeq (rfl))
    · skip
      refine Z_iload_n C 1 d_M_fits_142 rfl rfl ?_
      refine Z_if_lt (tgt := 155) C d_M_fits_143 (by decide) (fun c143 => ?_) (fun c143 => ?_)
      · skip
        refine Z_iconst (v := 0) C d_M_fits_155 (by decide) ?_
        exact Z_zret C hN hr (by decide) d_M_fits_156 (by simp [mFits, c1, c143]) (zeq (rfl))
      · skip
        refine Z_iload_n C 1 d_M_fits_146 rfl rfl ?_
        refine Z_iconst (v := 3) C d_M_fits_147 (by decide) ?_
        refine Z_icmp_gt (tgt := 155) C d_M_fits_148 (by decide) (fun c148 => ?_) (fun c148 => ?_)
        · skip
          refine Z_iconst (v := 0) C d_M_fits_155 (by decide) ?_
          exact Z_zret C hN hr (by decide) d_M_fits_156 (by simp [mFits, c1, c143, c148]) (zeq (rfl))
        · skip
          refine Z_iconst (v := 1) C d_M_fits_151 (by decide) ?_
          refine Z_goto (tgt := 156) C d_M_fits_152 (by decide) ?_
          exact Z_zret C hN hr (by decide) d_M_fits_156 (by simp [mFits, c1, c143, c148]) (zeq (rfl))
    · skip
      refine Z_iload_n C 1 d_M_fits_157 rfl rfl ?_
      refine Z_if_lt (tgt := 172) C d_M_fits_158 (by decide) (fun c158 => ?_) (fun c158 => ?_)
      · skip
        refine Z_iconst (v := 0) C d_M_fits_172 (by decide) ?_
        exact Z_zret C hN hr (by decide) d_M_fits_173 (by simp [mFits, c1, c158]) (zeq (rfl))
      · skip
        refine Z_iload_n C 1 d_M_fits_161 rfl rfl ?_
        refine Z_sipush (v := 254) C d_M_fits_162 (by decide) ?_
        refine Z_icmp_gt (tgt := 172) C d_M_fits_165 (by decide) (fun c165 => ?_) (fun c165 => ?_)
        · skip
          refine Z_iconst (v := 0) C d_M_fits_172 (by decide) ?_
          exact Z_zret C hN hr (by decide) d_M_fits_173 (by simp [mFits, c1, c158, c165]) (zeq (rfl))
        · skip
          refine Z_iconst (v := 1) C d_M_fits_168 (by decide) ?_
          refine Z_goto (tgt := 173) C d_M_fits_169 (by decide) ?_
          exact Z_zret C hN hr (by decide) d_M_fits_173 (by simp [mFits, c1, c158, c165]) (zeq (rfl))
    · skip
      refine Z_iload_n C 1 d_M_fits_174 rfl rfl ?_
      refine Z_if_lt (tgt := 188) C d_M_fits_175 (by decide) (fun c175 => ?_) (fun c175 => ?_)
      · skip
        refine Z_iconst (v := 0) C d_M_fits_188 (by decide) ?_
        exact Z_zret C hN hr (by decide) d_M_fits_189 (by simp [mFits, c1, c175]) (zeq (rfl))
      · skip
        refine Z_iload_n C 1 d_M_fits_178 rfl rfl ?_
        refine Z_bipush (v := 31) C d_M_fits_179 (by decide) ?_
        refine Z_icmp_gt (tgt := 188) C d_M_fits_181 (by decide) (fun c181 => ?_) (fun c181 => ?_)
        · skip
          refine Z_iconst (v := 0) C d_M_fits_188 (by decide) ?_
          exact Z_zret C hN hr (by decide) d_M_fits_189 (by simp [mFits, c1, c175, c181]) (zeq (rfl))
        · skip
          refine Z_iconst (v := 1) C d_M_fits_184 (by decide) ?_
          refine Z_goto (tgt := 189) C d_M_fits_185 (by decide) ?_
          exact Z_zret C hN hr (by decide) d_M_fits_189 (by simp [mFits, c1, c175, c181]) (zeq (rfl))
  · intro c1
    simp only [List.forall_mem_cons] at c1
    refine Z_iconst (v := 1) C d_M_fits_190 (by decide) ?_
    exact Z_zret C hN hr (by decide) d_M_fits_191 (by simp [mFits, c1]) (zeq (rfl))
set_option maxRecDepth 100000 in
set_option maxHeartbeats 4000000 in
theorem m_set_1 {l : Launch} {G : zG} {U : zU} (w : wR G U) (N : zR) (x y v : Int32) (h : mIsR x = 0 ∨ y < 0 ∨ ¬ y ≤ 9) : zF l y_M_set b_M_set 4 none 1 21 G [.ref (U.1 43), .int x, .int y, .int v] (eR U N) none (eR U (u2 N 43 0 1)) := by
  refine zF.ofZ (by decide) w.2.2.2.2 (Nat.le_of_ble_eq_true rfl) (fun X hXl hN hr C => ?_)
  subst hXl
  show Z X G (zA G) 4 _ (eR U N) 0 [(0, .ref (U.1 43)), (1, .int x), (2, .int y), (3, .int v)] []
  refine Z_aload_n C 0 d_M_set_0 rfl rfl ?_
  refine Z_iload_n C 1 d_M_set_1 rfl rfl ?_
  refine C_csv C ms_M_isRouter ml_M_128 (c_M_isRouter w _ _) rfl (by decide) rfl (Nat.le_of_ble_eq_true rfl) d_M_set_2 ?_
  refine Z_if_eq (tgt := 18) C d_M_set_5 (by decide) (fun c5 => ?_) (fun c5 => ?_)
  · skip
    refine Z_iconst (v := 1) C d_M_set_18 (by decide) ?_
    refine Z_goto (tgt := 35) C d_M_set_19 (by decide) ?_
    refine R_put C w 0 (by decide) fl_M_124 rfl rfl rfl rfl rfl d_M_set_35 ?_
    refine Z_aload_n C 0 d_M_set_38 rfl rfl ?_
    refine R_get C w 0 (by decide) fl_M_124 rfl rfl d_M_set_39 ?_
    refine Z_if_ne (tgt := 57) C d_M_set_42 (by decide) (fun c42 => ?_) (fun c42 => ?_)
    · skip
      exact Z_vret C hN hr d_M_set_57 rfl (zeq (rfl))
    · exact absurd c42 (by simp [u2, upd]) --stop
  · skip
    refine Z_iload_n C 2 d_M_set_8 rfl rfl ?_
    refine Z_if_lt (tgt := 18) C d_M_set_9 (by decide) (fun c9 => ?_) (fun c9 => ?_)
    · skip
      refine Z_iconst (v := 1) C d_M_set_18 (by decide) ?_
      refine Z_goto (tgt := 35) C d_M_set_19 (by decide) ?_
      refine R_put C w 0 (by decide) fl_M_124 rfl rfl rfl rfl rfl d_M_set_35 ?_
      refine Z_aload_n C 0 d_M_set_38 rfl rfl ?_
      refine R_get C w 0 (by decide) fl_M_124 rfl rfl d_M_set_39 ?_
      refine Z_if_ne (tgt := 57) C d_M_set_42 (by decide) (fun c42 => ?_) (fun c42 => ?_)
      · skip
        exact Z_vret C hN hr d_M_set_57 rfl (zeq (rfl))
      · exact absurd c42 (by simp [u2, upd]) --stop
    · skip
      refine Z_iload_n C 2 d_M_set_12 rfl rfl ?_
      refine Z_bipush (v := 9) C d_M_set_13 (by decide) ?_
      refine Z_icmp_le (tgt := 22) C d_M_set_15 (by decide) (fun c15 => ?_) (fun c15 => ?_)
      · exact absurd c15 ((h.resolve_left c5).resolve_left c9) --stop
      · skip
        refine Z_iconst (v := 1) C d_M_set_18 (by decide) ?_
        refine Z_goto (tgt := 35) C d_M_set_19 (by decide) ?_
        refine R_put C w 0 (by decide) fl_M_124 rfl rfl rfl rfl rfl d_M_set_35 ?_
        refine Z_aload_n C 0 d_M_set_38 rfl rfl ?_
        refine R_get C w 0 (by decide) fl_M_124 rfl rfl d_M_set_39 ?_
        refine Z_if_ne (tgt := 57) C d_M_set_42 (by decide) (fun c42 => ?_) (fun c42 => ?_)
        · skip
          exact Z_vret C hN hr d_M_set_57 rfl (zeq (rfl))
        · exact absurd c42 (by simp [u2, upd]) --stop
set_option maxRecDepth 100000 in
set_option maxHeartbeats 4000000 in
theorem m_set_2 {l : Launch} {G : zG} {U : zU} (w : wR G U) (N : zR) (x y v : Int32) (h0 : ¬ mIsR x = 0) (h1 : ¬ y < 0) (h2 : y ≤ 9) (h3 : mFits y v = 0) : zF l y_M_set b_M_set 4 none 1 21 G [.ref (U.1 43), .int x, .int y, .int v] (eR U N) none (eR U (u2 N 43 0 2)) := by
  refine zF.ofZ (by decide) w.2.2.2.2 (Nat.le_of_ble_eq_true rfl) (fun X hXl hN hr C => ?_)
  subst hXl
  show Z X G (zA G) 4 _ (eR U N) 0 [(0, .ref (U.1 43)), (1, .int x), (2, .int y), (3, .int v)] []
  refine Z_aload_n C 0 d_M_set_0 rfl rfl ?_
  refine Z_iload_n C 1 d_M_set_1 rfl rfl ?_
  refine C_csv C ms_M_isRouter ml_M_128 (c_M_isRouter w _ _) rfl (by decide) rfl (Nat.le_of_ble_eq_true rfl) d_M_set_2 ?_
  refine Z_if_eq (tgt := 18) C d_M_set_5 (by decide) (fun c5 => ?_) (fun c5 => ?_)
  · exact absurd c5 h0 --stop
  · skip
    refine Z_iload_n C 2 d_M_set_8 rfl rfl ?_
    refine Z_if_lt (tgt := 18) C d_M_set_9 (by decide) (fun c9 => ?_) (fun c9 => ?_)
    · exact absurd c9 h1 --stop
    · skip
      refine Z_iload_n C 2 d_M_set_12 rfl rfl ?_
      refine Z_bipush (v := 9) C d_M_set_13 (by decide) ?_
      refine Z_icmp_le (tgt := 22) C d_M_set_15 (by decide) (fun c15 => ?_) (fun c15 => ?_)
      · skip
        refine Z_iload_n C 2 d_M_set_22 rfl rfl ?_
        refine Z_iload_n C 3 d_M_set_23 rfl rfl ?_
        refine C_csv C ms_M_fits ml_M_132 (c_M_fits w _ _ _) rfl (by decide) rfl (Nat.le_of_ble_eq_true rfl) d_M_set_24 ?_
        refine Z_if_ne (tgt := 34) C d_M_set_27 (by decide) (fun c27 => ?_) (fun c27 => ?_)
        · exact absurd h3 c27 --stop
        · skip
          refine Z_iconst (v := 2) C d_M_set_30 (by decide) ?_
          refine Z_goto (tgt := 35) C d_M_set_31 (by decide) ?_
          refine R_put C w 0 (by decide) fl_M_124 rfl rfl rfl rfl rfl d_M_set_35 ?_
          refine Z_aload_n C 0 d_M_set_38 rfl rfl ?_
          refine R_get C w 0 (by decide) fl_M_124 rfl rfl d_M_set_39 ?_
          refine Z_if_ne (tgt := 57) C d_M_set_42 (by decide) (fun c42 => ?_) (fun c42 => ?_)
          · skip
            exact Z_vret C hN hr d_M_set_57 rfl (zeq (rfl))
          · exact absurd c42 (by simp [u2, upd]) --stop
      · exact absurd h2 c15 --stop
set_option maxRecDepth 100000 in
set_option maxHeartbeats 4000000 in
theorem m_set_0 {l : Launch} {G : zG} {U : zU} (w : wR G U) (N : zR) (r : Nat) (hr5 : r < 5) (wh : Nat) (hw : wh < 10) (v : Int32) (h3 : ¬ mFits (nI wh) v = 0) : zF l y_M_set b_M_set 4 none 1 21 G [.ref (U.1 43), .int (nI r), .int (nI wh), .int v] (eR U N) none (eR U (u2 (u2 N 43 0 0) 2 (10 * r + wh) v)) := by
  refine zF.ofZ (by decide) w.2.2.2.2 (Nat.le_of_ble_eq_true rfl) (fun X hXl hN hr C => ?_)
  subst hXl
  show Z X G (zA G) 4 _ (eR U N) 0 [(0, .ref (U.1 43)), (1, .int (nI r)), (2, .int (nI wh)), (3, .int v)] []
  refine Z_aload_n C 0 d_M_set_0 rfl rfl ?_
  refine Z_iload_n C 1 d_M_set_1 rfl rfl ?_
  refine C_csv C ms_M_isRouter ml_M_128 (c_M_isRouter w _ _) rfl (by decide) rfl (Nat.le_of_ble_eq_true rfl) d_M_set_2 ?_
  refine Z_if_eq (tgt := 18) C d_M_set_5 (by decide) (fun c5 => ?_) (fun c5 => ?_)
  · exact absurd c5 (mIsR_ne hr5) --stop
  · skip
    refine Z_iload_n C 2 d_M_set_8 rfl rfl ?_
    refine Z_if_lt (tgt := 18) C d_M_set_9 (by decide) (fun c9 => ?_) (fun c9 => ?_)
    · exact absurd c9 (nI_pos (by omega)) --stop
    · skip
      refine Z_iload_n C 2 d_M_set_12 rfl rfl ?_
      refine Z_bipush (v := 9) C d_M_set_13 (by decide) ?_
      refine Z_icmp_le (tgt := 22) C d_M_set_15 (by decide) (fun c15 => ?_) (fun c15 => ?_)
      · skip
        refine Z_iload_n C 2 d_M_set_22 rfl rfl ?_
        refine Z_iload_n C 3 d_M_set_23 rfl rfl ?_
        refine C_csv C ms_M_fits ml_M_132 (c_M_fits w _ _ _) rfl (by decide) rfl (Nat.le_of_ble_eq_true rfl) d_M_set_24 ?_
        refine Z_if_ne (tgt := 34) C d_M_set_27 (by decide) (fun c27 => ?_) (fun c27 => ?_)
        · skip
          refine Z_iconst (v := 0) C d_M_set_34 (by decide) ?_
          refine R_put C w 0 (by decide) fl_M_124 rfl rfl rfl rfl rfl d_M_set_35 ?_
          refine Z_aload_n C 0 d_M_set_38 rfl rfl ?_
          refine R_get C w 0 (by decide) fl_M_124 rfl rfl d_M_set_39 ?_
          refine Z_if_ne (tgt := 57) C d_M_set_42 (by decide) (fun c42 => ?_) (fun c42 => ?_)
          · exact absurd (by simp [u2, upd]) c42 --stop
          · skip
            refine Z_aload_n C 0 d_M_set_45 rfl rfl ?_
            refine R_get C w 2 (by decide) fl_M_7 rfl rfl d_M_set_46 ?_
            refine Z_bipush (v := 10) C d_M_set_49 (by decide) ?_
            refine Z_iload_n C 1 d_M_set_51 rfl rfl ?_
            refine Z_imul C d_M_set_52 ?_
            refine Z_iload_n C 2 d_M_set_53 rfl rfl ?_
            refine Z_iadd C d_M_set_54 ?_
            refine Z_iload_n C 3 d_M_set_55 rfl rfl ?_
            refine R_st 2 C w rfl rfl (10 * r + wh) (by rw [ix10]; exact nI_clamp (by omega)) (by rw [ix10]; exact vp_in_nI (n := 10 * r + wh) (N := 50) (by omega) (by decide)) d_M_set_56 ?_
            exact Z_vret C hN hr d_M_set_57 rfl (zeq (rfl))
        · exact absurd c27 h3 --stop
      · exact absurd (nI_le (a := wh) (b := 9) (by omega) (by decide)) c15 --stop
set_option maxRecDepth 100000 in
set_option maxHeartbeats 4000000 in
theorem m_start_1 {l : Launch} {G : zG} {U : zU} (w : wR G U) (N : zR) (x : Int32) (h : mIsR x = 0) : zF l y_M_start b_M_start 2 none 4 93 G [.ref (U.1 43), .int x] (eR U N) none (eR U (u2 N 43 0 1)) := by
  refine zF.ofZ (by decide) w.2.2.2.2 (Nat.le_of_ble_eq_true rfl) (fun X hXl hN hr C => ?_)
  subst hXl
  show Z X G (zA G) 2 _ (eR U N) 0 [(0, .ref (U.1 43)), (1, .int x)] []
  refine Z_aload_n C 0 d_M_start_0 rfl rfl ?_
  refine Z_iload_n C 1 d_M_start_1 rfl rfl ?_
  refine C_csv C ms_M_isRouter ml_M_128 (c_M_isRouter w _ _) rfl (by decide) rfl (Nat.le_of_ble_eq_true rfl) d_M_start_2 ?_
  refine Z_if_ne (tgt := 12) C d_M_start_5 (by decide) (fun c5 => ?_) (fun c5 => ?_)
  · exact absurd h c5 --stop
  · skip
    refine Z_iconst (v := 1) C d_M_start_8 (by decide) ?_
    refine Z_goto (tgt := 26) C d_M_start_9 (by decide) ?_
    refine R_put C w 0 (by decide) fl_M_124 rfl rfl rfl rfl rfl d_M_start_26 ?_
    refine Z_aload_n C 0 d_M_start_29 rfl rfl ?_
    refine R_get C w 0 (by decide) fl_M_124 rfl rfl d_M_start_30 ?_
    refine Z_if_eq (tgt := 37) C d_M_start_33 (by decide) (fun c33 => ?_) (fun c33 => ?_)
    · exact absurd c33 (by simp [u2, upd]) --stop
    · skip
      exact Z_vret C hN hr d_M_start_36 rfl (zeq (rfl))
set_option maxRecDepth 100000 in
set_option maxHeartbeats 4000000 in
theorem m_start_2 {l : Launch} {G : zG} {U : zU} (w : wR G U) (N : zR) (r : Nat) (hr5 : r < 5) (h : ¬ N 3 r = 0) : zF l y_M_start b_M_start 2 none 4 93 G [.ref (U.1 43), .int (nI r)] (eR U N) none (eR U (u2 N 43 0 2)) := by
  refine zF.ofZ (by decide) w.2.2.2.2 (Nat.le_of_ble_eq_true rfl) (fun X hXl hN hr C => ?_)
  subst hXl
  show Z X G (zA G) 2 _ (eR U N) 0 [(0, .ref (U.1 43)), (1, .int (nI r))] []
  refine Z_aload_n C 0 d_M_start_0 rfl rfl ?_
  refine Z_iload_n C 1 d_M_start_1 rfl rfl ?_
  refine C_csv C ms_M_isRouter ml_M_128 (c_M_isRouter w _ _) rfl (by decide) rfl (Nat.le_of_ble_eq_true rfl) d_M_start_2 ?_
  refine Z_if_ne (tgt := 12) C d_M_start_5 (by decide) (fun c5 => ?_) (fun c5 => ?_)
  · skip
    refine Z_aload_n C 0 d_M_start_12 rfl rfl ?_
    refine R_get C w 3 (by decide) fl_M_13 rfl rfl d_M_start_13 ?_
    refine Z_iload_n C 1 d_M_start_16 rfl rfl ?_
    refine R_ld 3 C w rfl rfl r (nI_clamp (by omega)) (vp_in_nI (n := r) (N := 5) (by omega) (by decide)) d_M_start_17 ?_
    refine Z_if_eq (tgt := 25) C d_M_start_18 (by decide) (fun c18 => ?_) (fun c18 => ?_)
    · exact absurd c18 h --stop
    · skip
      refine Z_iconst (v := 2) C d_M_start_21 (by decide) ?_
      refine Z_goto (tgt := 26) C d_M_start_22 (by decide) ?_
      refine R_put C w 0 (by decide) fl_M_124 rfl rfl rfl rfl rfl d_M_start_26 ?_
      refine Z_aload_n C 0 d_M_start_29 rfl rfl ?_
      refine R_get C w 0 (by decide) fl_M_124 rfl rfl d_M_start_30 ?_
      refine Z_if_eq (tgt := 37) C d_M_start_33 (by decide) (fun c33 => ?_) (fun c33 => ?_)
      · exact absurd c33 (by simp [u2, upd]) --stop
      · skip
        exact Z_vret C hN hr d_M_start_36 rfl (zeq (rfl))
  · exact absurd c5 (mIsR_ne hr5) --stop
set_option maxRecDepth 100000 in
set_option maxHeartbeats 4000000 in
theorem m_stop_1 {l : Launch} {G : zG} {U : zU} (w : wR G U) (N : zR) (x : Int32) (b : Int32) (h : mIsR x = 0) : zF l y_M_stop b_M_stop 4 none 3 72 G [.ref (U.1 43), .int x, .int b] (eR U N) none (eR U (u2 N 43 0 1)) := by
  refine zF.ofZ (by decide) w.2.2.2.2 (Nat.le_of_ble_eq_true rfl) (fun X hXl hN hr C => ?_)
  subst hXl
  show Z X G (zA G) 4 _ (eR U N) 0 [(0, .ref (U.1 43)), (1, .int x), (2, .int b)] []
  refine Z_aload_n C 0 d_M_stop_0 rfl rfl ?_
  refine Z_iload_n C 1 d_M_stop_1 rfl rfl ?_
  refine C_csv C ms_M_isRouter ml_M_128 (c_M_isRouter w _ _) rfl (by decide) rfl (Nat.le_of_ble_eq_true rfl) d_M_stop_2 ?_
  refine Z_if_ne (tgt := 12) C d_M_stop_5 (by decide) (fun c5 => ?_) (fun c5 => ?_)
  · exact absurd h c5 --stop
  · skip
    refine Z_iconst (v := 1) C d_M_stop_8 (by decide) ?_
    refine Z_goto (tgt := 26) C d_M_stop_9 (by decide) ?_
    refine R_put C w 0 (by decide) fl_M_124 rfl rfl rfl rfl rfl d_M_stop_26 ?_
    refine Z_aload_n C 0 d_M_stop_29 rfl rfl ?_
    refine R_get C w 0 (by decide) fl_M_124 rfl rfl d_M_stop_30 ?_
    refine Z_if_eq (tgt := 37) C d_M_stop_33 (by decide) (fun c33 => ?_) (fun c33 => ?_)
    · exact absurd c33 (by simp [u2, upd]) --stop
    · skip
      exact Z_vret C hN hr d_M_stop_36 rfl (zeq (rfl))
set_option maxRecDepth 100000 in
set_option maxHeartbeats 4000000 in
theorem m_stop_2 {l : Launch} {G : zG} {U : zU} (w : wR G U) (N : zR) (r : Nat) (hr5 : r < 5) (b : Int32) (h : N 3 r = 0) : zF l y_M_stop b_M_stop 4 none 3 72 G [.ref (U.1 43), .int (nI r), .int b] (eR U N) none (eR U (u2 N 43 0 2)) := by
  refine zF.ofZ (by decide) w.2.2.2.2 (Nat.le_of_ble_eq_true rfl) (fun X hXl hN hr C => ?_)
  subst hXl
  show Z X G (zA G) 4 _ (eR U N) 0 [(0, .ref (U.1 43)), (1, .int (nI r)), (2, .int b)] []
  refine Z_aload_n C 0 d_M_stop_0 rfl rfl ?_
  refine Z_iload_n C 1 d_M_stop_1 rfl rfl ?_
  refine C_csv C ms_M_isRouter ml_M_128 (c_M_isRouter w _ _) rfl (by decide) rfl (Nat.le_of_ble_eq_true rfl) d_M_stop_2 ?_
  refine Z_if_ne (tgt := 12) C d_M_stop_5 (by decide) (fun c5 => ?_) (fun c5 => ?_)
  · skip
    refine Z_aload_n C 0 d_M_stop_12 rfl rfl ?_
    refine R_get C w 3 (by decide) fl_M_13 rfl rfl d_M_stop_13 ?_
    refine Z_iload_n C 1 d_M_stop_16 rfl rfl ?_
    refine R_ld 3 C w rfl rfl r (nI_clamp (by omega)) (vp_in_nI (n := r) (N := 5) (by omega) (by decide)) d_M_stop_17 ?_
    refine Z_if_ne (tgt := 25) C d_M_stop_18 (by decide) (fun c18 => ?_) (fun c18 => ?_)
    · exact absurd h c18 --stop
    · skip
      refine Z_iconst (v := 2) C d_M_stop_21 (by decide) ?_
      refine Z_goto (tgt := 26) C d_M_stop_22 (by decide) ?_
      refine R_put C w 0 (by decide) fl_M_124 rfl rfl rfl rfl rfl d_M_stop_26 ?_
      refine Z_aload_n C 0 d_M_stop_29 rfl rfl ?_
      refine R_get C w 0 (by decide) fl_M_124 rfl rfl d_M_stop_30 ?_
      refine Z_if_eq (tgt := 37) C d_M_stop_33 (by decide) (fun c33 => ?_) (fun c33 => ?_)
      · exact absurd c33 (by simp [u2, upd]) --stop
      · skip
        exact Z_vret C hN hr d_M_stop_36 rfl (zeq (rfl))
  · exact absurd c5 (mIsR_ne hr5) --stop
set_option maxRecDepth 100000 in
set_option maxHeartbeats 4000000 in
theorem m_ask_1 {l : Launch} {G : zG} {U : zU} (w : wR G U) (N : zR) (x : Int32) (h : mIsR x = 0) : zF l y_M_ask b_M_ask 2 none 2 49 G [.ref (U.1 43), .int x] (eR U N) none (eR U (u2 N 43 0 1)) := by
  refine zF.ofZ (by decide) w.2.2.2.2 (Nat.le_of_ble_eq_true rfl) (fun X hXl hN hr C => ?_)
  subst hXl
  show Z X G (zA G) 2 _ (eR U N) 0 [(0, .ref (U.1 43)), (1, .int x)] []
  refine Z_aload_n C 0 d_M_ask_0 rfl rfl ?_
  refine Z_iload_n C 1 d_M_ask_1 rfl rfl ?_
  refine C_csv C ms_M_isRouter ml_M_128 (c_M_isRouter w _ _) rfl (by decide) rfl (Nat.le_of_ble_eq_true rfl) d_M_ask_2 ?_
  refine Z_if_ne (tgt := 12) C d_M_ask_5 (by decide) (fun c5 => ?_) (fun c5 => ?_)
  · exact absurd h c5 --stop
  · skip
    refine Z_iconst (v := 1) C d_M_ask_8 (by decide) ?_
    refine Z_goto (tgt := 26) C d_M_ask_9 (by decide) ?_
    refine R_put C w 0 (by decide) fl_M_124 rfl rfl rfl rfl rfl d_M_ask_26 ?_
    refine Z_aload_n C 0 d_M_ask_29 rfl rfl ?_
    refine R_get C w 0 (by decide) fl_M_124 rfl rfl d_M_ask_30 ?_
    refine Z_if_eq (tgt := 37) C d_M_ask_33 (by decide) (fun c33 => ?_) (fun c33 => ?_)
    · exact absurd c33 (by simp [u2, upd]) --stop
    · skip
      exact Z_vret C hN hr d_M_ask_36 rfl (zeq (rfl))
set_option maxRecDepth 100000 in
set_option maxHeartbeats 4000000 in
theorem m_ask_2 {l : Launch} {G : zG} {U : zU} (w : wR G U) (N : zR) (r : Nat) (hr5 : r < 5) (h : N 3 r = 0) : zF l y_M_ask b_M_ask 2 none 2 49 G [.ref (U.1 43), .int (nI r)] (eR U N) none (eR U (u2 N 43 0 2)) := by
  refine zF.ofZ (by decide) w.2.2.2.2 (Nat.le_of_ble_eq_true rfl) (fun X hXl hN hr C => ?_)
  subst hXl
  show Z X G (zA G) 2 _ (eR U N) 0 [(0, .ref (U.1 43)), (1, .int (nI r))] []
  refine Z_aload_n C 0 d_M_ask_0 rfl rfl ?_
  refine Z_iload_n C 1 d_M_ask_1 rfl rfl ?_
  refine C_csv C ms_M_isRouter ml_M_128 (c_M_isRouter w _ _) rfl (by decide) rfl (Nat.le_of_ble_eq_true rfl) d_M_ask_2 ?_
  refine Z_if_ne (tgt := 12) C d_M_ask_5 (by decide) (fun c5 => ?_) (fun c5 => ?_)
  · skip
    refine Z_aload_n C 0 d_M_ask_12 rfl rfl ?_
    refine R_get C w 3 (by decide) fl_M_13 rfl rfl d_M_ask_13 ?_
    refine Z_iload_n C 1 d_M_ask_16 rfl rfl ?_
    refine R_ld 3 C w rfl rfl r (nI_clamp (by omega)) (vp_in_nI (n := r) (N := 5) (by omega) (by decide)) d_M_ask_17 ?_
    refine Z_if_ne (tgt := 25) C d_M_ask_18 (by decide) (fun c18 => ?_) (fun c18 => ?_)
    · exact absurd h c18 --stop
    · skip
      refine Z_iconst (v := 2) C d_M_ask_21 (by decide) ?_
      refine Z_goto (tgt := 26) C d_M_ask_22 (by decide) ?_
      refine R_put C w 0 (by decide) fl_M_124 rfl rfl rfl rfl rfl d_M_ask_26 ?_
      refine Z_aload_n C 0 d_M_ask_29 rfl rfl ?_
      refine R_get C w 0 (by decide) fl_M_124 rfl rfl d_M_ask_30 ?_
      refine Z_if_eq (tgt := 37) C d_M_ask_33 (by decide) (fun c33 => ?_) (fun c33 => ?_)
      · exact absurd c33 (by simp [u2, upd]) --stop
      · skip
        exact Z_vret C hN hr d_M_ask_36 rfl (zeq (rfl))
  · exact absurd c5 (mIsR_ne hr5) --stop
set_option maxRecDepth 100000 in
set_option maxHeartbeats 4000000 in
theorem m_start_0 {l : Launch} {G : zG} {U : zU} (w : wR G U) (N : zR) (r : Nat) (hr5 : r < 5) (h : N 3 r = 0) (hw : ¬ mWeighed (u2 (u2 N 43 0 0) 5 r (u2 N 43 0 0 2 (10 * r + 1))) r = 255) : zF l y_M_start b_M_start 2 none 4 93 G [.ref (U.1 43), .int (nI r)] (eR U N) none (eR U (mBack (u2 (u2 N 43 0 0) 5 r (u2 N 43 0 0 2 (10 * r + 1))) r)) := by
  refine zF.ofZ (by decide) w.2.2.2.2 (Nat.le_of_ble_eq_true rfl) (fun X hXl hN hr C => ?_)
  subst hXl
  show Z X G (zA G) 2 _ (eR U N) 0 [(0, .ref (U.1 43)), (1, .int (nI r))] []
  refine Z_aload_n C 0 d_M_start_0 rfl rfl ?_
  refine Z_iload_n C 1 d_M_start_1 rfl rfl ?_
  refine C_csv C ms_M_isRouter ml_M_128 (c_M_isRouter w _ _) rfl (by decide) rfl (Nat.le_of_ble_eq_true rfl) d_M_start_2 ?_
  refine Z_if_ne (tgt := 12) C d_M_start_5 (by decide) (fun c5 => ?_) (fun c5 => ?_)
  · skip
    refine Z_aload_n C 0 d_M_start_12 rfl rfl ?_
    refine R_get C w 3 (by decide) fl_M_13 rfl rfl d_M_start_13 ?_
    refine Z_iload_n C 1 d_M_start_16 rfl rfl ?_
    refine R_ld 3 C w rfl rfl r (nI_clamp (by omega)) (vp_in_nI (n := r) (N := 5) (by omega) (by decide)) d_M_start_17 ?_
    refine Z_if_eq (tgt := 25) C d_M_start_18 (by decide) (fun c18 => ?_) (fun c18 => ?_)
    · skip
      refine Z_iconst (v := 0) C d_M_start_25 (by decide) ?_
      refine R_put C w 0 (by decide) fl_M_124 rfl rfl rfl rfl rfl d_M_start_26 ?_
      refine Z_aload_n C 0 d_M_start_29 rfl rfl ?_
      refine R_get C w 0 (by decide) fl_M_124 rfl rfl d_M_start_30 ?_
      refine Z_if_eq (tgt := 37) C d_M_start_33 (by decide) (fun c33 => ?_) (fun c33 => ?_)
      · skip
        refine Z_aload_n C 0 d_M_start_37 rfl rfl ?_
        refine R_get C w 5 (by decide) fl_M_19 rfl rfl d_M_start_38 ?_
        refine Z_iload_n C 1 d_M_start_41 rfl rfl ?_
        refine Z_aload_n C 0 d_M_start_42 rfl rfl ?_
        refine Z_iload_n C 1 d_M_start_43 rfl rfl ?_
        refine Z_iconst (v := 1) C d_M_start_44 (by decide) ?_
        refine C_cMv C w mi_M_is ml_M_143 (c_M_is w _ r 1 hr5 (by decide)) rfl rfl (by decide) rfl (Nat.le_of_ble_eq_true rfl) d_M_start_45 ?_
        refine R_st 5 C w rfl rfl r (nI_clamp (by omega)) (vp_in_nI (n := r) (N := 5) (by omega) (by decide)) d_M_start_48 ?_
        refine Z_aload_n C 0 d_M_start_49 rfl rfl ?_
        refine Z_iload_n C 1 d_M_start_50 rfl rfl ?_
        refine C_cMv C w mi_M_weighed ml_M_156 (c_M_weighed w _ _ (by assumption)) rfl rfl (by decide) rfl (Nat.le_of_ble_eq_true rfl) d_M_start_51 ?_
        refine Z_sipush (v := 255) C d_M_start_54 (by decide) ?_
        refine Z_icmp_ne (tgt := 68) C d_M_start_57 (by decide) (fun c57 => ?_) (fun c57 => ?_)
        · skip
          refine Z_aload_n C 0 d_M_start_68 rfl rfl ?_
          refine Z_iload_n C 1 d_M_start_69 rfl rfl ?_
          refine C_cMn C w mi_M_beBackup ml_M_189 (c_M_beBackup w _ _ (by assumption)) rfl rfl (by decide) rfl (Nat.le_of_ble_eq_true rfl) d_M_start_70 ?_
          exact Z_vret C hN hr d_M_start_73 rfl (zeq (rfl))
        · exact absurd c57 hw --stop
      · exact absurd (by simp [u2, upd]) c33 --stop
    · exact absurd h c18 --stop
  · exact absurd c5 (mIsR_ne hr5) --stop
set_option maxRecDepth 100000 in
set_option maxHeartbeats 4000000 in
theorem m_open_1 {l : Launch} {G : zG} {U : zU} (w : wR G U) (N : zR) (x y tx rx m : Int32) (h : mIsR x = 0 ∨ mIsR y = 0 ∨ x = y) : zF l y_M_open b_M_open 8 none 3 63 G [.ref (U.1 43), .int x, .int y, .int tx, .int rx, .int m] (eR U N) none (eR U (u2 N 43 0 1)) := by
  refine zF.ofZ (by decide) w.2.2.2.2 (Nat.le_of_ble_eq_true rfl) (fun X hXl hN hr C => ?_)
  subst hXl
  show Z X G (zA G) 8 _ (eR U N) 0 [(0, .ref (U.1 43)), (1, .int x), (2, .int y), (3, .int tx), (4, .int rx), (5, .int m)] []
  refine Z_iload_n C 3 d_M_open_0 rfl rfl ?_
  refine Z_iconst (v := 1) C d_M_open_1 (by decide) ?_
  refine Z_icmp_lt (tgt := 44) C d_M_open_2 (by decide) (fun c2 => ?_) (fun c2 => ?_)
  · skip
    refine Z_iconst (v := 0) C d_M_open_44 (by decide) ?_
    refine Z_istore C d_M_open_45 (by decide) rfl ?_
    refine Z_aload_n C 1 d_M_open_47 rfl rfl ?_
    refine Z_iload_n C 2 d_M_open_48 rfl rfl ?_
    refine C_csv C ms_M_isRouter ml_M_128 (c_M_isRouter w _ _) rfl (by decide) rfl (Nat.le_of_ble_eq_true rfl) d_M_open_49 ?_
    refine Z_if_eq (tgt := 67) C d_M_open_52 (by decide) (fun c52 => ?_) (fun c52 => ?_)
    · skip
      refine Z_iconst (v := 1) C d_M_open_67 (by decide) ?_
      refine Z_goto (tgt := 94) C d_M_open_68 (by decide) ?_
      refine R_put C w 0 (by decide) fl_M_124 rfl rfl rfl rfl rfl d_M_open_94 ?_
      refine Z_aload_n C 1 d_M_open_97 rfl rfl ?_
      refine R_get C w 0 (by decide) fl_M_124 rfl rfl d_M_open_98 ?_
      refine Z_if_eq (tgt := 105) C d_M_open_101 (by decide) (fun c101 => ?_) (fun c101 => ?_)
      · exact absurd c101 (by simp [u2, upd]) --stop
      · skip
        exact Z_vret C hN hr d_M_open_104 rfl (zeq (rfl))
    · skip
      refine Z_iload_n C 3 d_M_open_55 rfl rfl ?_
      refine C_csv C ms_M_isRouter ml_M_128 (c_M_isRouter w _ _) rfl (by decide) rfl (Nat.le_of_ble_eq_true rfl) d_M_open_56 ?_
      refine Z_if_eq (tgt := 67) C d_M_open_59 (by decide) (fun c59 => ?_) (fun c59 => ?_)
      · skip
        refine Z_iconst (v := 1) C d_M_open_67 (by decide) ?_
        refine Z_goto (tgt := 94) C d_M_open_68 (by decide) ?_
        refine R_put C w 0 (by decide) fl_M_124 rfl rfl rfl rfl rfl d_M_open_94 ?_
        refine Z_aload_n C 1 d_M_open_97 rfl rfl ?_
        refine R_get C w 0 (by decide) fl_M_124 rfl rfl d_M_open_98 ?_
        refine Z_if_eq (tgt := 105) C d_M_open_101 (by decide) (fun c101 => ?_) (fun c101 => ?_)
        · exact absurd c101 (by simp [u2, upd]) --stop
        · skip
          exact Z_vret C hN hr d_M_open_104 rfl (zeq (rfl))
      · skip
        refine Z_iload_n C 2 d_M_open_62 rfl rfl ?_
        refine Z_iload_n C 3 d_M_open_63 rfl rfl ?_
        refine Z_icmp_ne (tgt := 71) C d_M_open_64 (by decide) (fun c64 => ?_) (fun c64 => ?_)
        · exact absurd ((h.resolve_left c52).resolve_left c59) c64 --stop
        · skip
          refine Z_iconst (v := 1) C d_M_open_67 (by decide) ?_
          refine Z_goto (tgt := 94) C d_M_open_68 (by decide) ?_
          refine R_put C w 0 (by decide) fl_M_124 rfl rfl rfl rfl rfl d_M_open_94 ?_
          refine Z_aload_n C 1 d_M_open_97 rfl rfl ?_
          refine R_get C w 0 (by decide) fl_M_124 rfl rfl d_M_open_98 ?_
          refine Z_if_eq (tgt := 105) C d_M_open_101 (by decide) (fun c101 => ?_) (fun c101 => ?_)
          · exact absurd c101 (by simp [u2, upd]) --stop
          · skip
            exact Z_vret C hN hr d_M_open_104 rfl (zeq (rfl))
  · skip
    refine Z_iload_n C 3 d_M_open_5 rfl rfl ?_
    refine Z_sipush (v := 1000) C d_M_open_6 (by decide) ?_
    refine Z_icmp_gt (tgt := 44) C d_M_open_9 (by decide) (fun c9 => ?_) (fun c9 => ?_)
    · skip
      refine Z_iconst (v := 0) C d_M_open_44 (by decide) ?_
      refine Z_istore C d_M_open_45 (by decide) rfl ?_
      refine Z_aload_n C 1 d_M_open_47 rfl rfl ?_
      refine Z_iload_n C 2 d_M_open_48 rfl rfl ?_
      refine C_csv C ms_M_isRouter ml_M_128 (c_M_isRouter w _ _) rfl (by decide) rfl (Nat.le_of_ble_eq_true rfl) d_M_open_49 ?_
      refine Z_if_eq (tgt := 67) C d_M_open_52 (by decide) (fun c52 => ?_) (fun c52 => ?_)
      · skip
        refine Z_iconst (v := 1) C d_M_open_67 (by decide) ?_
        refine Z_goto (tgt := 94) C d_M_open_68 (by decide) ?_
        refine R_put C w 0 (by decide) fl_M_124 rfl rfl rfl rfl rfl d_M_open_94 ?_
        refine Z_aload_n C 1 d_M_open_97 rfl rfl ?_
        refine R_get C w 0 (by decide) fl_M_124 rfl rfl d_M_open_98 ?_
        refine Z_if_eq (tgt := 105) C d_M_open_101 (by decide) (fun c101 => ?_) (fun c101 => ?_)
        · exact absurd c101 (by simp [u2, upd]) --stop
        · skip
          exact Z_vret C hN hr d_M_open_104 rfl (zeq (rfl))
      · skip
        refine Z_iload_n C 3 d_M_open_55 rfl rfl ?_
        refine C_csv C ms_M_isRouter ml_M_128 (c_M_isRouter w _ _) rfl (by decide) rfl (Nat.le_of_ble_eq_true rfl) d_M_open_56 ?_
        refine Z_if_eq (tgt := 67) C d_M_open_59 (by decide) (fun c59 => ?_) (fun c59 => ?_)
        · skip
          refine Z_iconst (v := 1) C d_M_open_67 (by decide) ?_
          refine Z_goto (tgt := 94) C d_M_open_68 (by decide) ?_
          refine R_put C w 0 (by decide) fl_M_124 rfl rfl rfl rfl rfl d_M_open_94 ?_
          refine Z_aload_n C 1 d_M_open_97 rfl rfl ?_
          refine R_get C w 0 (by decide) fl_M_124 rfl rfl d_M_open_98 ?_
          refine Z_if_eq (tgt := 105) C d_M_open_101 (by decide) (fun c101 => ?_) (fun c101 => ?_)
          · exact absurd c101 (by simp [u2, upd]) --stop
          · skip
            exact Z_vret C hN hr d_M_open_104 rfl (zeq (rfl))
        · skip
          refine Z_iload_n C 2 d_M_open_62 rfl rfl ?_
          refine Z_iload_n C 3 d_M_open_63 rfl rfl ?_
          refine Z_icmp_ne (tgt := 71) C d_M_open_64 (by decide) (fun c64 => ?_) (fun c64 => ?_)
          · exact absurd ((h.resolve_left c52).resolve_left c59) c64 --stop
          · skip
            refine Z_iconst (v := 1) C d_M_open_67 (by decide) ?_
            refine Z_goto (tgt := 94) C d_M_open_68 (by decide) ?_
            refine R_put C w 0 (by decide) fl_M_124 rfl rfl rfl rfl rfl d_M_open_94 ?_
            refine Z_aload_n C 1 d_M_open_97 rfl rfl ?_
            refine R_get C w 0 (by decide) fl_M_124 rfl rfl d_M_open_98 ?_
            refine Z_if_eq (tgt := 105) C d_M_open_101 (by decide) (fun c101 => ?_) (fun c101 => ?_)
            · exact absurd c101 (by simp [u2, upd]) --stop
            · skip
              exact Z_vret C hN hr d_M_open_104 rfl (zeq (rfl))
    · skip
      refine Z_iload C 4 d_M_open_12 rfl ?_
      refine Z_iconst (v := 1) C d_M_open_14 (by decide) ?_
      refine Z_icmp_lt (tgt := 44) C d_M_open_15 (by decide) (fun c15 => ?_) (fun c15 => ?_)
      · skip
        refine Z_iconst (v := 0) C d_M_open_44 (by decide) ?_
        refine Z_istore C d_M_open_45 (by decide) rfl ?_
        refine Z_aload_n C 1 d_M_open_47 rfl rfl ?_
        refine Z_iload_n C 2 d_M_open_48 rfl rfl ?_
        refine C_csv C ms_M_isRouter ml_M_128 (c_M_isRouter w _ _) rfl (by decide) rfl (Nat.le_of_ble_eq_true rfl) d_M_open_49 ?_
        refine Z_if_eq (tgt := 67) C d_M_open_52 (by decide) (fun c52 => ?_) (fun c52 => ?_)
        · skip
          refine Z_iconst (v := 1) C d_M_open_67 (by decide) ?_
          refine Z_goto (tgt := 94) C d_M_open_68 (by decide) ?_
          refine R_put C w 0 (by decide) fl_M_124 rfl rfl rfl rfl rfl d_M_open_94 ?_
          refine Z_aload_n C 1 d_M_open_97 rfl rfl ?_
          refine R_get C w 0 (by decide) fl_M_124 rfl rfl d_M_open_98 ?_
          refine Z_if_eq (tgt := 105) C d_M_open_101 (by decide) (fun c101 => ?_) (fun c101 => ?_)
          · exact absurd c101 (by simp [u2, upd]) --stop
          · skip
            exact Z_vret C hN hr d_M_open_104 rfl (zeq (rfl))
        · skip
          refine Z_iload_n C 3 d_M_open_55 rfl rfl ?_
          refine C_csv C ms_M_isRouter ml_M_128 (c_M_isRouter w _ _) rfl (by decide) rfl (Nat.le_of_ble_eq_true rfl) d_M_open_56 ?_
          refine Z_if_eq (tgt := 67) C d_M_open_59 (by decide) (fun c59 => ?_) (fun c59 => ?_)
          · skip
            refine Z_iconst (v := 1) C d_M_open_67 (by decide) ?_
            refine Z_goto (tgt := 94) C d_M_open_68 (by decide) ?_
            refine R_put C w 0 (by decide) fl_M_124 rfl rfl rfl rfl rfl d_M_open_94 ?_
            refine Z_aload_n C 1 d_M_open_97 rfl rfl ?_
            refine R_get C w 0 (by decide) fl_M_124 rfl rfl d_M_open_98 ?_
            refine Z_if_eq (tgt := 105) C d_M_open_101 (by decide) (fun c101 => ?_) (fun c101 => ?_)
            · exact absurd c101 (by simp [u2, upd]) --stop
            · skip
              exact Z_vret C hN hr d_M_open_104 rfl (zeq (rfl))
          · skip
            refine Z_iload_n C 2 d_M_open_62 rfl rfl ?_
            refine Z_iload_n C 3 d_M_open_63 rfl rfl ?_
            refine Z_icmp_ne (tgt := 71) C d_M_open_64 (by decide) (fun c64 => ?_) (fun c64 => ?_)
            · exact absurd ((h.resolve_left c52).resolve_left c59) c64 --stop
            · skip
              refine Z_iconst (v := 1) C d_M_open_67 (by decide) ?_
              refine Z_goto (tgt := 94) C d_M_open_68 (by decide) ?_
              refine R_put C w 0 (by decide) fl_M_124 rfl rfl rfl rfl rfl d_M_open_94 ?_
              refine Z_aload_n C 1 d_M_open_97 rfl rfl ?_
              refine R_get C w 0 (by decide) fl_M_124 rfl rfl d_M_open_98 ?_
              refine Z_if_eq (tgt := 105) C d_M_open_101 (by decide) (fun c101 => ?_) (fun c101 => ?_)
              · exact absurd c101 (by simp [u2, upd]) --stop
              · skip
                exact Z_vret C hN hr d_M_open_104 rfl (zeq (rfl))
      · skip
        refine Z_iload C 4 d_M_open_18 rfl ?_
        refine Z_sipush (v := 1000) C d_M_open_20 (by decide) ?_
        refine Z_icmp_gt (tgt := 44) C d_M_open_23 (by decide) (fun c23 => ?_) (fun c23 => ?_)
        · skip
          refine Z_iconst (v := 0) C d_M_open_44 (by decide) ?_
          refine Z_istore C d_M_open_45 (by decide) rfl ?_
          refine Z_aload_n C 1 d_M_open_47 rfl rfl ?_
          refine Z_iload_n C 2 d_M_open_48 rfl rfl ?_
          refine C_csv C ms_M_isRouter ml_M_128 (c_M_isRouter w _ _) rfl (by decide) rfl (Nat.le_of_ble_eq_true rfl) d_M_open_49 ?_
          refine Z_if_eq (tgt := 67) C d_M_open_52 (by decide) (fun c52 => ?_) (fun c52 => ?_)
          · skip
            refine Z_iconst (v := 1) C d_M_open_67 (by decide) ?_
            refine Z_goto (tgt := 94) C d_M_open_68 (by decide) ?_
            refine R_put C w 0 (by decide) fl_M_124 rfl rfl rfl rfl rfl d_M_open_94 ?_
            refine Z_aload_n C 1 d_M_open_97 rfl rfl ?_
            refine R_get C w 0 (by decide) fl_M_124 rfl rfl d_M_open_98 ?_
            refine Z_if_eq (tgt := 105) C d_M_open_101 (by decide) (fun c101 => ?_) (fun c101 => ?_)
            · exact absurd c101 (by simp [u2, upd]) --stop
            · skip
              exact Z_vret C hN hr d_M_open_104 rfl (zeq (rfl))
          · skip
            refine Z_iload_n C 3 d_M_open_55 rfl rfl ?_
            refine C_csv C ms_M_isRouter ml_M_128 (c_M_isRouter w _ _) rfl (by decide) rfl (Nat.le_of_ble_eq_true rfl) d_M_open_56 ?_
            refine Z_if_eq (tgt := 67) C d_M_open_59 (by decide) (fun c59 => ?_) (fun c59 => ?_)
            · skip
              refine Z_iconst (v := 1) C d_M_open_67 (by decide) ?_
              refine Z_goto (tgt := 94) C d_M_open_68 (by decide) ?_
              refine R_put C w 0 (by decide) fl_M_124 rfl rfl rfl rfl rfl d_M_open_94 ?_
              refine Z_aload_n C 1 d_M_open_97 rfl rfl ?_
              refine R_get C w 0 (by decide) fl_M_124 rfl rfl d_M_open_98 ?_
              refine Z_if_eq (tgt := 105) C d_M_open_101 (by decide) (fun c101 => ?_) (fun c101 => ?_)
              · exact absurd c101 (by simp [u2, upd]) --stop
              · skip
                exact Z_vret C hN hr d_M_open_104 rfl (zeq (rfl))
            · skip
              refine Z_iload_n C 2 d_M_open_62 rfl rfl ?_
              refine Z_iload_n C 3 d_M_open_63 rfl rfl ?_
              refine Z_icmp_ne (tgt := 71) C d_M_open_64 (by decide) (fun c64 => ?_) (fun c64 => ?_)
              · exact absurd ((h.resolve_left c52).resolve_left c59) c64 --stop
              · skip
                refine Z_iconst (v := 1) C d_M_open_67 (by decide) ?_
                refine Z_goto (tgt := 94) C d_M_open_68 (by decide) ?_
                refine R_put C w 0 (by decide) fl_M_124 rfl rfl rfl rfl rfl d_M_open_94 ?_
                refine Z_aload_n C 1 d_M_open_97 rfl rfl ?_
                refine R_get C w 0 (by decide) fl_M_124 rfl rfl d_M_open_98 ?_
                refine Z_if_eq (tgt := 105) C d_M_open_101 (by decide) (fun c101 => ?_) (fun c101 => ?_)
                · exact absurd c101 (by simp [u2, upd]) --stop
                · skip
                  exact Z_vret C hN hr d_M_open_104 rfl (zeq (rfl))
        · skip
          refine Z_iload C 5 d_M_open_26 rfl ?_
          refine Z_iconst (v := 1) C d_M_open_28 (by decide) ?_
          refine Z_icmp_lt (tgt := 44) C d_M_open_29 (by decide) (fun c29 => ?_) (fun c29 => ?_)
          · skip
            refine Z_iconst (v := 0) C d_M_open_44 (by decide) ?_
            refine Z_istore C d_M_open_45 (by decide) rfl ?_
            refine Z_aload_n C 1 d_M_open_47 rfl rfl ?_
            refine Z_iload_n C 2 d_M_open_48 rfl rfl ?_
            refine C_csv C ms_M_isRouter ml_M_128 (c_M_isRouter w _ _) rfl (by decide) rfl (Nat.le_of_ble_eq_true rfl) d_M_open_49 ?_
            refine Z_if_eq (tgt := 67) C d_M_open_52 (by decide) (fun c52 => ?_) (fun c52 => ?_)
            · skip
              refine Z_iconst (v := 1) C d_M_open_67 (by decide) ?_
              refine Z_goto (tgt := 94) C d_M_open_68 (by decide) ?_
              refine R_put C w 0 (by decide) fl_M_124 rfl rfl rfl rfl rfl d_M_open_94 ?_
              refine Z_aload_n C 1 d_M_open_97 rfl rfl ?_
              refine R_get C w 0 (by decide) fl_M_124 rfl rfl d_M_open_98 ?_
              refine Z_if_eq (tgt := 105) C d_M_open_101 (by decide) (fun c101 => ?_) (fun c101 => ?_)
              · exact absurd c101 (by simp [u2, upd]) --stop
              · skip
                exact Z_vret C hN hr d_M_open_104 rfl (zeq (rfl))
            · skip
              refine Z_iload_n C 3 d_M_open_55 rfl rfl ?_
              refine C_csv C ms_M_isRouter ml_M_128 (c_M_isRouter w _ _) rfl (by decide) rfl (Nat.le_of_ble_eq_true rfl) d_M_open_56 ?_
              refine Z_if_eq (tgt := 67) C d_M_open_59 (by decide) (fun c59 => ?_) (fun c59 => ?_)
              · skip
                refine Z_iconst (v := 1) C d_M_open_67 (by decide) ?_
                refine Z_goto (tgt := 94) C d_M_open_68 (by decide) ?_
                refine R_put C w 0 (by decide) fl_M_124 rfl rfl rfl rfl rfl d_M_open_94 ?_
                refine Z_aload_n C 1 d_M_open_97 rfl rfl ?_
                refine R_get C w 0 (by decide) fl_M_124 rfl rfl d_M_open_98 ?_
                refine Z_if_eq (tgt := 105) C d_M_open_101 (by decide) (fun c101 => ?_) (fun c101 => ?_)
                · exact absurd c101 (by simp [u2, upd]) --stop
                · skip
                  exact Z_vret C hN hr d_M_open_104 rfl (zeq (rfl))
              · skip
                refine Z_iload_n C 2 d_M_open_62 rfl rfl ?_
                refine Z_iload_n C 3 d_M_open_63 rfl rfl ?_
                refine Z_icmp_ne (tgt := 71) C d_M_open_64 (by decide) (fun c64 => ?_) (fun c64 => ?_)
                · exact absurd ((h.resolve_left c52).resolve_left c59) c64 --stop
                · skip
                  refine Z_iconst (v := 1) C d_M_open_67 (by decide) ?_
                  refine Z_goto (tgt := 94) C d_M_open_68 (by decide) ?_
                  refine R_put C w 0 (by decide) fl_M_124 rfl rfl rfl rfl rfl d_M_open_94 ?_
                  refine Z_aload_n C 1 d_M_open_97 rfl rfl ?_
                  refine R_get C w 0 (by decide) fl_M_124 rfl rfl d_M_open_98 ?_
                  refine Z_if_eq (tgt := 105) C d_M_open_101 (by decide) (fun c101 => ?_) (fun c101 => ?_)
                  · exact absurd c101 (by simp [u2, upd]) --stop
                  · skip
                    exact Z_vret C hN hr d_M_open_104 rfl (zeq (rfl))
          · skip
            refine Z_iload C 5 d_M_open_32 rfl ?_
            refine Z_sipush (v := 255) C d_M_open_34 (by decide) ?_
            refine Z_icmp_gt (tgt := 44) C d_M_open_37 (by decide) (fun c37 => ?_) (fun c37 => ?_)
            · skip
              refine Z_iconst (v := 0) C d_M_open_44 (by decide) ?_
              refine Z_istore C d_M_open_45 (by decide) rfl ?_
              refine Z_aload_n C 1 d_M_open_47 rfl rfl ?_
              refine Z_iload_n C 2 d_M_open_48 rfl rfl ?_
              refine C_csv C ms_M_isRouter ml_M_128 (c_M_isRouter w _ _) rfl (by decide) rfl (Nat.le_of_ble_eq_true rfl) d_M_open_49 ?_
              refine Z_if_eq (tgt := 67) C d_M_open_52 (by decide) (fun c52 => ?_) (fun c52 => ?_)
              · skip
                refine Z_iconst (v := 1) C d_M_open_67 (by decide) ?_
                refine Z_goto (tgt := 94) C d_M_open_68 (by decide) ?_
                refine R_put C w 0 (by decide) fl_M_124 rfl rfl rfl rfl rfl d_M_open_94 ?_
                refine Z_aload_n C 1 d_M_open_97 rfl rfl ?_
                refine R_get C w 0 (by decide) fl_M_124 rfl rfl d_M_open_98 ?_
                refine Z_if_eq (tgt := 105) C d_M_open_101 (by decide) (fun c101 => ?_) (fun c101 => ?_)
                · exact absurd c101 (by simp [u2, upd]) --stop
                · skip
                  exact Z_vret C hN hr d_M_open_104 rfl (zeq (rfl))
              · skip
                refine Z_iload_n C 3 d_M_open_55 rfl rfl ?_
                refine C_csv C ms_M_isRouter ml_M_128 (c_M_isRouter w _ _) rfl (by decide) rfl (Nat.le_of_ble_eq_true rfl) d_M_open_56 ?_
                refine Z_if_eq (tgt := 67) C d_M_open_59 (by decide) (fun c59 => ?_) (fun c59 => ?_)
                · skip
                  refine Z_iconst (v := 1) C d_M_open_67 (by decide) ?_
                  refine Z_goto (tgt := 94) C d_M_open_68 (by decide) ?_
                  refine R_put C w 0 (by decide) fl_M_124 rfl rfl rfl rfl rfl d_M_open_94 ?_
                  refine Z_aload_n C 1 d_M_open_97 rfl rfl ?_
                  refine R_get C w 0 (by decide) fl_M_124 rfl rfl d_M_open_98 ?_
                  refine Z_if_eq (tgt := 105) C d_M_open_101 (by decide) (fun c101 => ?_) (fun c101 => ?_)
                  · exact absurd c101 (by simp [u2, upd]) --stop
                  · skip
                    exact Z_vret C hN hr d_M_open_104 rfl (zeq (rfl))
                · skip
                  refine Z_iload_n C 2 d_M_open_62 rfl rfl ?_
                  refine Z_iload_n C 3 d_M_open_63 rfl rfl ?_
                  refine Z_icmp_ne (tgt := 71) C d_M_open_64 (by decide) (fun c64 => ?_) (fun c64 => ?_)
                  · exact absurd ((h.resolve_left c52).resolve_left c59) c64 --stop
                  · skip
                    refine Z_iconst (v := 1) C d_M_open_67 (by decide) ?_
                    refine Z_goto (tgt := 94) C d_M_open_68 (by decide) ?_
                    refine R_put C w 0 (by decide) fl_M_124 rfl rfl rfl rfl rfl d_M_open_94 ?_
                    refine Z_aload_n C 1 d_M_open_97 rfl rfl ?_
                    refine R_get C w 0 (by decide) fl_M_124 rfl rfl d_M_open_98 ?_
                    refine Z_if_eq (tgt := 105) C d_M_open_101 (by decide) (fun c101 => ?_) (fun c101 => ?_)
                    · exact absurd c101 (by simp [u2, upd]) --stop
                    · skip
                      exact Z_vret C hN hr d_M_open_104 rfl (zeq (rfl))
            · skip
              refine Z_iconst (v := 1) C d_M_open_40 (by decide) ?_
              refine Z_goto (tgt := 45) C d_M_open_41 (by decide) ?_
              refine Z_istore C d_M_open_45 (by decide) rfl ?_
              refine Z_aload_n C 1 d_M_open_47 rfl rfl ?_
              refine Z_iload_n C 2 d_M_open_48 rfl rfl ?_
              refine C_csv C ms_M_isRouter ml_M_128 (c_M_isRouter w _ _) rfl (by decide) rfl (Nat.le_of_ble_eq_true rfl) d_M_open_49 ?_
              refine Z_if_eq (tgt := 67) C d_M_open_52 (by decide) (fun c52 => ?_) (fun c52 => ?_)
              · skip
                refine Z_iconst (v := 1) C d_M_open_67 (by decide) ?_
                refine Z_goto (tgt := 94) C d_M_open_68 (by decide) ?_
                refine R_put C w 0 (by decide) fl_M_124 rfl rfl rfl rfl rfl d_M_open_94 ?_
                refine Z_aload_n C 1 d_M_open_97 rfl rfl ?_
                refine R_get C w 0 (by decide) fl_M_124 rfl rfl d_M_open_98 ?_
                refine Z_if_eq (tgt := 105) C d_M_open_101 (by decide) (fun c101 => ?_) (fun c101 => ?_)
                · exact absurd c101 (by simp [u2, upd]) --stop
                · skip
                  exact Z_vret C hN hr d_M_open_104 rfl (zeq (rfl))
              · skip
                refine Z_iload_n C 3 d_M_open_55 rfl rfl ?_
                refine C_csv C ms_M_isRouter ml_M_128 (c_M_isRouter w _ _) rfl (by decide) rfl (Nat.le_of_ble_eq_true rfl) d_M_open_56 ?_
                refine Z_if_eq (tgt := 67) C d_M_open_59 (by decide) (fun c59 => ?_) (fun c59 => ?_)
                · skip
                  refine Z_iconst (v := 1) C d_M_open_67 (by decide) ?_
                  refine Z_goto (tgt := 94) C d_M_open_68 (by decide) ?_
                  refine R_put C w 0 (by decide) fl_M_124 rfl rfl rfl rfl rfl d_M_open_94 ?_
                  refine Z_aload_n C 1 d_M_open_97 rfl rfl ?_
                  refine R_get C w 0 (by decide) fl_M_124 rfl rfl d_M_open_98 ?_
                  refine Z_if_eq (tgt := 105) C d_M_open_101 (by decide) (fun c101 => ?_) (fun c101 => ?_)
                  · exact absurd c101 (by simp [u2, upd]) --stop
                  · skip
                    exact Z_vret C hN hr d_M_open_104 rfl (zeq (rfl))
                · skip
                  refine Z_iload_n C 2 d_M_open_62 rfl rfl ?_
                  refine Z_iload_n C 3 d_M_open_63 rfl rfl ?_
                  refine Z_icmp_ne (tgt := 71) C d_M_open_64 (by decide) (fun c64 => ?_) (fun c64 => ?_)
                  · exact absurd ((h.resolve_left c52).resolve_left c59) c64 --stop
                  · skip
                    refine Z_iconst (v := 1) C d_M_open_67 (by decide) ?_
                    refine Z_goto (tgt := 94) C d_M_open_68 (by decide) ?_
                    refine R_put C w 0 (by decide) fl_M_124 rfl rfl rfl rfl rfl d_M_open_94 ?_
                    refine Z_aload_n C 1 d_M_open_97 rfl rfl ?_
                    refine R_get C w 0 (by decide) fl_M_124 rfl rfl d_M_open_98 ?_
                    refine Z_if_eq (tgt := 105) C d_M_open_101 (by decide) (fun c101 => ?_) (fun c101 => ?_)
                    · exact absurd c101 (by simp [u2, upd]) --stop
                    · skip
                      exact Z_vret C hN hr d_M_open_104 rfl (zeq (rfl))
set_option maxRecDepth 100000 in
set_option maxHeartbeats 4000000 in
theorem m_open_2 {l : Launch} {G : zG} {U : zU} (w : wR G U) (N : zR) (r : Nat) (hr5 : r < 5) (s : Nat) (hs5 : s < 5) (tx rx m : Int32) (hrs : ¬ r = s) (h : N 3 r = 0) : zF l y_M_open b_M_open 8 none 3 63 G [.ref (U.1 43), .int (nI r), .int (nI s), .int tx, .int rx, .int m] (eR U N) none (eR U (u2 N 43 0 2)) := by
  refine zF.ofZ (by decide) w.2.2.2.2 (Nat.le_of_ble_eq_true rfl) (fun X hXl hN hr C => ?_)
  subst hXl
  show Z X G (zA G) 8 _ (eR U N) 0 [(0, .ref (U.1 43)), (1, .int (nI r)), (2, .int (nI s)), (3, .int tx), (4, .int rx), (5, .int m)] []
  refine Z_iload_n C 3 d_M_open_0 rfl rfl ?_
  refine Z_iconst (v := 1) C d_M_open_1 (by decide) ?_
  refine Z_icmp_lt (tgt := 44) C d_M_open_2 (by decide) (fun c2 => ?_) (fun c2 => ?_)
  · skip
    refine Z_iconst (v := 0) C d_M_open_44 (by decide) ?_
    refine Z_istore C d_M_open_45 (by decide) rfl ?_
    refine Z_aload_n C 1 d_M_open_47 rfl rfl ?_
    refine Z_iload_n C 2 d_M_open_48 rfl rfl ?_
    refine C_csv C ms_M_isRouter ml_M_128 (c_M_isRouter w _ _) rfl (by decide) rfl (Nat.le_of_ble_eq_true rfl) d_M_open_49 ?_
    refine Z_if_eq (tgt := 67) C d_M_open_52 (by decide) (fun c52 => ?_) (fun c52 => ?_)
    · exact absurd c52 (mIsR_ne hr5) --stop
    · skip
      refine Z_iload_n C 3 d_M_open_55 rfl rfl ?_
      refine C_csv C ms_M_isRouter ml_M_128 (c_M_isRouter w _ _) rfl (by decide) rfl (Nat.le_of_ble_eq_true rfl) d_M_open_56 ?_
      refine Z_if_eq (tgt := 67) C d_M_open_59 (by decide) (fun c59 => ?_) (fun c59 => ?_)
      · exact absurd c59 (mIsR_ne hs5) --stop
      · skip
        refine Z_iload_n C 2 d_M_open_62 rfl rfl ?_
        refine Z_iload_n C 3 d_M_open_63 rfl rfl ?_
        refine Z_icmp_ne (tgt := 71) C d_M_open_64 (by decide) (fun c64 => ?_) (fun c64 => ?_)
        · skip
          refine Z_aload_n C 1 d_M_open_71 rfl rfl ?_
          refine R_get C w 3 (by decide) fl_M_13 rfl rfl d_M_open_72 ?_
          refine Z_iload_n C 2 d_M_open_75 rfl rfl ?_
          refine R_ld 3 C w rfl rfl r (nI_clamp (by omega)) (vp_in_nI (n := r) (N := 5) (by omega) (by decide)) d_M_open_76 ?_
          refine Z_if_ne (tgt := 84) C d_M_open_77 (by decide) (fun c77 => ?_) (fun c77 => ?_)
          · exact absurd h c77 --stop
          · skip
            refine Z_iconst (v := 2) C d_M_open_80 (by decide) ?_
            refine Z_goto (tgt := 94) C d_M_open_81 (by decide) ?_
            refine R_put C w 0 (by decide) fl_M_124 rfl rfl rfl rfl rfl d_M_open_94 ?_
            refine Z_aload_n C 1 d_M_open_97 rfl rfl ?_
            refine R_get C w 0 (by decide) fl_M_124 rfl rfl d_M_open_98 ?_
            refine Z_if_eq (tgt := 105) C d_M_open_101 (by decide) (fun c101 => ?_) (fun c101 => ?_)
            · exact absurd c101 (by simp [u2, upd]) --stop
            · skip
              exact Z_vret C hN hr d_M_open_104 rfl (zeq (rfl))
        · exact absurd ((nI_eq (by omega) (by omega)).mp c64) hrs --stop
  · skip
    refine Z_iload_n C 3 d_M_open_5 rfl rfl ?_
    refine Z_sipush (v := 1000) C d_M_open_6 (by decide) ?_
    refine Z_icmp_gt (tgt := 44) C d_M_open_9 (by decide) (fun c9 => ?_) (fun c9 => ?_)
    · skip
      refine Z_iconst (v := 0) C d_M_open_44 (by decide) ?_
      refine Z_istore C d_M_open_45 (by decide) rfl ?_
      refine Z_aload_n C 1 d_M_open_47 rfl rfl ?_
      refine Z_iload_n C 2 d_M_open_48 rfl rfl ?_
      refine C_csv C ms_M_isRouter ml_M_128 (c_M_isRouter w _ _) rfl (by decide) rfl (Nat.le_of_ble_eq_true rfl) d_M_open_49 ?_
      refine Z_if_eq (tgt := 67) C d_M_open_52 (by decide) (fun c52 => ?_) (fun c52 => ?_)
      · exact absurd c52 (mIsR_ne hr5) --stop
      · skip
        refine Z_iload_n C 3 d_M_open_55 rfl rfl ?_
        refine C_csv C ms_M_isRouter ml_M_128 (c_M_isRouter w _ _) rfl (by decide) rfl (Nat.le_of_ble_eq_true rfl) d_M_open_56 ?_
        refine Z_if_eq (tgt := 67) C d_M_open_59 (by decide) (fun c59 => ?_) (fun c59 => ?_)
        · exact absurd c59 (mIsR_ne hs5) --stop
        · skip
          refine Z_iload_n C 2 d_M_open_62 rfl rfl ?_
          refine Z_iload_n C 3 d_M_open_63 rfl rfl ?_
          refine Z_icmp_ne (tgt := 71) C d_M_open_64 (by decide) (fun c64 => ?_) (fun c64 => ?_)
          · skip
            refine Z_aload_n C 1 d_M_open_71 rfl rfl ?_
            refine R_get C w 3 (by decide) fl_M_13 rfl rfl d_M_open_72 ?_
            refine Z_iload_n C 2 d_M_open_75 rfl rfl ?_
            refine R_ld 3 C w rfl rfl r (nI_clamp (by omega)) (vp_in_nI (n := r) (N := 5) (by omega) (by decide)) d_M_open_76 ?_
            refine Z_if_ne (tgt := 84) C d_M_open_77 (by decide) (fun c77 => ?_) (fun c77 => ?_)
            · exact absurd h c77 --stop
            · skip
              refine Z_iconst (v := 2) C d_M_open_80 (by decide) ?_
              refine Z_goto (tgt := 94) C d_M_open_81 (by decide) ?_
              refine R_put C w 0 (by decide) fl_M_124 rfl rfl rfl rfl rfl d_M_open_94 ?_
              refine Z_aload_n C 1 d_M_open_97 rfl rfl ?_
              refine R_get C w 0 (by decide) fl_M_124 rfl rfl d_M_open_98 ?_
              refine Z_if_eq (tgt := 105) C d_M_open_101 (by decide) (fun c101 => ?_) (fun c101 => ?_)
              · exact absurd c101 (by simp [u2, upd]) --stop
              · skip
                exact Z_vret C hN hr d_M_open_104 rfl (zeq (rfl))
          · exact absurd ((nI_eq (by omega) (by omega)).mp c64) hrs --stop
    · skip
      refine Z_iload C 4 d_M_open_12 rfl ?_
      refine Z_iconst (v := 1) C d_M_open_14 (by decide) ?_
      refine Z_icmp_lt (tgt := 44) C d_M_open_15 (by decide) (fun c15 => ?_) (fun c15 => ?_)
      · skip
        refine Z_iconst (v := 0) C d_M_open_44 (by decide) ?_
        refine Z_istore C d_M_open_45 (by decide) rfl ?_
        refine Z_aload_n C 1 d_M_open_47 rfl rfl ?_
        refine Z_iload_n C 2 d_M_open_48 rfl rfl ?_
        refine C_csv C ms_M_isRouter ml_M_128 (c_M_isRouter w _ _) rfl (by decide) rfl (Nat.le_of_ble_eq_true rfl) d_M_open_49 ?_
        refine Z_if_eq (tgt := 67) C d_M_open_52 (by decide) (fun c52 => ?_) (fun c52 => ?_)
        · exact absurd c52 (mIsR_ne hr5) --stop
        · skip
          refine Z_iload_n C 3 d_M_open_55 rfl rfl ?_
          refine C_csv C ms_M_isRouter ml_M_128 (c_M_isRouter w _ _) rfl (by decide) rfl (Nat.le_of_ble_eq_true rfl) d_M_open_56 ?_
          refine Z_if_eq (tgt := 67) C d_M_open_59 (by decide) (fun c59 => ?_) (fun c59 => ?_)
          · exact absurd c59 (mIsR_ne hs5) --stop
          · skip
            refine Z_iload_n C 2 d_M_open_62 rfl rfl ?_
            refine Z_iload_n C 3 d_M_open_63 rfl rfl ?_
            refine Z_icmp_ne (tgt := 71) C d_M_open_64 (by decide) (fun c64 => ?_) (fun c64 => ?_)
            · skip
              refine Z_aload_n C 1 d_M_open_71 rfl rfl ?_
              refine R_get C w 3 (by decide) fl_M_13 rfl rfl d_M_open_72 ?_
              refine Z_iload_n C 2 d_M_open_75 rfl rfl ?_
              refine R_ld 3 C w rfl rfl r (nI_clamp (by omega)) (vp_in_nI (n := r) (N := 5) (by omega) (by decide)) d_M_open_76 ?_
              refine Z_if_ne (tgt := 84) C d_M_open_77 (by decide) (fun c77 => ?_) (fun c77 => ?_)
              · exact absurd h c77 --stop
              · skip
                refine Z_iconst (v := 2) C d_M_open_80 (by decide) ?_
                refine Z_goto (tgt := 94) C d_M_open_81 (by decide) ?_
                refine R_put C w 0 (by decide) fl_M_124 rfl rfl rfl rfl rfl d_M_open_94 ?_
                refine Z_aload_n C 1 d_M_open_97 rfl rfl ?_
                refine R_get C w 0 (by decide) fl_M_124 rfl rfl d_M_open_98 ?_
                refine Z_if_eq (tgt := 105) C d_M_open_101 (by decide) (fun c101 => ?_) (fun c101 => ?_)
                · exact absurd c101 (by simp [u2, upd]) --stop
                · skip
                  exact Z_vret C hN hr d_M_open_104 rfl (zeq (rfl))
            · exact absurd ((nI_eq (by omega) (by omega)).mp c64) hrs --stop
      · skip
        refine Z_iload C 4 d_M_open_18 rfl ?_
        refine Z_sipush (v := 1000) C d_M_open_20 (by decide) ?_
        refine Z_icmp_gt (tgt := 44) C d_M_open_23 (by decide) (fun c23 => ?_) (fun c23 => ?_)
        · skip
          refine Z_iconst (v := 0) C d_M_open_44 (by decide) ?_
          refine Z_istore C d_M_open_45 (by decide) rfl ?_
          refine Z_aload_n C 1 d_M_open_47 rfl rfl ?_
          refine Z_iload_n C 2 d_M_open_48 rfl rfl ?_
          refine C_csv C ms_M_isRouter ml_M_128 (c_M_isRouter w _ _) rfl (by decide) rfl (Nat.le_of_ble_eq_true rfl) d_M_open_49 ?_
          refine Z_if_eq (tgt := 67) C d_M_open_52 (by decide) (fun c52 => ?_) (fun c52 => ?_)
          · exact absurd c52 (mIsR_ne hr5) --stop
          · skip
            refine Z_iload_n C 3 d_M_open_55 rfl rfl ?_
            refine C_csv C ms_M_isRouter ml_M_128 (c_M_isRouter w _ _) rfl (by decide) rfl (Nat.le_of_ble_eq_true rfl) d_M_open_56 ?_
            refine Z_if_eq (tgt := 67) C d_M_open_59 (by decide) (fun c59 => ?_) (fun c59 => ?_)
            · exact absurd c59 (mIsR_ne hs5) --stop
            · skip
              refine Z_iload_n C 2 d_M_open_62 rfl rfl ?_
              refine Z_iload_n C 3 d_M_open_63 rfl rfl ?_
              refine Z_icmp_ne (tgt := 71) C d_M_open_64 (by decide) (fun c64 => ?_) (fun c64 => ?_)
              · skip
                refine Z_aload_n C 1 d_M_open_71 rfl rfl ?_
                refine R_get C w 3 (by decide) fl_M_13 rfl rfl d_M_open_72 ?_
                refine Z_iload_n C 2 d_M_open_75 rfl rfl ?_
                refine R_ld 3 C w rfl rfl r (nI_clamp (by omega)) (vp_in_nI (n := r) (N := 5) (by omega) (by decide)) d_M_open_76 ?_
                refine Z_if_ne (tgt := 84) C d_M_open_77 (by decide) (fun c77 => ?_) (fun c77 => ?_)
                · exact absurd h c77 --stop
                · skip
                  refine Z_iconst (v := 2) C d_M_open_80 (by decide) ?_
                  refine Z_goto (tgt := 94) C d_M_open_81 (by decide) ?_
                  refine R_put C w 0 (by decide) fl_M_124 rfl rfl rfl rfl rfl d_M_open_94 ?_
                  refine Z_aload_n C 1 d_M_open_97 rfl rfl ?_
                  refine R_get C w 0 (by decide) fl_M_124 rfl rfl d_M_open_98 ?_
                  refine Z_if_eq (tgt := 105) C d_M_open_101 (by decide) (fun c101 => ?_) (fun c101 => ?_)
                  · exact absurd c101 (by simp [u2, upd]) --stop
                  · skip
                    exact Z_vret C hN hr d_M_open_104 rfl (zeq (rfl))
              · exact absurd ((nI_eq (by omega) (by omega)).mp c64) hrs --stop
        · skip
          refine Z_iload C 5 d_M_open_26 rfl ?_
          refine Z_iconst (v := 1) C d_M_open_28 (by decide) ?_
          refine Z_icmp_lt (tgt := 44) C d_M_open_29 (by decide) (fun c29 => ?_) (fun c29 => ?_)
          · skip
            refine Z_iconst (v := 0) C d_M_open_44 (by decide) ?_
            refine Z_istore C d_M_open_45 (by decide) rfl ?_
            refine Z_aload_n C 1 d_M_open_47 rfl rfl ?_
            refine Z_iload_n C 2 d_M_open_48 rfl rfl ?_
            refine C_csv C ms_M_isRouter ml_M_128 (c_M_isRouter w _ _) rfl (by decide) rfl (Nat.le_of_ble_eq_true rfl) d_M_open_49 ?_
            refine Z_if_eq (tgt := 67) C d_M_open_52 (by decide) (fun c52 => ?_) (fun c52 => ?_)
            · exact absurd c52 (mIsR_ne hr5) --stop
            · skip
              refine Z_iload_n C 3 d_M_open_55 rfl rfl ?_
              refine C_csv C ms_M_isRouter ml_M_128 (c_M_isRouter w _ _) rfl (by decide) rfl (Nat.le_of_ble_eq_true rfl) d_M_open_56 ?_
              refine Z_if_eq (tgt := 67) C d_M_open_59 (by decide) (fun c59 => ?_) (fun c59 => ?_)
              · exact absurd c59 (mIsR_ne hs5) --stop
              · skip
                refine Z_iload_n C 2 d_M_open_62 rfl rfl ?_
                refine Z_iload_n C 3 d_M_open_63 rfl rfl ?_
                refine Z_icmp_ne (tgt := 71) C d_M_open_64 (by decide) (fun c64 => ?_) (fun c64 => ?_)
                · skip
                  refine Z_aload_n C 1 d_M_open_71 rfl rfl ?_
                  refine R_get C w 3 (by decide) fl_M_13 rfl rfl d_M_open_72 ?_
                  refine Z_iload_n C 2 d_M_open_75 rfl rfl ?_
                  refine R_ld 3 C w rfl rfl r (nI_clamp (by omega)) (vp_in_nI (n := r) (N := 5) (by omega) (by decide)) d_M_open_76 ?_
                  refine Z_if_ne (tgt := 84) C d_M_open_77 (by decide) (fun c77 => ?_) (fun c77 => ?_)
                  · exact absurd h c77 --stop
                  · skip
                    refine Z_iconst (v := 2) C d_M_open_80 (by decide) ?_
                    refine Z_goto (tgt := 94) C d_M_open_81 (by decide) ?_
                    refine R_put C w 0 (by decide) fl_M_124 rfl rfl rfl rfl rfl d_M_open_94 ?_
                    refine Z_aload_n C 1 d_M_open_97 rfl rfl ?_
                    refine R_get C w 0 (by decide) fl_M_124 rfl rfl d_M_open_98 ?_
                    refine Z_if_eq (tgt := 105) C d_M_open_101 (by decide) (fun c101 => ?_) (fun c101 => ?_)
                    · exact absurd c101 (by simp [u2, upd]) --stop
                    · skip
                      exact Z_vret C hN hr d_M_open_104 rfl (zeq (rfl))
                · exact absurd ((nI_eq (by omega) (by omega)).mp c64) hrs --stop
          · skip
            refine Z_iload C 5 d_M_open_32 rfl ?_
            refine Z_sipush (v := 255) C d_M_open_34 (by decide) ?_
            refine Z_icmp_gt (tgt := 44) C d_M_open_37 (by decide) (fun c37 => ?_) (fun c37 => ?_)
            · skip
              refine Z_iconst (v := 0) C d_M_open_44 (by decide) ?_
              refine Z_istore C d_M_open_45 (by decide) rfl ?_
              refine Z_aload_n C 1 d_M_open_47 rfl rfl ?_
              refine Z_iload_n C 2 d_M_open_48 rfl rfl ?_
              refine C_csv C ms_M_isRouter ml_M_128 (c_M_isRouter w _ _) rfl (by decide) rfl (Nat.le_of_ble_eq_true rfl) d_M_open_49 ?_
              refine Z_if_eq (tgt := 67) C d_M_open_52 (by decide) (fun c52 => ?_) (fun c52 => ?_)
              · exact absurd c52 (mIsR_ne hr5) --stop
              · skip
                refine Z_iload_n C 3 d_M_open_55 rfl rfl ?_
                refine C_csv C ms_M_isRouter ml_M_128 (c_M_isRouter w _ _) rfl (by decide) rfl (Nat.le_of_ble_eq_true rfl) d_M_open_56 ?_
                refine Z_if_eq (tgt := 67) C d_M_open_59 (by decide) (fun c59 => ?_) (fun c59 => ?_)
                · exact absurd c59 (mIsR_ne hs5) --stop
                · skip
                  refine Z_iload_n C 2 d_M_open_62 rfl rfl ?_
                  refine Z_iload_n C 3 d_M_open_63 rfl rfl ?_
                  refine Z_icmp_ne (tgt := 71) C d_M_open_64 (by decide) (fun c64 => ?_) (fun c64 => ?_)
                  · skip
                    refine Z_aload_n C 1 d_M_open_71 rfl rfl ?_
                    refine R_get C w 3 (by decide) fl_M_13 rfl rfl d_M_open_72 ?_
                    refine Z_iload_n C 2 d_M_open_75 rfl rfl ?_
                    refine R_ld 3 C w rfl rfl r (nI_clamp (by omega)) (vp_in_nI (n := r) (N := 5) (by omega) (by decide)) d_M_open_76 ?_
                    refine Z_if_ne (tgt := 84) C d_M_open_77 (by decide) (fun c77 => ?_) (fun c77 => ?_)
                    · exact absurd h c77 --stop
                    · skip
                      refine Z_iconst (v := 2) C d_M_open_80 (by decide) ?_
                      refine Z_goto (tgt := 94) C d_M_open_81 (by decide) ?_
                      refine R_put C w 0 (by decide) fl_M_124 rfl rfl rfl rfl rfl d_M_open_94 ?_
                      refine Z_aload_n C 1 d_M_open_97 rfl rfl ?_
                      refine R_get C w 0 (by decide) fl_M_124 rfl rfl d_M_open_98 ?_
                      refine Z_if_eq (tgt := 105) C d_M_open_101 (by decide) (fun c101 => ?_) (fun c101 => ?_)
                      · exact absurd c101 (by simp [u2, upd]) --stop
                      · skip
                        exact Z_vret C hN hr d_M_open_104 rfl (zeq (rfl))
                  · exact absurd ((nI_eq (by omega) (by omega)).mp c64) hrs --stop
            · skip
              refine Z_iconst (v := 1) C d_M_open_40 (by decide) ?_
              refine Z_goto (tgt := 45) C d_M_open_41 (by decide) ?_
              refine Z_istore C d_M_open_45 (by decide) rfl ?_
              refine Z_aload_n C 1 d_M_open_47 rfl rfl ?_
              refine Z_iload_n C 2 d_M_open_48 rfl rfl ?_
              refine C_csv C ms_M_isRouter ml_M_128 (c_M_isRouter w _ _) rfl (by decide) rfl (Nat.le_of_ble_eq_true rfl) d_M_open_49 ?_
              refine Z_if_eq (tgt := 67) C d_M_open_52 (by decide) (fun c52 => ?_) (fun c52 => ?_)
              · exact absurd c52 (mIsR_ne hr5) --stop
              · skip
                refine Z_iload_n C 3 d_M_open_55 rfl rfl ?_
                refine C_csv C ms_M_isRouter ml_M_128 (c_M_isRouter w _ _) rfl (by decide) rfl (Nat.le_of_ble_eq_true rfl) d_M_open_56 ?_
                refine Z_if_eq (tgt := 67) C d_M_open_59 (by decide) (fun c59 => ?_) (fun c59 => ?_)
                · exact absurd c59 (mIsR_ne hs5) --stop
                · skip
                  refine Z_iload_n C 2 d_M_open_62 rfl rfl ?_
                  refine Z_iload_n C 3 d_M_open_63 rfl rfl ?_
                  refine Z_icmp_ne (tgt := 71) C d_M_open_64 (by decide) (fun c64 => ?_) (fun c64 => ?_)
                  · skip
                    refine Z_aload_n C 1 d_M_open_71 rfl rfl ?_
                    refine R_get C w 3 (by decide) fl_M_13 rfl rfl d_M_open_72 ?_
                    refine Z_iload_n C 2 d_M_open_75 rfl rfl ?_
                    refine R_ld 3 C w rfl rfl r (nI_clamp (by omega)) (vp_in_nI (n := r) (N := 5) (by omega) (by decide)) d_M_open_76 ?_
                    refine Z_if_ne (tgt := 84) C d_M_open_77 (by decide) (fun c77 => ?_) (fun c77 => ?_)
                    · exact absurd h c77 --stop
                    · skip
                      refine Z_iconst (v := 2) C d_M_open_80 (by decide) ?_
                      refine Z_goto (tgt := 94) C d_M_open_81 (by decide) ?_
                      refine R_put C w 0 (by decide) fl_M_124 rfl rfl rfl rfl rfl d_M_open_94 ?_
                      refine Z_aload_n C 1 d_M_open_97 rfl rfl ?_
                      refine R_get C w 0 (by decide) fl_M_124 rfl rfl d_M_open_98 ?_
                      refine Z_if_eq (tgt := 105) C d_M_open_101 (by decide) (fun c101 => ?_) (fun c101 => ?_)
                      · exact absurd c101 (by simp [u2, upd]) --stop
                      · skip
                        exact Z_vret C hN hr d_M_open_104 rfl (zeq (rfl))
                  · exact absurd ((nI_eq (by omega) (by omega)).mp c64) hrs --stop
set_option maxRecDepth 100000 in
set_option maxHeartbeats 4000000 in
theorem m_change_1 {l : Launch} {G : zG} {U : zU} (w : wR G U) (N : zR) (x y tx rx : Int32) (h : mIsR x = 0 ∨ mIsR y = 0) : zF l y_M_change b_M_change 9 none 4 84 G [.ref (U.1 43), .int x, .int y, .int tx, .int rx] (eR U N) none (eR U (u2 N 43 0 1)) := by
  refine zF.ofZ (by decide) w.2.2.2.2 (Nat.le_of_ble_eq_true rfl) (fun X hXl hN hr C => ?_)
  subst hXl
  show Z X G (zA G) 9 _ (eR U N) 0 [(0, .ref (U.1 43)), (1, .int x), (2, .int y), (3, .int tx), (4, .int rx)] []
  refine Z_iload_n C 3 d_M_change_0 rfl rfl ?_
  refine Z_if_ne (tgt := 13) C d_M_change_1 (by decide) (fun c1 => ?_) (fun c1 => ?_)
  · skip
    refine Z_iconst (v := 0) C d_M_change_13 (by decide) ?_
    refine Z_istore C d_M_change_14 (by decide) rfl ?_
    refine Z_iload C 0 d_M_change_16 rfl ?_
    refine Z_if_ne (tgt := 47) C d_M_change_18 (by decide) (fun c18 => ?_) (fun c18 => ?_)
    · exact absurd rfl c18
    · skip
      refine Z_iload_n C 4 d_M_change_21 rfl rfl ?_
      refine Z_iconst (v := 1) C d_M_change_22 (by decide) ?_
      refine Z_icmp_lt (tgt := 51) C d_M_change_23 (by decide) (fun c23 => ?_) (fun c23 => ?_)
      · skip
        refine Z_iconst (v := 0) C d_M_change_51 (by decide) ?_
        refine Z_istore C d_M_change_52 (by decide) rfl ?_
        refine Z_aload_n C 2 d_M_change_54 rfl rfl ?_
        refine Z_iload_n C 3 d_M_change_55 rfl rfl ?_
        refine C_csv C ms_M_isRouter ml_M_128 (c_M_isRouter w _ _) rfl (by decide) rfl (Nat.le_of_ble_eq_true rfl) d_M_change_56 ?_
        refine Z_if_eq (tgt := 69) C d_M_change_59 (by decide) (fun c59 => ?_) (fun c59 => ?_)
        · skip
          refine Z_iconst (v := 1) C d_M_change_69 (by decide) ?_
          refine Z_goto (tgt := 113) C d_M_change_70 (by decide) ?_
          refine R_put C w 0 (by decide) fl_M_124 rfl rfl rfl rfl rfl d_M_change_113 ?_
          refine Z_aload_n C 2 d_M_change_116 rfl rfl ?_
          refine R_get C w 0 (by decide) fl_M_124 rfl rfl d_M_change_117 ?_
          refine Z_if_eq (tgt := 124) C d_M_change_120 (by decide) (fun c120 => ?_) (fun c120 => ?_)
          · exact absurd c120 (by simp [u2, upd]) --stop
          · skip
            exact Z_vret C hN hr d_M_change_123 rfl (zeq (rfl))
        · skip
          refine Z_iload_n C 4 d_M_change_62 rfl rfl ?_
          refine C_csv C ms_M_isRouter ml_M_128 (c_M_isRouter w _ _) rfl (by decide) rfl (Nat.le_of_ble_eq_true rfl) d_M_change_63 ?_
          refine Z_if_ne (tgt := 73) C d_M_change_66 (by decide) (fun c66 => ?_) (fun c66 => ?_)
          · exact absurd (h.resolve_left c59) c66 --stop
          · skip
            refine Z_iconst (v := 1) C d_M_change_69 (by decide) ?_
            refine Z_goto (tgt := 113) C d_M_change_70 (by decide) ?_
            refine R_put C w 0 (by decide) fl_M_124 rfl rfl rfl rfl rfl d_M_change_113 ?_
            refine Z_aload_n C 2 d_M_change_116 rfl rfl ?_
            refine R_get C w 0 (by decide) fl_M_124 rfl rfl d_M_change_117 ?_
            refine Z_if_eq (tgt := 124) C d_M_change_120 (by decide) (fun c120 => ?_) (fun c120 => ?_)
            · exact absurd c120 (by simp [u2, upd]) --stop
            · skip
              exact Z_vret C hN hr d_M_change_123 rfl (zeq (rfl))
      · skip
        refine Z_iload_n C 4 d_M_change_26 rfl rfl ?_
        refine Z_sipush (v := 1000) C d_M_change_27 (by decide) ?_
        refine Z_icmp_gt (tgt := 51) C d_M_change_30 (by decide) (fun c30 => ?_) (fun c30 => ?_)
        · skip
          refine Z_iconst (v := 0) C d_M_change_51 (by decide) ?_
          refine Z_istore C d_M_change_52 (by decide) rfl ?_
          refine Z_aload_n C 2 d_M_change_54 rfl rfl ?_
          refine Z_iload_n C 3 d_M_change_55 rfl rfl ?_
          refine C_csv C ms_M_isRouter ml_M_128 (c_M_isRouter w _ _) rfl (by decide) rfl (Nat.le_of_ble_eq_true rfl) d_M_change_56 ?_
          refine Z_if_eq (tgt := 69) C d_M_change_59 (by decide) (fun c59 => ?_) (fun c59 => ?_)
          · skip
            refine Z_iconst (v := 1) C d_M_change_69 (by decide) ?_
            refine Z_goto (tgt := 113) C d_M_change_70 (by decide) ?_
            refine R_put C w 0 (by decide) fl_M_124 rfl rfl rfl rfl rfl d_M_change_113 ?_
            refine Z_aload_n C 2 d_M_change_116 rfl rfl ?_
            refine R_get C w 0 (by decide) fl_M_124 rfl rfl d_M_change_117 ?_
            refine Z_if_eq (tgt := 124) C d_M_change_120 (by decide) (fun c120 => ?_) (fun c120 => ?_)
            · exact absurd c120 (by simp [u2, upd]) --stop
            · skip
              exact Z_vret C hN hr d_M_change_123 rfl (zeq (rfl))
          · skip
            refine Z_iload_n C 4 d_M_change_62 rfl rfl ?_
            refine C_csv C ms_M_isRouter ml_M_128 (c_M_isRouter w _ _) rfl (by decide) rfl (Nat.le_of_ble_eq_true rfl) d_M_change_63 ?_
            refine Z_if_ne (tgt := 73) C d_M_change_66 (by decide) (fun c66 => ?_) (fun c66 => ?_)
            · exact absurd (h.resolve_left c59) c66 --stop
            · skip
              refine Z_iconst (v := 1) C d_M_change_69 (by decide) ?_
              refine Z_goto (tgt := 113) C d_M_change_70 (by decide) ?_
              refine R_put C w 0 (by decide) fl_M_124 rfl rfl rfl rfl rfl d_M_change_113 ?_
              refine Z_aload_n C 2 d_M_change_116 rfl rfl ?_
              refine R_get C w 0 (by decide) fl_M_124 rfl rfl d_M_change_117 ?_
              refine Z_if_eq (tgt := 124) C d_M_change_120 (by decide) (fun c120 => ?_) (fun c120 => ?_)
              · exact absurd c120 (by simp [u2, upd]) --stop
              · skip
                exact Z_vret C hN hr d_M_change_123 rfl (zeq (rfl))
        · skip
          refine Z_iload C 5 d_M_change_33 rfl ?_
          refine Z_iconst (v := 1) C d_M_change_35 (by decide) ?_
          refine Z_icmp_lt (tgt := 51) C d_M_change_36 (by decide) (fun c36 => ?_) (fun c36 => ?_)
          · skip
            refine Z_iconst (v := 0) C d_M_change_51 (by decide) ?_
            refine Z_istore C d_M_change_52 (by decide) rfl ?_
            refine Z_aload_n C 2 d_M_change_54 rfl rfl ?_
            refine Z_iload_n C 3 d_M_change_55 rfl rfl ?_
            refine C_csv C ms_M_isRouter ml_M_128 (c_M_isRouter w _ _) rfl (by decide) rfl (Nat.le_of_ble_eq_true rfl) d_M_change_56 ?_
            refine Z_if_eq (tgt := 69) C d_M_change_59 (by decide) (fun c59 => ?_) (fun c59 => ?_)
            · skip
              refine Z_iconst (v := 1) C d_M_change_69 (by decide) ?_
              refine Z_goto (tgt := 113) C d_M_change_70 (by decide) ?_
              refine R_put C w 0 (by decide) fl_M_124 rfl rfl rfl rfl rfl d_M_change_113 ?_
              refine Z_aload_n C 2 d_M_change_116 rfl rfl ?_
              refine R_get C w 0 (by decide) fl_M_124 rfl rfl d_M_change_117 ?_
              refine Z_if_eq (tgt := 124) C d_M_change_120 (by decide) (fun c120 => ?_) (fun c120 => ?_)
              · exact absurd c120 (by simp [u2, upd]) --stop
              · skip
                exact Z_vret C hN hr d_M_change_123 rfl (zeq (rfl))
            · skip
              refine Z_iload_n C 4 d_M_change_62 rfl rfl ?_
              refine C_csv C ms_M_isRouter ml_M_128 (c_M_isRouter w _ _) rfl (by decide) rfl (Nat.le_of_ble_eq_true rfl) d_M_change_63 ?_
              refine Z_if_ne (tgt := 73) C d_M_change_66 (by decide) (fun c66 => ?_) (fun c66 => ?_)
              · exact absurd (h.resolve_left c59) c66 --stop
              · skip
                refine Z_iconst (v := 1) C d_M_change_69 (by decide) ?_
                refine Z_goto (tgt := 113) C d_M_change_70 (by decide) ?_
                refine R_put C w 0 (by decide) fl_M_124 rfl rfl rfl rfl rfl d_M_change_113 ?_
                refine Z_aload_n C 2 d_M_change_116 rfl rfl ?_
                refine R_get C w 0 (by decide) fl_M_124 rfl rfl d_M_change_117 ?_
                refine Z_if_eq (tgt := 124) C d_M_change_120 (by decide) (fun c120 => ?_) (fun c120 => ?_)
                · exact absurd c120 (by simp [u2, upd]) --stop
                · skip
                  exact Z_vret C hN hr d_M_change_123 rfl (zeq (rfl))
          · skip
            refine Z_iload C 5 d_M_change_39 rfl ?_
            refine Z_sipush (v := 1000) C d_M_change_41 (by decide) ?_
            refine Z_icmp_gt (tgt := 51) C d_M_change_44 (by decide) (fun c44 => ?_) (fun c44 => ?_)
            · skip
              refine Z_iconst (v := 0) C d_M_change_51 (by decide) ?_
              refine Z_istore C d_M_change_52 (by decide) rfl ?_
              refine Z_aload_n C 2 d_M_change_54 rfl rfl ?_
              refine Z_iload_n C 3 d_M_change_55 rfl rfl ?_
              refine C_csv C ms_M_isRouter ml_M_128 (c_M_isRouter w _ _) rfl (by decide) rfl (Nat.le_of_ble_eq_true rfl) d_M_change_56 ?_
              refine Z_if_eq (tgt := 69) C d_M_change_59 (by decide) (fun c59 => ?_) (fun c59 => ?_)
              · skip
                refine Z_iconst (v := 1) C d_M_change_69 (by decide) ?_
                refine Z_goto (tgt := 113) C d_M_change_70 (by decide) ?_
                refine R_put C w 0 (by decide) fl_M_124 rfl rfl rfl rfl rfl d_M_change_113 ?_
                refine Z_aload_n C 2 d_M_change_116 rfl rfl ?_
                refine R_get C w 0 (by decide) fl_M_124 rfl rfl d_M_change_117 ?_
                refine Z_if_eq (tgt := 124) C d_M_change_120 (by decide) (fun c120 => ?_) (fun c120 => ?_)
                · exact absurd c120 (by simp [u2, upd]) --stop
                · skip
                  exact Z_vret C hN hr d_M_change_123 rfl (zeq (rfl))
              · skip
                refine Z_iload_n C 4 d_M_change_62 rfl rfl ?_
                refine C_csv C ms_M_isRouter ml_M_128 (c_M_isRouter w _ _) rfl (by decide) rfl (Nat.le_of_ble_eq_true rfl) d_M_change_63 ?_
                refine Z_if_ne (tgt := 73) C d_M_change_66 (by decide) (fun c66 => ?_) (fun c66 => ?_)
                · exact absurd (h.resolve_left c59) c66 --stop
                · skip
                  refine Z_iconst (v := 1) C d_M_change_69 (by decide) ?_
                  refine Z_goto (tgt := 113) C d_M_change_70 (by decide) ?_
                  refine R_put C w 0 (by decide) fl_M_124 rfl rfl rfl rfl rfl d_M_change_113 ?_
                  refine Z_aload_n C 2 d_M_change_116 rfl rfl ?_
                  refine R_get C w 0 (by decide) fl_M_124 rfl rfl d_M_change_117 ?_
                  refine Z_if_eq (tgt := 124) C d_M_change_120 (by decide) (fun c120 => ?_) (fun c120 => ?_)
                  · exact absurd c120 (by simp [u2, upd]) --stop
                  · skip
                    exact Z_vret C hN hr d_M_change_123 rfl (zeq (rfl))
            · skip
              refine Z_iconst (v := 1) C d_M_change_47 (by decide) ?_
              refine Z_goto (tgt := 52) C d_M_change_48 (by decide) ?_
              refine Z_istore C d_M_change_52 (by decide) rfl ?_
              refine Z_aload_n C 2 d_M_change_54 rfl rfl ?_
              refine Z_iload_n C 3 d_M_change_55 rfl rfl ?_
              refine C_csv C ms_M_isRouter ml_M_128 (c_M_isRouter w _ _) rfl (by decide) rfl (Nat.le_of_ble_eq_true rfl) d_M_change_56 ?_
              refine Z_if_eq (tgt := 69) C d_M_change_59 (by decide) (fun c59 => ?_) (fun c59 => ?_)
              · skip
                refine Z_iconst (v := 1) C d_M_change_69 (by decide) ?_
                refine Z_goto (tgt := 113) C d_M_change_70 (by decide) ?_
                refine R_put C w 0 (by decide) fl_M_124 rfl rfl rfl rfl rfl d_M_change_113 ?_
                refine Z_aload_n C 2 d_M_change_116 rfl rfl ?_
                refine R_get C w 0 (by decide) fl_M_124 rfl rfl d_M_change_117 ?_
                refine Z_if_eq (tgt := 124) C d_M_change_120 (by decide) (fun c120 => ?_) (fun c120 => ?_)
                · exact absurd c120 (by simp [u2, upd]) --stop
                · skip
                  exact Z_vret C hN hr d_M_change_123 rfl (zeq (rfl))
              · skip
                refine Z_iload_n C 4 d_M_change_62 rfl rfl ?_
                refine C_csv C ms_M_isRouter ml_M_128 (c_M_isRouter w _ _) rfl (by decide) rfl (Nat.le_of_ble_eq_true rfl) d_M_change_63 ?_
                refine Z_if_ne (tgt := 73) C d_M_change_66 (by decide) (fun c66 => ?_) (fun c66 => ?_)
                · exact absurd (h.resolve_left c59) c66 --stop
                · skip
                  refine Z_iconst (v := 1) C d_M_change_69 (by decide) ?_
                  refine Z_goto (tgt := 113) C d_M_change_70 (by decide) ?_
                  refine R_put C w 0 (by decide) fl_M_124 rfl rfl rfl rfl rfl d_M_change_113 ?_
                  refine Z_aload_n C 2 d_M_change_116 rfl rfl ?_
                  refine R_get C w 0 (by decide) fl_M_124 rfl rfl d_M_change_117 ?_
                  refine Z_if_eq (tgt := 124) C d_M_change_120 (by decide) (fun c120 => ?_) (fun c120 => ?_)
                  · exact absurd c120 (by simp [u2, upd]) --stop
                  · skip
                    exact Z_vret C hN hr d_M_change_123 rfl (zeq (rfl))
  · skip
    refine Z_iload C 4 d_M_change_4 rfl ?_
    refine Z_if_ne (tgt := 13) C d_M_change_6 (by decide) (fun c6 => ?_) (fun c6 => ?_)
    · skip
      refine Z_iconst (v := 0) C d_M_change_13 (by decide) ?_
      refine Z_istore C d_M_change_14 (by decide) rfl ?_
      refine Z_iload C 0 d_M_change_16 rfl ?_
      refine Z_if_ne (tgt := 47) C d_M_change_18 (by decide) (fun c18 => ?_) (fun c18 => ?_)
      · exact absurd rfl c18
      · skip
        refine Z_iload_n C 4 d_M_change_21 rfl rfl ?_
        refine Z_iconst (v := 1) C d_M_change_22 (by decide) ?_
        refine Z_icmp_lt (tgt := 51) C d_M_change_23 (by decide) (fun c23 => ?_) (fun c23 => ?_)
        · skip
          refine Z_iconst (v := 0) C d_M_change_51 (by decide) ?_
          refine Z_istore C d_M_change_52 (by decide) rfl ?_
          refine Z_aload_n C 2 d_M_change_54 rfl rfl ?_
          refine Z_iload_n C 3 d_M_change_55 rfl rfl ?_
          refine C_csv C ms_M_isRouter ml_M_128 (c_M_isRouter w _ _) rfl (by decide) rfl (Nat.le_of_ble_eq_true rfl) d_M_change_56 ?_
          refine Z_if_eq (tgt := 69) C d_M_change_59 (by decide) (fun c59 => ?_) (fun c59 => ?_)
          · skip
            refine Z_iconst (v := 1) C d_M_change_69 (by decide) ?_
            refine Z_goto (tgt := 113) C d_M_change_70 (by decide) ?_
            refine R_put C w 0 (by decide) fl_M_124 rfl rfl rfl rfl rfl d_M_change_113 ?_
            refine Z_aload_n C 2 d_M_change_116 rfl rfl ?_
            refine R_get C w 0 (by decide) fl_M_124 rfl rfl d_M_change_117 ?_
            refine Z_if_eq (tgt := 124) C d_M_change_120 (by decide) (fun c120 => ?_) (fun c120 => ?_)
            · exact absurd c120 (by simp [u2, upd]) --stop
            · skip
              exact Z_vret C hN hr d_M_change_123 rfl (zeq (rfl))
          · skip
            refine Z_iload_n C 4 d_M_change_62 rfl rfl ?_
            refine C_csv C ms_M_isRouter ml_M_128 (c_M_isRouter w _ _) rfl (by decide) rfl (Nat.le_of_ble_eq_true rfl) d_M_change_63 ?_
            refine Z_if_ne (tgt := 73) C d_M_change_66 (by decide) (fun c66 => ?_) (fun c66 => ?_)
            · exact absurd (h.resolve_left c59) c66 --stop
            · skip
              refine Z_iconst (v := 1) C d_M_change_69 (by decide) ?_
              refine Z_goto (tgt := 113) C d_M_change_70 (by decide) ?_
              refine R_put C w 0 (by decide) fl_M_124 rfl rfl rfl rfl rfl d_M_change_113 ?_
              refine Z_aload_n C 2 d_M_change_116 rfl rfl ?_
              refine R_get C w 0 (by decide) fl_M_124 rfl rfl d_M_change_117 ?_
              refine Z_if_eq (tgt := 124) C d_M_change_120 (by decide) (fun c120 => ?_) (fun c120 => ?_)
              · exact absurd c120 (by simp [u2, upd]) --stop
              · skip
                exact Z_vret C hN hr d_M_change_123 rfl (zeq (rfl))
        · skip
          refine Z_iload_n C 4 d_M_change_26 rfl rfl ?_
          refine Z_sipush (v := 1000) C d_M_change_27 (by decide) ?_
          refine Z_icmp_gt (tgt := 51) C d_M_change_30 (by decide) (fun c30 => ?_) (fun c30 => ?_)
          · skip
            refine Z_iconst (v := 0) C d_M_change_51 (by decide) ?_
            refine Z_istore C d_M_change_52 (by decide) rfl ?_
            refine Z_aload_n C 2 d_M_change_54 rfl rfl ?_
            refine Z_iload_n C 3 d_M_change_55 rfl rfl ?_
            refine C_csv C ms_M_isRouter ml_M_128 (c_M_isRouter w _ _) rfl (by decide) rfl (Nat.le_of_ble_eq_true rfl) d_M_change_56 ?_
            refine Z_if_eq (tgt := 69) C d_M_change_59 (by decide) (fun c59 => ?_) (fun c59 => ?_)
            · skip
              refine Z_iconst (v := 1) C d_M_change_69 (by decide) ?_
              refine Z_goto (tgt := 113) C d_M_change_70 (by decide) ?_
              refine R_put C w 0 (by decide) fl_M_124 rfl rfl rfl rfl rfl d_M_change_113 ?_
              refine Z_aload_n C 2 d_M_change_116 rfl rfl ?_
              refine R_get C w 0 (by decide) fl_M_124 rfl rfl d_M_change_117 ?_
              refine Z_if_eq (tgt := 124) C d_M_change_120 (by decide) (fun c120 => ?_) (fun c120 => ?_)
              · exact absurd c120 (by simp [u2, upd]) --stop
              · skip
                exact Z_vret C hN hr d_M_change_123 rfl (zeq (rfl))
            · skip
              refine Z_iload_n C 4 d_M_change_62 rfl rfl ?_
              refine C_csv C ms_M_isRouter ml_M_128 (c_M_isRouter w _ _) rfl (by decide) rfl (Nat.le_of_ble_eq_true rfl) d_M_change_63 ?_
              refine Z_if_ne (tgt := 73) C d_M_change_66 (by decide) (fun c66 => ?_) (fun c66 => ?_)
              · exact absurd (h.resolve_left c59) c66 --stop
              · skip
                refine Z_iconst (v := 1) C d_M_change_69 (by decide) ?_
                refine Z_goto (tgt := 113) C d_M_change_70 (by decide) ?_
                refine R_put C w 0 (by decide) fl_M_124 rfl rfl rfl rfl rfl d_M_change_113 ?_
                refine Z_aload_n C 2 d_M_change_116 rfl rfl ?_
                refine R_get C w 0 (by decide) fl_M_124 rfl rfl d_M_change_117 ?_
                refine Z_if_eq (tgt := 124) C d_M_change_120 (by decide) (fun c120 => ?_) (fun c120 => ?_)
                · exact absurd c120 (by simp [u2, upd]) --stop
                · skip
                  exact Z_vret C hN hr d_M_change_123 rfl (zeq (rfl))
          · skip
            refine Z_iload C 5 d_M_change_33 rfl ?_
            refine Z_iconst (v := 1) C d_M_change_35 (by decide) ?_
            refine Z_icmp_lt (tgt := 51) C d_M_change_36 (by decide) (fun c36 => ?_) (fun c36 => ?_)
            · skip
              refine Z_iconst (v := 0) C d_M_change_51 (by decide) ?_
              refine Z_istore C d_M_change_52 (by decide) rfl ?_
              refine Z_aload_n C 2 d_M_change_54 rfl rfl ?_
              refine Z_iload_n C 3 d_M_change_55 rfl rfl ?_
              refine C_csv C ms_M_isRouter ml_M_128 (c_M_isRouter w _ _) rfl (by decide) rfl (Nat.le_of_ble_eq_true rfl) d_M_change_56 ?_
              refine Z_if_eq (tgt := 69) C d_M_change_59 (by decide) (fun c59 => ?_) (fun c59 => ?_)
              · skip
                refine Z_iconst (v := 1) C d_M_change_69 (by decide) ?_
                refine Z_goto (tgt := 113) C d_M_change_70 (by decide) ?_
                refine R_put C w 0 (by decide) fl_M_124 rfl rfl rfl rfl rfl d_M_change_113 ?_
                refine Z_aload_n C 2 d_M_change_116 rfl rfl ?_
                refine R_get C w 0 (by decide) fl_M_124 rfl rfl d_M_change_117 ?_
                refine Z_if_eq (tgt := 124) C d_M_change_120 (by decide) (fun c120 => ?_) (fun c120 => ?_)
                · exact absurd c120 (by simp [u2, upd]) --stop
                · skip
                  exact Z_vret C hN hr d_M_change_123 rfl (zeq (rfl))
              · skip
                refine Z_iload_n C 4 d_M_change_62 rfl rfl ?_
                refine C_csv C ms_M_isRouter ml_M_128 (c_M_isRouter w _ _) rfl (by decide) rfl (Nat.le_of_ble_eq_true rfl) d_M_change_63 ?_
                refine Z_if_ne (tgt := 73) C d_M_change_66 (by decide) (fun c66 => ?_) (fun c66 => ?_)
                · exact absurd (h.resolve_left c59) c66 --stop
                · skip
                  refine Z_iconst (v := 1) C d_M_change_69 (by decide) ?_
                  refine Z_goto (tgt := 113) C d_M_change_70 (by decide) ?_
                  refine R_put C w 0 (by decide) fl_M_124 rfl rfl rfl rfl rfl d_M_change_113 ?_
                  refine Z_aload_n C 2 d_M_change_116 rfl rfl ?_
                  refine R_get C w 0 (by decide) fl_M_124 rfl rfl d_M_change_117 ?_
                  refine Z_if_eq (tgt := 124) C d_M_change_120 (by decide) (fun c120 => ?_) (fun c120 => ?_)
                  · exact absurd c120 (by simp [u2, upd]) --stop
                  · skip
                    exact Z_vret C hN hr d_M_change_123 rfl (zeq (rfl))
            · skip
              refine Z_iload C 5 d_M_change_39 rfl ?_
              refine Z_sipush (v := 1000) C d_M_change_41 (by decide) ?_
              refine Z_icmp_gt (tgt := 51) C d_M_change_44 (by decide) (fun c44 => ?_) (fun c44 => ?_)
              · skip
                refine Z_iconst (v := 0) C d_M_change_51 (by decide) ?_
                refine Z_istore C d_M_change_52 (by decide) rfl ?_
                refine Z_aload_n C 2 d_M_change_54 rfl rfl ?_
                refine Z_iload_n C 3 d_M_change_55 rfl rfl ?_
                refine C_csv C ms_M_isRouter ml_M_128 (c_M_isRouter w _ _) rfl (by decide) rfl (Nat.le_of_ble_eq_true rfl) d_M_change_56 ?_
                refine Z_if_eq (tgt := 69) C d_M_change_59 (by decide) (fun c59 => ?_) (fun c59 => ?_)
                · skip
                  refine Z_iconst (v := 1) C d_M_change_69 (by decide) ?_
                  refine Z_goto (tgt := 113) C d_M_change_70 (by decide) ?_
                  refine R_put C w 0 (by decide) fl_M_124 rfl rfl rfl rfl rfl d_M_change_113 ?_
                  refine Z_aload_n C 2 d_M_change_116 rfl rfl ?_
                  refine R_get C w 0 (by decide) fl_M_124 rfl rfl d_M_change_117 ?_
                  refine Z_if_eq (tgt := 124) C d_M_change_120 (by decide) (fun c120 => ?_) (fun c120 => ?_)
                  · exact absurd c120 (by simp [u2, upd]) --stop
                  · skip
                    exact Z_vret C hN hr d_M_change_123 rfl (zeq (rfl))
                · skip
                  refine Z_iload_n C 4 d_M_change_62 rfl rfl ?_
                  refine C_csv C ms_M_isRouter ml_M_128 (c_M_isRouter w _ _) rfl (by decide) rfl (Nat.le_of_ble_eq_true rfl) d_M_change_63 ?_
                  refine Z_if_ne (tgt := 73) C d_M_change_66 (by decide) (fun c66 => ?_) (fun c66 => ?_)
                  · exact absurd (h.resolve_left c59) c66 --stop
                  · skip
                    refine Z_iconst (v := 1) C d_M_change_69 (by decide) ?_
                    refine Z_goto (tgt := 113) C d_M_change_70 (by decide) ?_
                    refine R_put C w 0 (by decide) fl_M_124 rfl rfl rfl rfl rfl d_M_change_113 ?_
                    refine Z_aload_n C 2 d_M_change_116 rfl rfl ?_
                    refine R_get C w 0 (by decide) fl_M_124 rfl rfl d_M_change_117 ?_
                    refine Z_if_eq (tgt := 124) C d_M_change_120 (by decide) (fun c120 => ?_) (fun c120 => ?_)
                    · exact absurd c120 (by simp [u2, upd]) --stop
                    · skip
                      exact Z_vret C hN hr d_M_change_123 rfl (zeq (rfl))
              · skip
                refine Z_iconst (v := 1) C d_M_change_47 (by decide) ?_
                refine Z_goto (tgt := 52) C d_M_change_48 (by decide) ?_
                refine Z_istore C d_M_change_52 (by decide) rfl ?_
                refine Z_aload_n C 2 d_M_change_54 rfl rfl ?_
                refine Z_iload_n C 3 d_M_change_55 rfl rfl ?_
                refine C_csv C ms_M_isRouter ml_M_128 (c_M_isRouter w _ _) rfl (by decide) rfl (Nat.le_of_ble_eq_true rfl) d_M_change_56 ?_
                refine Z_if_eq (tgt := 69) C d_M_change_59 (by decide) (fun c59 => ?_) (fun c59 => ?_)
                · skip
                  refine Z_iconst (v := 1) C d_M_change_69 (by decide) ?_
                  refine Z_goto (tgt := 113) C d_M_change_70 (by decide) ?_
                  refine R_put C w 0 (by decide) fl_M_124 rfl rfl rfl rfl rfl d_M_change_113 ?_
                  refine Z_aload_n C 2 d_M_change_116 rfl rfl ?_
                  refine R_get C w 0 (by decide) fl_M_124 rfl rfl d_M_change_117 ?_
                  refine Z_if_eq (tgt := 124) C d_M_change_120 (by decide) (fun c120 => ?_) (fun c120 => ?_)
                  · exact absurd c120 (by simp [u2, upd]) --stop
                  · skip
                    exact Z_vret C hN hr d_M_change_123 rfl (zeq (rfl))
                · skip
                  refine Z_iload_n C 4 d_M_change_62 rfl rfl ?_
                  refine C_csv C ms_M_isRouter ml_M_128 (c_M_isRouter w _ _) rfl (by decide) rfl (Nat.le_of_ble_eq_true rfl) d_M_change_63 ?_
                  refine Z_if_ne (tgt := 73) C d_M_change_66 (by decide) (fun c66 => ?_) (fun c66 => ?_)
                  · exact absurd (h.resolve_left c59) c66 --stop
                  · skip
                    refine Z_iconst (v := 1) C d_M_change_69 (by decide) ?_
                    refine Z_goto (tgt := 113) C d_M_change_70 (by decide) ?_
                    refine R_put C w 0 (by decide) fl_M_124 rfl rfl rfl rfl rfl d_M_change_113 ?_
                    refine Z_aload_n C 2 d_M_change_116 rfl rfl ?_
                    refine R_get C w 0 (by decide) fl_M_124 rfl rfl d_M_change_117 ?_
                    refine Z_if_eq (tgt := 124) C d_M_change_120 (by decide) (fun c120 => ?_) (fun c120 => ?_)
                    · exact absurd c120 (by simp [u2, upd]) --stop
                    · skip
                      exact Z_vret C hN hr d_M_change_123 rfl (zeq (rfl))
    · skip
      refine Z_iconst (v := 1) C d_M_change_9 (by decide) ?_
      refine Z_goto (tgt := 14) C d_M_change_10 (by decide) ?_
      refine Z_istore C d_M_change_14 (by decide) rfl ?_
      refine Z_iload C 0 d_M_change_16 rfl ?_
      refine Z_if_ne (tgt := 47) C d_M_change_18 (by decide) (fun c18 => ?_) (fun c18 => ?_)
      · skip
        refine Z_iconst (v := 1) C d_M_change_47 (by decide) ?_
        refine Z_goto (tgt := 52) C d_M_change_48 (by decide) ?_
        refine Z_istore C d_M_change_52 (by decide) rfl ?_
        refine Z_aload_n C 2 d_M_change_54 rfl rfl ?_
        refine Z_iload_n C 3 d_M_change_55 rfl rfl ?_
        refine C_csv C ms_M_isRouter ml_M_128 (c_M_isRouter w _ _) rfl (by decide) rfl (Nat.le_of_ble_eq_true rfl) d_M_change_56 ?_
        refine Z_if_eq (tgt := 69) C d_M_change_59 (by decide) (fun c59 => ?_) (fun c59 => ?_)
        · skip
          refine Z_iconst (v := 1) C d_M_change_69 (by decide) ?_
          refine Z_goto (tgt := 113) C d_M_change_70 (by decide) ?_
          refine R_put C w 0 (by decide) fl_M_124 rfl rfl rfl rfl rfl d_M_change_113 ?_
          refine Z_aload_n C 2 d_M_change_116 rfl rfl ?_
          refine R_get C w 0 (by decide) fl_M_124 rfl rfl d_M_change_117 ?_
          refine Z_if_eq (tgt := 124) C d_M_change_120 (by decide) (fun c120 => ?_) (fun c120 => ?_)
          · exact absurd c120 (by simp [u2, upd]) --stop
          · skip
            exact Z_vret C hN hr d_M_change_123 rfl (zeq (rfl))
        · skip
          refine Z_iload_n C 4 d_M_change_62 rfl rfl ?_
          refine C_csv C ms_M_isRouter ml_M_128 (c_M_isRouter w _ _) rfl (by decide) rfl (Nat.le_of_ble_eq_true rfl) d_M_change_63 ?_
          refine Z_if_ne (tgt := 73) C d_M_change_66 (by decide) (fun c66 => ?_) (fun c66 => ?_)
          · exact absurd (h.resolve_left c59) c66 --stop
          · skip
            refine Z_iconst (v := 1) C d_M_change_69 (by decide) ?_
            refine Z_goto (tgt := 113) C d_M_change_70 (by decide) ?_
            refine R_put C w 0 (by decide) fl_M_124 rfl rfl rfl rfl rfl d_M_change_113 ?_
            refine Z_aload_n C 2 d_M_change_116 rfl rfl ?_
            refine R_get C w 0 (by decide) fl_M_124 rfl rfl d_M_change_117 ?_
            refine Z_if_eq (tgt := 124) C d_M_change_120 (by decide) (fun c120 => ?_) (fun c120 => ?_)
            · exact absurd c120 (by simp [u2, upd]) --stop
            · skip
              exact Z_vret C hN hr d_M_change_123 rfl (zeq (rfl))
      · exact absurd c18 (by decide)
set_option maxRecDepth 100000 in
set_option maxHeartbeats 4000000 in
theorem m_change_2 {l : Launch} {G : zG} {U : zU} (w : wR G U) (N : zR) (r : Nat) (hr5 : r < 5) (s : Nat) (hs5 : s < 5) (tx rx : Int32) (h : N 11 (5 * r + s) = 0) : zF l y_M_change b_M_change 9 none 4 84 G [.ref (U.1 43), .int (nI r), .int (nI s), .int tx, .int rx] (eR U N) none (eR U (u2 N 43 0 2)) := by
  refine zF.ofZ (by decide) w.2.2.2.2 (Nat.le_of_ble_eq_true rfl) (fun X hXl hN hr C => ?_)
  subst hXl
  show Z X G (zA G) 9 _ (eR U N) 0 [(0, .ref (U.1 43)), (1, .int (nI r)), (2, .int (nI s)), (3, .int tx), (4, .int rx)] []
  refine Z_iload_n C 3 d_M_change_0 rfl rfl ?_
  refine Z_if_ne (tgt := 13) C d_M_change_1 (by decide) (fun c1 => ?_) (fun c1 => ?_)
  · skip
    refine Z_iconst (v := 0) C d_M_change_13 (by decide) ?_
    refine Z_istore C d_M_change_14 (by decide) rfl ?_
    refine Z_iload C 0 d_M_change_16 rfl ?_
    refine Z_if_ne (tgt := 47) C d_M_change_18 (by decide) (fun c18 => ?_) (fun c18 => ?_)
    · exact absurd rfl c18
    · skip
      refine Z_iload_n C 4 d_M_change_21 rfl rfl ?_
      refine Z_iconst (v := 1) C d_M_change_22 (by decide) ?_
      refine Z_icmp_lt (tgt := 51) C d_M_change_23 (by decide) (fun c23 => ?_) (fun c23 => ?_)
      · skip
        refine Z_iconst (v := 0) C d_M_change_51 (by decide) ?_
        refine Z_istore C d_M_change_52 (by decide) rfl ?_
        refine Z_aload_n C 2 d_M_change_54 rfl rfl ?_
        refine Z_iload_n C 3 d_M_change_55 rfl rfl ?_
        refine C_csv C ms_M_isRouter ml_M_128 (c_M_isRouter w _ _) rfl (by decide) rfl (Nat.le_of_ble_eq_true rfl) d_M_change_56 ?_
        refine Z_if_eq (tgt := 69) C d_M_change_59 (by decide) (fun c59 => ?_) (fun c59 => ?_)
        · exact absurd c59 (mIsR_ne hr5) --stop
        · skip
          refine Z_iload_n C 4 d_M_change_62 rfl rfl ?_
          refine C_csv C ms_M_isRouter ml_M_128 (c_M_isRouter w _ _) rfl (by decide) rfl (Nat.le_of_ble_eq_true rfl) d_M_change_63 ?_
          refine Z_if_ne (tgt := 73) C d_M_change_66 (by decide) (fun c66 => ?_) (fun c66 => ?_)
          · skip
            refine Z_aload_n C 2 d_M_change_73 rfl rfl ?_
            refine R_get C w 11 (by decide) fl_M_37 rfl rfl d_M_change_74 ?_
            refine Z_iconst (v := 5) C d_M_change_77 (by decide) ?_
            refine Z_iload_n C 3 d_M_change_78 rfl rfl ?_
            refine Z_imul C d_M_change_79 ?_
            refine Z_iload_n C 4 d_M_change_80 rfl rfl ?_
            refine Z_iadd C d_M_change_81 ?_
            refine R_zld 11 C w rfl rfl (5 * r + s) (by rw [ix5]; exact nI_clamp (by omega)) (by rw [ix5]; exact vp_in_nI (n := 5 * r + s) (N := 25) (by omega) (by decide)) d_M_change_82 ?_
            refine Z_if_eq (tgt := 99) C d_M_change_83 (by decide) (fun c83 => ?_) (fun c83 => ?_)
            · skip
              refine Z_iconst (v := 2) C d_M_change_99 (by decide) ?_
              refine Z_goto (tgt := 113) C d_M_change_100 (by decide) ?_
              refine R_put C w 0 (by decide) fl_M_124 rfl rfl rfl rfl rfl d_M_change_113 ?_
              refine Z_aload_n C 2 d_M_change_116 rfl rfl ?_
              refine R_get C w 0 (by decide) fl_M_124 rfl rfl d_M_change_117 ?_
              refine Z_if_eq (tgt := 124) C d_M_change_120 (by decide) (fun c120 => ?_) (fun c120 => ?_)
              · exact absurd c120 (by simp [u2, upd]) --stop
              · skip
                exact Z_vret C hN hr d_M_change_123 rfl (zeq (rfl))
            · exact absurd h c83 --stop
          · exact absurd c66 (mIsR_ne hs5) --stop
      · skip
        refine Z_iload_n C 4 d_M_change_26 rfl rfl ?_
        refine Z_sipush (v := 1000) C d_M_change_27 (by decide) ?_
        refine Z_icmp_gt (tgt := 51) C d_M_change_30 (by decide) (fun c30 => ?_) (fun c30 => ?_)
        · skip
          refine Z_iconst (v := 0) C d_M_change_51 (by decide) ?_
          refine Z_istore C d_M_change_52 (by decide) rfl ?_
          refine Z_aload_n C 2 d_M_change_54 rfl rfl ?_
          refine Z_iload_n C 3 d_M_change_55 rfl rfl ?_
          refine C_csv C ms_M_isRouter ml_M_128 (c_M_isRouter w _ _) rfl (by decide) rfl (Nat.le_of_ble_eq_true rfl) d_M_change_56 ?_
          refine Z_if_eq (tgt := 69) C d_M_change_59 (by decide) (fun c59 => ?_) (fun c59 => ?_)
          · exact absurd c59 (mIsR_ne hr5) --stop
          · skip
            refine Z_iload_n C 4 d_M_change_62 rfl rfl ?_
            refine C_csv C ms_M_isRouter ml_M_128 (c_M_isRouter w _ _) rfl (by decide) rfl (Nat.le_of_ble_eq_true rfl) d_M_change_63 ?_
            refine Z_if_ne (tgt := 73) C d_M_change_66 (by decide) (fun c66 => ?_) (fun c66 => ?_)
            · skip
              refine Z_aload_n C 2 d_M_change_73 rfl rfl ?_
              refine R_get C w 11 (by decide) fl_M_37 rfl rfl d_M_change_74 ?_
              refine Z_iconst (v := 5) C d_M_change_77 (by decide) ?_
              refine Z_iload_n C 3 d_M_change_78 rfl rfl ?_
              refine Z_imul C d_M_change_79 ?_
              refine Z_iload_n C 4 d_M_change_80 rfl rfl ?_
              refine Z_iadd C d_M_change_81 ?_
              refine R_zld 11 C w rfl rfl (5 * r + s) (by rw [ix5]; exact nI_clamp (by omega)) (by rw [ix5]; exact vp_in_nI (n := 5 * r + s) (N := 25) (by omega) (by decide)) d_M_change_82 ?_
              refine Z_if_eq (tgt := 99) C d_M_change_83 (by decide) (fun c83 => ?_) (fun c83 => ?_)
              · skip
                refine Z_iconst (v := 2) C d_M_change_99 (by decide) ?_
                refine Z_goto (tgt := 113) C d_M_change_100 (by decide) ?_
                refine R_put C w 0 (by decide) fl_M_124 rfl rfl rfl rfl rfl d_M_change_113 ?_
                refine Z_aload_n C 2 d_M_change_116 rfl rfl ?_
                refine R_get C w 0 (by decide) fl_M_124 rfl rfl d_M_change_117 ?_
                refine Z_if_eq (tgt := 124) C d_M_change_120 (by decide) (fun c120 => ?_) (fun c120 => ?_)
                · exact absurd c120 (by simp [u2, upd]) --stop
                · skip
                  exact Z_vret C hN hr d_M_change_123 rfl (zeq (rfl))
              · exact absurd h c83 --stop
            · exact absurd c66 (mIsR_ne hs5) --stop
        · skip
          refine Z_iload C 5 d_M_change_33 rfl ?_
          refine Z_iconst (v := 1) C d_M_change_35 (by decide) ?_
          refine Z_icmp_lt (tgt := 51) C d_M_change_36 (by decide) (fun c36 => ?_) (fun c36 => ?_)
          · skip
            refine Z_iconst (v := 0) C d_M_change_51 (by decide) ?_
            refine Z_istore C d_M_change_52 (by decide) rfl ?_
            refine Z_aload_n C 2 d_M_change_54 rfl rfl ?_
            refine Z_iload_n C 3 d_M_change_55 rfl rfl ?_
            refine C_csv C ms_M_isRouter ml_M_128 (c_M_isRouter w _ _) rfl (by decide) rfl (Nat.le_of_ble_eq_true rfl) d_M_change_56 ?_
            refine Z_if_eq (tgt := 69) C d_M_change_59 (by decide) (fun c59 => ?_) (fun c59 => ?_)
            · exact absurd c59 (mIsR_ne hr5) --stop
            · skip
              refine Z_iload_n C 4 d_M_change_62 rfl rfl ?_
              refine C_csv C ms_M_isRouter ml_M_128 (c_M_isRouter w _ _) rfl (by decide) rfl (Nat.le_of_ble_eq_true rfl) d_M_change_63 ?_
              refine Z_if_ne (tgt := 73) C d_M_change_66 (by decide) (fun c66 => ?_) (fun c66 => ?_)
              · skip
                refine Z_aload_n C 2 d_M_change_73 rfl rfl ?_
                refine R_get C w 11 (by decide) fl_M_37 rfl rfl d_M_change_74 ?_
                refine Z_iconst (v := 5) C d_M_change_77 (by decide) ?_
                refine Z_iload_n C 3 d_M_change_78 rfl rfl ?_
                refine Z_imul C d_M_change_79 ?_
                refine Z_iload_n C 4 d_M_change_80 rfl rfl ?_
                refine Z_iadd C d_M_change_81 ?_
                refine R_zld 11 C w rfl rfl (5 * r + s) (by rw [ix5]; exact nI_clamp (by omega)) (by rw [ix5]; exact vp_in_nI (n := 5 * r + s) (N := 25) (by omega) (by decide)) d_M_change_82 ?_
                refine Z_if_eq (tgt := 99) C d_M_change_83 (by decide) (fun c83 => ?_) (fun c83 => ?_)
                · skip
                  refine Z_iconst (v := 2) C d_M_change_99 (by decide) ?_
                  refine Z_goto (tgt := 113) C d_M_change_100 (by decide) ?_
                  refine R_put C w 0 (by decide) fl_M_124 rfl rfl rfl rfl rfl d_M_change_113 ?_
                  refine Z_aload_n C 2 d_M_change_116 rfl rfl ?_
                  refine R_get C w 0 (by decide) fl_M_124 rfl rfl d_M_change_117 ?_
                  refine Z_if_eq (tgt := 124) C d_M_change_120 (by decide) (fun c120 => ?_) (fun c120 => ?_)
                  · exact absurd c120 (by simp [u2, upd]) --stop
                  · skip
                    exact Z_vret C hN hr d_M_change_123 rfl (zeq (rfl))
                · exact absurd h c83 --stop
              · exact absurd c66 (mIsR_ne hs5) --stop
          · skip
            refine Z_iload C 5 d_M_change_39 rfl ?_
            refine Z_sipush (v := 1000) C d_M_change_41 (by decide) ?_
            refine Z_icmp_gt (tgt := 51) C d_M_change_44 (by decide) (fun c44 => ?_) (fun c44 => ?_)
            · skip
              refine Z_iconst (v := 0) C d_M_change_51 (by decide) ?_
              refine Z_istore C d_M_change_52 (by decide) rfl ?_
              refine Z_aload_n C 2 d_M_change_54 rfl rfl ?_
              refine Z_iload_n C 3 d_M_change_55 rfl rfl ?_
              refine C_csv C ms_M_isRouter ml_M_128 (c_M_isRouter w _ _) rfl (by decide) rfl (Nat.le_of_ble_eq_true rfl) d_M_change_56 ?_
              refine Z_if_eq (tgt := 69) C d_M_change_59 (by decide) (fun c59 => ?_) (fun c59 => ?_)
              · exact absurd c59 (mIsR_ne hr5) --stop
              · skip
                refine Z_iload_n C 4 d_M_change_62 rfl rfl ?_
                refine C_csv C ms_M_isRouter ml_M_128 (c_M_isRouter w _ _) rfl (by decide) rfl (Nat.le_of_ble_eq_true rfl) d_M_change_63 ?_
                refine Z_if_ne (tgt := 73) C d_M_change_66 (by decide) (fun c66 => ?_) (fun c66 => ?_)
                · skip
                  refine Z_aload_n C 2 d_M_change_73 rfl rfl ?_
                  refine R_get C w 11 (by decide) fl_M_37 rfl rfl d_M_change_74 ?_
                  refine Z_iconst (v := 5) C d_M_change_77 (by decide) ?_
                  refine Z_iload_n C 3 d_M_change_78 rfl rfl ?_
                  refine Z_imul C d_M_change_79 ?_
                  refine Z_iload_n C 4 d_M_change_80 rfl rfl ?_
                  refine Z_iadd C d_M_change_81 ?_
                  refine R_zld 11 C w rfl rfl (5 * r + s) (by rw [ix5]; exact nI_clamp (by omega)) (by rw [ix5]; exact vp_in_nI (n := 5 * r + s) (N := 25) (by omega) (by decide)) d_M_change_82 ?_
                  refine Z_if_eq (tgt := 99) C d_M_change_83 (by decide) (fun c83 => ?_) (fun c83 => ?_)
                  · skip
                    refine Z_iconst (v := 2) C d_M_change_99 (by decide) ?_
                    refine Z_goto (tgt := 113) C d_M_change_100 (by decide) ?_
                    refine R_put C w 0 (by decide) fl_M_124 rfl rfl rfl rfl rfl d_M_change_113 ?_
                    refine Z_aload_n C 2 d_M_change_116 rfl rfl ?_
                    refine R_get C w 0 (by decide) fl_M_124 rfl rfl d_M_change_117 ?_
                    refine Z_if_eq (tgt := 124) C d_M_change_120 (by decide) (fun c120 => ?_) (fun c120 => ?_)
                    · exact absurd c120 (by simp [u2, upd]) --stop
                    · skip
                      exact Z_vret C hN hr d_M_change_123 rfl (zeq (rfl))
                  · exact absurd h c83 --stop
                · exact absurd c66 (mIsR_ne hs5) --stop
            · skip
              refine Z_iconst (v := 1) C d_M_change_47 (by decide) ?_
              refine Z_goto (tgt := 52) C d_M_change_48 (by decide) ?_
              refine Z_istore C d_M_change_52 (by decide) rfl ?_
              refine Z_aload_n C 2 d_M_change_54 rfl rfl ?_
              refine Z_iload_n C 3 d_M_change_55 rfl rfl ?_
              refine C_csv C ms_M_isRouter ml_M_128 (c_M_isRouter w _ _) rfl (by decide) rfl (Nat.le_of_ble_eq_true rfl) d_M_change_56 ?_
              refine Z_if_eq (tgt := 69) C d_M_change_59 (by decide) (fun c59 => ?_) (fun c59 => ?_)
              · exact absurd c59 (mIsR_ne hr5) --stop
              · skip
                refine Z_iload_n C 4 d_M_change_62 rfl rfl ?_
                refine C_csv C ms_M_isRouter ml_M_128 (c_M_isRouter w _ _) rfl (by decide) rfl (Nat.le_of_ble_eq_true rfl) d_M_change_63 ?_
                refine Z_if_ne (tgt := 73) C d_M_change_66 (by decide) (fun c66 => ?_) (fun c66 => ?_)
                · skip
                  refine Z_aload_n C 2 d_M_change_73 rfl rfl ?_
                  refine R_get C w 11 (by decide) fl_M_37 rfl rfl d_M_change_74 ?_
                  refine Z_iconst (v := 5) C d_M_change_77 (by decide) ?_
                  refine Z_iload_n C 3 d_M_change_78 rfl rfl ?_
                  refine Z_imul C d_M_change_79 ?_
                  refine Z_iload_n C 4 d_M_change_80 rfl rfl ?_
                  refine Z_iadd C d_M_change_81 ?_
                  refine R_zld 11 C w rfl rfl (5 * r + s) (by rw [ix5]; exact nI_clamp (by omega)) (by rw [ix5]; exact vp_in_nI (n := 5 * r + s) (N := 25) (by omega) (by decide)) d_M_change_82 ?_
                  refine Z_if_eq (tgt := 99) C d_M_change_83 (by decide) (fun c83 => ?_) (fun c83 => ?_)
                  · skip
                    refine Z_iconst (v := 2) C d_M_change_99 (by decide) ?_
                    refine Z_goto (tgt := 113) C d_M_change_100 (by decide) ?_
                    refine R_put C w 0 (by decide) fl_M_124 rfl rfl rfl rfl rfl d_M_change_113 ?_
                    refine Z_aload_n C 2 d_M_change_116 rfl rfl ?_
                    refine R_get C w 0 (by decide) fl_M_124 rfl rfl d_M_change_117 ?_
                    refine Z_if_eq (tgt := 124) C d_M_change_120 (by decide) (fun c120 => ?_) (fun c120 => ?_)
                    · exact absurd c120 (by simp [u2, upd]) --stop
                    · skip
                      exact Z_vret C hN hr d_M_change_123 rfl (zeq (rfl))
                  · exact absurd h c83 --stop
                · exact absurd c66 (mIsR_ne hs5) --stop
  · skip
    refine Z_iload C 4 d_M_change_4 rfl ?_
    refine Z_if_ne (tgt := 13) C d_M_change_6 (by decide) (fun c6 => ?_) (fun c6 => ?_)
    · skip
      refine Z_iconst (v := 0) C d_M_change_13 (by decide) ?_
      refine Z_istore C d_M_change_14 (by decide) rfl ?_
      refine Z_iload C 0 d_M_change_16 rfl ?_
      refine Z_if_ne (tgt := 47) C d_M_change_18 (by decide) (fun c18 => ?_) (fun c18 => ?_)
      · exact absurd rfl c18
      · skip
        refine Z_iload_n C 4 d_M_change_21 rfl rfl ?_
        refine Z_iconst (v := 1) C d_M_change_22 (by decide) ?_
        refine Z_icmp_lt (tgt := 51) C d_M_change_23 (by decide) (fun c23 => ?_) (fun c23 => ?_)
        · skip
          refine Z_iconst (v := 0) C d_M_change_51 (by decide) ?_
          refine Z_istore C d_M_change_52 (by decide) rfl ?_
          refine Z_aload_n C 2 d_M_change_54 rfl rfl ?_
          refine Z_iload_n C 3 d_M_change_55 rfl rfl ?_
          refine C_csv C ms_M_isRouter ml_M_128 (c_M_isRouter w _ _) rfl (by decide) rfl (Nat.le_of_ble_eq_true rfl) d_M_change_56 ?_
          refine Z_if_eq (tgt := 69) C d_M_change_59 (by decide) (fun c59 => ?_) (fun c59 => ?_)
          · exact absurd c59 (mIsR_ne hr5) --stop
          · skip
            refine Z_iload_n C 4 d_M_change_62 rfl rfl ?_
            refine C_csv C ms_M_isRouter ml_M_128 (c_M_isRouter w _ _) rfl (by decide) rfl (Nat.le_of_ble_eq_true rfl) d_M_change_63 ?_
            refine Z_if_ne (tgt := 73) C d_M_change_66 (by decide) (fun c66 => ?_) (fun c66 => ?_)
            · skip
              refine Z_aload_n C 2 d_M_change_73 rfl rfl ?_
              refine R_get C w 11 (by decide) fl_M_37 rfl rfl d_M_change_74 ?_
              refine Z_iconst (v := 5) C d_M_change_77 (by decide) ?_
              refine Z_iload_n C 3 d_M_change_78 rfl rfl ?_
              refine Z_imul C d_M_change_79 ?_
              refine Z_iload_n C 4 d_M_change_80 rfl rfl ?_
              refine Z_iadd C d_M_change_81 ?_
              refine R_zld 11 C w rfl rfl (5 * r + s) (by rw [ix5]; exact nI_clamp (by omega)) (by rw [ix5]; exact vp_in_nI (n := 5 * r + s) (N := 25) (by omega) (by decide)) d_M_change_82 ?_
              refine Z_if_eq (tgt := 99) C d_M_change_83 (by decide) (fun c83 => ?_) (fun c83 => ?_)
              · skip
                refine Z_iconst (v := 2) C d_M_change_99 (by decide) ?_
                refine Z_goto (tgt := 113) C d_M_change_100 (by decide) ?_
                refine R_put C w 0 (by decide) fl_M_124 rfl rfl rfl rfl rfl d_M_change_113 ?_
                refine Z_aload_n C 2 d_M_change_116 rfl rfl ?_
                refine R_get C w 0 (by decide) fl_M_124 rfl rfl d_M_change_117 ?_
                refine Z_if_eq (tgt := 124) C d_M_change_120 (by decide) (fun c120 => ?_) (fun c120 => ?_)
                · exact absurd c120 (by simp [u2, upd]) --stop
                · skip
                  exact Z_vret C hN hr d_M_change_123 rfl (zeq (rfl))
              · exact absurd h c83 --stop
            · exact absurd c66 (mIsR_ne hs5) --stop
        · skip
          refine Z_iload_n C 4 d_M_change_26 rfl rfl ?_
          refine Z_sipush (v := 1000) C d_M_change_27 (by decide) ?_
          refine Z_icmp_gt (tgt := 51) C d_M_change_30 (by decide) (fun c30 => ?_) (fun c30 => ?_)
          · skip
            refine Z_iconst (v := 0) C d_M_change_51 (by decide) ?_
            refine Z_istore C d_M_change_52 (by decide) rfl ?_
            refine Z_aload_n C 2 d_M_change_54 rfl rfl ?_
            refine Z_iload_n C 3 d_M_change_55 rfl rfl ?_
            refine C_csv C ms_M_isRouter ml_M_128 (c_M_isRouter w _ _) rfl (by decide) rfl (Nat.le_of_ble_eq_true rfl) d_M_change_56 ?_
            refine Z_if_eq (tgt := 69) C d_M_change_59 (by decide) (fun c59 => ?_) (fun c59 => ?_)
            · exact absurd c59 (mIsR_ne hr5) --stop
            · skip
              refine Z_iload_n C 4 d_M_change_62 rfl rfl ?_
              refine C_csv C ms_M_isRouter ml_M_128 (c_M_isRouter w _ _) rfl (by decide) rfl (Nat.le_of_ble_eq_true rfl) d_M_change_63 ?_
              refine Z_if_ne (tgt := 73) C d_M_change_66 (by decide) (fun c66 => ?_) (fun c66 => ?_)
              · skip
                refine Z_aload_n C 2 d_M_change_73 rfl rfl ?_
                refine R_get C w 11 (by decide) fl_M_37 rfl rfl d_M_change_74 ?_
                refine Z_iconst (v := 5) C d_M_change_77 (by decide) ?_
                refine Z_iload_n C 3 d_M_change_78 rfl rfl ?_
                refine Z_imul C d_M_change_79 ?_
                refine Z_iload_n C 4 d_M_change_80 rfl rfl ?_
                refine Z_iadd C d_M_change_81 ?_
                refine R_zld 11 C w rfl rfl (5 * r + s) (by rw [ix5]; exact nI_clamp (by omega)) (by rw [ix5]; exact vp_in_nI (n := 5 * r + s) (N := 25) (by omega) (by decide)) d_M_change_82 ?_
                refine Z_if_eq (tgt := 99) C d_M_change_83 (by decide) (fun c83 => ?_) (fun c83 => ?_)
                · skip
                  refine Z_iconst (v := 2) C d_M_change_99 (by decide) ?_
                  refine Z_goto (tgt := 113) C d_M_change_100 (by decide) ?_
                  refine R_put C w 0 (by decide) fl_M_124 rfl rfl rfl rfl rfl d_M_change_113 ?_
                  refine Z_aload_n C 2 d_M_change_116 rfl rfl ?_
                  refine R_get C w 0 (by decide) fl_M_124 rfl rfl d_M_change_117 ?_
                  refine Z_if_eq (tgt := 124) C d_M_change_120 (by decide) (fun c120 => ?_) (fun c120 => ?_)
                  · exact absurd c120 (by simp [u2, upd]) --stop
                  · skip
                    exact Z_vret C hN hr d_M_change_123 rfl (zeq (rfl))
                · exact absurd h c83 --stop
              · exact absurd c66 (mIsR_ne hs5) --stop
          · skip
            refine Z_iload C 5 d_M_change_33 rfl ?_
            refine Z_iconst (v := 1) C d_M_change_35 (by decide) ?_
            refine Z_icmp_lt (tgt := 51) C d_M_change_36 (by decide) (fun c36 => ?_) (fun c36 => ?_)
            · skip
              refine Z_iconst (v := 0) C d_M_change_51 (by decide) ?_
              refine Z_istore C d_M_change_52 (by decide) rfl ?_
              refine Z_aload_n C 2 d_M_change_54 rfl rfl ?_
              refine Z_iload_n C 3 d_M_change_55 rfl rfl ?_
              refine C_csv C ms_M_isRouter ml_M_128 (c_M_isRouter w _ _) rfl (by decide) rfl (Nat.le_of_ble_eq_true rfl) d_M_change_56 ?_
              refine Z_if_eq (tgt := 69) C d_M_change_59 (by decide) (fun c59 => ?_) (fun c59 => ?_)
              · exact absurd c59 (mIsR_ne hr5) --stop
              · skip
                refine Z_iload_n C 4 d_M_change_62 rfl rfl ?_
                refine C_csv C ms_M_isRouter ml_M_128 (c_M_isRouter w _ _) rfl (by decide) rfl (Nat.le_of_ble_eq_true rfl) d_M_change_63 ?_
                refine Z_if_ne (tgt := 73) C d_M_change_66 (by decide) (fun c66 => ?_) (fun c66 => ?_)
                · skip
                  refine Z_aload_n C 2 d_M_change_73 rfl rfl ?_
                  refine R_get C w 11 (by decide) fl_M_37 rfl rfl d_M_change_74 ?_
                  refine Z_iconst (v := 5) C d_M_change_77 (by decide) ?_
                  refine Z_iload_n C 3 d_M_change_78 rfl rfl ?_
                  refine Z_imul C d_M_change_79 ?_
                  refine Z_iload_n C 4 d_M_change_80 rfl rfl ?_
                  refine Z_iadd C d_M_change_81 ?_
                  refine R_zld 11 C w rfl rfl (5 * r + s) (by rw [ix5]; exact nI_clamp (by omega)) (by rw [ix5]; exact vp_in_nI (n := 5 * r + s) (N := 25) (by omega) (by decide)) d_M_change_82 ?_
                  refine Z_if_eq (tgt := 99) C d_M_change_83 (by decide) (fun c83 => ?_) (fun c83 => ?_)
                  · skip
                    refine Z_iconst (v := 2) C d_M_change_99 (by decide) ?_
                    refine Z_goto (tgt := 113) C d_M_change_100 (by decide) ?_
                    refine R_put C w 0 (by decide) fl_M_124 rfl rfl rfl rfl rfl d_M_change_113 ?_
                    refine Z_aload_n C 2 d_M_change_116 rfl rfl ?_
                    refine R_get C w 0 (by decide) fl_M_124 rfl rfl d_M_change_117 ?_
                    refine Z_if_eq (tgt := 124) C d_M_change_120 (by decide) (fun c120 => ?_) (fun c120 => ?_)
                    · exact absurd c120 (by simp [u2, upd]) --stop
                    · skip
                      exact Z_vret C hN hr d_M_change_123 rfl (zeq (rfl))
                  · exact absurd h c83 --stop
                · exact absurd c66 (mIsR_ne hs5) --stop
            · skip
              refine Z_iload C 5 d_M_change_39 rfl ?_
              refine Z_sipush (v := 1000) C d_M_change_41 (by decide) ?_
              refine Z_icmp_gt (tgt := 51) C d_M_change_44 (by decide) (fun c44 => ?_) (fun c44 => ?_)
              · skip
                refine Z_iconst (v := 0) C d_M_change_51 (by decide) ?_
                refine Z_istore C d_M_change_52 (by decide) rfl ?_
                refine Z_aload_n C 2 d_M_change_54 rfl rfl ?_
                refine Z_iload_n C 3 d_M_change_55 rfl rfl ?_
                refine C_csv C ms_M_isRouter ml_M_128 (c_M_isRouter w _ _) rfl (by decide) rfl (Nat.le_of_ble_eq_true rfl) d_M_change_56 ?_
                refine Z_if_eq (tgt := 69) C d_M_change_59 (by decide) (fun c59 => ?_) (fun c59 => ?_)
                · exact absurd c59 (mIsR_ne hr5) --stop
                · skip
                  refine Z_iload_n C 4 d_M_change_62 rfl rfl ?_
                  refine C_csv C ms_M_isRouter ml_M_128 (c_M_isRouter w _ _) rfl (by decide) rfl (Nat.le_of_ble_eq_true rfl) d_M_change_63 ?_
                  refine Z_if_ne (tgt := 73) C d_M_change_66 (by decide) (fun c66 => ?_) (fun c66 => ?_)
                  · skip
                    refine Z_aload_n C 2 d_M_change_73 rfl rfl ?_
                    refine R_get C w 11 (by decide) fl_M_37 rfl rfl d_M_change_74 ?_
                    refine Z_iconst (v := 5) C d_M_change_77 (by decide) ?_
                    refine Z_iload_n C 3 d_M_change_78 rfl rfl ?_
                    refine Z_imul C d_M_change_79 ?_
                    refine Z_iload_n C 4 d_M_change_80 rfl rfl ?_
                    refine Z_iadd C d_M_change_81 ?_
                    refine R_zld 11 C w rfl rfl (5 * r + s) (by rw [ix5]; exact nI_clamp (by omega)) (by rw [ix5]; exact vp_in_nI (n := 5 * r + s) (N := 25) (by omega) (by decide)) d_M_change_82 ?_
                    refine Z_if_eq (tgt := 99) C d_M_change_83 (by decide) (fun c83 => ?_) (fun c83 => ?_)
                    · skip
                      refine Z_iconst (v := 2) C d_M_change_99 (by decide) ?_
                      refine Z_goto (tgt := 113) C d_M_change_100 (by decide) ?_
                      refine R_put C w 0 (by decide) fl_M_124 rfl rfl rfl rfl rfl d_M_change_113 ?_
                      refine Z_aload_n C 2 d_M_change_116 rfl rfl ?_
                      refine R_get C w 0 (by decide) fl_M_124 rfl rfl d_M_change_117 ?_
                      refine Z_if_eq (tgt := 124) C d_M_change_120 (by decide) (fun c120 => ?_) (fun c120 => ?_)
                      · exact absurd c120 (by simp [u2, upd]) --stop
                      · skip
                        exact Z_vret C hN hr d_M_change_123 rfl (zeq (rfl))
                    · exact absurd h c83 --stop
                  · exact absurd c66 (mIsR_ne hs5) --stop
              · skip
                refine Z_iconst (v := 1) C d_M_change_47 (by decide) ?_
                refine Z_goto (tgt := 52) C d_M_change_48 (by decide) ?_
                refine Z_istore C d_M_change_52 (by decide) rfl ?_
                refine Z_aload_n C 2 d_M_change_54 rfl rfl ?_
                refine Z_iload_n C 3 d_M_change_55 rfl rfl ?_
                refine C_csv C ms_M_isRouter ml_M_128 (c_M_isRouter w _ _) rfl (by decide) rfl (Nat.le_of_ble_eq_true rfl) d_M_change_56 ?_
                refine Z_if_eq (tgt := 69) C d_M_change_59 (by decide) (fun c59 => ?_) (fun c59 => ?_)
                · exact absurd c59 (mIsR_ne hr5) --stop
                · skip
                  refine Z_iload_n C 4 d_M_change_62 rfl rfl ?_
                  refine C_csv C ms_M_isRouter ml_M_128 (c_M_isRouter w _ _) rfl (by decide) rfl (Nat.le_of_ble_eq_true rfl) d_M_change_63 ?_
                  refine Z_if_ne (tgt := 73) C d_M_change_66 (by decide) (fun c66 => ?_) (fun c66 => ?_)
                  · skip
                    refine Z_aload_n C 2 d_M_change_73 rfl rfl ?_
                    refine R_get C w 11 (by decide) fl_M_37 rfl rfl d_M_change_74 ?_
                    refine Z_iconst (v := 5) C d_M_change_77 (by decide) ?_
                    refine Z_iload_n C 3 d_M_change_78 rfl rfl ?_
                    refine Z_imul C d_M_change_79 ?_
                    refine Z_iload_n C 4 d_M_change_80 rfl rfl ?_
                    refine Z_iadd C d_M_change_81 ?_
                    refine R_zld 11 C w rfl rfl (5 * r + s) (by rw [ix5]; exact nI_clamp (by omega)) (by rw [ix5]; exact vp_in_nI (n := 5 * r + s) (N := 25) (by omega) (by decide)) d_M_change_82 ?_
                    refine Z_if_eq (tgt := 99) C d_M_change_83 (by decide) (fun c83 => ?_) (fun c83 => ?_)
                    · skip
                      refine Z_iconst (v := 2) C d_M_change_99 (by decide) ?_
                      refine Z_goto (tgt := 113) C d_M_change_100 (by decide) ?_
                      refine R_put C w 0 (by decide) fl_M_124 rfl rfl rfl rfl rfl d_M_change_113 ?_
                      refine Z_aload_n C 2 d_M_change_116 rfl rfl ?_
                      refine R_get C w 0 (by decide) fl_M_124 rfl rfl d_M_change_117 ?_
                      refine Z_if_eq (tgt := 124) C d_M_change_120 (by decide) (fun c120 => ?_) (fun c120 => ?_)
                      · exact absurd c120 (by simp [u2, upd]) --stop
                      · skip
                        exact Z_vret C hN hr d_M_change_123 rfl (zeq (rfl))
                    · exact absurd h c83 --stop
                  · exact absurd c66 (mIsR_ne hs5) --stop
    · skip
      refine Z_iconst (v := 1) C d_M_change_9 (by decide) ?_
      refine Z_goto (tgt := 14) C d_M_change_10 (by decide) ?_
      refine Z_istore C d_M_change_14 (by decide) rfl ?_
      refine Z_iload C 0 d_M_change_16 rfl ?_
      refine Z_if_ne (tgt := 47) C d_M_change_18 (by decide) (fun c18 => ?_) (fun c18 => ?_)
      · skip
        refine Z_iconst (v := 1) C d_M_change_47 (by decide) ?_
        refine Z_goto (tgt := 52) C d_M_change_48 (by decide) ?_
        refine Z_istore C d_M_change_52 (by decide) rfl ?_
        refine Z_aload_n C 2 d_M_change_54 rfl rfl ?_
        refine Z_iload_n C 3 d_M_change_55 rfl rfl ?_
        refine C_csv C ms_M_isRouter ml_M_128 (c_M_isRouter w _ _) rfl (by decide) rfl (Nat.le_of_ble_eq_true rfl) d_M_change_56 ?_
        refine Z_if_eq (tgt := 69) C d_M_change_59 (by decide) (fun c59 => ?_) (fun c59 => ?_)
        · exact absurd c59 (mIsR_ne hr5) --stop
        · skip
          refine Z_iload_n C 4 d_M_change_62 rfl rfl ?_
          refine C_csv C ms_M_isRouter ml_M_128 (c_M_isRouter w _ _) rfl (by decide) rfl (Nat.le_of_ble_eq_true rfl) d_M_change_63 ?_
          refine Z_if_ne (tgt := 73) C d_M_change_66 (by decide) (fun c66 => ?_) (fun c66 => ?_)
          · skip
            refine Z_aload_n C 2 d_M_change_73 rfl rfl ?_
            refine R_get C w 11 (by decide) fl_M_37 rfl rfl d_M_change_74 ?_
            refine Z_iconst (v := 5) C d_M_change_77 (by decide) ?_
            refine Z_iload_n C 3 d_M_change_78 rfl rfl ?_
            refine Z_imul C d_M_change_79 ?_
            refine Z_iload_n C 4 d_M_change_80 rfl rfl ?_
            refine Z_iadd C d_M_change_81 ?_
            refine R_zld 11 C w rfl rfl (5 * r + s) (by rw [ix5]; exact nI_clamp (by omega)) (by rw [ix5]; exact vp_in_nI (n := 5 * r + s) (N := 25) (by omega) (by decide)) d_M_change_82 ?_
            refine Z_if_eq (tgt := 99) C d_M_change_83 (by decide) (fun c83 => ?_) (fun c83 => ?_)
            · skip
              refine Z_iconst (v := 2) C d_M_change_99 (by decide) ?_
              refine Z_goto (tgt := 113) C d_M_change_100 (by decide) ?_
              refine R_put C w 0 (by decide) fl_M_124 rfl rfl rfl rfl rfl d_M_change_113 ?_
              refine Z_aload_n C 2 d_M_change_116 rfl rfl ?_
              refine R_get C w 0 (by decide) fl_M_124 rfl rfl d_M_change_117 ?_
              refine Z_if_eq (tgt := 124) C d_M_change_120 (by decide) (fun c120 => ?_) (fun c120 => ?_)
              · exact absurd c120 (by simp [u2, upd]) --stop
              · skip
                exact Z_vret C hN hr d_M_change_123 rfl (zeq (rfl))
            · exact absurd h c83 --stop
          · exact absurd c66 (mIsR_ne hs5) --stop
      · exact absurd c18 (by decide)
set_option maxRecDepth 100000 in
set_option maxHeartbeats 4000000 in
theorem m_tick_1 {l : Launch} {G : zG} {U : zU} (w : wR G U) (N : zR) (x : Int32) (h : x < 1 ∨ ¬ x ≤ 400) : zF l y_M_tick b_M_tick 4 (some .int) 0 0 G [.ref (U.1 43), .int x] (eR U N) (some (.int 0)) (eR U (u2 N 43 0 1)) := by
  refine zF.ofZ (by decide) w.2.2.2.2 (Nat.le_of_ble_eq_true rfl) (fun X hXl hN hr C => ?_)
  subst hXl
  show Z X G (zA G) 4 _ (eR U N) 0 [(0, .ref (U.1 43)), (1, .int x)] []
  refine Z_aload_n C 0 d_M_tick_0 rfl rfl ?_
  refine Z_iload_n C 1 d_M_tick_1 rfl rfl ?_
  refine Z_iconst (v := 1) C d_M_tick_2 (by decide) ?_
  refine Z_icmp_lt (tgt := 13) C d_M_tick_3 (by decide) (fun c3 => ?_) (fun c3 => ?_)
  · skip
    refine Z_iconst (v := 1) C d_M_tick_13 (by decide) ?_
    refine Z_goto (tgt := 18) C d_M_tick_14 (by decide) ?_
    refine R_put C w 0 (by decide) fl_M_124 rfl rfl rfl rfl rfl d_M_tick_18 ?_
    refine Z_aload_n C 0 d_M_tick_21 rfl rfl ?_
    refine R_get C w 0 (by decide) fl_M_124 rfl rfl d_M_tick_22 ?_
    refine Z_if_eq (tgt := 30) C d_M_tick_25 (by decide) (fun c25 => ?_) (fun c25 => ?_)
    · exact absurd c25 (by simp [u2, upd]) --stop
    · skip
      refine Z_iconst (v := 0) C d_M_tick_28 (by decide) ?_
      exact Z_iret C hN hr d_M_tick_29 (rfl) (zeq (rfl))
  · skip
    refine Z_iload_n C 1 d_M_tick_6 rfl rfl ?_
    refine Z_sipush (v := 400) C d_M_tick_7 (by decide) ?_
    refine Z_icmp_le (tgt := 17) C d_M_tick_10 (by decide) (fun c10 => ?_) (fun c10 => ?_)
    · exact absurd c10 (h.resolve_left c3) --stop
    · skip
      refine Z_iconst (v := 1) C d_M_tick_13 (by decide) ?_
      refine Z_goto (tgt := 18) C d_M_tick_14 (by decide) ?_
      refine R_put C w 0 (by decide) fl_M_124 rfl rfl rfl rfl rfl d_M_tick_18 ?_
      refine Z_aload_n C 0 d_M_tick_21 rfl rfl ?_
      refine R_get C w 0 (by decide) fl_M_124 rfl rfl d_M_tick_22 ?_
      refine Z_if_eq (tgt := 30) C d_M_tick_25 (by decide) (fun c25 => ?_) (fun c25 => ?_)
      · exact absurd c25 (by simp [u2, upd]) --stop
      · skip
        refine Z_iconst (v := 0) C d_M_tick_28 (by decide) ?_
        exact Z_iret C hN hr d_M_tick_29 (rfl) (zeq (rfl))
set_option maxRecDepth 100000 in
set_option maxHeartbeats 4000000 in
theorem c_M_raise {l : Launch} {G : zG} {U : zU} (w : wR G U) (N : zR) (x : Int32) : zF l y_M_raise b_M_raise 2 (some .boolean) 0 0 G [.ref (U.1 43), .int x] (eR U N) (some (.int 0)) (eR U (u2 N 43 0 x)) := by
  refine zF.ofZ (by decide) w.2.2.2.2 (Nat.le_of_ble_eq_true rfl) (fun X hXl hN hr C => ?_)
  subst hXl
  show Z X G (zA G) 2 _ (eR U N) 0 [(0, .ref (U.1 43)), (1, .int x)] []
  refine Z_aload_n C 0 d_M_raise_0 rfl rfl ?_
  refine Z_iload_n C 1 d_M_raise_1 rfl rfl ?_
  refine R_put C w 0 (by decide) fl_M_124 rfl rfl rfl rfl rfl d_M_raise_2 ?_
  refine Z_iconst (v := 0) C d_M_raise_5 (by decide) ?_
  exact Z_zret C hN hr (by decide) d_M_raise_6 (rfl) (zeq (rfl))
set_option maxRecDepth 100000 in
set_option maxHeartbeats 4000000 in
theorem m_arrive_1 {l : Launch} {G : zG} {U : zU} (w : wR G U) (N : zR) (x k s hp ad : Int32) (h : mIsR x = 0) : zF l y_M_arrive b_M_arrive 9 (some .boolean) 1 21 G [.ref (U.1 43), .int x, .int k, .int s, .int hp, .int ad] (eR U N) (some (.int 0)) (eR U (u2 N 43 0 1)) := by
  refine zF.ofZ (by decide) w.2.2.2.2 (Nat.le_of_ble_eq_true rfl) (fun X hXl hN hr C => ?_)
  subst hXl
  show Z X G (zA G) 9 _ (eR U N) 0 [(0, .ref (U.1 43)), (1, .int x), (2, .int k), (3, .int s), (4, .int hp), (5, .int ad)] []
  refine Z_iload_n C 2 d_M_arrive_0 rfl rfl ?_
  refine Z_iconst (v := 1) C d_M_arrive_1 (by decide) ?_
  refine Z_icmp_eq (tgt := 10) C d_M_arrive_2 (by decide) (fun c2 => ?_) (fun c2 => ?_)
  · skip
    refine Z_iload_n C 3 d_M_arrive_10 rfl rfl ?_
    refine Z_if_lt (tgt := 37) C d_M_arrive_11 (by decide) (fun c11 => ?_) (fun c11 => ?_)
    · skip
      refine Z_iconst (v := 0) C d_M_arrive_37 (by decide) ?_
      refine Z_istore C d_M_arrive_38 (by decide) rfl ?_
      refine Z_iload_n C 2 d_M_arrive_40 rfl rfl ?_
      refine C_csv C ms_M_isRouter ml_M_128 (c_M_isRouter w _ _) rfl (by decide) rfl (Nat.le_of_ble_eq_true rfl) d_M_arrive_41 ?_
      refine Z_if_ne (tgt := 51) C d_M_arrive_44 (by decide) (fun c44 => ?_) (fun c44 => ?_)
      · exact absurd h c44 --stop
      · skip
        refine Z_iconst (v := 1) C d_M_arrive_47 (by decide) ?_
        refine Z_goto (tgt := 74) C d_M_arrive_48 (by decide) ?_
        refine Z_istore C d_M_arrive_74 (by decide) rfl ?_
        refine Z_iload C 0 d_M_arrive_76 rfl ?_
        refine Z_if_eq (tgt := 88) C d_M_arrive_78 (by decide) (fun c78 => ?_) (fun c78 => ?_)
        · exact absurd c78 (by decide)
        · skip
          refine Z_aload_n C 2 d_M_arrive_81 rfl rfl ?_
          refine Z_iload C 0 d_M_arrive_82 rfl ?_
          refine C_cMv C w mi_M_raise ml_M_267 (c_M_raise w _ _) rfl rfl (by decide) rfl (Nat.le_of_ble_eq_true rfl) d_M_arrive_84 ?_
          exact Z_zret C hN hr (by decide) d_M_arrive_87 (rfl) (zeq (rfl))
    · skip
      refine Z_iload_n C 3 d_M_arrive_14 rfl rfl ?_
      refine Z_bipush (v := 14) C d_M_arrive_15 (by decide) ?_
      refine Z_icmp_gt (tgt := 37) C d_M_arrive_17 (by decide) (fun c17 => ?_) (fun c17 => ?_)
      · skip
        refine Z_iconst (v := 0) C d_M_arrive_37 (by decide) ?_
        refine Z_istore C d_M_arrive_38 (by decide) rfl ?_
        refine Z_iload_n C 2 d_M_arrive_40 rfl rfl ?_
        refine C_csv C ms_M_isRouter ml_M_128 (c_M_isRouter w _ _) rfl (by decide) rfl (Nat.le_of_ble_eq_true rfl) d_M_arrive_41 ?_
        refine Z_if_ne (tgt := 51) C d_M_arrive_44 (by decide) (fun c44 => ?_) (fun c44 => ?_)
        · exact absurd h c44 --stop
        · skip
          refine Z_iconst (v := 1) C d_M_arrive_47 (by decide) ?_
          refine Z_goto (tgt := 74) C d_M_arrive_48 (by decide) ?_
          refine Z_istore C d_M_arrive_74 (by decide) rfl ?_
          refine Z_iload C 0 d_M_arrive_76 rfl ?_
          refine Z_if_eq (tgt := 88) C d_M_arrive_78 (by decide) (fun c78 => ?_) (fun c78 => ?_)
          · exact absurd c78 (by decide)
          · skip
            refine Z_aload_n C 2 d_M_arrive_81 rfl rfl ?_
            refine Z_iload C 0 d_M_arrive_82 rfl ?_
            refine C_cMv C w mi_M_raise ml_M_267 (c_M_raise w _ _) rfl rfl (by decide) rfl (Nat.le_of_ble_eq_true rfl) d_M_arrive_84 ?_
            exact Z_zret C hN hr (by decide) d_M_arrive_87 (rfl) (zeq (rfl))
      · skip
        refine Z_iload C 4 d_M_arrive_20 rfl ?_
        refine Z_if_lt (tgt := 37) C d_M_arrive_22 (by decide) (fun c22 => ?_) (fun c22 => ?_)
        · skip
          refine Z_iconst (v := 0) C d_M_arrive_37 (by decide) ?_
          refine Z_istore C d_M_arrive_38 (by decide) rfl ?_
          refine Z_iload_n C 2 d_M_arrive_40 rfl rfl ?_
          refine C_csv C ms_M_isRouter ml_M_128 (c_M_isRouter w _ _) rfl (by decide) rfl (Nat.le_of_ble_eq_true rfl) d_M_arrive_41 ?_
          refine Z_if_ne (tgt := 51) C d_M_arrive_44 (by decide) (fun c44 => ?_) (fun c44 => ?_)
          · exact absurd h c44 --stop
          · skip
            refine Z_iconst (v := 1) C d_M_arrive_47 (by decide) ?_
            refine Z_goto (tgt := 74) C d_M_arrive_48 (by decide) ?_
            refine Z_istore C d_M_arrive_74 (by decide) rfl ?_
            refine Z_iload C 0 d_M_arrive_76 rfl ?_
            refine Z_if_eq (tgt := 88) C d_M_arrive_78 (by decide) (fun c78 => ?_) (fun c78 => ?_)
            · exact absurd c78 (by decide)
            · skip
              refine Z_aload_n C 2 d_M_arrive_81 rfl rfl ?_
              refine Z_iload C 0 d_M_arrive_82 rfl ?_
              refine C_cMv C w mi_M_raise ml_M_267 (c_M_raise w _ _) rfl rfl (by decide) rfl (Nat.le_of_ble_eq_true rfl) d_M_arrive_84 ?_
              exact Z_zret C hN hr (by decide) d_M_arrive_87 (rfl) (zeq (rfl))
        · skip
          refine Z_iload C 4 d_M_arrive_25 rfl ?_
          refine Z_sipush (v := 255) C d_M_arrive_27 (by decide) ?_
          refine Z_icmp_gt (tgt := 37) C d_M_arrive_30 (by decide) (fun c30 => ?_) (fun c30 => ?_)
          · skip
            refine Z_iconst (v := 0) C d_M_arrive_37 (by decide) ?_
            refine Z_istore C d_M_arrive_38 (by decide) rfl ?_
            refine Z_iload_n C 2 d_M_arrive_40 rfl rfl ?_
            refine C_csv C ms_M_isRouter ml_M_128 (c_M_isRouter w _ _) rfl (by decide) rfl (Nat.le_of_ble_eq_true rfl) d_M_arrive_41 ?_
            refine Z_if_ne (tgt := 51) C d_M_arrive_44 (by decide) (fun c44 => ?_) (fun c44 => ?_)
            · exact absurd h c44 --stop
            · skip
              refine Z_iconst (v := 1) C d_M_arrive_47 (by decide) ?_
              refine Z_goto (tgt := 74) C d_M_arrive_48 (by decide) ?_
              refine Z_istore C d_M_arrive_74 (by decide) rfl ?_
              refine Z_iload C 0 d_M_arrive_76 rfl ?_
              refine Z_if_eq (tgt := 88) C d_M_arrive_78 (by decide) (fun c78 => ?_) (fun c78 => ?_)
              · exact absurd c78 (by decide)
              · skip
                refine Z_aload_n C 2 d_M_arrive_81 rfl rfl ?_
                refine Z_iload C 0 d_M_arrive_82 rfl ?_
                refine C_cMv C w mi_M_raise ml_M_267 (c_M_raise w _ _) rfl rfl (by decide) rfl (Nat.le_of_ble_eq_true rfl) d_M_arrive_84 ?_
                exact Z_zret C hN hr (by decide) d_M_arrive_87 (rfl) (zeq (rfl))
          · skip
            refine Z_iconst (v := 1) C d_M_arrive_33 (by decide) ?_
            refine Z_goto (tgt := 38) C d_M_arrive_34 (by decide) ?_
            refine Z_istore C d_M_arrive_38 (by decide) rfl ?_
            refine Z_iload_n C 2 d_M_arrive_40 rfl rfl ?_
            refine C_csv C ms_M_isRouter ml_M_128 (c_M_isRouter w _ _) rfl (by decide) rfl (Nat.le_of_ble_eq_true rfl) d_M_arrive_41 ?_
            refine Z_if_ne (tgt := 51) C d_M_arrive_44 (by decide) (fun c44 => ?_) (fun c44 => ?_)
            · exact absurd h c44 --stop
            · skip
              refine Z_iconst (v := 1) C d_M_arrive_47 (by decide) ?_
              refine Z_goto (tgt := 74) C d_M_arrive_48 (by decide) ?_
              refine Z_istore C d_M_arrive_74 (by decide) rfl ?_
              refine Z_iload C 0 d_M_arrive_76 rfl ?_
              refine Z_if_eq (tgt := 88) C d_M_arrive_78 (by decide) (fun c78 => ?_) (fun c78 => ?_)
              · exact absurd c78 (by decide)
              · skip
                refine Z_aload_n C 2 d_M_arrive_81 rfl rfl ?_
                refine Z_iload C 0 d_M_arrive_82 rfl ?_
                refine C_cMv C w mi_M_raise ml_M_267 (c_M_raise w _ _) rfl rfl (by decide) rfl (Nat.le_of_ble_eq_true rfl) d_M_arrive_84 ?_
                exact Z_zret C hN hr (by decide) d_M_arrive_87 (rfl) (zeq (rfl))
  · skip
    refine Z_iload_n C 2 d_M_arrive_5 rfl rfl ?_
    refine Z_iconst (v := 2) C d_M_arrive_6 (by decide) ?_
    refine Z_icmp_ne (tgt := 37) C d_M_arrive_7 (by decide) (fun c7 => ?_) (fun c7 => ?_)
    · skip
      refine Z_iconst (v := 0) C d_M_arrive_37 (by decide) ?_
      refine Z_istore C d_M_arrive_38 (by decide) rfl ?_
      refine Z_iload_n C 2 d_M_arrive_40 rfl rfl ?_
      refine C_csv C ms_M_isRouter ml_M_128 (c_M_isRouter w _ _) rfl (by decide) rfl (Nat.le_of_ble_eq_true rfl) d_M_arrive_41 ?_
      refine Z_if_ne (tgt := 51) C d_M_arrive_44 (by decide) (fun c44 => ?_) (fun c44 => ?_)
      · exact absurd h c44 --stop
      · skip
        refine Z_iconst (v := 1) C d_M_arrive_47 (by decide) ?_
        refine Z_goto (tgt := 74) C d_M_arrive_48 (by decide) ?_
        refine Z_istore C d_M_arrive_74 (by decide) rfl ?_
        refine Z_iload C 0 d_M_arrive_76 rfl ?_
        refine Z_if_eq (tgt := 88) C d_M_arrive_78 (by decide) (fun c78 => ?_) (fun c78 => ?_)
        · exact absurd c78 (by decide)
        · skip
          refine Z_aload_n C 2 d_M_arrive_81 rfl rfl ?_
          refine Z_iload C 0 d_M_arrive_82 rfl ?_
          refine C_cMv C w mi_M_raise ml_M_267 (c_M_raise w _ _) rfl rfl (by decide) rfl (Nat.le_of_ble_eq_true rfl) d_M_arrive_84 ?_
          exact Z_zret C hN hr (by decide) d_M_arrive_87 (rfl) (zeq (rfl))
    · skip
      refine Z_iload_n C 3 d_M_arrive_10 rfl rfl ?_
      refine Z_if_lt (tgt := 37) C d_M_arrive_11 (by decide) (fun c11 => ?_) (fun c11 => ?_)
      · skip
        refine Z_iconst (v := 0) C d_M_arrive_37 (by decide) ?_
        refine Z_istore C d_M_arrive_38 (by decide) rfl ?_
        refine Z_iload_n C 2 d_M_arrive_40 rfl rfl ?_
        refine C_csv C ms_M_isRouter ml_M_128 (c_M_isRouter w _ _) rfl (by decide) rfl (Nat.le_of_ble_eq_true rfl) d_M_arrive_41 ?_
        refine Z_if_ne (tgt := 51) C d_M_arrive_44 (by decide) (fun c44 => ?_) (fun c44 => ?_)
        · exact absurd h c44 --stop
        · skip
          refine Z_iconst (v := 1) C d_M_arrive_47 (by decide) ?_
          refine Z_goto (tgt := 74) C d_M_arrive_48 (by decide) ?_
          refine Z_istore C d_M_arrive_74 (by decide) rfl ?_
          refine Z_iload C 0 d_M_arrive_76 rfl ?_
          refine Z_if_eq (tgt := 88) C d_M_arrive_78 (by decide) (fun c78 => ?_) (fun c78 => ?_)
          · exact absurd c78 (by decide)
          · skip
            refine Z_aload_n C 2 d_M_arrive_81 rfl rfl ?_
            refine Z_iload C 0 d_M_arrive_82 rfl ?_
            refine C_cMv C w mi_M_raise ml_M_267 (c_M_raise w _ _) rfl rfl (by decide) rfl (Nat.le_of_ble_eq_true rfl) d_M_arrive_84 ?_
            exact Z_zret C hN hr (by decide) d_M_arrive_87 (rfl) (zeq (rfl))
      · skip
        refine Z_iload_n C 3 d_M_arrive_14 rfl rfl ?_
        refine Z_bipush (v := 14) C d_M_arrive_15 (by decide) ?_
        refine Z_icmp_gt (tgt := 37) C d_M_arrive_17 (by decide) (fun c17 => ?_) (fun c17 => ?_)
        · skip
          refine Z_iconst (v := 0) C d_M_arrive_37 (by decide) ?_
          refine Z_istore C d_M_arrive_38 (by decide) rfl ?_
          refine Z_iload_n C 2 d_M_arrive_40 rfl rfl ?_
          refine C_csv C ms_M_isRouter ml_M_128 (c_M_isRouter w _ _) rfl (by decide) rfl (Nat.le_of_ble_eq_true rfl) d_M_arrive_41 ?_
          refine Z_if_ne (tgt := 51) C d_M_arrive_44 (by decide) (fun c44 => ?_) (fun c44 => ?_)
          · exact absurd h c44 --stop
          · skip
            refine Z_iconst (v := 1) C d_M_arrive_47 (by decide) ?_
            refine Z_goto (tgt := 74) C d_M_arrive_48 (by decide) ?_
            refine Z_istore C d_M_arrive_74 (by decide) rfl ?_
            refine Z_iload C 0 d_M_arrive_76 rfl ?_
            refine Z_if_eq (tgt := 88) C d_M_arrive_78 (by decide) (fun c78 => ?_) (fun c78 => ?_)
            · exact absurd c78 (by decide)
            · skip
              refine Z_aload_n C 2 d_M_arrive_81 rfl rfl ?_
              refine Z_iload C 0 d_M_arrive_82 rfl ?_
              refine C_cMv C w mi_M_raise ml_M_267 (c_M_raise w _ _) rfl rfl (by decide) rfl (Nat.le_of_ble_eq_true rfl) d_M_arrive_84 ?_
              exact Z_zret C hN hr (by decide) d_M_arrive_87 (rfl) (zeq (rfl))
        · skip
          refine Z_iload C 4 d_M_arrive_20 rfl ?_
          refine Z_if_lt (tgt := 37) C d_M_arrive_22 (by decide) (fun c22 => ?_) (fun c22 => ?_)
          · skip
            refine Z_iconst (v := 0) C d_M_arrive_37 (by decide) ?_
            refine Z_istore C d_M_arrive_38 (by decide) rfl ?_
            refine Z_iload_n C 2 d_M_arrive_40 rfl rfl ?_
            refine C_csv C ms_M_isRouter ml_M_128 (c_M_isRouter w _ _) rfl (by decide) rfl (Nat.le_of_ble_eq_true rfl) d_M_arrive_41 ?_
            refine Z_if_ne (tgt := 51) C d_M_arrive_44 (by decide) (fun c44 => ?_) (fun c44 => ?_)
            · exact absurd h c44 --stop
            · skip
              refine Z_iconst (v := 1) C d_M_arrive_47 (by decide) ?_
              refine Z_goto (tgt := 74) C d_M_arrive_48 (by decide) ?_
              refine Z_istore C d_M_arrive_74 (by decide) rfl ?_
              refine Z_iload C 0 d_M_arrive_76 rfl ?_
              refine Z_if_eq (tgt := 88) C d_M_arrive_78 (by decide) (fun c78 => ?_) (fun c78 => ?_)
              · exact absurd c78 (by decide)
              · skip
                refine Z_aload_n C 2 d_M_arrive_81 rfl rfl ?_
                refine Z_iload C 0 d_M_arrive_82 rfl ?_
                refine C_cMv C w mi_M_raise ml_M_267 (c_M_raise w _ _) rfl rfl (by decide) rfl (Nat.le_of_ble_eq_true rfl) d_M_arrive_84 ?_
                exact Z_zret C hN hr (by decide) d_M_arrive_87 (rfl) (zeq (rfl))
          · skip
            refine Z_iload C 4 d_M_arrive_25 rfl ?_
            refine Z_sipush (v := 255) C d_M_arrive_27 (by decide) ?_
            refine Z_icmp_gt (tgt := 37) C d_M_arrive_30 (by decide) (fun c30 => ?_) (fun c30 => ?_)
            · skip
              refine Z_iconst (v := 0) C d_M_arrive_37 (by decide) ?_
              refine Z_istore C d_M_arrive_38 (by decide) rfl ?_
              refine Z_iload_n C 2 d_M_arrive_40 rfl rfl ?_
              refine C_csv C ms_M_isRouter ml_M_128 (c_M_isRouter w _ _) rfl (by decide) rfl (Nat.le_of_ble_eq_true rfl) d_M_arrive_41 ?_
              refine Z_if_ne (tgt := 51) C d_M_arrive_44 (by decide) (fun c44 => ?_) (fun c44 => ?_)
              · exact absurd h c44 --stop
              · skip
                refine Z_iconst (v := 1) C d_M_arrive_47 (by decide) ?_
                refine Z_goto (tgt := 74) C d_M_arrive_48 (by decide) ?_
                refine Z_istore C d_M_arrive_74 (by decide) rfl ?_
                refine Z_iload C 0 d_M_arrive_76 rfl ?_
                refine Z_if_eq (tgt := 88) C d_M_arrive_78 (by decide) (fun c78 => ?_) (fun c78 => ?_)
                · exact absurd c78 (by decide)
                · skip
                  refine Z_aload_n C 2 d_M_arrive_81 rfl rfl ?_
                  refine Z_iload C 0 d_M_arrive_82 rfl ?_
                  refine C_cMv C w mi_M_raise ml_M_267 (c_M_raise w _ _) rfl rfl (by decide) rfl (Nat.le_of_ble_eq_true rfl) d_M_arrive_84 ?_
                  exact Z_zret C hN hr (by decide) d_M_arrive_87 (rfl) (zeq (rfl))
            · skip
              refine Z_iconst (v := 1) C d_M_arrive_33 (by decide) ?_
              refine Z_goto (tgt := 38) C d_M_arrive_34 (by decide) ?_
              refine Z_istore C d_M_arrive_38 (by decide) rfl ?_
              refine Z_iload_n C 2 d_M_arrive_40 rfl rfl ?_
              refine C_csv C ms_M_isRouter ml_M_128 (c_M_isRouter w _ _) rfl (by decide) rfl (Nat.le_of_ble_eq_true rfl) d_M_arrive_41 ?_
              refine Z_if_ne (tgt := 51) C d_M_arrive_44 (by decide) (fun c44 => ?_) (fun c44 => ?_)
              · exact absurd h c44 --stop
              · skip
                refine Z_iconst (v := 1) C d_M_arrive_47 (by decide) ?_
                refine Z_goto (tgt := 74) C d_M_arrive_48 (by decide) ?_
                refine Z_istore C d_M_arrive_74 (by decide) rfl ?_
                refine Z_iload C 0 d_M_arrive_76 rfl ?_
                refine Z_if_eq (tgt := 88) C d_M_arrive_78 (by decide) (fun c78 => ?_) (fun c78 => ?_)
                · exact absurd c78 (by decide)
                · skip
                  refine Z_aload_n C 2 d_M_arrive_81 rfl rfl ?_
                  refine Z_iload C 0 d_M_arrive_82 rfl ?_
                  refine C_cMv C w mi_M_raise ml_M_267 (c_M_raise w _ _) rfl rfl (by decide) rfl (Nat.le_of_ble_eq_true rfl) d_M_arrive_84 ?_
                  exact Z_zret C hN hr (by decide) d_M_arrive_87 (rfl) (zeq (rfl))
set_option maxRecDepth 100000 in
set_option maxHeartbeats 4000000 in
theorem m_arrive_2 {l : Launch} {G : zG} {U : zU} (w : wR G U) (N : zR) (r : Nat) (hr5 : r < 5) (k s hp ad : Int32) (h : (¬ k = 1 ∧ ¬ k = 2) ∨ s < 0 ∨ 14 < s ∨ hp < 0 ∨ 255 < hp) : zF l y_M_arrive b_M_arrive 9 (some .boolean) 1 21 G [.ref (U.1 43), .int (nI r), .int k, .int s, .int hp, .int ad] (eR U N) (some (.int 0)) (eR U (u2 N 43 0 2)) := by
  refine zF.ofZ (by decide) w.2.2.2.2 (Nat.le_of_ble_eq_true rfl) (fun X hXl hN hr C => ?_)
  subst hXl
  show Z X G (zA G) 9 _ (eR U N) 0 [(0, .ref (U.1 43)), (1, .int (nI r)), (2, .int k), (3, .int s), (4, .int hp), (5, .int ad)] []
  refine Z_iload_n C 2 d_M_arrive_0 rfl rfl ?_
  refine Z_iconst (v := 1) C d_M_arrive_1 (by decide) ?_
  refine Z_icmp_eq (tgt := 10) C d_M_arrive_2 (by decide) (fun c2 => ?_) (fun c2 => ?_)
  · skip
    refine Z_iload_n C 3 d_M_arrive_10 rfl rfl ?_
    refine Z_if_lt (tgt := 37) C d_M_arrive_11 (by decide) (fun c11 => ?_) (fun c11 => ?_)
    · skip
      refine Z_iconst (v := 0) C d_M_arrive_37 (by decide) ?_
      refine Z_istore C d_M_arrive_38 (by decide) rfl ?_
      refine Z_iload_n C 2 d_M_arrive_40 rfl rfl ?_
      refine C_csv C ms_M_isRouter ml_M_128 (c_M_isRouter w _ _) rfl (by decide) rfl (Nat.le_of_ble_eq_true rfl) d_M_arrive_41 ?_
      refine Z_if_ne (tgt := 51) C d_M_arrive_44 (by decide) (fun c44 => ?_) (fun c44 => ?_)
      · skip
        refine Z_iload C 0 d_M_arrive_51 rfl ?_
        refine Z_if_ne (tgt := 60) C d_M_arrive_53 (by decide) (fun c53 => ?_) (fun c53 => ?_)
        · exact absurd rfl c53
        · skip
          refine Z_iconst (v := 2) C d_M_arrive_56 (by decide) ?_
          refine Z_goto (tgt := 74) C d_M_arrive_57 (by decide) ?_
          refine Z_istore C d_M_arrive_74 (by decide) rfl ?_
          refine Z_iload C 0 d_M_arrive_76 rfl ?_
          refine Z_if_eq (tgt := 88) C d_M_arrive_78 (by decide) (fun c78 => ?_) (fun c78 => ?_)
          · exact absurd c78 (by decide)
          · skip
            refine Z_aload_n C 2 d_M_arrive_81 rfl rfl ?_
            refine Z_iload C 0 d_M_arrive_82 rfl ?_
            refine C_cMv C w mi_M_raise ml_M_267 (c_M_raise w _ _) rfl rfl (by decide) rfl (Nat.le_of_ble_eq_true rfl) d_M_arrive_84 ?_
            exact Z_zret C hN hr (by decide) d_M_arrive_87 (rfl) (zeq (rfl))
      · exact absurd c44 (mIsR_ne hr5) --stop
    · skip
      refine Z_iload_n C 3 d_M_arrive_14 rfl rfl ?_
      refine Z_bipush (v := 14) C d_M_arrive_15 (by decide) ?_
      refine Z_icmp_gt (tgt := 37) C d_M_arrive_17 (by decide) (fun c17 => ?_) (fun c17 => ?_)
      · skip
        refine Z_iconst (v := 0) C d_M_arrive_37 (by decide) ?_
        refine Z_istore C d_M_arrive_38 (by decide) rfl ?_
        refine Z_iload_n C 2 d_M_arrive_40 rfl rfl ?_
        refine C_csv C ms_M_isRouter ml_M_128 (c_M_isRouter w _ _) rfl (by decide) rfl (Nat.le_of_ble_eq_true rfl) d_M_arrive_41 ?_
        refine Z_if_ne (tgt := 51) C d_M_arrive_44 (by decide) (fun c44 => ?_) (fun c44 => ?_)
        · skip
          refine Z_iload C 0 d_M_arrive_51 rfl ?_
          refine Z_if_ne (tgt := 60) C d_M_arrive_53 (by decide) (fun c53 => ?_) (fun c53 => ?_)
          · exact absurd rfl c53
          · skip
            refine Z_iconst (v := 2) C d_M_arrive_56 (by decide) ?_
            refine Z_goto (tgt := 74) C d_M_arrive_57 (by decide) ?_
            refine Z_istore C d_M_arrive_74 (by decide) rfl ?_
            refine Z_iload C 0 d_M_arrive_76 rfl ?_
            refine Z_if_eq (tgt := 88) C d_M_arrive_78 (by decide) (fun c78 => ?_) (fun c78 => ?_)
            · exact absurd c78 (by decide)
            · skip
              refine Z_aload_n C 2 d_M_arrive_81 rfl rfl ?_
              refine Z_iload C 0 d_M_arrive_82 rfl ?_
              refine C_cMv C w mi_M_raise ml_M_267 (c_M_raise w _ _) rfl rfl (by decide) rfl (Nat.le_of_ble_eq_true rfl) d_M_arrive_84 ?_
              exact Z_zret C hN hr (by decide) d_M_arrive_87 (rfl) (zeq (rfl))
        · exact absurd c44 (mIsR_ne hr5) --stop
      · skip
        refine Z_iload C 4 d_M_arrive_20 rfl ?_
        refine Z_if_lt (tgt := 37) C d_M_arrive_22 (by decide) (fun c22 => ?_) (fun c22 => ?_)
        · skip
          refine Z_iconst (v := 0) C d_M_arrive_37 (by decide) ?_
          refine Z_istore C d_M_arrive_38 (by decide) rfl ?_
          refine Z_iload_n C 2 d_M_arrive_40 rfl rfl ?_
          refine C_csv C ms_M_isRouter ml_M_128 (c_M_isRouter w _ _) rfl (by decide) rfl (Nat.le_of_ble_eq_true rfl) d_M_arrive_41 ?_
          refine Z_if_ne (tgt := 51) C d_M_arrive_44 (by decide) (fun c44 => ?_) (fun c44 => ?_)
          · skip
            refine Z_iload C 0 d_M_arrive_51 rfl ?_
            refine Z_if_ne (tgt := 60) C d_M_arrive_53 (by decide) (fun c53 => ?_) (fun c53 => ?_)
            · exact absurd rfl c53
            · skip
              refine Z_iconst (v := 2) C d_M_arrive_56 (by decide) ?_
              refine Z_goto (tgt := 74) C d_M_arrive_57 (by decide) ?_
              refine Z_istore C d_M_arrive_74 (by decide) rfl ?_
              refine Z_iload C 0 d_M_arrive_76 rfl ?_
              refine Z_if_eq (tgt := 88) C d_M_arrive_78 (by decide) (fun c78 => ?_) (fun c78 => ?_)
              · exact absurd c78 (by decide)
              · skip
                refine Z_aload_n C 2 d_M_arrive_81 rfl rfl ?_
                refine Z_iload C 0 d_M_arrive_82 rfl ?_
                refine C_cMv C w mi_M_raise ml_M_267 (c_M_raise w _ _) rfl rfl (by decide) rfl (Nat.le_of_ble_eq_true rfl) d_M_arrive_84 ?_
                exact Z_zret C hN hr (by decide) d_M_arrive_87 (rfl) (zeq (rfl))
          · exact absurd c44 (mIsR_ne hr5) --stop
        · skip
          refine Z_iload C 4 d_M_arrive_25 rfl ?_
          refine Z_sipush (v := 255) C d_M_arrive_27 (by decide) ?_
          refine Z_icmp_gt (tgt := 37) C d_M_arrive_30 (by decide) (fun c30 => ?_) (fun c30 => ?_)
          · skip
            refine Z_iconst (v := 0) C d_M_arrive_37 (by decide) ?_
            refine Z_istore C d_M_arrive_38 (by decide) rfl ?_
            refine Z_iload_n C 2 d_M_arrive_40 rfl rfl ?_
            refine C_csv C ms_M_isRouter ml_M_128 (c_M_isRouter w _ _) rfl (by decide) rfl (Nat.le_of_ble_eq_true rfl) d_M_arrive_41 ?_
            refine Z_if_ne (tgt := 51) C d_M_arrive_44 (by decide) (fun c44 => ?_) (fun c44 => ?_)
            · skip
              refine Z_iload C 0 d_M_arrive_51 rfl ?_
              refine Z_if_ne (tgt := 60) C d_M_arrive_53 (by decide) (fun c53 => ?_) (fun c53 => ?_)
              · exact absurd rfl c53
              · skip
                refine Z_iconst (v := 2) C d_M_arrive_56 (by decide) ?_
                refine Z_goto (tgt := 74) C d_M_arrive_57 (by decide) ?_
                refine Z_istore C d_M_arrive_74 (by decide) rfl ?_
                refine Z_iload C 0 d_M_arrive_76 rfl ?_
                refine Z_if_eq (tgt := 88) C d_M_arrive_78 (by decide) (fun c78 => ?_) (fun c78 => ?_)
                · exact absurd c78 (by decide)
                · skip
                  refine Z_aload_n C 2 d_M_arrive_81 rfl rfl ?_
                  refine Z_iload C 0 d_M_arrive_82 rfl ?_
                  refine C_cMv C w mi_M_raise ml_M_267 (c_M_raise w _ _) rfl rfl (by decide) rfl (Nat.le_of_ble_eq_true rfl) d_M_arrive_84 ?_
                  exact Z_zret C hN hr (by decide) d_M_arrive_87 (rfl) (zeq (rfl))
            · exact absurd c44 (mIsR_ne hr5) --stop
          · exact absurd ((((h.resolve_left (by intro z; first | exact z.1 c2 | exact z.2 c7)).resolve_left c11).resolve_left c17).resolve_left c22) c30 --stop
  · skip
    refine Z_iload_n C 2 d_M_arrive_5 rfl rfl ?_
    refine Z_iconst (v := 2) C d_M_arrive_6 (by decide) ?_
    refine Z_icmp_ne (tgt := 37) C d_M_arrive_7 (by decide) (fun c7 => ?_) (fun c7 => ?_)
    · skip
      refine Z_iconst (v := 0) C d_M_arrive_37 (by decide) ?_
      refine Z_istore C d_M_arrive_38 (by decide) rfl ?_
      refine Z_iload_n C 2 d_M_arrive_40 rfl rfl ?_
      refine C_csv C ms_M_isRouter ml_M_128 (c_M_isRouter w _ _) rfl (by decide) rfl (Nat.le_of_ble_eq_true rfl) d_M_arrive_41 ?_
      refine Z_if_ne (tgt := 51) C d_M_arrive_44 (by decide) (fun c44 => ?_) (fun c44 => ?_)
      · skip
        refine Z_iload C 0 d_M_arrive_51 rfl ?_
        refine Z_if_ne (tgt := 60) C d_M_arrive_53 (by decide) (fun c53 => ?_) (fun c53 => ?_)
        · exact absurd rfl c53
        · skip
          refine Z_iconst (v := 2) C d_M_arrive_56 (by decide) ?_
          refine Z_goto (tgt := 74) C d_M_arrive_57 (by decide) ?_
          refine Z_istore C d_M_arrive_74 (by decide) rfl ?_
          refine Z_iload C 0 d_M_arrive_76 rfl ?_
          refine Z_if_eq (tgt := 88) C d_M_arrive_78 (by decide) (fun c78 => ?_) (fun c78 => ?_)
          · exact absurd c78 (by decide)
          · skip
            refine Z_aload_n C 2 d_M_arrive_81 rfl rfl ?_
            refine Z_iload C 0 d_M_arrive_82 rfl ?_
            refine C_cMv C w mi_M_raise ml_M_267 (c_M_raise w _ _) rfl rfl (by decide) rfl (Nat.le_of_ble_eq_true rfl) d_M_arrive_84 ?_
            exact Z_zret C hN hr (by decide) d_M_arrive_87 (rfl) (zeq (rfl))
      · exact absurd c44 (mIsR_ne hr5) --stop
    · skip
      refine Z_iload_n C 3 d_M_arrive_10 rfl rfl ?_
      refine Z_if_lt (tgt := 37) C d_M_arrive_11 (by decide) (fun c11 => ?_) (fun c11 => ?_)
      · skip
        refine Z_iconst (v := 0) C d_M_arrive_37 (by decide) ?_
        refine Z_istore C d_M_arrive_38 (by decide) rfl ?_
        refine Z_iload_n C 2 d_M_arrive_40 rfl rfl ?_
        refine C_csv C ms_M_isRouter ml_M_128 (c_M_isRouter w _ _) rfl (by decide) rfl (Nat.le_of_ble_eq_true rfl) d_M_arrive_41 ?_
        refine Z_if_ne (tgt := 51) C d_M_arrive_44 (by decide) (fun c44 => ?_) (fun c44 => ?_)
        · skip
          refine Z_iload C 0 d_M_arrive_51 rfl ?_
          refine Z_if_ne (tgt := 60) C d_M_arrive_53 (by decide) (fun c53 => ?_) (fun c53 => ?_)
          · exact absurd rfl c53
          · skip
            refine Z_iconst (v := 2) C d_M_arrive_56 (by decide) ?_
            refine Z_goto (tgt := 74) C d_M_arrive_57 (by decide) ?_
            refine Z_istore C d_M_arrive_74 (by decide) rfl ?_
            refine Z_iload C 0 d_M_arrive_76 rfl ?_
            refine Z_if_eq (tgt := 88) C d_M_arrive_78 (by decide) (fun c78 => ?_) (fun c78 => ?_)
            · exact absurd c78 (by decide)
            · skip
              refine Z_aload_n C 2 d_M_arrive_81 rfl rfl ?_
              refine Z_iload C 0 d_M_arrive_82 rfl ?_
              refine C_cMv C w mi_M_raise ml_M_267 (c_M_raise w _ _) rfl rfl (by decide) rfl (Nat.le_of_ble_eq_true rfl) d_M_arrive_84 ?_
              exact Z_zret C hN hr (by decide) d_M_arrive_87 (rfl) (zeq (rfl))
        · exact absurd c44 (mIsR_ne hr5) --stop
      · skip
        refine Z_iload_n C 3 d_M_arrive_14 rfl rfl ?_
        refine Z_bipush (v := 14) C d_M_arrive_15 (by decide) ?_
        refine Z_icmp_gt (tgt := 37) C d_M_arrive_17 (by decide) (fun c17 => ?_) (fun c17 => ?_)
        · skip
          refine Z_iconst (v := 0) C d_M_arrive_37 (by decide) ?_
          refine Z_istore C d_M_arrive_38 (by decide) rfl ?_
          refine Z_iload_n C 2 d_M_arrive_40 rfl rfl ?_
          refine C_csv C ms_M_isRouter ml_M_128 (c_M_isRouter w _ _) rfl (by decide) rfl (Nat.le_of_ble_eq_true rfl) d_M_arrive_41 ?_
          refine Z_if_ne (tgt := 51) C d_M_arrive_44 (by decide) (fun c44 => ?_) (fun c44 => ?_)
          · skip
            refine Z_iload C 0 d_M_arrive_51 rfl ?_
            refine Z_if_ne (tgt := 60) C d_M_arrive_53 (by decide) (fun c53 => ?_) (fun c53 => ?_)
            · exact absurd rfl c53
            · skip
              refine Z_iconst (v := 2) C d_M_arrive_56 (by decide) ?_
              refine Z_goto (tgt := 74) C d_M_arrive_57 (by decide) ?_
              refine Z_istore C d_M_arrive_74 (by decide) rfl ?_
              refine Z_iload C 0 d_M_arrive_76 rfl ?_
              refine Z_if_eq (tgt := 88) C d_M_arrive_78 (by decide) (fun c78 => ?_) (fun c78 => ?_)
              · exact absurd c78 (by decide)
              · skip
                refine Z_aload_n C 2 d_M_arrive_81 rfl rfl ?_
                refine Z_iload C 0 d_M_arrive_82 rfl ?_
                refine C_cMv C w mi_M_raise ml_M_267 (c_M_raise w _ _) rfl rfl (by decide) rfl (Nat.le_of_ble_eq_true rfl) d_M_arrive_84 ?_
                exact Z_zret C hN hr (by decide) d_M_arrive_87 (rfl) (zeq (rfl))
          · exact absurd c44 (mIsR_ne hr5) --stop
        · skip
          refine Z_iload C 4 d_M_arrive_20 rfl ?_
          refine Z_if_lt (tgt := 37) C d_M_arrive_22 (by decide) (fun c22 => ?_) (fun c22 => ?_)
          · skip
            refine Z_iconst (v := 0) C d_M_arrive_37 (by decide) ?_
            refine Z_istore C d_M_arrive_38 (by decide) rfl ?_
            refine Z_iload_n C 2 d_M_arrive_40 rfl rfl ?_
            refine C_csv C ms_M_isRouter ml_M_128 (c_M_isRouter w _ _) rfl (by decide) rfl (Nat.le_of_ble_eq_true rfl) d_M_arrive_41 ?_
            refine Z_if_ne (tgt := 51) C d_M_arrive_44 (by decide) (fun c44 => ?_) (fun c44 => ?_)
            · skip
              refine Z_iload C 0 d_M_arrive_51 rfl ?_
              refine Z_if_ne (tgt := 60) C d_M_arrive_53 (by decide) (fun c53 => ?_) (fun c53 => ?_)
              · exact absurd rfl c53
              · skip
                refine Z_iconst (v := 2) C d_M_arrive_56 (by decide) ?_
                refine Z_goto (tgt := 74) C d_M_arrive_57 (by decide) ?_
                refine Z_istore C d_M_arrive_74 (by decide) rfl ?_
                refine Z_iload C 0 d_M_arrive_76 rfl ?_
                refine Z_if_eq (tgt := 88) C d_M_arrive_78 (by decide) (fun c78 => ?_) (fun c78 => ?_)
                · exact absurd c78 (by decide)
                · skip
                  refine Z_aload_n C 2 d_M_arrive_81 rfl rfl ?_
                  refine Z_iload C 0 d_M_arrive_82 rfl ?_
                  refine C_cMv C w mi_M_raise ml_M_267 (c_M_raise w _ _) rfl rfl (by decide) rfl (Nat.le_of_ble_eq_true rfl) d_M_arrive_84 ?_
                  exact Z_zret C hN hr (by decide) d_M_arrive_87 (rfl) (zeq (rfl))
            · exact absurd c44 (mIsR_ne hr5) --stop
          · skip
            refine Z_iload C 4 d_M_arrive_25 rfl ?_
            refine Z_sipush (v := 255) C d_M_arrive_27 (by decide) ?_
            refine Z_icmp_gt (tgt := 37) C d_M_arrive_30 (by decide) (fun c30 => ?_) (fun c30 => ?_)
            · skip
              refine Z_iconst (v := 0) C d_M_arrive_37 (by decide) ?_
              refine Z_istore C d_M_arrive_38 (by decide) rfl ?_
              refine Z_iload_n C 2 d_M_arrive_40 rfl rfl ?_
              refine C_csv C ms_M_isRouter ml_M_128 (c_M_isRouter w _ _) rfl (by decide) rfl (Nat.le_of_ble_eq_true rfl) d_M_arrive_41 ?_
              refine Z_if_ne (tgt := 51) C d_M_arrive_44 (by decide) (fun c44 => ?_) (fun c44 => ?_)
              · skip
                refine Z_iload C 0 d_M_arrive_51 rfl ?_
                refine Z_if_ne (tgt := 60) C d_M_arrive_53 (by decide) (fun c53 => ?_) (fun c53 => ?_)
                · exact absurd rfl c53
                · skip
                  refine Z_iconst (v := 2) C d_M_arrive_56 (by decide) ?_
                  refine Z_goto (tgt := 74) C d_M_arrive_57 (by decide) ?_
                  refine Z_istore C d_M_arrive_74 (by decide) rfl ?_
                  refine Z_iload C 0 d_M_arrive_76 rfl ?_
                  refine Z_if_eq (tgt := 88) C d_M_arrive_78 (by decide) (fun c78 => ?_) (fun c78 => ?_)
                  · exact absurd c78 (by decide)
                  · skip
                    refine Z_aload_n C 2 d_M_arrive_81 rfl rfl ?_
                    refine Z_iload C 0 d_M_arrive_82 rfl ?_
                    refine C_cMv C w mi_M_raise ml_M_267 (c_M_raise w _ _) rfl rfl (by decide) rfl (Nat.le_of_ble_eq_true rfl) d_M_arrive_84 ?_
                    exact Z_zret C hN hr (by decide) d_M_arrive_87 (rfl) (zeq (rfl))
              · exact absurd c44 (mIsR_ne hr5) --stop
            · exact absurd ((((h.resolve_left (by intro z; first | exact z.1 c2 | exact z.2 c7)).resolve_left c11).resolve_left c17).resolve_left c22) c30 --stop
set_option maxRecDepth 100000 in
set_option maxHeartbeats 4000000 in
theorem m_arrive_3 {l : Launch} {G : zG} {U : zU} (w : wR G U) (N : zR) (r : Nat) (hr5 : r < 5) (k s hp ad : Int32) (hk : k = 1 ∨ k = 2) (hs1 : ¬ s < 0) (hs2 : ¬ 14 < s) (hh1 : ¬ hp < 0) (hh2 : ¬ 255 < hp) (h : N 3 r = 0) : zF l y_M_arrive b_M_arrive 9 (some .boolean) 1 21 G [.ref (U.1 43), .int (nI r), .int k, .int s, .int hp, .int ad] (eR U N) (some (.int 0)) (eR U (u2 N 43 0 3)) := by
  refine zF.ofZ (by decide) w.2.2.2.2 (Nat.le_of_ble_eq_true rfl) (fun X hXl hN hr C => ?_)
  subst hXl
  show Z X G (zA G) 9 _ (eR U N) 0 [(0, .ref (U.1 43)), (1, .int (nI r)), (2, .int k), (3, .int s), (4, .int hp), (5, .int ad)] []
  refine Z_iload_n C 2 d_M_arrive_0 rfl rfl ?_
  refine Z_iconst (v := 1) C d_M_arrive_1 (by decide) ?_
  refine Z_icmp_eq (tgt := 10) C d_M_arrive_2 (by decide) (fun c2 => ?_) (fun c2 => ?_)
  · skip
    refine Z_iload_n C 3 d_M_arrive_10 rfl rfl ?_
    refine Z_if_lt (tgt := 37) C d_M_arrive_11 (by decide) (fun c11 => ?_) (fun c11 => ?_)
    · exact absurd c11 hs1 --stop
    · skip
      refine Z_iload_n C 3 d_M_arrive_14 rfl rfl ?_
      refine Z_bipush (v := 14) C d_M_arrive_15 (by decide) ?_
      refine Z_icmp_gt (tgt := 37) C d_M_arrive_17 (by decide) (fun c17 => ?_) (fun c17 => ?_)
      · exact absurd c17 hs2 --stop
      · skip
        refine Z_iload C 4 d_M_arrive_20 rfl ?_
        refine Z_if_lt (tgt := 37) C d_M_arrive_22 (by decide) (fun c22 => ?_) (fun c22 => ?_)
        · exact absurd c22 hh1 --stop
        · skip
          refine Z_iload C 4 d_M_arrive_25 rfl ?_
          refine Z_sipush (v := 255) C d_M_arrive_27 (by decide) ?_
          refine Z_icmp_gt (tgt := 37) C d_M_arrive_30 (by decide) (fun c30 => ?_) (fun c30 => ?_)
          · exact absurd c30 hh2 --stop
          · skip
            refine Z_iconst (v := 1) C d_M_arrive_33 (by decide) ?_
            refine Z_goto (tgt := 38) C d_M_arrive_34 (by decide) ?_
            refine Z_istore C d_M_arrive_38 (by decide) rfl ?_
            refine Z_iload_n C 2 d_M_arrive_40 rfl rfl ?_
            refine C_csv C ms_M_isRouter ml_M_128 (c_M_isRouter w _ _) rfl (by decide) rfl (Nat.le_of_ble_eq_true rfl) d_M_arrive_41 ?_
            refine Z_if_ne (tgt := 51) C d_M_arrive_44 (by decide) (fun c44 => ?_) (fun c44 => ?_)
            · skip
              refine Z_iload C 0 d_M_arrive_51 rfl ?_
              refine Z_if_ne (tgt := 60) C d_M_arrive_53 (by decide) (fun c53 => ?_) (fun c53 => ?_)
              · skip
                refine Z_aload_n C 1 d_M_arrive_60 rfl rfl ?_
                refine R_get C w 3 (by decide) fl_M_13 rfl rfl d_M_arrive_61 ?_
                refine Z_iload_n C 2 d_M_arrive_64 rfl rfl ?_
                refine R_ld 3 C w rfl rfl r (nI_clamp (by omega)) (vp_in_nI (n := r) (N := 5) (by omega) (by decide)) d_M_arrive_65 ?_
                refine Z_if_ne (tgt := 73) C d_M_arrive_66 (by decide) (fun c66 => ?_) (fun c66 => ?_)
                · exact absurd h c66 --stop
                · skip
                  refine Z_iconst (v := 3) C d_M_arrive_69 (by decide) ?_
                  refine Z_goto (tgt := 74) C d_M_arrive_70 (by decide) ?_
                  refine Z_istore C d_M_arrive_74 (by decide) rfl ?_
                  refine Z_iload C 0 d_M_arrive_76 rfl ?_
                  refine Z_if_eq (tgt := 88) C d_M_arrive_78 (by decide) (fun c78 => ?_) (fun c78 => ?_)
                  · exact absurd c78 (by decide)
                  · skip
                    refine Z_aload_n C 2 d_M_arrive_81 rfl rfl ?_
                    refine Z_iload C 0 d_M_arrive_82 rfl ?_
                    refine C_cMv C w mi_M_raise ml_M_267 (c_M_raise w _ _) rfl rfl (by decide) rfl (Nat.le_of_ble_eq_true rfl) d_M_arrive_84 ?_
                    exact Z_zret C hN hr (by decide) d_M_arrive_87 (rfl) (zeq (rfl))
              · exact absurd c53 (by decide)
            · exact absurd c44 (mIsR_ne hr5) --stop
  · skip
    refine Z_iload_n C 2 d_M_arrive_5 rfl rfl ?_
    refine Z_iconst (v := 2) C d_M_arrive_6 (by decide) ?_
    refine Z_icmp_ne (tgt := 37) C d_M_arrive_7 (by decide) (fun c7 => ?_) (fun c7 => ?_)
    · exact absurd (hk.resolve_left c2) c7 --stop
    · skip
      refine Z_iload_n C 3 d_M_arrive_10 rfl rfl ?_
      refine Z_if_lt (tgt := 37) C d_M_arrive_11 (by decide) (fun c11 => ?_) (fun c11 => ?_)
      · exact absurd c11 hs1 --stop
      · skip
        refine Z_iload_n C 3 d_M_arrive_14 rfl rfl ?_
        refine Z_bipush (v := 14) C d_M_arrive_15 (by decide) ?_
        refine Z_icmp_gt (tgt := 37) C d_M_arrive_17 (by decide) (fun c17 => ?_) (fun c17 => ?_)
        · exact absurd c17 hs2 --stop
        · skip
          refine Z_iload C 4 d_M_arrive_20 rfl ?_
          refine Z_if_lt (tgt := 37) C d_M_arrive_22 (by decide) (fun c22 => ?_) (fun c22 => ?_)
          · exact absurd c22 hh1 --stop
          · skip
            refine Z_iload C 4 d_M_arrive_25 rfl ?_
            refine Z_sipush (v := 255) C d_M_arrive_27 (by decide) ?_
            refine Z_icmp_gt (tgt := 37) C d_M_arrive_30 (by decide) (fun c30 => ?_) (fun c30 => ?_)
            · exact absurd c30 hh2 --stop
            · skip
              refine Z_iconst (v := 1) C d_M_arrive_33 (by decide) ?_
              refine Z_goto (tgt := 38) C d_M_arrive_34 (by decide) ?_
              refine Z_istore C d_M_arrive_38 (by decide) rfl ?_
              refine Z_iload_n C 2 d_M_arrive_40 rfl rfl ?_
              refine C_csv C ms_M_isRouter ml_M_128 (c_M_isRouter w _ _) rfl (by decide) rfl (Nat.le_of_ble_eq_true rfl) d_M_arrive_41 ?_
              refine Z_if_ne (tgt := 51) C d_M_arrive_44 (by decide) (fun c44 => ?_) (fun c44 => ?_)
              · skip
                refine Z_iload C 0 d_M_arrive_51 rfl ?_
                refine Z_if_ne (tgt := 60) C d_M_arrive_53 (by decide) (fun c53 => ?_) (fun c53 => ?_)
                · skip
                  refine Z_aload_n C 1 d_M_arrive_60 rfl rfl ?_
                  refine R_get C w 3 (by decide) fl_M_13 rfl rfl d_M_arrive_61 ?_
                  refine Z_iload_n C 2 d_M_arrive_64 rfl rfl ?_
                  refine R_ld 3 C w rfl rfl r (nI_clamp (by omega)) (vp_in_nI (n := r) (N := 5) (by omega) (by decide)) d_M_arrive_65 ?_
                  refine Z_if_ne (tgt := 73) C d_M_arrive_66 (by decide) (fun c66 => ?_) (fun c66 => ?_)
                  · exact absurd h c66 --stop
                  · skip
                    refine Z_iconst (v := 3) C d_M_arrive_69 (by decide) ?_
                    refine Z_goto (tgt := 74) C d_M_arrive_70 (by decide) ?_
                    refine Z_istore C d_M_arrive_74 (by decide) rfl ?_
                    refine Z_iload C 0 d_M_arrive_76 rfl ?_
                    refine Z_if_eq (tgt := 88) C d_M_arrive_78 (by decide) (fun c78 => ?_) (fun c78 => ?_)
                    · exact absurd c78 (by decide)
                    · skip
                      refine Z_aload_n C 2 d_M_arrive_81 rfl rfl ?_
                      refine Z_iload C 0 d_M_arrive_82 rfl ?_
                      refine C_cMv C w mi_M_raise ml_M_267 (c_M_raise w _ _) rfl rfl (by decide) rfl (Nat.le_of_ble_eq_true rfl) d_M_arrive_84 ?_
                      exact Z_zret C hN hr (by decide) d_M_arrive_87 (rfl) (zeq (rfl))
                · exact absurd c53 (by decide)
              · exact absurd c44 (mIsR_ne hr5) --stop
set_option maxRecDepth 100000 in
set_option maxHeartbeats 4000000 in
theorem m_router_no {l : Launch} {G : zG} {U : zU} (w : wR G U) (N : zR) (x y : Int32) (h : mIsR x = 0 ∨ y < 0 ∨ ¬ y ≤ 7) : zF l y_M_router b_M_router 4 (some .int) 1 20 G [.ref (U.1 43), .int x, .int y] (eR U N) (some (.int (-1))) (eR U (u2 N 43 0 0)) := by
  refine zF.ofZ (by decide) w.2.2.2.2 (Nat.le_of_ble_eq_true rfl) (fun X hXl hN hr C => ?_)
  subst hXl
  show Z X G (zA G) 4 _ (eR U N) 0 [(0, .ref (U.1 43)), (1, .int x), (2, .int y)] []
  refine Z_aload_n C 0 d_M_router_0 rfl rfl ?_
  refine Z_iconst (v := 0) C d_M_router_1 (by decide) ?_
  refine R_put C w 0 (by decide) fl_M_124 rfl rfl rfl rfl rfl d_M_router_2 ?_
  refine Z_iload_n C 1 d_M_router_5 rfl rfl ?_
  refine C_csv C ms_M_isRouter ml_M_128 (c_M_isRouter w _ _) rfl (by decide) rfl (Nat.le_of_ble_eq_true rfl) d_M_router_6 ?_
  refine Z_if_eq (tgt := 22) C d_M_router_9 (by decide) (fun c9 => ?_) (fun c9 => ?_)
  · skip
    refine Z_iconst (v := (-1)) C d_M_router_22 (by decide) ?_
    exact Z_iret C hN hr d_M_router_23 (rfl) (zeq (rfl))
  · skip
    refine Z_iload_n C 2 d_M_router_12 rfl rfl ?_
    refine Z_if_lt (tgt := 22) C d_M_router_13 (by decide) (fun c13 => ?_) (fun c13 => ?_)
    · skip
      refine Z_iconst (v := (-1)) C d_M_router_22 (by decide) ?_
      exact Z_iret C hN hr d_M_router_23 (rfl) (zeq (rfl))
    · skip
      refine Z_iload_n C 2 d_M_router_16 rfl rfl ?_
      refine Z_bipush (v := 7) C d_M_router_17 (by decide) ?_
      refine Z_icmp_le (tgt := 24) C d_M_router_19 (by decide) (fun c19 => ?_) (fun c19 => ?_)
      · exact absurd c19 ((h.resolve_left c9).resolve_left c13) --stop
      · skip
        refine Z_iconst (v := (-1)) C d_M_router_22 (by decide) ?_
        exact Z_iret C hN hr d_M_router_23 (rfl) (zeq (rfl))
set_option maxRecDepth 100000 in
set_option maxHeartbeats 4000000 in
theorem m_router_off {l : Launch} {G : zG} {U : zU} (w : wR G U) (N : zR) (r : Nat) (hr5 : r < 5) (y : Int32) (h : N 3 r = 0) (h1 : ¬ y < 0) (h2 : y ≤ 7) : zF l y_M_router b_M_router 4 (some .int) 1 20 G [.ref (U.1 43), .int (nI r), .int y] (eR U N) (some (.int (mRoff N r y))) (eR U (u2 N 43 0 0)) := by
  refine zF.ofZ (by decide) w.2.2.2.2 (Nat.le_of_ble_eq_true rfl) (fun X hXl hN hr C => ?_)
  subst hXl
  show Z X G (zA G) 4 _ (eR U N) 0 [(0, .ref (U.1 43)), (1, .int (nI r)), (2, .int y)] []
  refine Z_aload_n C 0 d_M_router_0 rfl rfl ?_
  refine Z_iconst (v := 0) C d_M_router_1 (by decide) ?_
  refine R_put C w 0 (by decide) fl_M_124 rfl rfl rfl rfl rfl d_M_router_2 ?_
  refine Z_iload_n C 1 d_M_router_5 rfl rfl ?_
  refine C_csv C ms_M_isRouter ml_M_128 (c_M_isRouter w _ _) rfl (by decide) rfl (Nat.le_of_ble_eq_true rfl) d_M_router_6 ?_
  refine Z_if_eq (tgt := 22) C d_M_router_9 (by decide) (fun c9 => ?_) (fun c9 => ?_)
  · exact absurd c9 (mIsR_ne hr5) --stop
  · skip
    refine Z_iload_n C 2 d_M_router_12 rfl rfl ?_
    refine Z_if_lt (tgt := 22) C d_M_router_13 (by decide) (fun c13 => ?_) (fun c13 => ?_)
    · exact absurd c13 h1 --stop
    · skip
      refine Z_iload_n C 2 d_M_router_16 rfl rfl ?_
      refine Z_bipush (v := 7) C d_M_router_17 (by decide) ?_
      refine Z_icmp_le (tgt := 24) C d_M_router_19 (by decide) (fun c19 => ?_) (fun c19 => ?_)
      · skip
        refine Z_aload_n C 0 d_M_router_24 rfl rfl ?_
        refine R_get C w 3 (by decide) fl_M_13 rfl rfl d_M_router_25 ?_
        refine Z_iload_n C 1 d_M_router_28 rfl rfl ?_
        refine R_ld 3 C w rfl rfl r (nI_clamp (by omega)) (vp_in_nI (n := r) (N := 5) (by omega) (by decide)) d_M_router_29 ?_
        refine Z_if_eq (tgt := 37) C d_M_router_30 (by decide) (fun c30 => ?_) (fun c30 => ?_)
        · skip
          refine Z_iconst (v := 0) C d_M_router_37 (by decide) ?_
          refine Z_istore_n C d_M_router_38 rfl (by decide) rfl ?_
          refine Z_iload_n C 3 d_M_router_39 rfl rfl ?_
          refine Z_tsw C d_M_router_40 [(0, 84), (1, 91), (2, 106), (3, 120), (4, 135), (5, 142), (6, 149)] 156 (by decide +kernel) (by decide +kernel) (by decide) ?_ ?_
          · simp only [List.forall_mem_cons]
            refine ⟨fun c40 => ?_, fun c40 => ?_, fun c40 => ?_, fun c40 => ?_, fun c40 => ?_, fun c40 => ?_, fun c40 => ?_, fun _ h => absurd h List.not_mem_nil⟩
            · skip
              refine Z_aload_n C 1 d_M_router_84 rfl rfl ?_
              refine R_get C w 3 (by decide) fl_M_13 rfl rfl d_M_router_85 ?_
              refine Z_iload_n C 2 d_M_router_88 rfl rfl ?_
              refine R_ld 3 C w rfl rfl r (nI_clamp (by omega)) (vp_in_nI (n := r) (N := 5) (by omega) (by decide)) d_M_router_89 ?_
              exact Z_iret C hN hr d_M_router_90 (by simp [mRoff, u2, upd, c9, c13, c19, c30, c40]) (zeq (rfl))
            · skip
              refine Z_iload_n C 0 d_M_router_91 rfl rfl ?_
              refine Z_if_eq (tgt := 104) C d_M_router_92 (by decide) (fun c92 => ?_) (fun c92 => ?_)
              · skip
                refine Z_iconst (v := 0) C d_M_router_104 (by decide) ?_
                exact Z_iret C hN hr d_M_router_105 (by simp [mRoff, u2, upd, c9, c13, c19, c30, c40, c92]) (zeq (rfl))
              · exact absurd rfl c92
            · skip
              refine Z_iload_n C 0 d_M_router_106 rfl rfl ?_
              refine Z_if_eq (tgt := 118) C d_M_router_107 (by decide) (fun c107 => ?_) (fun c107 => ?_)
              · skip
                refine Z_iconst (v := 0) C d_M_router_118 (by decide) ?_
                exact Z_iret C hN hr d_M_router_119 (by simp [mRoff, u2, upd, c9, c13, c19, c30, c40, c107]) (zeq (rfl))
              · exact absurd rfl c107
            · skip
              refine Z_iload_n C 0 d_M_router_120 rfl rfl ?_
              refine Z_if_eq (tgt := 133) C d_M_router_121 (by decide) (fun c121 => ?_) (fun c121 => ?_)
              · skip
                refine Z_iconst (v := 0) C d_M_router_133 (by decide) ?_
                exact Z_iret C hN hr d_M_router_134 (by simp [mRoff, u2, upd, c9, c13, c19, c30, c40, c121]) (zeq (rfl))
              · exact absurd rfl c121
            · skip
              refine Z_aload_n C 1 d_M_router_135 rfl rfl ?_
              refine R_get C w 6 (by decide) fl_M_22 rfl rfl d_M_router_136 ?_
              refine Z_iload_n C 2 d_M_router_139 rfl rfl ?_
              refine R_ld 6 C w rfl rfl r (nI_clamp (by omega)) (vp_in_nI (n := r) (N := 5) (by omega) (by decide)) d_M_router_140 ?_
              exact Z_iret C hN hr d_M_router_141 (by simp [mRoff, u2, upd, c9, c13, c19, c30, c40]) (zeq (rfl))
            · skip
              refine Z_aload_n C 1 d_M_router_142 rfl rfl ?_
              refine R_get C w 7 (by decide) fl_M_25 rfl rfl d_M_router_143 ?_
              refine Z_iload_n C 2 d_M_router_146 rfl rfl ?_
              refine R_ld 7 C w rfl rfl r (nI_clamp (by omega)) (vp_in_nI (n := r) (N := 5) (by omega) (by decide)) d_M_router_147 ?_
              exact Z_iret C hN hr d_M_router_148 (by simp [mRoff, u2, upd, c9, c13, c19, c30, c40]) (zeq (rfl))
            · skip
              refine Z_aload_n C 1 d_M_router_149 rfl rfl ?_
              refine R_get C w 8 (by decide) fl_M_28 rfl rfl d_M_router_150 ?_
              refine Z_iload_n C 2 d_M_router_153 rfl rfl ?_
              refine R_ld 8 C w rfl rfl r (nI_clamp (by omega)) (vp_in_nI (n := r) (N := 5) (by omega) (by decide)) d_M_router_154 ?_
              exact Z_iret C hN hr d_M_router_155 (by simp [mRoff, u2, upd, c9, c13, c19, c30, c40]) (zeq (rfl))
          · intro c40
            simp only [List.forall_mem_cons] at c40
            refine Z_aload_n C 1 d_M_router_156 rfl rfl ?_
            refine R_get C w 9 (by decide) fl_M_31 rfl rfl d_M_router_157 ?_
            refine Z_iload_n C 2 d_M_router_160 rfl rfl ?_
            refine R_ld 9 C w rfl rfl r (nI_clamp (by omega)) (vp_in_nI (n := r) (N := 5) (by omega) (by decide)) d_M_router_161 ?_
            exact Z_iret C hN hr d_M_router_162 (by simp [mRoff, u2, upd, c9, c13, c19, c30, c40]) (zeq (rfl))
        · exact absurd h c30 --stop
      · exact absurd h2 c19 --stop
set_option maxRecDepth 100000 in
set_option maxHeartbeats 4000000 in
theorem m_session_no {l : Launch} {G : zG} {U : zU} (w : wR G U) (N : zR) (x y z : Int32) (h : mIsR x = 0 ∨ mIsR y = 0) : zF l y_M_session b_M_session 5 (some .int) 1 20 G [.ref (U.1 43), .int x, .int y, .int z] (eR U N) (some (.int (-1))) (eR U (u2 N 43 0 0)) := by
  refine zF.ofZ (by decide) w.2.2.2.2 (Nat.le_of_ble_eq_true rfl) (fun X hXl hN hr C => ?_)
  subst hXl
  show Z X G (zA G) 5 _ (eR U N) 0 [(0, .ref (U.1 43)), (1, .int x), (2, .int y), (3, .int z)] []
  refine Z_aload_n C 0 d_M_session_0 rfl rfl ?_
  refine Z_iconst (v := 0) C d_M_session_1 (by decide) ?_
  refine R_put C w 0 (by decide) fl_M_124 rfl rfl rfl rfl rfl d_M_session_2 ?_
  refine Z_iload_n C 1 d_M_session_5 rfl rfl ?_
  refine C_csv C ms_M_isRouter ml_M_128 (c_M_isRouter w _ _) rfl (by decide) rfl (Nat.le_of_ble_eq_true rfl) d_M_session_6 ?_
  refine Z_if_eq (tgt := 42) C d_M_session_9 (by decide) (fun c9 => ?_) (fun c9 => ?_)
  · skip
    refine Z_iconst (v := (-1)) C d_M_session_42 (by decide) ?_
    exact Z_iret C hN hr d_M_session_43 (rfl) (zeq (rfl))
  · skip
    refine Z_iload_n C 2 d_M_session_12 rfl rfl ?_
    refine C_csv C ms_M_isRouter ml_M_128 (c_M_isRouter w _ _) rfl (by decide) rfl (Nat.le_of_ble_eq_true rfl) d_M_session_13 ?_
    refine Z_if_eq (tgt := 42) C d_M_session_16 (by decide) (fun c16 => ?_) (fun c16 => ?_)
    · skip
      refine Z_iconst (v := (-1)) C d_M_session_42 (by decide) ?_
      exact Z_iret C hN hr d_M_session_43 (rfl) (zeq (rfl))
    · exact absurd (h.resolve_left c9) c16 --stop
set_option maxRecDepth 100000 in
set_option maxHeartbeats 4000000 in
theorem m_session_off {l : Launch} {G : zG} {U : zU} (w : wR G U) (N : zR) (r : Nat) (hr5 : r < 5) (s : Nat) (hs5 : s < 5) (z : Int32) (h : N 11 (5 * r + s) = 0) : zF l y_M_session b_M_session 5 (some .int) 1 20 G [.ref (U.1 43), .int (nI r), .int (nI s), .int z] (eR U N) (some (.int (-1))) (eR U (u2 N 43 0 0)) := by
  refine zF.ofZ (by decide) w.2.2.2.2 (Nat.le_of_ble_eq_true rfl) (fun X hXl hN hr C => ?_)
  subst hXl
  show Z X G (zA G) 5 _ (eR U N) 0 [(0, .ref (U.1 43)), (1, .int (nI r)), (2, .int (nI s)), (3, .int z)] []
  refine Z_aload_n C 0 d_M_session_0 rfl rfl ?_
  refine Z_iconst (v := 0) C d_M_session_1 (by decide) ?_
  refine R_put C w 0 (by decide) fl_M_124 rfl rfl rfl rfl rfl d_M_session_2 ?_
  refine Z_iload_n C 1 d_M_session_5 rfl rfl ?_
  refine C_csv C ms_M_isRouter ml_M_128 (c_M_isRouter w _ _) rfl (by decide) rfl (Nat.le_of_ble_eq_true rfl) d_M_session_6 ?_
  refine Z_if_eq (tgt := 42) C d_M_session_9 (by decide) (fun c9 => ?_) (fun c9 => ?_)
  · exact absurd c9 (mIsR_ne hr5) --stop
  · skip
    refine Z_iload_n C 2 d_M_session_12 rfl rfl ?_
    refine C_csv C ms_M_isRouter ml_M_128 (c_M_isRouter w _ _) rfl (by decide) rfl (Nat.le_of_ble_eq_true rfl) d_M_session_13 ?_
    refine Z_if_eq (tgt := 42) C d_M_session_16 (by decide) (fun c16 => ?_) (fun c16 => ?_)
    · exact absurd c16 (mIsR_ne hs5) --stop
    · skip
      refine Z_aload_n C 0 d_M_session_19 rfl rfl ?_
      refine R_get C w 11 (by decide) fl_M_37 rfl rfl d_M_session_20 ?_
      refine Z_iconst (v := 5) C d_M_session_23 (by decide) ?_
      refine Z_iload_n C 1 d_M_session_24 rfl rfl ?_
      refine Z_imul C d_M_session_25 ?_
      refine Z_iload_n C 2 d_M_session_26 rfl rfl ?_
      refine Z_iadd C d_M_session_27 ?_
      refine R_zld 11 C w rfl rfl (5 * r + s) (by rw [ix5]; exact nI_clamp (by omega)) (by rw [ix5]; exact vp_in_nI (n := 5 * r + s) (N := 25) (by omega) (by decide)) d_M_session_28 ?_
      refine Z_if_eq (tgt := 42) C d_M_session_29 (by decide) (fun c29 => ?_) (fun c29 => ?_)
      · skip
        refine Z_iconst (v := (-1)) C d_M_session_42 (by decide) ?_
        exact Z_iret C hN hr d_M_session_43 (rfl) (zeq (rfl))
      · exact absurd h c29 --stop
set_option maxRecDepth 100000 in
set_option maxHeartbeats 4000000 in
theorem m_port_no {l : Launch} {G : zG} {U : zU} (w : wR G U) (N : zR) (x : Int32) (h : x < 0 ∨ ¬ x ≤ 14) : zF l y_M_port b_M_port 2 (some .int) 0 0 G [.ref (U.1 43), .int x] (eR U N) (some (.int (-1))) (eR U (u2 N 43 0 0)) := by
  refine zF.ofZ (by decide) w.2.2.2.2 (Nat.le_of_ble_eq_true rfl) (fun X hXl hN hr C => ?_)
  subst hXl
  show Z X G (zA G) 2 _ (eR U N) 0 [(0, .ref (U.1 43)), (1, .int x)] []
  refine Z_aload_n C 0 d_M_port_0 rfl rfl ?_
  refine Z_iconst (v := 0) C d_M_port_1 (by decide) ?_
  refine R_put C w 0 (by decide) fl_M_124 rfl rfl rfl rfl rfl d_M_port_2 ?_
  refine Z_iload_n C 1 d_M_port_5 rfl rfl ?_
  refine Z_if_lt (tgt := 15) C d_M_port_6 (by decide) (fun c6 => ?_) (fun c6 => ?_)
  · skip
    refine Z_iconst (v := (-1)) C d_M_port_15 (by decide) ?_
    refine Z_goto (tgt := 25) C d_M_port_16 (by decide) ?_
    exact Z_iret C hN hr d_M_port_25 (rfl) (zeq (rfl))
  · skip
    refine Z_iload_n C 1 d_M_port_9 rfl rfl ?_
    refine Z_bipush (v := 14) C d_M_port_10 (by decide) ?_
    refine Z_icmp_le (tgt := 19) C d_M_port_12 (by decide) (fun c12 => ?_) (fun c12 => ?_)
    · exact absurd c12 (h.resolve_left c6) --stop
    · skip
      refine Z_iconst (v := (-1)) C d_M_port_15 (by decide) ?_
      refine Z_goto (tgt := 25) C d_M_port_16 (by decide) ?_
      exact Z_iret C hN hr d_M_port_25 (rfl) (zeq (rfl))
set_option maxRecDepth 100000 in
set_option maxHeartbeats 4000000 in
theorem m_port_0 {l : Launch} {G : zG} {U : zU} (w : wR G U) (N : zR) (k : Nat) (hk : k < 15) : zF l y_M_port b_M_port 2 (some .int) 0 0 G [.ref (U.1 43), .int (nI k)] (eR U N) (some (.int (N 10 k))) (eR U (u2 N 43 0 0)) := by
  refine zF.ofZ (by decide) w.2.2.2.2 (Nat.le_of_ble_eq_true rfl) (fun X hXl hN hr C => ?_)
  subst hXl
  show Z X G (zA G) 2 _ (eR U N) 0 [(0, .ref (U.1 43)), (1, .int (nI k))] []
  refine Z_aload_n C 0 d_M_port_0 rfl rfl ?_
  refine Z_iconst (v := 0) C d_M_port_1 (by decide) ?_
  refine R_put C w 0 (by decide) fl_M_124 rfl rfl rfl rfl rfl d_M_port_2 ?_
  refine Z_iload_n C 1 d_M_port_5 rfl rfl ?_
  refine Z_if_lt (tgt := 15) C d_M_port_6 (by decide) (fun c6 => ?_) (fun c6 => ?_)
  · exact absurd c6 (nI_pos (by omega)) --stop
  · skip
    refine Z_iload_n C 1 d_M_port_9 rfl rfl ?_
    refine Z_bipush (v := 14) C d_M_port_10 (by decide) ?_
    refine Z_icmp_le (tgt := 19) C d_M_port_12 (by decide) (fun c12 => ?_) (fun c12 => ?_)
    · skip
      refine Z_aload_n C 0 d_M_port_19 rfl rfl ?_
      refine R_get C w 10 (by decide) fl_M_34 rfl rfl d_M_port_20 ?_
      refine Z_iload_n C 1 d_M_port_23 rfl rfl ?_
      refine R_ld 10 C w rfl rfl k (nI_clamp (by omega)) (vp_in_nI (n := k) (N := 15) (by omega) (by decide)) d_M_port_24 ?_
      exact Z_iret C hN hr d_M_port_25 (by simp [u2]) (zeq (rfl))
    · exact absurd (nI_le (a := k) (b := 14) (by omega) (by decide)) c12 --stop
set_option maxRecDepth 100000 in
set_option maxHeartbeats 4000000 in
theorem m_flying {l : Launch} {G : zG} {U : zU} (w : wR G U) (N : zR)  : zF l y_M_flying b_M_flying 1 (some .int) 0 0 G [.ref (U.1 43)] (eR U N) (some (.int (N 43 28))) (eR U (u2 N 43 0 0)) := by
  refine zF.ofZ (by decide) w.2.2.2.2 (Nat.le_of_ble_eq_true rfl) (fun X hXl hN hr C => ?_)
  subst hXl
  show Z X G (zA G) 1 _ (eR U N) 0 [(0, .ref (U.1 43))] []
  refine Z_aload_n C 0 d_M_flying_0 rfl rfl ?_
  refine Z_iconst (v := 0) C d_M_flying_1 (by decide) ?_
  refine R_put C w 0 (by decide) fl_M_124 rfl rfl rfl rfl rfl d_M_flying_2 ?_
  refine Z_aload_n C 0 d_M_flying_5 rfl rfl ?_
  refine R_get C w 28 (by decide) fl_M_147 rfl rfl d_M_flying_6 ?_
  exact Z_iret C hN hr d_M_flying_9 (by simp [u2, upd]) (zeq (rfl))
set_option maxRecDepth 100000 in
set_option maxHeartbeats 4000000 in
theorem m_frame_no {l : Launch} {G : zG} {U : zU} (w : wR G U) (N : zR) (x y : Int32) (h : N 43 28 = 0) : zF l y_M_frame b_M_frame 3 (some .int) 0 0 G [.ref (U.1 43), .int x, .int y] (eR U N) (some (.int (-1))) (eR U (u2 N 43 0 0)) := by
  refine zF.ofZ (by decide) w.2.2.2.2 (Nat.le_of_ble_eq_true rfl) (fun X hXl hN hr C => ?_)
  subst hXl
  show Z X G (zA G) 3 _ (eR U N) 0 [(0, .ref (U.1 43)), (1, .int x), (2, .int y)] []
  refine Z_aload_n C 0 d_M_frame_0 rfl rfl ?_
  refine Z_iconst (v := 0) C d_M_frame_1 (by decide) ?_
  refine R_put C w 0 (by decide) fl_M_124 rfl rfl rfl rfl rfl d_M_frame_2 ?_
  refine Z_iload_n C 1 d_M_frame_5 rfl rfl ?_
  refine Z_if_lt (tgt := 33) C d_M_frame_6 (by decide) (fun c6 => ?_) (fun c6 => ?_)
  · skip
    refine Z_iconst (v := (-1)) C d_M_frame_33 (by decide) ?_
    exact Z_iret C hN hr d_M_frame_34 (rfl) (zeq (rfl))
  · skip
    refine Z_iload_n C 1 d_M_frame_9 rfl rfl ?_
    refine Z_aload_n C 0 d_M_frame_10 rfl rfl ?_
    refine R_get C w 28 (by decide) fl_M_147 rfl rfl d_M_frame_11 ?_
    refine Z_icmp_ge (tgt := 33) C d_M_frame_14 (by decide) (fun c14 => ?_) (fun c14 => ?_)
    · skip
      refine Z_iconst (v := (-1)) C d_M_frame_33 (by decide) ?_
      exact Z_iret C hN hr d_M_frame_34 (rfl) (zeq (rfl))
    · exact absurd (show u2 N 43 0 0 43 28 ≤ x from by rw [show u2 N 43 0 0 43 28 = N 43 28 from by simp [u2, upd], h]; exact Int32.not_lt.mp c6) c14 --stop
set_option maxRecDepth 100000 in
set_option maxHeartbeats 4000000 in
theorem m_work_off {l : Launch} {G : zG} {U : zU} (w : wR G U) (N : zR) (r : Nat) (hr5 : r < 5) (h : N 3 r = 0) : zF l y_M_work b_M_work 4 none 0 0 G [.ref (U.1 43), .int (nI r)] (eR U N) none (eR U N) := by
  refine zF.ofZ (by decide) w.2.2.2.2 (Nat.le_of_ble_eq_true rfl) (fun X hXl hN hr C => ?_)
  subst hXl
  show Z X G (zA G) 4 _ (eR U N) 0 [(0, .ref (U.1 43)), (1, .int (nI r))] []
  refine Z_aload_n C 0 d_M_work_0 rfl rfl ?_
  refine R_get C w 3 (by decide) fl_M_13 rfl rfl d_M_work_1 ?_
  refine Z_iload_n C 1 d_M_work_4 rfl rfl ?_
  refine R_ld 3 C w rfl rfl r (nI_clamp (by omega)) (vp_in_nI (n := r) (N := 5) (by omega) (by decide)) d_M_work_5 ?_
  refine Z_if_ne (tgt := 10) C d_M_work_6 (by decide) (fun c6 => ?_) (fun c6 => ?_)
  · exact absurd h c6 --stop
  · skip
    exact Z_vret C hN hr d_M_work_9 rfl (zeq (rfl))

