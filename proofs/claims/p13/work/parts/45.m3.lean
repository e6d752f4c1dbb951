/-! THE REFERENCE: the sum; a frame is sent -/
def mFold : Nat → Int32 → Int32
  | 0, a => a
  | n + 1, a => if a ≤ 65535 then a else mFold n (ush a 16 + (a &&& 65535))
/-- folding comes to an end -/
theorem fold_lt {v : Nat} (h1 : 65535 < v) (h2 : v < 2 ^ 31) : ush (nI v) 16 + (nI v &&& 65535) = nI (v / 65536 + v % 65536) ∧ v / 65536 + v % 65536 < v := by
  have e1 : ush (nI v) 16 = nI (v / 2 ^ 16) := pk_ushrN (by omega) 16 16 (by decide)
  have e2 : nI v &&& 65535 = nI (v % 2 ^ 16) := pk_andN (by omega) 16 (by decide)
  refine ⟨?_, by omega⟩
  rw [e1, e2, nI_add]
theorem mFold_fix {a : Int32} (h : a ≤ 65535) : ∀ n, mFold n a = a := by
  intro n
  cases n with
  | zero => rfl
  | succ n => unfold mFold; rw [if_pos h]
theorem mFold_more : ∀ (n v m : Nat), v < 2 ^ 31 → v < n → n ≤ m → mFold m (nI v) = mFold n (nI v) := by
  intro n
  induction n with
  | zero => intro v m _ h; omega
  | succ n ih =>
    intro v m hv hn hm
    by_cases hc : nI v ≤ 65535
    · rw [mFold_fix hc, mFold_fix hc]
    · obtain ⟨m, rfl⟩ : ∃ k, m = k + 1 := ⟨m - 1, by omega⟩
      have h1 : 65535 < v := by
        rcases Nat.lt_or_ge 65535 v with q | q
        · exact q
        · exact absurd (nI_le (a := v) (b := 65535) q (by omega)) hc
      unfold mFold
      rw [if_neg hc, if_neg hc, (fold_lt h1 hv).1]
      exact ih _ m (by have := (fold_lt h1 hv).2; omega) (by have := (fold_lt h1 hv).2; omega) (by omega)
def mAll (r : Nat) : Int32 := 31 &&& (((1 : Int32) <<< (nI r &&& 31)) ^^^ (-1))
def mWhere (N : zR) (r g : Nat) : Int32 := if nI g = 15 then mAll r else if N 10 g = -1 then mAll r else if N 10 g = nI r then 0 else (1 : Int32) <<< (N 10 g &&& 31)
def ms1 (N : zR) (r : Nat) : zR := u2 N 8 r (N 8 r + 1)
def ms2 (N : zR) (r s : Nat) : zR := u2 (ms1 N r) 10 s (nI r)
/-- the frame's numbers are laid at place f -/
def ms3 (N : zR) (r : Nat) (what : Int32) (s g f : Nat) (wh : Int32) : zR :=
  u2 (u2 (u2 (u2 (u2 (u2 (u2 (u2 N 43 28 (N 43 28 + 1)) 29 f (u2 N 43 28 (N 43 28 + 1) 43 1 + u2 N 43 28 (N 43 28 + 1) 2 (10 * r + 6))) 30 f what) 31 f (nI s)) 32 f (nI g)) 33 f (N 2 (10 * r + 4))) 34 f wh) 35 f (N 43 38)
def mcL (f : Nat) : Nat → Nat → zR → zR
  | 0, _, N => N
  | n + 1, k, N => mcL f n (k + 1) (u2 N 36 (40 * f + k) (N 37 k))
def mSend (N : zR) (r : Nat) (what : Int32) (s g c z : Nat) : zR := if ¬ (ms1 N r 2 (10 * r + 7) &&& 1) = 0 then ms1 N r else if mWhere (ms2 N r s) r g = 0 then ms2 N r s else if c = 60 then ms2 N r s else mcL c z 0 (ms3 (ms2 N r s) r what s g c (mWhere (ms2 N r s) r g))
theorem mcL_o {f : Nat} : ∀ (n k : Nat) (N : zR) (a : Nat), a ≠ 36 → mcL f n k N a = N a := by
  intro n
  induction n with
  | zero => intro k N a h; rfl
  | succ n ih => intro k N a h; show mcL f n (k + 1) _ a = _; rw [ih _ _ _ h, u2_ne h]
theorem ix40 (c k : Nat) : (40 : Int32) * nI c + nI k = nI (40 * c + k) := by show nI 40 * nI c + nI k = _; rw [pk_mul, nI_add]
theorem g15 {g : Nat} (h : g < 16) (h2 : ¬ nI g = 15) : g < 15 := by
  rcases Nat.lt_or_ge g 15 with q | q
  · exact q
  · exact absurd (by rw [show g = 15 by omega]; rfl) h2
theorem c60 {c : Nat} (h : c ≤ 60) (h2 : nI c = 60) : c = 60 := (nI_eq (a := c) (b := 60) (by omega) (by omega)).mp h2

set_option maxRecDepth 100000 in
set_option maxHeartbeats 4000000 in
theorem c_M_fold {l : Launch} {G : zG} {U : zU} (w : wR G U) (N : zR) (v0 : Nat) (hv0 : v0 < 2 ^ 31) : zF l y_M_fold b_M_fold 2 (some .int) 0 0 G [.int (nI v0)] (eR U N) (some (.int (mFold (v0 + 1) (nI v0)))) (eR U N) := by
  refine zF.ofZ (by decide) w.2.2.2.2 (Nat.le_of_ble_eq_true rfl) (fun X hXl hN hr C => ?_)
  subst hXl
  show Z X G (zA G) 2 _ (eR U N) 0 [(0, .int (nI v0))] []
  refine Z_iload_n C 0 d_M_fold_0 rfl rfl ?_
  refine Z_istore_n C d_M_fold_1 rfl (by decide) rfl ?_
  have hlp : ∀ (n v : Nat), v < 2 ^ 31 → v < n → mFold n (nI v) = mFold (v0 + 1) (nI v0) → Z X G (zA G) 2 (zQ X G (some (.int (mFold (v0 + 1) (nI v0)))) (eR U N)) (eR U N) 2 [(1, .int (nI v)), (0, .int (nI v0))] [] := by
    intro n
    induction n with
    | zero => intro v h1 h2; omega
    | succ n ih =>
      intro v h1 h2 h3
      refine Z_iload_n C 0 d_M_fold_2 rfl rfl ?_
      refine Z_ldc C co_M_160 d_M_fold_3 ?_
      refine Z_icmp_le (tgt := 21) C d_M_fold_5 (by decide) (fun c5 => ?_) (fun c5 => ?_)
      · skip
        refine Z_iload_n C 0 d_M_fold_21 rfl rfl ?_
        exact Z_iret C hN hr d_M_fold_22 (by rw [← h3, mFold_fix c5]) (zeq (rfl))
      · have hv : 65535 < v := by
          rcases Nat.lt_or_ge 65535 v with q | q
          · exact q
          · exact absurd (nI_le (a := v) (b := 65535) q (by omega)) c5
        have hf := fold_lt hv h1
        refine Z_iload_n C 0 d_M_fold_8 rfl rfl ?_
        refine Z_bipush (v := 16) C d_M_fold_9 (by decide) ?_
        refine Z_iushr C d_M_fold_11 ?_
        refine Z_iload_n C 0 d_M_fold_12 rfl rfl ?_
        refine Z_ldc C co_M_160 d_M_fold_13 ?_
        refine Z_iand C d_M_fold_15 ?_
        refine Z_iadd C d_M_fold_16 ?_
        refine Z_istore_n C d_M_fold_17 rfl (by decide) rfl ?_
        refine Z_goto (tgt := 2) C d_M_fold_18 (by decide) ?_
        have hq := ih (v / 65536 + v % 65536) (by omega) (by omega) (by rw [← h3, ← hf.1]; conv => rhs; unfold mFold; rw [if_neg c5])
        rw [← hf.1] at hq
        exact hq
  exact hlp (v0 + 1) v0 hv0 (by omega) rfl
set_option maxRecDepth 100000 in
set_option maxHeartbeats 4000000 in
theorem c_M_send {l : Launch} {G : zG} {U : zU} (w : wR G U) (N : zR) (r : Nat) (hr5 : r < 5) (what : Int32) (s g c z : Nat) (hs15 : s < 15) (hg16 : g < 16) (hc : N 43 28 = nI c) (hcl : c ≤ 60) (hsz : N 43 38 = nI z) (hz40 : z ≤ 40) : zF l y_M_send b_M_send 8 none 1 22 G [.ref (U.1 43), .int (nI r), .int what, .int (nI s), .int (nI g)] (eR U N) none (eR U (mSend N r what s g c z)) := by
  refine zF.ofZ (by decide) w.2.2.2.2 (Nat.le_of_ble_eq_true rfl) (fun X hXl hN hr C => ?_)
  subst hXl
  show Z X G (zA G) 8 _ (eR U N) 0 [(0, .ref (U.1 43)), (1, .int (nI r)), (2, .int what), (3, .int (nI s)), (4, .int (nI g))] []
  refine Z_aload_n C 0 d_M_send_0 rfl rfl ?_
  refine R_get C w 8 (by decide) fl_M_28 rfl rfl d_M_send_1 ?_
  refine Z_iload_n C 1 d_M_send_4 rfl rfl ?_
  refine Z_dup2_11 C d_M_send_5 rfl rfl ?_
  refine R_ld 8 C w rfl rfl r (nI_clamp (by omega)) (vp_in_nI (n := r) (N := 5) hr5 (by decide)) d_M_send_6 ?_
  refine Z_iconst (v := 1) C d_M_send_7 (by decide) ?_
  refine Z_iadd C d_M_send_8 ?_
  refine R_st 8 C w rfl rfl r (nI_clamp (by omega)) (vp_in_nI (n := r) (N := 5) hr5 (by decide)) d_M_send_9 ?_
  refine Z_aload_n C 0 d_M_send_10 rfl rfl ?_
  refine Z_iload_n C 1 d_M_send_11 rfl rfl ?_
  refine Z_bipush (v := 7) C d_M_send_12 (by decide) ?_
  refine C_cMv C w mi_M_is ml_M_143 (c_M_is w _ r 7 (by assumption) (by decide)) rfl rfl (by decide) rfl (Nat.le_of_ble_eq_true rfl) d_M_send_14 ?_
  refine Z_iconst (v := 1) C d_M_send_17 (by decide) ?_
  refine Z_iand C d_M_send_18 ?_
  refine Z_if_eq (tgt := 23) C d_M_send_19 (by decide) (fun c19 => ?_) (fun c19 => ?_)
  · have c19 : (ms1 N r 2 (10 * r + 7) &&& 1) = 0 := c19
    refine Z_aload_n C 0 d_M_send_23 rfl rfl ?_
    refine R_get C w 10 (by decide) fl_M_34 rfl rfl d_M_send_24 ?_
    refine Z_iload_n C 3 d_M_send_27 rfl rfl ?_
    refine Z_iload_n C 1 d_M_send_28 rfl rfl ?_
    refine R_st 10 C w rfl rfl s (nI_clamp (by omega)) (vp_in_nI (n := s) (N := 15) hs15 (by decide)) d_M_send_29 ?_
    refine Z_iload C 4 d_M_send_30 rfl ?_
    refine Z_bipush (v := 15) C d_M_send_32 (by decide) ?_
    refine Z_icmp_eq (tgt := 48) C d_M_send_34 (by decide) (fun c34 => ?_) (fun c34 => ?_)
    · skip
      refine Z_bipush (v := 31) C d_M_send_48 (by decide) ?_
      refine Z_iconst (v := 1) C d_M_send_50 (by decide) ?_
      refine Z_iload_n C 1 d_M_send_51 rfl rfl ?_
      refine Z_ishl C d_M_send_52 ?_
      refine Z_iconst (v := (-1)) C d_M_send_53 (by decide) ?_
      refine Z_ixor C d_M_send_54 ?_
      refine Z_iand C d_M_send_55 ?_
      refine Z_goto (tgt := 83) C d_M_send_56 (by decide) ?_
      refine zst (st' := [.int (mWhere (ms2 N r s) r g)]) (by unfold mWhere mAll; first | (rw [if_pos c34]; done) | (rw [if_neg c34, if_pos c45]; done) | (rw [if_neg c34, if_neg c45, if_pos c67]; done) | (rw [if_neg c34, if_neg c45, if_neg c67]; rfl)) ?_
      refine Z_istore C d_M_send_83 (by decide) rfl ?_
      refine Z_iload C 0 d_M_send_85 rfl ?_
      refine Z_if_eq (tgt := 99) C d_M_send_87 (by decide) (fun c87 => ?_) (fun c87 => ?_)
      · skip
        exact Z_vret C hN hr d_M_send_99 rfl (zeq (by apply eR_N; unfold mSend; rw [if_neg (not_not_intro c19)]; first | (rw [if_pos c87]; rfl) | (rw [if_neg c87, if_pos hc60]; rfl)))
      · skip
        refine Z_aload_n C 1 d_M_send_90 rfl rfl ?_
        refine R_get C w 28 (by decide) fl_M_147 rfl rfl d_M_send_91 ?_
        refine Z_bipush (v := 60) C d_M_send_94 (by decide) ?_
        refine Z_icmp_ne (tgt := 100) C d_M_send_96 (by decide) (fun c96 => ?_) (fun c96 => ?_)
        · have hc60 : ¬ c = 60 := fun q => c96 (show N 43 28 = 60 by rw [hc, q]; rfl)
          refine Z_aload_n C 1 d_M_send_100 rfl rfl ?_
          refine R_get C w 28 (by decide) fl_M_147 rfl rfl d_M_send_101 ?_
          refine zst (st' := [.int (nI c)]) (by show [Value.int (N 43 28)] = _; rw [hc]) ?_
          refine Z_istore C d_M_send_104 (by decide) rfl ?_
          refine Z_aload_n C 2 d_M_send_106 rfl rfl ?_
          refine Z_dup C d_M_send_107 rfl ?_
          refine R_get C w 28 (by decide) fl_M_147 rfl rfl d_M_send_108 ?_
          refine Z_iconst (v := 1) C d_M_send_111 (by decide) ?_
          refine Z_iadd C d_M_send_112 ?_
          refine R_put C w 28 (by decide) fl_M_147 rfl rfl rfl rfl rfl d_M_send_113 ?_
          refine Z_aload_n C 2 d_M_send_116 rfl rfl ?_
          refine R_get C w 29 (by decide) fl_M_89 rfl rfl d_M_send_117 ?_
          refine Z_iload C 0 d_M_send_120 rfl ?_
          refine Z_aload_n C 2 d_M_send_122 rfl rfl ?_
          refine R_get C w 1 (by decide) fl_M_150 rfl rfl d_M_send_123 ?_
          refine Z_aload_n C 2 d_M_send_126 rfl rfl ?_
          refine Z_iload_n C 3 d_M_send_127 rfl rfl ?_
          refine Z_bipush (v := 6) C d_M_send_128 (by decide) ?_
          refine C_cMv C w mi_M_is ml_M_143 (c_M_is w _ r 6 (by assumption) (by decide)) rfl rfl (by decide) rfl (Nat.le_of_ble_eq_true rfl) d_M_send_130 ?_
          refine Z_iadd C d_M_send_133 ?_
          refine R_st 29 C w rfl rfl c (nI_clamp (by omega)) (vp_in_nI (n := c) (N := 60) (by omega) (by decide)) d_M_send_134 ?_
          refine Z_aload_n C 2 d_M_send_135 rfl rfl ?_
          refine R_get C w 30 (by decide) fl_M_92 rfl rfl d_M_send_136 ?_
          refine Z_iload C 0 d_M_send_139 rfl ?_
          refine Z_iload_n C 4 d_M_send_141 rfl rfl ?_
          refine R_st 30 C w rfl rfl c (nI_clamp (by omega)) (vp_in_nI (n := c) (N := 60) (by omega) (by decide)) d_M_send_142 ?_
          refine Z_aload_n C 2 d_M_send_143 rfl rfl ?_
          refine R_get C w 31 (by decide) fl_M_95 rfl rfl d_M_send_144 ?_
          refine Z_iload C 0 d_M_send_147 rfl ?_
          refine Z_iload_n C 5 d_M_send_149 rfl rfl ?_
          refine R_st 31 C w rfl rfl c (nI_clamp (by omega)) (vp_in_nI (n := c) (N := 60) (by omega) (by decide)) d_M_send_150 ?_
          refine Z_aload_n C 2 d_M_send_151 rfl rfl ?_
          refine R_get C w 32 (by decide) fl_M_98 rfl rfl d_M_send_152 ?_
          refine Z_iload C 0 d_M_send_155 rfl ?_
          refine Z_iload C 6 d_M_send_157 rfl ?_
          refine R_st 32 C w rfl rfl c (nI_clamp (by omega)) (vp_in_nI (n := c) (N := 60) (by omega) (by decide)) d_M_send_159 ?_
          refine Z_aload_n C 2 d_M_send_160 rfl rfl ?_
          refine R_get C w 33 (by decide) fl_M_101 rfl rfl d_M_send_161 ?_
          refine Z_iload C 0 d_M_send_164 rfl ?_
          refine Z_aload_n C 2 d_M_send_166 rfl rfl ?_
          refine Z_iload_n C 3 d_M_send_167 rfl rfl ?_
          refine Z_iconst (v := 4) C d_M_send_168 (by decide) ?_
          refine C_cMv C w mi_M_is ml_M_143 (c_M_is w _ r 4 (by assumption) (by decide)) rfl rfl (by decide) rfl (Nat.le_of_ble_eq_true rfl) d_M_send_169 ?_
          refine R_st 33 C w rfl rfl c (nI_clamp (by omega)) (vp_in_nI (n := c) (N := 60) (by omega) (by decide)) d_M_send_172 ?_
          refine Z_aload_n C 2 d_M_send_173 rfl rfl ?_
          refine R_get C w 34 (by decide) fl_M_104 rfl rfl d_M_send_174 ?_
          refine Z_iload C 0 d_M_send_177 rfl ?_
          refine Z_iload C 1 d_M_send_179 rfl ?_
          refine R_st 34 C w rfl rfl c (nI_clamp (by omega)) (vp_in_nI (n := c) (N := 60) (by omega) (by decide)) d_M_send_181 ?_
          refine Z_aload_n C 2 d_M_send_182 rfl rfl ?_
          refine R_get C w 35 (by decide) fl_M_107 rfl rfl d_M_send_183 ?_
          refine Z_iload C 0 d_M_send_186 rfl ?_
          refine Z_aload_n C 2 d_M_send_188 rfl rfl ?_
          refine R_get C w 38 (by decide) fl_M_136 rfl rfl d_M_send_189 ?_
          refine R_st 35 C w rfl rfl c (nI_clamp (by omega)) (vp_in_nI (n := c) (N := 60) (by omega) (by decide)) d_M_send_192 ?_
          refine Z_iconst (v := 0) C d_M_send_193 (by decide) ?_
          refine Z_istore C d_M_send_194 (by decide) rfl ?_
          have hsz3 : ms3 (ms2 N r s) r what s g c (mWhere (ms2 N r s) r g) 43 38 = nI z := by unfold ms3 ms2 ms1; simp [u2, upd, hsz]
          have hlp : ∀ (n k : Nat) (N1 : zR), k + n = z → N1 43 38 = nI z → mcL c n k N1 = mcL c z 0 (ms3 (ms2 N r s) r what s g c (mWhere (ms2 N r s) r g)) → Z X G (zA G) 8 (zQ X G none (eR U (mSend N r what s g c z))) (eR U N1) 196 [(7, .int (nI k)), (6, .int (nI c)), (5, .int (mWhere (ms2 N r s) r g)), (0, .ref (U.1 43)), (1, .int (nI r)), (2, .int what), (3, .int (nI s)), (4, .int (nI g))] [] := by
            intro n
            induction n with
            | zero =>
              intro k N1 h1 h2 h3
              refine Z_iload C 0 d_M_send_196 rfl ?_
              refine Z_aload_n C 3 d_M_send_198 rfl rfl ?_
              refine R_get C w 38 (by decide) fl_M_136 rfl rfl d_M_send_199 ?_
              refine Z_icmp_ge (tgt := 231) C d_M_send_202 (by decide) (fun c202 => ?_) (fun c202 => ?_)
              · skip
                exact Z_vret C hN hr d_M_send_231 rfl (zeq (by apply eR_N; unfold mSend; rw [if_neg (not_not_intro c19), if_neg c87, if_neg hc60, ← h3]; rfl))
              · rw [h2] at c202
                exact absurd (nI_le (by omega) (by omega)) c202 --stop
            | succ n ih =>
              intro k N1 h1 h2 h3
              refine Z_iload C 0 d_M_send_196 rfl ?_
              refine Z_aload_n C 3 d_M_send_198 rfl rfl ?_
              refine R_get C w 38 (by decide) fl_M_136 rfl rfl d_M_send_199 ?_
              refine Z_icmp_ge (tgt := 231) C d_M_send_202 (by decide) (fun c202 => ?_) (fun c202 => ?_)
              · rw [h2] at c202
                exact absurd c202 (nI_ge (a := k) (b := z) (by omega) (by omega)) --stop
              · skip
                refine Z_aload_n C 3 d_M_send_205 rfl rfl ?_
                refine R_get C w 36 (by decide) fl_M_110 rfl rfl d_M_send_206 ?_
                refine Z_bipush (v := 40) C d_M_send_209 (by decide) ?_
                refine Z_iload C 1 d_M_send_211 rfl ?_
                refine Z_imul C d_M_send_213 ?_
                refine Z_iload C 0 d_M_send_214 rfl ?_
                refine Z_iadd C d_M_send_216 ?_
                refine Z_aload_n C 3 d_M_send_217 rfl rfl ?_
                refine R_get C w 37 (by decide) fl_M_113 rfl rfl d_M_send_218 ?_
                refine Z_iload C 0 d_M_send_221 rfl ?_
                refine R_ld 37 C w rfl rfl k (nI_clamp (by omega)) (vp_in_nI (n := k) (N := 40) (by omega) (by decide)) d_M_send_223 ?_
                refine R_st 36 C w rfl rfl (40 * c + k) (by rw [ix40]; exact nI_clamp (by omega)) (by rw [ix40]; exact vp_in_nI (n := 40 * c + k) (N := 2400) (by omega) (by decide)) d_M_send_224 ?_
                refine Z_iinc 0 C d_M_send_225 rfl (nI_1 k) (by decide) rfl ?_
                refine Z_goto (tgt := 196) C d_M_send_228 (by decide) ?_
                exact ih (k + 1) _ (by omega) (by rw [u2_ne (by decide)]; exact h2) h3
          exact hlp z 0 _ (by omega) hsz3 rfl
        · have hc60 : c = 60 := c60 hcl (show nI c = 60 by rw [← hc]; exact c96)
          exact Z_vret C hN hr d_M_send_99 rfl (zeq (by apply eR_N; unfold mSend; rw [if_neg (not_not_intro c19)]; first | (rw [if_pos c87]; rfl) | (rw [if_neg c87, if_pos hc60]; rfl)))
    · have hg15 : g < 15 := g15 hg16 c34
      refine Z_aload_n C 0 d_M_send_37 rfl rfl ?_
      refine R_get C w 10 (by decide) fl_M_34 rfl rfl d_M_send_38 ?_
      refine Z_iload C 4 d_M_send_41 rfl ?_
      refine R_ld 10 C w rfl rfl g (nI_clamp (by omega)) (vp_in_nI (n := g) (N := 15) (by omega) (by decide)) d_M_send_43 ?_
      refine Z_iconst (v := (-1)) C d_M_send_44 (by decide) ?_
      refine Z_icmp_ne (tgt := 59) C d_M_send_45 (by decide) (fun c45 => ?_) (fun c45 => ?_)
      · have c45 : ¬ ms2 N r s 10 g = -1 := c45
        refine Z_aload_n C 0 d_M_send_59 rfl rfl ?_
        refine R_get C w 10 (by decide) fl_M_34 rfl rfl d_M_send_60 ?_
        refine Z_iload C 4 d_M_send_63 rfl ?_
        refine R_ld 10 C w rfl rfl g (nI_clamp (by omega)) (vp_in_nI (n := g) (N := 15) (by omega) (by decide)) d_M_send_65 ?_
        refine Z_iload_n C 1 d_M_send_66 rfl rfl ?_
        refine Z_icmp_ne (tgt := 74) C d_M_send_67 (by decide) (fun c67 => ?_) (fun c67 => ?_)
        · have c67 : ¬ ms2 N r s 10 g = nI r := c67
          refine Z_iconst (v := 1) C d_M_send_74 (by decide) ?_
          refine Z_aload_n C 0 d_M_send_75 rfl rfl ?_
          refine R_get C w 10 (by decide) fl_M_34 rfl rfl d_M_send_76 ?_
          refine Z_iload C 4 d_M_send_79 rfl ?_
          refine R_ld 10 C w rfl rfl g (nI_clamp (by omega)) (vp_in_nI (n := g) (N := 15) (by omega) (by decide)) d_M_send_81 ?_
          refine Z_ishl C d_M_send_82 ?_
          refine zst (st' := [.int (mWhere (ms2 N r s) r g)]) (by unfold mWhere mAll; first | (rw [if_pos c34]; done) | (rw [if_neg c34, if_pos c45]; done) | (rw [if_neg c34, if_neg c45, if_pos c67]; done) | (rw [if_neg c34, if_neg c45, if_neg c67]; rfl)) ?_
          refine Z_istore C d_M_send_83 (by decide) rfl ?_
          refine Z_iload C 0 d_M_send_85 rfl ?_
          refine Z_if_eq (tgt := 99) C d_M_send_87 (by decide) (fun c87 => ?_) (fun c87 => ?_)
          · skip
            exact Z_vret C hN hr d_M_send_99 rfl (zeq (by apply eR_N; unfold mSend; rw [if_neg (not_not_intro c19)]; first | (rw [if_pos c87]; rfl) | (rw [if_neg c87, if_pos hc60]; rfl)))
          · skip
            refine Z_aload_n C 1 d_M_send_90 rfl rfl ?_
            refine R_get C w 28 (by decide) fl_M_147 rfl rfl d_M_send_91 ?_
            refine Z_bipush (v := 60) C d_M_send_94 (by decide) ?_
            refine Z_icmp_ne (tgt := 100) C d_M_send_96 (by decide) (fun c96 => ?_) (fun c96 => ?_)
            · have hc60 : ¬ c = 60 := fun q => c96 (show N 43 28 = 60 by rw [hc, q]; rfl)
              refine Z_aload_n C 1 d_M_send_100 rfl rfl ?_
              refine R_get C w 28 (by decide) fl_M_147 rfl rfl d_M_send_101 ?_
              refine zst (st' := [.int (nI c)]) (by show [Value.int (N 43 28)] = _; rw [hc]) ?_
              refine Z_istore C d_M_send_104 (by decide) rfl ?_
              refine Z_aload_n C 2 d_M_send_106 rfl rfl ?_
              refine Z_dup C d_M_send_107 rfl ?_
              refine R_get C w 28 (by decide) fl_M_147 rfl rfl d_M_send_108 ?_
              refine Z_iconst (v := 1) C d_M_send_111 (by decide) ?_
              refine Z_iadd C d_M_send_112 ?_
              refine R_put C w 28 (by decide) fl_M_147 rfl rfl rfl rfl rfl d_M_send_113 ?_
              refine Z_aload_n C 2 d_M_send_116 rfl rfl ?_
              refine R_get C w 29 (by decide) fl_M_89 rfl rfl d_M_send_117 ?_
              refine Z_iload C 0 d_M_send_120 rfl ?_
              refine Z_aload_n C 2 d_M_send_122 rfl rfl ?_
              refine R_get C w 1 (by decide) fl_M_150 rfl rfl d_M_send_123 ?_
              refine Z_aload_n C 2 d_M_send_126 rfl rfl ?_
              refine Z_iload_n C 3 d_M_send_127 rfl rfl ?_
              refine Z_bipush (v := 6) C d_M_send_128 (by decide) ?_
              refine C_cMv C w mi_M_is ml_M_143 (c_M_is w _ r 6 (by assumption) (by decide)) rfl rfl (by decide) rfl (Nat.le_of_ble_eq_true rfl) d_M_send_130 ?_
              refine Z_iadd C d_M_send_133 ?_
              refine R_st 29 C w rfl rfl c (nI_clamp (by omega)) (vp_in_nI (n := c) (N := 60) (by omega) (by decide)) d_M_send_134 ?_
              refine Z_aload_n C 2 d_M_send_135 rfl rfl ?_
              refine R_get C w 30 (by decide) fl_M_92 rfl rfl d_M_send_136 ?_
              refine Z_iload C 0 d_M_send_139 rfl ?_
              refine Z_iload_n C 4 d_M_send_141 rfl rfl ?_
              refine R_st 30 C w rfl rfl c (nI_clamp (by omega)) (vp_in_nI (n := c) (N := 60) (by omega) (by decide)) d_M_send_142 ?_
              refine Z_aload_n C 2 d_M_send_143 rfl rfl ?_
              refine R_get C w 31 (by decide) fl_M_95 rfl rfl d_M_send_144 ?_
              refine Z_iload C 0 d_M_send_147 rfl ?_
              refine Z_iload_n C 5 d_M_send_149 rfl rfl ?_
              refine R_st 31 C w rfl rfl c (nI_clamp (by omega)) (vp_in_nI (n := c) (N := 60) (by omega) (by decide)) d_M_send_150 ?_
              refine Z_aload_n C 2 d_M_send_151 rfl rfl ?_
              refine R_get C w 32 (by decide) fl_M_98 rfl rfl d_M_send_152 ?_
              refine Z_iload C 0 d_M_send_155 rfl ?_
              refine Z_iload C 6 d_M_send_157 rfl ?_
              refine R_st 32 C w rfl rfl c (nI_clamp (by omega)) (vp_in_nI (n := c) (N := 60) (by omega) (by decide)) d_M_send_159 ?_
              refine Z_aload_n C 2 d_M_send_160 rfl rfl ?_
              refine R_get C w 33 (by decide) fl_M_101 rfl rfl d_M_send_161 ?_
              refine Z_iload C 0 d_M_send_164 rfl ?_
              refine Z_aload_n C 2 d_M_send_166 rfl rfl ?_
              refine Z_iload_n C 3 d_M_send_167 rfl rfl ?_
              refine Z_iconst (v := 4) C d_M_send_168 (by decide) ?_
              refine C_cMv C w mi_M_is ml_M_143 (c_M_is w _ r 4 (by assumption) (by decide)) rfl rfl (by decide) rfl (Nat.le_of_ble_eq_true rfl) d_M_send_169 ?_
              refine R_st 33 C w rfl rfl c (nI_clamp (by omega)) (vp_in_nI (n := c) (N := 60) (by omega) (by decide)) d_M_send_172 ?_
              refine Z_aload_n C 2 d_M_send_173 rfl rfl ?_
              refine R_get C w 34 (by decide) fl_M_104 rfl rfl d_M_send_174 ?_
              refine Z_iload C 0 d_M_send_177 rfl ?_
              refine Z_iload C 1 d_M_send_179 rfl ?_
              refine R_st 34 C w rfl rfl c (nI_clamp (by omega)) (vp_in_nI (n := c) (N := 60) (by omega) (by decide)) d_M_send_181 ?_
              refine Z_aload_n C 2 d_M_send_182 rfl rfl ?_
              refine R_get C w 35 (by decide) fl_M_107 rfl rfl d_M_send_183 ?_
              refine Z_iload C 0 d_M_send_186 rfl ?_
              refine Z_aload_n C 2 d_M_send_188 rfl rfl ?_
              refine R_get C w 38 (by decide) fl_M_136 rfl rfl d_M_send_189 ?_
              refine R_st 35 C w rfl rfl c (nI_clamp (by omega)) (vp_in_nI (n := c) (N := 60) (by omega) (by decide)) d_M_send_192 ?_
              refine Z_iconst (v := 0) C d_M_send_193 (by decide) ?_
              refine Z_istore C d_M_send_194 (by decide) rfl ?_
              have hsz3 : ms3 (ms2 N r s) r what s g c (mWhere (ms2 N r s) r g) 43 38 = nI z := by unfold ms3 ms2 ms1; simp [u2, upd, hsz]
              have hlp : ∀ (n k : Nat) (N1 : zR), k + n = z → N1 43 38 = nI z → mcL c n k N1 = mcL c z 0 (ms3 (ms2 N r s) r what s g c (mWhere (ms2 N r s) r g)) → Z X G (zA G) 8 (zQ X G none (eR U (mSend N r what s g c z))) (eR U N1) 196 [(7, .int (nI k)), (6, .int (nI c)), (5, .int (mWhere (ms2 N r s) r g)), (0, .ref (U.1 43)), (1, .int (nI r)), (2, .int what), (3, .int (nI s)), (4, .int (nI g))] [] := by
                intro n
                induction n with
                | zero =>
                  intro k N1 h1 h2 h3
                  refine Z_iload C 0 d_M_send_196 rfl ?_
                  refine Z_aload_n C 3 d_M_send_198 rfl rfl ?_
                  refine R_get C w 38 (by decide) fl_M_136 rfl rfl d_M_send_199 ?_
                  refine Z_icmp_ge (tgt := 231) C d_M_send_202 (by decide) (fun c202 => ?_) (fun c202 => ?_)
                  · skip
                    exact Z_vret C hN hr d_M_send_231 rfl (zeq (by apply eR_N; unfold mSend; rw [if_neg (not_not_intro c19), if_neg c87, if_neg hc60, ← h3]; rfl))
                  · rw [h2] at c202
                    exact absurd (nI_le (by omega) (by omega)) c202 --stop
                | succ n ih =>
                  intro k N1 h1 h2 h3
                  refine Z_iload C 0 d_M_send_196 rfl ?_
                  refine Z_aload_n C 3 d_M_send_198 rfl rfl ?_
                  refine R_get C w 38 (by decide) fl_M_136 rfl rfl d_M_send_199 ?_
                  refine Z_icmp_ge (tgt := 231) C d_M_send_202 (by decide) (fun c202 => ?_) (fun c202 => ?_)
                  · rw [h2] at c202
                    exact absurd c202 (nI_ge (a := k) (b := z) (by omega) (by omega)) --stop
                  · skip
                    refine Z_aload_n C 3 d_M_send_205 rfl rfl ?_
                    refine R_get C w 36 (by decide) fl_M_110 rfl rfl d_M_send_206 ?_
                    refine Z_bipush (v := 40) C d_M_send_209 (by decide) ?_
                    refine Z_iload C 1 d_M_send_211 rfl ?_
                    refine Z_imul C d_M_send_213 ?_
                    refine Z_iload C 0 d_M_send_214 rfl ?_
                    refine Z_iadd C d_M_send_216 ?_
                    refine Z_aload_n C 3 d_M_send_217 rfl rfl ?_
                    refine R_get C w 37 (by decide) fl_M_113 rfl rfl d_M_send_218 ?_
                    refine Z_iload C 0 d_M_send_221 rfl ?_
                    refine R_ld 37 C w rfl rfl k (nI_clamp (by omega)) (vp_in_nI (n := k) (N := 40) (by omega) (by decide)) d_M_send_223 ?_
                    refine R_st 36 C w rfl rfl (40 * c + k) (by rw [ix40]; exact nI_clamp (by omega)) (by rw [ix40]; exact vp_in_nI (n := 40 * c + k) (N := 2400) (by omega) (by decide)) d_M_send_224 ?_
                    refine Z_iinc 0 C d_M_send_225 rfl (nI_1 k) (by decide) rfl ?_
                    refine Z_goto (tgt := 196) C d_M_send_228 (by decide) ?_
                    exact ih (k + 1) _ (by omega) (by rw [u2_ne (by decide)]; exact h2) h3
              exact hlp z 0 _ (by omega) hsz3 rfl
            · have hc60 : c = 60 := c60 hcl (show nI c = 60 by rw [← hc]; exact c96)
              exact Z_vret C hN hr d_M_send_99 rfl (zeq (by apply eR_N; unfold mSend; rw [if_neg (not_not_intro c19)]; first | (rw [if_pos c87]; rfl) | (rw [if_neg c87, if_pos hc60]; rfl)))
        · have c67 : ms2 N r s 10 g = nI r := c67
          refine Z_iconst (v := 0) C d_M_send_70 (by decide) ?_
          refine Z_goto (tgt := 83) C d_M_send_71 (by decide) ?_
          refine zst (st' := [.int (mWhere (ms2 N r s) r g)]) (by unfold mWhere mAll; first | (rw [if_pos c34]; done) | (rw [if_neg c34, if_pos c45]; done) | (rw [if_neg c34, if_neg c45, if_pos c67]; done) | (rw [if_neg c34, if_neg c45, if_neg c67]; rfl)) ?_
          refine Z_istore C d_M_send_83 (by decide) rfl ?_
          refine Z_iload C 0 d_M_send_85 rfl ?_
          refine Z_if_eq (tgt := 99) C d_M_send_87 (by decide) (fun c87 => ?_) (fun c87 => ?_)
          · skip
            exact Z_vret C hN hr d_M_send_99 rfl (zeq (by apply eR_N; unfold mSend; rw [if_neg (not_not_intro c19)]; first | (rw [if_pos c87]; rfl) | (rw [if_neg c87, if_pos hc60]; rfl)))
          · skip
            refine Z_aload_n C 1 d_M_send_90 rfl rfl ?_
            refine R_get C w 28 (by decide) fl_M_147 rfl rfl d_M_send_91 ?_
            refine Z_bipush (v := 60) C d_M_send_94 (by decide) ?_
            refine Z_icmp_ne (tgt := 100) C d_M_send_96 (by decide) (fun c96 => ?_) (fun c96 => ?_)
            · have hc60 : ¬ c = 60 := fun q => c96 (show N 43 28 = 60 by rw [hc, q]; rfl)
              refine Z_aload_n C 1 d_M_send_100 rfl rfl ?_
              refine R_get C w 28 (by decide) fl_M_147 rfl rfl d_M_send_101 ?_
              refine zst (st' := [.int (nI c)]) (by show [Value.int (N 43 28)] = _; rw [hc]) ?_
              refine Z_istore C d_M_send_104 (by decide) rfl ?_
              refine Z_aload_n C 2 d_M_send_106 rfl rfl ?_
              refine Z_dup C d_M_send_107 rfl ?_
              refine R_get C w 28 (by decide) fl_M_147 rfl rfl d_M_send_108 ?_
              refine Z_iconst (v := 1) C d_M_send_111 (by decide) ?_
              refine Z_iadd C d_M_send_112 ?_
              refine R_put C w 28 (by decide) fl_M_147 rfl rfl rfl rfl rfl d_M_send_113 ?_
              refine Z_aload_n C 2 d_M_send_116 rfl rfl ?_
              refine R_get C w 29 (by decide) fl_M_89 rfl rfl d_M_send_117 ?_
              refine Z_iload C 0 d_M_send_120 rfl ?_
              refine Z_aload_n C 2 d_M_send_122 rfl rfl ?_
              refine R_get C w 1 (by decide) fl_M_150 rfl rfl d_M_send_123 ?_
              refine Z_aload_n C 2 d_M_send_126 rfl rfl ?_
              refine Z_iload_n C 3 d_M_send_127 rfl rfl ?_
              refine Z_bipush (v := 6) C d_M_send_128 (by decide) ?_
              refine C_cMv C w mi_M_is ml_M_143 (c_M_is w _ r 6 (by assumption) (by decide)) rfl rfl (by decide) rfl (Nat.le_of_ble_eq_true rfl) d_M_send_130 ?_
              refine Z_iadd C d_M_send_133 ?_
              refine R_st 29 C w rfl rfl c (nI_clamp (by omega)) (vp_in_nI (n := c) (N := 60) (by omega) (by decide)) d_M_send_134 ?_
              refine Z_aload_n C 2 d_M_send_135 rfl rfl ?_
              refine R_get C w 30 (by decide) fl_M_92 rfl rfl d_M_send_136 ?_
              refine Z_iload C 0 d_M_send_139 rfl ?_
              refine Z_iload_n C 4 d_M_send_141 rfl rfl ?_
              refine R_st 30 C w rfl rfl c (nI_clamp (by omega)) (vp_in_nI (n := c) (N := 60) (by omega) (by decide)) d_M_send_142 ?_
              refine Z_aload_n C 2 d_M_send_143 rfl rfl ?_
              refine R_get C w 31 (by decide) fl_M_95 rfl rfl d_M_send_144 ?_
              refine Z_iload C 0 d_M_send_147 rfl ?_
              refine Z_iload_n C 5 d_M_send_149 rfl rfl ?_
              refine R_st 31 C w rfl rfl c (nI_clamp (by omega)) (vp_in_nI (n := c) (N := 60) (by omega) (by decide)) d_M_send_150 ?_
              refine Z_aload_n C 2 d_M_send_151 rfl rfl ?_
              refine R_get C w 32 (by decide) fl_M_98 rfl rfl d_M_send_152 ?_
              refine Z_iload C 0 d_M_send_155 rfl ?_
              refine Z_iload C 6 d_M_send_157 rfl ?_
              refine R_st 32 C w rfl rfl c (nI_clamp (by omega)) (vp_in_nI (n := c) (N := 60) (by omega) (by decide)) d_M_send_159 ?_
              refine Z_aload_n C 2 d_M_send_160 rfl rfl ?_
              refine R_get C w 33 (by decide) fl_M_101 rfl rfl d_M_send_161 ?_
              refine Z_iload C 0 d_M_send_164 rfl ?_
              refine Z_aload_n C 2 d_M_send_166 rfl rfl ?_
              refine Z_iload_n C 3 d_M_send_167 rfl rfl ?_
              refine Z_iconst (v := 4) C d_M_send_168 (by decide) ?_
              refine C_cMv C w mi_M_is ml_M_143 (c_M_is w _ r 4 (by assumption) (by decide)) rfl rfl (by decide) rfl (Nat.le_of_ble_eq_true rfl) d_M_send_169 ?_
              refine R_st 33 C w rfl rfl c (nI_clamp (by omega)) (vp_in_nI (n := c) (N := 60) (by omega) (by decide)) d_M_send_172 ?_
              refine Z_aload_n C 2 d_M_send_173 rfl rfl ?_
              refine R_get C w 34 (by decide) fl_M_104 rfl rfl d_M_send_174 ?_
              refine Z_iload C 0 d_M_send_177 rfl ?_
              refine Z_iload C 1 d_M_send_179 rfl ?_
              refine R_st 34 C w rfl rfl c (nI_clamp (by omega)) (vp_in_nI (n := c) (N := 60) (by omega) (by decide)) d_M_send_181 ?_
              refine Z_aload_n C 2 d_M_send_182 rfl rfl ?_
              refine R_get C w 35 (by decide) fl_M_107 rfl rfl d_M_send_183 ?_
              refine Z_iload C 0 d_M_send_186 rfl ?_
              refine Z_aload_n C 2 d_M_send_188 rfl rfl ?_
              refine R_get C w 38 (by decide) fl_M_136 rfl rfl d_M_send_189 ?_
              refine R_st 35 C w rfl rfl c (nI_clamp (by omega)) (vp_in_nI (n := c) (N := 60) (by omega) (by decide)) d_M_send_192 ?_
              refine Z_iconst (v := 0) C d_M_send_193 (by decide) ?_
              refine Z_istore C d_M_send_194 (by decide) rfl ?_
              have hsz3 : ms3 (ms2 N r s) r what s g c (mWhere (ms2 N r s) r g) 43 38 = nI z := by unfold ms3 ms2 ms1; simp [u2, upd, hsz]
              have hlp : ∀ (n k : Nat) (N1 : zR), k + n = z → N1 43 38 = nI z → mcL c n k N1 = mcL c z 0 (ms3 (ms2 N r s) r what s g c (mWhere (ms2 N r s) r g)) → Z X G (zA G) 8 (zQ X G none (eR U (mSend N r what s g c z))) (eR U N1) 196 [(7, .int (nI k)), (6, .int (nI c)), (5, .int (mWhere (ms2 N r s) r g)), (0, .ref (U.1 43)), (1, .int (nI r)), (2, .int what), (3, .int (nI s)), (4, .int (nI g))] [] := by
                intro n
                induction n with
                | zero =>
                  intro k N1 h1 h2 h3
                  refine Z_iload C 0 d_M_send_196 rfl ?_
                  refine Z_aload_n C 3 d_M_send_198 rfl rfl ?_
                  refine R_get C w 38 (by decide) fl_M_136 rfl rfl d_M_send_199 ?_
                  refine Z_icmp_ge (tgt := 231) C d_M_send_202 (by decide) (fun c202 => ?_) (fun c202 => ?_)
                  · skip
                    exact Z_vret C hN hr d_M_send_231 rfl (zeq (by apply eR_N; unfold mSend; rw [if_neg (not_not_intro c19), if_neg c87, if_neg hc60, ← h3]; rfl))
                  · rw [h2] at c202
                    exact absurd (nI_le (by omega) (by omega)) c202 --stop
                | succ n ih =>
                  intro k N1 h1 h2 h3
                  refine Z_iload C 0 d_M_send_196 rfl ?_
                  refine Z_aload_n C 3 d_M_send_198 rfl rfl ?_
                  refine R_get C w 38 (by decide) fl_M_136 rfl rfl d_M_send_199 ?_
                  refine Z_icmp_ge (tgt := 231) C d_M_send_202 (by decide) (fun c202 => ?_) (fun c202 => ?_)
                  · rw [h2] at c202
                    exact absurd c202 (nI_ge (a := k) (b := z) (by omega) (by omega)) --stop
                  · skip
                    refine Z_aload_n C 3 d_M_send_205 rfl rfl ?_
                    refine R_get C w 36 (by decide) fl_M_110 rfl rfl d_M_send_206 ?_
                    refine Z_bipush (v := 40) C d_M_send_209 (by decide) ?_
                    refine Z_iload C 1 d_M_send_211 rfl ?_
                    refine Z_imul C d_M_send_213 ?_
                    refine Z_iload C 0 d_M_send_214 rfl ?_
                    refine Z_iadd C d_M_send_216 ?_
                    refine Z_aload_n C 3 d_M_send_217 rfl rfl ?_
                    refine R_get C w 37 (by decide) fl_M_113 rfl rfl d_M_send_218 ?_
                    refine Z_iload C 0 d_M_send_221 rfl ?_
                    refine R_ld 37 C w rfl rfl k (nI_clamp (by omega)) (vp_in_nI (n := k) (N := 40) (by omega) (by decide)) d_M_send_223 ?_
                    refine R_st 36 C w rfl rfl (40 * c + k) (by rw [ix40]; exact nI_clamp (by omega)) (by rw [ix40]; exact vp_in_nI (n := 40 * c + k) (N := 2400) (by omega) (by decide)) d_M_send_224 ?_
                    refine Z_iinc 0 C d_M_send_225 rfl (nI_1 k) (by decide) rfl ?_
                    refine Z_goto (tgt := 196) C d_M_send_228 (by decide) ?_
                    exact ih (k + 1) _ (by omega) (by rw [u2_ne (by decide)]; exact h2) h3
              exact hlp z 0 _ (by omega) hsz3 rfl
            · have hc60 : c = 60 := c60 hcl (show nI c = 60 by rw [← hc]; exact c96)
              exact Z_vret C hN hr d_M_send_99 rfl (zeq (by apply eR_N; unfold mSend; rw [if_neg (not_not_intro c19)]; first | (rw [if_pos c87]; rfl) | (rw [if_neg c87, if_pos hc60]; rfl)))
      · have c45 : ms2 N r s 10 g = -1 := c45
        refine Z_bipush (v := 31) C d_M_send_48 (by decide) ?_
        refine Z_iconst (v := 1) C d_M_send_50 (by decide) ?_
        refine Z_iload_n C 1 d_M_send_51 rfl rfl ?_
        refine Z_ishl C d_M_send_52 ?_
        refine Z_iconst (v := (-1)) C d_M_send_53 (by decide) ?_
        refine Z_ixor C d_M_send_54 ?_
        refine Z_iand C d_M_send_55 ?_
        refine Z_goto (tgt := 83) C d_M_send_56 (by decide) ?_
        refine zst (st' := [.int (mWhere (ms2 N r s) r g)]) (by unfold mWhere mAll; first | (rw [if_pos c34]; done) | (rw [if_neg c34, if_pos c45]; done) | (rw [if_neg c34, if_neg c45, if_pos c67]; done) | (rw [if_neg c34, if_neg c45, if_neg c67]; rfl)) ?_
        refine Z_istore C d_M_send_83 (by decide) rfl ?_
        refine Z_iload C 0 d_M_send_85 rfl ?_
        refine Z_if_eq (tgt := 99) C d_M_send_87 (by decide) (fun c87 => ?_) (fun c87 => ?_)
        · skip
          exact Z_vret C hN hr d_M_send_99 rfl (zeq (by apply eR_N; unfold mSend; rw [if_neg (not_not_intro c19)]; first | (rw [if_pos c87]; rfl) | (rw [if_neg c87, if_pos hc60]; rfl)))
        · skip
          refine Z_aload_n C 1 d_M_send_90 rfl rfl ?_
          refine R_get C w 28 (by decide) fl_M_147 rfl rfl d_M_send_91 ?_
          refine Z_bipush (v := 60) C d_M_send_94 (by decide) ?_
          refine Z_icmp_ne (tgt := 100) C d_M_send_96 (by decide) (fun c96 => ?_) (fun c96 => ?_)
          · have hc60 : ¬ c = 60 := fun q => c96 (show N 43 28 = 60 by rw [hc, q]; rfl)
            refine Z_aload_n C 1 d_M_send_100 rfl rfl ?_
            refine R_get C w 28 (by decide) fl_M_147 rfl rfl d_M_send_101 ?_
            refine zst (st' := [.int (nI c)]) (by show [Value.int (N 43 28)] = _; rw [hc]) ?_
            refine Z_istore C d_M_send_104 (by decide) rfl ?_
            refine Z_aload_n C 2 d_M_send_106 rfl rfl ?_
            refine Z_dup C d_M_send_107 rfl ?_
            refine R_get C w 28 (by decide) fl_M_147 rfl rfl d_M_send_108 ?_
            refine Z_iconst (v := 1) C d_M_send_111 (by decide) ?_
            refine Z_iadd C d_M_send_112 ?_
            refine R_put C w 28 (by decide) fl_M_147 rfl rfl rfl rfl rfl d_M_send_113 ?_
            refine Z_aload_n C 2 d_M_send_116 rfl rfl ?_
            refine R_get C w 29 (by decide) fl_M_89 rfl rfl d_M_send_117 ?_
            refine Z_iload C 0 d_M_send_120 rfl ?_
            refine Z_aload_n C 2 d_M_send_122 rfl rfl ?_
            refine R_get C w 1 (by decide) fl_M_150 rfl rfl d_M_send_123 ?_
            refine Z_aload_n C 2 d_M_send_126 rfl rfl ?_
            refine Z_iload_n C 3 d_M_send_127 rfl rfl ?_
            refine Z_bipush (v := 6) C d_M_send_128 (by decide) ?_
            refine C_cMv C w mi_M_is ml_M_143 (c_M_is w _ r 6 (by assumption) (by decide)) rfl rfl (by decide) rfl (Nat.le_of_ble_eq_true rfl) d_M_send_130 ?_
            refine Z_iadd C d_M_send_133 ?_
            refine R_st 29 C w rfl rfl c (nI_clamp (by omega)) (vp_in_nI (n := c) (N := 60) (by omega) (by decide)) d_M_send_134 ?_
            refine Z_aload_n C 2 d_M_send_135 rfl rfl ?_
            refine R_get C w 30 (by decide) fl_M_92 rfl rfl d_M_send_136 ?_
            refine Z_iload C 0 d_M_send_139 rfl ?_
            refine Z_iload_n C 4 d_M_send_141 rfl rfl ?_
            refine R_st 30 C w rfl rfl c (nI_clamp (by omega)) (vp_in_nI (n := c) (N := 60) (by omega) (by decide)) d_M_send_142 ?_
            refine Z_aload_n C 2 d_M_send_143 rfl rfl ?_
            refine R_get C w 31 (by decide) fl_M_95 rfl rfl d_M_send_144 ?_
            refine Z_iload C 0 d_M_send_147 rfl ?_
            refine Z_iload_n C 5 d_M_send_149 rfl rfl ?_
            refine R_st 31 C w rfl rfl c (nI_clamp (by omega)) (vp_in_nI (n := c) (N := 60) (by omega) (by decide)) d_M_send_150 ?_
            refine Z_aload_n C 2 d_M_send_151 rfl rfl ?_
            refine R_get C w 32 (by decide) fl_M_98 rfl rfl d_M_send_152 ?_
            refine Z_iload C 0 d_M_send_155 rfl ?_
            refine Z_iload C 6 d_M_send_157 rfl ?_
            refine R_st 32 C w rfl rfl c (nI_clamp (by omega)) (vp_in_nI (n := c) (N := 60) (by omega) (by decide)) d_M_send_159 ?_
            refine Z_aload_n C 2 d_M_send_160 rfl rfl ?_
            refine R_get C w 33 (by decide) fl_M_101 rfl rfl d_M_send_161 ?_
            refine Z_iload C 0 d_M_send_164 rfl ?_
            refine Z_aload_n C 2 d_M_send_166 rfl rfl ?_
            refine Z_iload_n C 3 d_M_send_167 rfl rfl ?_
            refine Z_iconst (v := 4) C d_M_send_168 (by decide) ?_
            refine C_cMv C w mi_M_is ml_M_143 (c_M_is w _ r 4 (by assumption) (by decide)) rfl rfl (by decide) rfl (Nat.le_of_ble_eq_true rfl) d_M_send_169 ?_
            refine R_st 33 C w rfl rfl c (nI_clamp (by omega)) (vp_in_nI (n := c) (N := 60) (by omega) (by decide)) d_M_send_172 ?_
            refine Z_aload_n C 2 d_M_send_173 rfl rfl ?_
            refine R_get C w 34 (by decide) fl_M_104 rfl rfl d_M_send_174 ?_
            refine Z_iload C 0 d_M_send_177 rfl ?_
            refine Z_iload C 1 d_M_send_179 rfl ?_
            refine R_st 34 C w rfl rfl c (nI_clamp (by omega)) (vp_in_nI (n := c) (N := 60) (by omega) (by decide)) d_M_send_181 ?_
            refine Z_aload_n C 2 d_M_send_182 rfl rfl ?_
            refine R_get C w 35 (by decide) fl_M_107 rfl rfl d_M_send_183 ?_
            refine Z_iload C 0 d_M_send_186 rfl ?_
            refine Z_aload_n C 2 d_M_send_188 rfl rfl ?_
            refine R_get C w 38 (by decide) fl_M_136 rfl rfl d_M_send_189 ?_
            refine R_st 35 C w rfl rfl c (nI_clamp (by omega)) (vp_in_nI (n := c) (N := 60) (by omega) (by decide)) d_M_send_192 ?_
            refine Z_iconst (v := 0) C d_M_send_193 (by decide) ?_
            refine Z_istore C d_M_send_194 (by decide) rfl ?_
            have hsz3 : ms3 (ms2 N r s) r what s g c (mWhere (ms2 N r s) r g) 43 38 = nI z := by unfold ms3 ms2 ms1; simp [u2, upd, hsz]
            have hlp : ∀ (n k : Nat) (N1 : zR), k + n = z → N1 43 38 = nI z → mcL c n k N1 = mcL c z 0 (ms3 (ms2 N r s) r what s g c (mWhere (ms2 N r s) r g)) → Z X G (zA G) 8 (zQ X G none (eR U (mSend N r what s g c z))) (eR U N1) 196 [(7, .int (nI k)), (6, .int (nI c)), (5, .int (mWhere (ms2 N r s) r g)), (0, .ref (U.1 43)), (1, .int (nI r)), (2, .int what), (3, .int (nI s)), (4, .int (nI g))] [] := by
              intro n
              induction n with
              | zero =>
                intro k N1 h1 h2 h3
                refine Z_iload C 0 d_M_send_196 rfl ?_
                refine Z_aload_n C 3 d_M_send_198 rfl rfl ?_
                refine R_get C w 38 (by decide) fl_M_136 rfl rfl d_M_send_199 ?_
                refine Z_icmp_ge (tgt := 231) C d_M_send_202 (by decide) (fun c202 => ?_) (fun c202 => ?_)
                · skip
                  exact Z_vret C hN hr d_M_send_231 rfl (zeq (by apply eR_N; unfold mSend; rw [if_neg (not_not_intro c19), if_neg c87, if_neg hc60, ← h3]; rfl))
                · rw [h2] at c202
                  exact absurd (nI_le (by omega) (by omega)) c202 --stop
              | succ n ih =>
                intro k N1 h1 h2 h3
                refine Z_iload C 0 d_M_send_196 rfl ?_
                refine Z_aload_n C 3 d_M_send_198 rfl rfl ?_
                refine R_get C w 38 (by decide) fl_M_136 rfl rfl d_M_send_199 ?_
                refine Z_icmp_ge (tgt := 231) C d_M_send_202 (by decide) (fun c202 => ?_) (fun c202 => ?_)
                · rw [h2] at c202
                  exact absurd c202 (nI_ge (a := k) (b := z) (by omega) (by omega)) --stop
                · skip
                  refine Z_aload_n C 3 d_M_send_205 rfl rfl ?_
                  refine R_get C w 36 (by decide) fl_M_110 rfl rfl d_M_send_206 ?_
                  refine Z_bipush (v := 40) C d_M_send_209 (by decide) ?_
                  refine Z_iload C 1 d_M_send_211 rfl ?_
                  refine Z_imul C d_M_send_213 ?_
                  refine Z_iload C 0 d_M_send_214 rfl ?_
                  refine Z_iadd C d_M_send_216 ?_
                  refine Z_aload_n C 3 d_M_send_217 rfl rfl ?_
                  refine R_get C w 37 (by decide) fl_M_113 rfl rfl d_M_send_218 ?_
                  refine Z_iload C 0 d_M_send_221 rfl ?_
                  refine R_ld 37 C w rfl rfl k (nI_clamp (by omega)) (vp_in_nI (n := k) (N := 40) (by omega) (by decide)) d_M_send_223 ?_
                  refine R_st 36 C w rfl rfl (40 * c + k) (by rw [ix40]; exact nI_clamp (by omega)) (by rw [ix40]; exact vp_in_nI (n := 40 * c + k) (N := 2400) (by omega) (by decide)) d_M_send_224 ?_
                  refine Z_iinc 0 C d_M_send_225 rfl (nI_1 k) (by decide) rfl ?_
                  refine Z_goto (tgt := 196) C d_M_send_228 (by decide) ?_
                  exact ih (k + 1) _ (by omega) (by rw [u2_ne (by decide)]; exact h2) h3
            exact hlp z 0 _ (by omega) hsz3 rfl
          · have hc60 : c = 60 := c60 hcl (show nI c = 60 by rw [← hc]; exact c96)
            exact Z_vret C hN hr d_M_send_99 rfl (zeq (by apply eR_N; unfold mSend; rw [if_neg (not_not_intro c19)]; first | (rw [if_pos c87]; rfl) | (rw [if_neg c87, if_pos hc60]; rfl)))
  · have c19 : ¬ (ms1 N r 2 (10 * r + 7) &&& 1) = 0 := c19
    exact Z_vret C hN hr d_M_send_22 rfl (zeq (by apply eR_N; unfold mSend; rw [if_pos c19]; rfl))

