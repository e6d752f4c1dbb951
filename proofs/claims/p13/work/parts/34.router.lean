theorem rk_2_3 {M : zM} {i j a b : Nat} {q : Nat → Int32} : rw4 M 2 i j q 3 a b = M 3 a b := rfl
theorem rk_2_5 {M : zM} {i j a b : Nat} {q : Nat → Int32} : rw4 M 2 i j q 5 a b = M 5 a b := rfl
theorem rk_2_6 {M : zM} {i j a b : Nat} {q : Nat → Int32} : rw4 M 2 i j q 6 a b = M 6 a b := rfl
theorem rk_2_7 {M : zM} {i j a b : Nat} {q : Nat → Int32} : rw4 M 2 i j q 7 a b = M 7 a b := rfl
theorem rk_2_9 {M : zM} {i j a b : Nat} {q : Nat → Int32} : rw4 M 2 i j q 9 a b = M 9 a b := rfl
theorem rk_2_10 {M : zM} {i j a b : Nat} {q : Nat → Int32} : rw4 M 2 i j q 10 a b = M 10 a b := rfl
theorem rk_3_2 {M : zM} {i j a b : Nat} {q : Nat → Int32} : rw4 M 3 i j q 2 a b = M 2 a b := rfl
theorem rk_3_5 {M : zM} {i j a b : Nat} {q : Nat → Int32} : rw4 M 3 i j q 5 a b = M 5 a b := rfl
theorem rk_3_6 {M : zM} {i j a b : Nat} {q : Nat → Int32} : rw4 M 3 i j q 6 a b = M 6 a b := rfl
theorem rk_3_7 {M : zM} {i j a b : Nat} {q : Nat → Int32} : rw4 M 3 i j q 7 a b = M 7 a b := rfl
theorem rk_3_9 {M : zM} {i j a b : Nat} {q : Nat → Int32} : rw4 M 3 i j q 9 a b = M 9 a b := rfl
theorem rk_3_10 {M : zM} {i j a b : Nat} {q : Nat → Int32} : rw4 M 3 i j q 10 a b = M 10 a b := rfl
theorem rk_5_2 {M : zM} {i j a b : Nat} {q : Nat → Int32} : rw4 M 5 i j q 2 a b = M 2 a b := rfl
theorem rk_5_3 {M : zM} {i j a b : Nat} {q : Nat → Int32} : rw4 M 5 i j q 3 a b = M 3 a b := rfl
theorem rk_5_6 {M : zM} {i j a b : Nat} {q : Nat → Int32} : rw4 M 5 i j q 6 a b = M 6 a b := rfl
theorem rk_5_7 {M : zM} {i j a b : Nat} {q : Nat → Int32} : rw4 M 5 i j q 7 a b = M 7 a b := rfl
theorem rk_5_9 {M : zM} {i j a b : Nat} {q : Nat → Int32} : rw4 M 5 i j q 9 a b = M 9 a b := rfl
theorem rk_5_10 {M : zM} {i j a b : Nat} {q : Nat → Int32} : rw4 M 5 i j q 10 a b = M 10 a b := rfl
theorem rk_6_2 {M : zM} {i j a b : Nat} {q : Nat → Int32} : rw4 M 6 i j q 2 a b = M 2 a b := rfl
theorem rk_6_3 {M : zM} {i j a b : Nat} {q : Nat → Int32} : rw4 M 6 i j q 3 a b = M 3 a b := rfl
theorem rk_6_5 {M : zM} {i j a b : Nat} {q : Nat → Int32} : rw4 M 6 i j q 5 a b = M 5 a b := rfl
theorem rk_6_7 {M : zM} {i j a b : Nat} {q : Nat → Int32} : rw4 M 6 i j q 7 a b = M 7 a b := rfl
theorem rk_6_9 {M : zM} {i j a b : Nat} {q : Nat → Int32} : rw4 M 6 i j q 9 a b = M 9 a b := rfl
theorem rk_6_10 {M : zM} {i j a b : Nat} {q : Nat → Int32} : rw4 M 6 i j q 10 a b = M 10 a b := rfl
theorem rk_7_2 {M : zM} {i j a b : Nat} {q : Nat → Int32} : rw4 M 7 i j q 2 a b = M 2 a b := rfl
theorem rk_7_3 {M : zM} {i j a b : Nat} {q : Nat → Int32} : rw4 M 7 i j q 3 a b = M 3 a b := rfl
theorem rk_7_5 {M : zM} {i j a b : Nat} {q : Nat → Int32} : rw4 M 7 i j q 5 a b = M 5 a b := rfl
theorem rk_7_6 {M : zM} {i j a b : Nat} {q : Nat → Int32} : rw4 M 7 i j q 6 a b = M 6 a b := rfl
theorem rk_7_9 {M : zM} {i j a b : Nat} {q : Nat → Int32} : rw4 M 7 i j q 9 a b = M 9 a b := rfl
theorem rk_7_10 {M : zM} {i j a b : Nat} {q : Nat → Int32} : rw4 M 7 i j q 10 a b = M 10 a b := rfl
theorem rk_9_2 {M : zM} {i j a b : Nat} {q : Nat → Int32} : rw4 M 9 i j q 2 a b = M 2 a b := rfl
theorem rk_9_3 {M : zM} {i j a b : Nat} {q : Nat → Int32} : rw4 M 9 i j q 3 a b = M 3 a b := rfl
theorem rk_9_5 {M : zM} {i j a b : Nat} {q : Nat → Int32} : rw4 M 9 i j q 5 a b = M 5 a b := rfl
theorem rk_9_6 {M : zM} {i j a b : Nat} {q : Nat → Int32} : rw4 M 9 i j q 6 a b = M 6 a b := rfl
theorem rk_9_7 {M : zM} {i j a b : Nat} {q : Nat → Int32} : rw4 M 9 i j q 7 a b = M 7 a b := rfl
theorem rk_9_10 {M : zM} {i j a b : Nat} {q : Nat → Int32} : rw4 M 9 i j q 10 a b = M 10 a b := rfl
theorem rk_10_2 {M : zM} {i j a b : Nat} {q : Nat → Int32} : rw4 M 10 i j q 2 a b = M 2 a b := rfl
theorem rk_10_3 {M : zM} {i j a b : Nat} {q : Nat → Int32} : rw4 M 10 i j q 3 a b = M 3 a b := rfl
theorem rk_10_5 {M : zM} {i j a b : Nat} {q : Nat → Int32} : rw4 M 10 i j q 5 a b = M 5 a b := rfl
theorem rk_10_6 {M : zM} {i j a b : Nat} {q : Nat → Int32} : rw4 M 10 i j q 6 a b = M 6 a b := rfl
theorem rk_10_7 {M : zM} {i j a b : Nat} {q : Nat → Int32} : rw4 M 10 i j q 7 a b = M 7 a b := rfl
theorem rk_10_9 {M : zM} {i j a b : Nat} {q : Nat → Int32} : rw4 M 10 i j q 9 a b = M 9 a b := rfl
theorem zKk {X : zX} {G : zG} {A : Nat → Prop} {nL : Nat} {Q : State → Prop} {K K' : zK} {pc : Nat} {lv : List (Nat × Value)} {st : List Value} (h : ∀ f, K f → K' f) (k : Z X G A nL Q K' pc lv st) : Z X G A nL Q K pc lv st := fun f H locs ls hf hP hS hl => k f H locs ls (h f hf) hP hS hl
theorem Z_lcmp {X : zX} {G : zG} {A : Nat → Prop} {nL : Nat} {Q : State → Prop} {K : zK} {pc : Nat} {lv : List (Nat × Value)} {st : List Value} {cc : ByteArray} {own : String} {fr lo : Nat} {x y : Int64} (C : zC X G A cc nL own fr lo) (hd : decode cc pc = .ok (.lcmp, 1)) (k : Z X G A nL Q K (pc + 1) lv (.int (lg_cmp x y) :: st)) : Z X G A nL Q K pc lv (.long y :: .long x :: st) := fun f H locs ls hf hP hS hl => W.lcmp C.1.1 C.1.2.1 hd (k f H locs ls hf hP hS hl)
theorem rw4_k {M : zM} {κ i j κ' a b : Nat} {q : Nat → Int32} (h : κ' ≠ κ) : rw4 M κ i j q κ' a b = M κ' a b := rw4_ne (fun z => h z.1)
/-! THE ROUTER, part A: what it reads -/
def rTell (M : zM) (i : Nat) (x : Int32) : Int32 := if x = 0 then M 2 i 0 4 else if x = 1 then M 2 i 0 5 else if x = 2 then (if M 2 i 0 4 = 0 then 0 else rWeighed M i) else if x = 3 then M 2 i 0 6 else if x = 4 then M 2 i 0 7 else if x = 5 then M 2 i 0 8 else if x = 6 then M 2 i 0 9 else if x = 7 then M 2 i 0 10 else -1
def rSkew (M : zM) (i : Nat) : Int32 := (256 - rWeighed M i) * M 2 i 0 6 / 256
def rBackup (M : zM) (i : Nat) : zM := up (up M 2 i 0 5 (3 * M 2 i 0 6 + rSkew M i)) 2 i 0 4 1
def rMinds (M : zM) (i k : Nat) : Int32 := if M 2 i 0 4 = 0 then 0 else if ¬ (M 3 i 0 7 &&& 2) = 0 then 0 else if M 9 k 0 4 = 15 then 1 else if M 9 k 0 4 = nI i then 1 else if ¬ M 9 k 0 4 = 9 then 0 else if M 2 i 0 4 = 2 then 1 else 0
abbrev by_ (M : zM) (k : Nat) (x : Int32) : Int32 := fByte (M 9 k 0) (M 10 k 0) x
abbrev fo_ (M : zM) (k : Nat) (x : Int32) : Int32 := fFour (M 9 k 0) (M 10 k 0) x
def rFor (M : zM) (i k : Nat) : Int32 := if ¬ M 9 k 0 6 = 255 then 0 else if ¬ M 9 k 0 1 = 12 then 0 else if ¬ by_ M k 0 = 49 then 0 else if ¬ by_ M k 1 = M 3 i 0 3 then 0 else if ¬ by_ M k 3 = 1 then 0 else if ¬ fo_ M k 8 = M 3 i 0 5 then 0 else if ¬ fSum (M 9 k 0) (M 10 k 0) = 65535 then 0 else if M 3 i 0 0 = 255 then 0 else 1
def rIvl (M : zM) (k : Nat) : Int32 := imx 1 (fTwo (M 9 k 0) (M 10 k 0) 4 &&& 4095)
def rAbove (a b : Int32) : Int32 := if lg_cmp (a.toInt64 &&& 4294967295) (b.toInt64 &&& 4294967295) ≤ 0 then 0 else 1
def rWhole (M : zM) (k : Nat) : Int32 := if ¬ M 9 k 0 6 = 255 then 0 else if M 9 k 0 1 < 24 then 0 else if by_ M k 0 < 32 then 0 else if 63 < by_ M k 0 then 0 else if by_ M k 3 < 24 then 0 else if M 9 k 0 1 < by_ M k 3 then 0 else if by_ M k 2 = 0 then 0 else if ¬ (by_ M k 1 &&& 5) = 0 then 0 else if fo_ M k 4 = 0 then 0 else 1
def rFirst (M : zM) (k : Nat) : Int32 := if ¬ fo_ M k 8 = 0 then 0 else if 1 < by_ M k 1 / 64 then 0 else 1
def rMeant (M : zM) (i k : Nat) : Nat → Nat → Option Nat
  | 0, _ => none
  | n + 1, s => if M 5 i s 2 = 0 then rMeant M i k n (s + 1) else if nI (16 * i + s + 1) = fo_ M k 8 then some s else if rFirst M k = 0 then rMeant M i k n (s + 1) else if nI s = M 9 k 0 3 then some s else rMeant M i k n (s + 1)
def gone (M : zM) (i : Nat) : Nat → zM
  | 0 => M
  | n + 1 => up (gone M i n) 5 i n 2 0
def rForget (M : zM) (i : Nat) : zM := gone (up (up (up M 2 i 0 4 0) 2 i 0 5 0) 2 i 0 6 0) i 5
/-- a session learns from a packet: its row q, the packet's row p and bytes b -/
def sLearn1 (q p b : Nat → Int32) : Nat → Int32 := upd (upd (upd (upd (upd q 5 (sTold (fFour p b 4))) 4 (fByte p b 1 / 64)) 12 (fByte p b 2)) 11 (sTold (fFour p b 12))) 10 (sTold (fFour p b 16))
def sLearn2 (q p b : Nat → Int32) : Nat → Int32 := if sLearn1 q p b 13 = 0 then sLearn1 q p b else if fByte p b 1 &&& 16 = 0 then sLearn1 q p b else sUse (upd (sLearn1 q p b) 13 0)
def sLearn (q p b : Nat → Int32) : Nat → Int32 := sFollow (upd (sLearn2 q p b) 17 (imn 10000000 (sLearn2 q p b 12 * imx (sLearn2 q p b 15) (sLearn2 q p b 11))))
def sChanged (q p b : Nat → Int32) : Int32 := if ¬ sLearn q p b 10 = q 10 then 1 else if sLearn q p b 3 = q 3 then 0 else 1
set_option maxRecDepth 100000 in
set_option maxHeartbeats 4000000 in
theorem c_R_skew {l : Launch} {G : zG} {V : zV} (w : wC G V) (M : zM) (P : Nat → Nat) (D : Nat × Nat) (i : Nat) (hi : i < 5) : zF l y_R_skew b_R_skew 1 (some .int) 1 22 G [.ref (V.1 2 i 0)] (eC V M P D) (some (.int (rSkew M i))) (eC V M P D) := by
  refine zF.ofZ (by decide) w.2.2.2.2 (Nat.le_of_ble_eq_true rfl) (fun X hXl hN hr C => ?_)
  subst hXl
  show Z X G (zA G) 1 _ (eC V M P D) 0 [(0, .ref (V.1 2 i 0))] []
  refine Z_sipush (v := 256) C d_R_skew_0 (by decide) ?_
  refine Z_aload_n C 0 d_R_skew_3 rfl rfl ?_
  refine C_cRv C w (by assumption) mi_R_weighed ml_R_40 (c_R_weighed w _ _ _ _ (by assumption)) rfl rfl (by decide) rfl (Nat.le_of_ble_eq_true rfl) d_R_skew_4 ?_
  refine Z_isub C d_R_skew_7 ?_
  refine Z_aload_n C 0 d_R_skew_8 rfl rfl ?_
  refine C_gR C w (by assumption) 6 (by decide) fl_R_44 rfl rfl d_R_skew_9 ?_
  refine Z_imul C d_R_skew_12 ?_
  refine Z_sipush (v := 256) C d_R_skew_13 (by decide) ?_
  refine Z_idiv C d_R_skew_16 (by decide) ?_
  exact Z_iret C hN hr d_R_skew_17 (rfl) (zeq (rfl))
set_option maxRecDepth 100000 in
set_option maxHeartbeats 4000000 in
theorem c_R_tell {l : Launch} {G : zG} {V : zV} (w : wC G V) (M : zM) (P : Nat → Nat) (D : Nat × Nat) (i : Nat) (hi : i < 5) (x : Int32) : zF l y_R_tell b_R_tell 2 (some .int) 1 22 G [.ref (V.1 2 i 0), .int x] (eC V M P D) (some (.int (rTell M i x))) (eC V M P D) := by
  refine zF.ofZ (by decide) w.2.2.2.2 (Nat.le_of_ble_eq_true rfl) (fun X hXl hN hr C => ?_)
  subst hXl
  show Z X G (zA G) 2 _ (eC V M P D) 0 [(0, .ref (V.1 2 i 0)), (1, .int x)] []
  refine Z_iload_n C 1 d_R_tell_0 rfl rfl ?_
  refine Z_tsw C d_R_tell_1 [(0, 48), (1, 53), (2, 58), (3, 74), (4, 79), (5, 84), (6, 89), (7, 94)] 99 (by decide +kernel) (by decide +kernel) (by decide) ?_ ?_
  · simp only [List.forall_mem_cons]
    refine ⟨fun c1 => ?_, fun c1 => ?_, fun c1 => ?_, fun c1 => ?_, fun c1 => ?_, fun c1 => ?_, fun c1 => ?_, fun c1 => ?_, fun _ h => absurd h List.not_mem_nil⟩
    · skip
      refine Z_aload_n C 0 d_R_tell_48 rfl rfl ?_
      refine C_gR C w (by assumption) 4 (by decide) fl_R_34 rfl rfl d_R_tell_49 ?_
      exact Z_iret C hN hr d_R_tell_52 (by simp [rTell, c1]) (zeq (rfl))
    · skip
      refine Z_aload_n C 0 d_R_tell_53 rfl rfl ?_
      refine C_gR C w (by assumption) 5 (by decide) fl_R_37 rfl rfl d_R_tell_54 ?_
      exact Z_iret C hN hr d_R_tell_57 (by simp [rTell, c1]) (zeq (rfl))
    · skip
      refine Z_aload_n C 0 d_R_tell_58 rfl rfl ?_
      refine C_gR C w (by assumption) 4 (by decide) fl_R_34 rfl rfl d_R_tell_59 ?_
      refine Z_if_ne (tgt := 69) C d_R_tell_62 (by decide) (fun c62 => ?_) (fun c62 => ?_)
      · skip
        refine Z_aload_n C 0 d_R_tell_69 rfl rfl ?_
        refine C_cRv C w (by assumption) mi_R_weighed ml_R_40 (c_R_weighed w _ _ _ _ (by assumption)) rfl rfl (by decide) rfl (Nat.le_of_ble_eq_true rfl) d_R_tell_70 ?_
        exact Z_iret C hN hr d_R_tell_73 (by simp [rTell, c1, c62]) (zeq (rfl))
      · skip
        refine Z_iconst (v := 0) C d_R_tell_65 (by decide) ?_
        refine Z_goto (tgt := 73) C d_R_tell_66 (by decide) ?_
        exact Z_iret C hN hr d_R_tell_73 (by simp [rTell, c1, c62]) (zeq (rfl))
    · skip
      refine Z_aload_n C 0 d_R_tell_74 rfl rfl ?_
      refine C_gR C w (by assumption) 6 (by decide) fl_R_44 rfl rfl d_R_tell_75 ?_
      exact Z_iret C hN hr d_R_tell_78 (by simp [rTell, c1]) (zeq (rfl))
    · skip
      refine Z_aload_n C 0 d_R_tell_79 rfl rfl ?_
      refine C_gR C w (by assumption) 7 (by decide) fl_R_47 rfl rfl d_R_tell_80 ?_
      exact Z_iret C hN hr d_R_tell_83 (by simp [rTell, c1]) (zeq (rfl))
    · skip
      refine Z_aload_n C 0 d_R_tell_84 rfl rfl ?_
      refine C_gR C w (by assumption) 8 (by decide) fl_R_50 rfl rfl d_R_tell_85 ?_
      exact Z_iret C hN hr d_R_tell_88 (by simp [rTell, c1]) (zeq (rfl))
    · skip
      refine Z_aload_n C 0 d_R_tell_89 rfl rfl ?_
      refine C_gR C w (by assumption) 9 (by decide) fl_R_53 rfl rfl d_R_tell_90 ?_
      exact Z_iret C hN hr d_R_tell_93 (by simp [rTell, c1]) (zeq (rfl))
    · skip
      refine Z_aload_n C 0 d_R_tell_94 rfl rfl ?_
      refine C_gR C w (by assumption) 10 (by decide) fl_R_56 rfl rfl d_R_tell_95 ?_
      exact Z_iret C hN hr d_R_tell_98 (by simp [rTell, c1]) (zeq (rfl))
  · intro c1
    simp only [List.forall_mem_cons] at c1
    refine Z_iconst (v := (-1)) C d_R_tell_99 (by decide) ?_
    exact Z_iret C hN hr d_R_tell_100 (by simp [rTell, c1]) (zeq (rfl))
set_option maxRecDepth 100000 in
set_option maxHeartbeats 4000000 in
theorem c_R_becomeBackup {l : Launch} {G : zG} {V : zV} (w : wC G V) (M : zM) (P : Nat → Nat) (D : Nat × Nat) (i : Nat) (hi : i < 5) : zF l y_R_becomeBackup b_R_becomeBackup 1 none 2 42 G [.ref (V.1 2 i 0)] (eC V M P D) none (eC V (rBackup M i) P D) := by
  refine zF.ofZ (by decide) w.2.2.2.2 (Nat.le_of_ble_eq_true rfl) (fun X hXl hN hr C => ?_)
  subst hXl
  show Z X G (zA G) 1 _ (eC V M P D) 0 [(0, .ref (V.1 2 i 0))] []
  refine Z_aload_n C 0 d_R_becomeBackup_0 rfl rfl ?_
  refine Z_iconst (v := 3) C d_R_becomeBackup_1 (by decide) ?_
  refine Z_aload_n C 0 d_R_becomeBackup_2 rfl rfl ?_
  refine C_gR C w (by assumption) 6 (by decide) fl_R_44 rfl rfl d_R_becomeBackup_3 ?_
  refine Z_imul C d_R_becomeBackup_6 ?_
  refine Z_aload_n C 0 d_R_becomeBackup_7 rfl rfl ?_
  refine C_cRv C w (by assumption) mi_R_skew ml_R_78 (c_R_skew w _ _ _ _ (by assumption)) rfl rfl (by decide) rfl (Nat.le_of_ble_eq_true rfl) d_R_becomeBackup_8 ?_
  refine Z_iadd C d_R_becomeBackup_11 ?_
  refine C_pR C w (by assumption) 5 (by decide) fl_R_37 rfl rfl rfl rfl rfl d_R_becomeBackup_12 ?_
  refine Z_aload_n C 0 d_R_becomeBackup_15 rfl rfl ?_
  refine Z_iconst (v := 1) C d_R_becomeBackup_16 (by decide) ?_
  refine C_pR C w (by assumption) 4 (by decide) fl_R_34 rfl rfl rfl rfl rfl d_R_becomeBackup_17 ?_
  exact Z_vret C hN hr d_R_becomeBackup_20 rfl (zeq (rfl))
set_option maxRecDepth 100000 in
set_option maxHeartbeats 4000000 in
theorem c_R_minds {l : Launch} {G : zG} {V : zV} (w : wC G V) (M : zM) (P : Nat → Nat) (D : Nat × Nat) (i : Nat) (hi : i < 5) (k : Nat) (hk : k < 63) : zF l y_R_minds b_R_minds 2 (some .boolean) 0 0 G [.ref (V.1 2 i 0), .ref (V.1 9 k 0)] (eC V M P D) (some (.int (rMinds M i k))) (eC V M P D) := by
  refine zF.ofZ (by decide) w.2.2.2.2 (Nat.le_of_ble_eq_true rfl) (fun X hXl hN hr C => ?_)
  subst hXl
  show Z X G (zA G) 2 _ (eC V M P D) 0 [(0, .ref (V.1 2 i 0)), (1, .ref (V.1 9 k 0))] []
  refine Z_aload_n C 0 d_R_minds_0 rfl rfl ?_
  refine C_gR C w (by assumption) 4 (by decide) fl_R_34 rfl rfl d_R_minds_1 ?_
  refine Z_if_eq (tgt := 19) C d_R_minds_4 (by decide) (fun c4 => ?_) (fun c4 => ?_)
  · skip
    refine Z_iconst (v := 0) C d_R_minds_19 (by decide) ?_
    exact Z_zret C hN hr (by decide) d_R_minds_20 (by first | (simp [rMinds, c4]; done) | (simp [rMinds, c4]; intro h; exact absurd (c47.trans h) c38)) (zeq (rfl))
  · skip
    refine Z_aload_n C 0 d_R_minds_7 rfl rfl ?_
    refine C_gR C w (by assumption) 2 (by decide) fl_R_21 rfl rfl d_R_minds_8 ?_
    refine Z_bipush (v := 7) C d_R_minds_11 (by decide) ?_
    refine C_ldG C w (by assumption) 7 (by decide) (by unfold vp_in; decide) d_R_minds_13 ?_
    refine Z_iconst (v := 2) C d_R_minds_14 (by decide) ?_
    refine Z_iand C d_R_minds_15 ?_
    refine Z_if_eq (tgt := 21) C d_R_minds_16 (by decide) (fun c16 => ?_) (fun c16 => ?_)
    · skip
      refine Z_aload_n C 1 d_R_minds_21 rfl rfl ?_
      refine C_gF C w (by assumption) 4 (by decide) fl_R_130 rfl rfl d_R_minds_22 ?_
      refine Z_bipush (v := 15) C d_R_minds_25 (by decide) ?_
      refine Z_icmp_eq (tgt := 58) C d_R_minds_27 (by decide) (fun c27 => ?_) (fun c27 => ?_)
      · skip
        refine Z_iconst (v := 1) C d_R_minds_58 (by decide) ?_
        refine Z_goto (tgt := 63) C d_R_minds_59 (by decide) ?_
        exact Z_zret C hN hr (by decide) d_R_minds_63 (by first | (simp [rMinds, c4, c16, c27]; done) | (simp [rMinds, c4, c16, c27]; intro h; exact absurd (c47.trans h) c38)) (zeq (rfl))
      · skip
        refine Z_aload_n C 1 d_R_minds_30 rfl rfl ?_
        refine C_gF C w (by assumption) 4 (by decide) fl_R_130 rfl rfl d_R_minds_31 ?_
        refine Z_aload_n C 0 d_R_minds_34 rfl rfl ?_
        refine C_gR C w (by assumption) 0 (by decide) fl_R_9 rfl rfl d_R_minds_35 ?_
        refine Z_icmp_eq (tgt := 58) C d_R_minds_38 (by decide) (fun c38 => ?_) (fun c38 => ?_)
        · skip
          refine Z_iconst (v := 1) C d_R_minds_58 (by decide) ?_
          refine Z_goto (tgt := 63) C d_R_minds_59 (by decide) ?_
          exact Z_zret C hN hr (by decide) d_R_minds_63 (by first | (simp [rMinds, c4, c16, c27, c38]; done) | (simp [rMinds, c4, c16, c27, c38]; intro h; exact absurd (c47.trans h) c38)) (zeq (rfl))
        · skip
          refine Z_aload_n C 1 d_R_minds_41 rfl rfl ?_
          refine C_gF C w (by assumption) 4 (by decide) fl_R_130 rfl rfl d_R_minds_42 ?_
          refine Z_bipush (v := 9) C d_R_minds_45 (by decide) ?_
          refine Z_icmp_ne (tgt := 62) C d_R_minds_47 (by decide) (fun c47 => ?_) (fun c47 => ?_)
          · skip
            refine Z_iconst (v := 0) C d_R_minds_62 (by decide) ?_
            exact Z_zret C hN hr (by decide) d_R_minds_63 (by first | (simp [rMinds, c4, c16, c27, c38, c47]; done) | (simp [rMinds, c4, c16, c27, c38, c47]; intro h; exact absurd (c47.trans h) c38)) (zeq (rfl))
          · skip
            refine Z_aload_n C 0 d_R_minds_50 rfl rfl ?_
            refine C_gR C w (by assumption) 4 (by decide) fl_R_34 rfl rfl d_R_minds_51 ?_
            refine Z_iconst (v := 2) C d_R_minds_54 (by decide) ?_
            refine Z_icmp_ne (tgt := 62) C d_R_minds_55 (by decide) (fun c55 => ?_) (fun c55 => ?_)
            · skip
              refine Z_iconst (v := 0) C d_R_minds_62 (by decide) ?_
              exact Z_zret C hN hr (by decide) d_R_minds_63 (by first | (simp [rMinds, c4, c16, c27, c38, c47, c55]; done) | (simp [rMinds, c4, c16, c27, c38, c47, c55]; intro h; exact absurd (c47.trans h) c38)) (zeq (rfl))
            · skip
              refine Z_iconst (v := 1) C d_R_minds_58 (by decide) ?_
              refine Z_goto (tgt := 63) C d_R_minds_59 (by decide) ?_
              exact Z_zret C hN hr (by decide) d_R_minds_63 (by first | (simp [rMinds, c4, c16, c27, c38, c47, c55]; done) | (simp [rMinds, c4, c16, c27, c38, c47, c55]; intro h; exact absurd (c47.trans h) c38)) (zeq (rfl))
    · skip
      refine Z_iconst (v := 0) C d_R_minds_19 (by decide) ?_
      exact Z_zret C hN hr (by decide) d_R_minds_20 (by first | (simp [rMinds, c4, c16]; done) | (simp [rMinds, c4, c16]; intro h; exact absurd (c47.trans h) c38)) (zeq (rfl))
set_option maxRecDepth 100000 in
set_option maxHeartbeats 4000000 in
theorem c_R_isForUs {l : Launch} {G : zG} {V : zV} (w : wC G V) (M : zM) (P : Nat → Nat) (D : Nat × Nat) (i : Nat) (hi : i < 5) (k : Nat) (hk : k < 63) : zF l y_R_isForUs b_R_isForUs 2 (some .boolean) 2 42 G [.ref (V.1 2 i 0), .ref (V.1 9 k 0)] (eC V M P D) (some (.int (rFor M i k))) (eC V M P D) := by
  refine zF.ofZ (by decide) w.2.2.2.2 (Nat.le_of_ble_eq_true rfl) (fun X hXl hN hr C => ?_)
  subst hXl
  show Z X G (zA G) 2 _ (eC V M P D) 0 [(0, .ref (V.1 2 i 0)), (1, .ref (V.1 9 k 0))] []
  refine Z_aload_n C 1 d_R_isForUs_0 rfl rfl ?_
  refine C_gF C w (by assumption) 6 (by decide) fl_R_156 rfl rfl d_R_isForUs_1 ?_
  refine Z_sipush (v := 255) C d_R_isForUs_4 (by decide) ?_
  refine Z_icmp_ne (tgt := 92) C d_R_isForUs_7 (by decide) (fun c7 => ?_) (fun c7 => ?_)
  · skip
    refine Z_iconst (v := 0) C d_R_isForUs_92 (by decide) ?_
    exact Z_zret C hN hr (by decide) d_R_isForUs_93 (by simp [rFor, c7]) (zeq (rfl))
  · skip
    refine Z_aload_n C 1 d_R_isForUs_10 rfl rfl ?_
    refine C_gF C w (by assumption) 1 (by decide) fl_R_159 rfl rfl d_R_isForUs_11 ?_
    refine Z_bipush (v := 12) C d_R_isForUs_14 (by decide) ?_
    refine Z_icmp_ne (tgt := 92) C d_R_isForUs_16 (by decide) (fun c16 => ?_) (fun c16 => ?_)
    · skip
      refine Z_iconst (v := 0) C d_R_isForUs_92 (by decide) ?_
      exact Z_zret C hN hr (by decide) d_R_isForUs_93 (by simp [rFor, c7, c16]) (zeq (rfl))
    · skip
      refine Z_aload_n C 1 d_R_isForUs_19 rfl rfl ?_
      refine Z_iconst (v := 0) C d_R_isForUs_20 (by decide) ?_
      refine C_cFv C w (by assumption) mi_F_byteAt ml_R_162 (c_F_byteAt w _ _ _ _ (by assumption) _) rfl rfl (by decide) rfl (Nat.le_of_ble_eq_true rfl) d_R_isForUs_21 ?_
      refine Z_bipush (v := 49) C d_R_isForUs_24 (by decide) ?_
      refine Z_icmp_ne (tgt := 92) C d_R_isForUs_26 (by decide) (fun c26 => ?_) (fun c26 => ?_)
      · skip
        refine Z_iconst (v := 0) C d_R_isForUs_92 (by decide) ?_
        exact Z_zret C hN hr (by decide) d_R_isForUs_93 (by simp [rFor, c7, c16, c26]) (zeq (rfl))
      · skip
        refine Z_aload_n C 1 d_R_isForUs_29 rfl rfl ?_
        refine Z_iconst (v := 1) C d_R_isForUs_30 (by decide) ?_
        refine C_cFv C w (by assumption) mi_F_byteAt ml_R_162 (c_F_byteAt w _ _ _ _ (by assumption) _) rfl rfl (by decide) rfl (Nat.le_of_ble_eq_true rfl) d_R_isForUs_31 ?_
        refine Z_aload_n C 0 d_R_isForUs_34 rfl rfl ?_
        refine C_gR C w (by assumption) 2 (by decide) fl_R_21 rfl rfl d_R_isForUs_35 ?_
        refine Z_iconst (v := 3) C d_R_isForUs_38 (by decide) ?_
        refine C_ldG C w (by assumption) 3 (by decide) (by unfold vp_in; decide) d_R_isForUs_39 ?_
        refine Z_icmp_ne (tgt := 92) C d_R_isForUs_40 (by decide) (fun c40 => ?_) (fun c40 => ?_)
        · skip
          refine Z_iconst (v := 0) C d_R_isForUs_92 (by decide) ?_
          exact Z_zret C hN hr (by decide) d_R_isForUs_93 (by simp [rFor, c7, c16, c26, c40]) (zeq (rfl))
        · skip
          refine Z_aload_n C 1 d_R_isForUs_43 rfl rfl ?_
          refine Z_iconst (v := 3) C d_R_isForUs_44 (by decide) ?_
          refine C_cFv C w (by assumption) mi_F_byteAt ml_R_162 (c_F_byteAt w _ _ _ _ (by assumption) _) rfl rfl (by decide) rfl (Nat.le_of_ble_eq_true rfl) d_R_isForUs_45 ?_
          refine Z_iconst (v := 1) C d_R_isForUs_48 (by decide) ?_
          refine Z_icmp_ne (tgt := 92) C d_R_isForUs_49 (by decide) (fun c49 => ?_) (fun c49 => ?_)
          · skip
            refine Z_iconst (v := 0) C d_R_isForUs_92 (by decide) ?_
            exact Z_zret C hN hr (by decide) d_R_isForUs_93 (by simp [rFor, c7, c16, c26, c40, c49]) (zeq (rfl))
          · skip
            refine Z_aload_n C 1 d_R_isForUs_52 rfl rfl ?_
            refine Z_bipush (v := 8) C d_R_isForUs_53 (by decide) ?_
            refine C_cFv C w (by assumption) mi_F_fourAt ml_R_165 (c_F_fourAt w _ _ _ _ (by assumption) _) rfl rfl (by decide) rfl (Nat.le_of_ble_eq_true rfl) d_R_isForUs_55 ?_
            refine Z_aload_n C 0 d_R_isForUs_58 rfl rfl ?_
            refine C_gR C w (by assumption) 2 (by decide) fl_R_21 rfl rfl d_R_isForUs_59 ?_
            refine Z_iconst (v := 5) C d_R_isForUs_62 (by decide) ?_
            refine C_ldG C w (by assumption) 5 (by decide) (by unfold vp_in; decide) d_R_isForUs_63 ?_
            refine Z_icmp_ne (tgt := 92) C d_R_isForUs_64 (by decide) (fun c64 => ?_) (fun c64 => ?_)
            · skip
              refine Z_iconst (v := 0) C d_R_isForUs_92 (by decide) ?_
              exact Z_zret C hN hr (by decide) d_R_isForUs_93 (by simp [rFor, c7, c16, c26, c40, c49, c64]) (zeq (rfl))
            · skip
              refine Z_aload_n C 1 d_R_isForUs_67 rfl rfl ?_
              refine C_cFv C w (by assumption) mi_F_sum ml_R_168 (c_F_sum w _ _ _ _ (by assumption)) rfl rfl (by decide) rfl (Nat.le_of_ble_eq_true rfl) d_R_isForUs_68 ?_
              refine Z_ldc C co_R_171 d_R_isForUs_71 ?_
              refine Z_icmp_ne (tgt := 92) C d_R_isForUs_73 (by decide) (fun c73 => ?_) (fun c73 => ?_)
              · skip
                refine Z_iconst (v := 0) C d_R_isForUs_92 (by decide) ?_
                exact Z_zret C hN hr (by decide) d_R_isForUs_93 (by simp [rFor, c7, c16, c26, c40, c49, c64, c73]) (zeq (rfl))
              · skip
                refine Z_aload_n C 0 d_R_isForUs_76 rfl rfl ?_
                refine C_gR C w (by assumption) 2 (by decide) fl_R_21 rfl rfl d_R_isForUs_77 ?_
                refine Z_iconst (v := 0) C d_R_isForUs_80 (by decide) ?_
                refine C_ldG C w (by assumption) 0 (by decide) (by unfold vp_in; decide) d_R_isForUs_81 ?_
                refine Z_sipush (v := 255) C d_R_isForUs_82 (by decide) ?_
                refine Z_icmp_eq (tgt := 92) C d_R_isForUs_85 (by decide) (fun c85 => ?_) (fun c85 => ?_)
                · skip
                  refine Z_iconst (v := 0) C d_R_isForUs_92 (by decide) ?_
                  exact Z_zret C hN hr (by decide) d_R_isForUs_93 (by simp [rFor, c7, c16, c26, c40, c49, c64, c73, c85]) (zeq (rfl))
                · skip
                  refine Z_iconst (v := 1) C d_R_isForUs_88 (by decide) ?_
                  refine Z_goto (tgt := 93) C d_R_isForUs_89 (by decide) ?_
                  exact Z_zret C hN hr (by decide) d_R_isForUs_93 (by simp [rFor, c7, c16, c26, c40, c49, c64, c73, c85]) (zeq (rfl))
set_option maxRecDepth 100000 in
set_option maxHeartbeats 4000000 in
theorem c_R_intervalIn {l : Launch} {G : zG} {V : zV} (w : wC G V) (M : zM) (P : Nat → Nat) (D : Nat × Nat)  (k : Nat) (hk : k < 63) : zF l y_R_intervalIn b_R_intervalIn 1 (some .int) 2 42 G [.ref (V.1 9 k 0)] (eC V M P D) (some (.int (rIvl M k))) (eC V M P D) := by
  refine zF.ofZ (by decide) w.2.2.2.2 (Nat.le_of_ble_eq_true rfl) (fun X hXl hN hr C => ?_)
  subst hXl
  show Z X G (zA G) 1 _ (eC V M P D) 0 [(0, .ref (V.1 9 k 0))] []
  refine Z_iconst (v := 1) C d_R_intervalIn_0 (by decide) ?_
  refine Z_aload_n C 0 d_R_intervalIn_1 rfl rfl ?_
  refine Z_iconst (v := 4) C d_R_intervalIn_2 (by decide) ?_
  refine C_cFv C w (by assumption) mi_F_twoAt ml_R_186 (c_F_twoAt w _ _ _ _ (by assumption) _) rfl rfl (by decide) rfl (Nat.le_of_ble_eq_true rfl) d_R_intervalIn_3 ?_
  refine Z_sipush (v := 4095) C d_R_intervalIn_6 (by decide) ?_
  refine Z_iand C d_R_intervalIn_9 ?_
  refine Z_mmax C ml_R_172 mx_s ma_i mx_c ⟨Nat.le_of_ble_eq_true rfl, Nat.le_of_ble_eq_true rfl⟩ d_R_intervalIn_10 ?_
  exact Z_iret C hN hr d_R_intervalIn_13 (rfl) (zeq (rfl))
set_option maxRecDepth 100000 in
set_option maxHeartbeats 4000000 in
theorem c_R_isAbove {l : Launch} {G : zG} {V : zV} (w : wC G V) (M : zM) (P : Nat → Nat) (D : Nat × Nat) (a b : Int32) : zF l y_R_isAbove b_R_isAbove 2 (some .boolean) 0 0 G [.int a, .int b] (eC V M P D) (some (.int (rAbove a b))) (eC V M P D) := by
  refine zF.ofZ (by decide) w.2.2.2.2 (Nat.le_of_ble_eq_true rfl) (fun X hXl hN hr C => ?_)
  subst hXl
  show Z X G (zA G) 2 _ (eC V M P D) 0 [(0, .int a), (1, .int b)] []
  refine Z_iload_n C 0 d_R_isAbove_0 rfl rfl ?_
  refine Z_i2l C d_R_isAbove_1 ?_
  refine Z_ldc2 C cl_R_189 d_R_isAbove_2 ?_
  refine Z_land C d_R_isAbove_5 ?_
  refine Z_iload_n C 1 d_R_isAbove_6 rfl rfl ?_
  refine Z_i2l C d_R_isAbove_7 ?_
  refine Z_ldc2 C cl_R_189 d_R_isAbove_8 ?_
  refine Z_land C d_R_isAbove_11 ?_
  refine Z_lcmp C d_R_isAbove_12 ?_
  refine Z_if_le (tgt := 20) C d_R_isAbove_13 (by decide) (fun c13 => ?_) (fun c13 => ?_)
  · skip
    refine Z_iconst (v := 0) C d_R_isAbove_20 (by decide) ?_
    exact Z_zret C hN hr (by decide) d_R_isAbove_21 (by simp only [rAbove]; first | rw [if_pos c13] | rw [if_neg c13]) (zeq (rfl))
  · skip
    refine Z_iconst (v := 1) C d_R_isAbove_16 (by decide) ?_
    refine Z_goto (tgt := 21) C d_R_isAbove_17 (by decide) ?_
    exact Z_zret C hN hr (by decide) d_R_isAbove_21 (by simp only [rAbove]; first | rw [if_pos c13] | rw [if_neg c13]) (zeq (rfl))
set_option maxRecDepth 100000 in
set_option maxHeartbeats 4000000 in
theorem c_R_isWhole {l : Launch} {G : zG} {V : zV} (w : wC G V) (M : zM) (P : Nat → Nat) (D : Nat × Nat)  (k : Nat) (hk : k < 63) : zF l y_R_isWhole b_R_isWhole 1 (some .boolean) 2 42 G [.ref (V.1 9 k 0)] (eC V M P D) (some (.int (rWhole M k))) (eC V M P D) := by
  refine zF.ofZ (by decide) w.2.2.2.2 (Nat.le_of_ble_eq_true rfl) (fun X hXl hN hr C => ?_)
  subst hXl
  show Z X G (zA G) 1 _ (eC V M P D) 0 [(0, .ref (V.1 9 k 0))] []
  refine Z_aload_n C 0 d_R_isWhole_0 rfl rfl ?_
  refine C_gF C w (by assumption) 6 (by decide) fl_R_156 rfl rfl d_R_isWhole_1 ?_
  refine Z_sipush (v := 255) C d_R_isWhole_4 (by decide) ?_
  refine Z_icmp_ne (tgt := 91) C d_R_isWhole_7 (by decide) (fun c7 => ?_) (fun c7 => ?_)
  · skip
    refine Z_iconst (v := 0) C d_R_isWhole_91 (by decide) ?_
    exact Z_zret C hN hr (by decide) d_R_isWhole_92 (by simp [rWhole, ← Int32.not_le, c7]) (zeq (rfl))
  · skip
    refine Z_aload_n C 0 d_R_isWhole_10 rfl rfl ?_
    refine C_gF C w (by assumption) 1 (by decide) fl_R_159 rfl rfl d_R_isWhole_11 ?_
    refine Z_bipush (v := 24) C d_R_isWhole_14 (by decide) ?_
    refine Z_icmp_lt (tgt := 91) C d_R_isWhole_16 (by decide) (fun c16 => ?_) (fun c16 => ?_)
    · skip
      refine Z_iconst (v := 0) C d_R_isWhole_91 (by decide) ?_
      exact Z_zret C hN hr (by decide) d_R_isWhole_92 (by simp [rWhole, ← Int32.not_le, c7, c16]) (zeq (rfl))
    · skip
      refine Z_aload_n C 0 d_R_isWhole_19 rfl rfl ?_
      refine Z_iconst (v := 0) C d_R_isWhole_20 (by decide) ?_
      refine C_cFv C w (by assumption) mi_F_byteAt ml_R_162 (c_F_byteAt w _ _ _ _ (by assumption) _) rfl rfl (by decide) rfl (Nat.le_of_ble_eq_true rfl) d_R_isWhole_21 ?_
      refine Z_bipush (v := 32) C d_R_isWhole_24 (by decide) ?_
      refine Z_icmp_lt (tgt := 91) C d_R_isWhole_26 (by decide) (fun c26 => ?_) (fun c26 => ?_)
      · skip
        refine Z_iconst (v := 0) C d_R_isWhole_91 (by decide) ?_
        exact Z_zret C hN hr (by decide) d_R_isWhole_92 (by simp [rWhole, ← Int32.not_le, c7, c16, c26]) (zeq (rfl))
      · skip
        refine Z_aload_n C 0 d_R_isWhole_29 rfl rfl ?_
        refine Z_iconst (v := 0) C d_R_isWhole_30 (by decide) ?_
        refine C_cFv C w (by assumption) mi_F_byteAt ml_R_162 (c_F_byteAt w _ _ _ _ (by assumption) _) rfl rfl (by decide) rfl (Nat.le_of_ble_eq_true rfl) d_R_isWhole_31 ?_
        refine Z_bipush (v := 63) C d_R_isWhole_34 (by decide) ?_
        refine Z_icmp_gt (tgt := 91) C d_R_isWhole_36 (by decide) (fun c36 => ?_) (fun c36 => ?_)
        · skip
          refine Z_iconst (v := 0) C d_R_isWhole_91 (by decide) ?_
          exact Z_zret C hN hr (by decide) d_R_isWhole_92 (by simp [rWhole, ← Int32.not_le, c7, c16, c26, c36]) (zeq (rfl))
        · skip
          refine Z_aload_n C 0 d_R_isWhole_39 rfl rfl ?_
          refine Z_iconst (v := 3) C d_R_isWhole_40 (by decide) ?_
          refine C_cFv C w (by assumption) mi_F_byteAt ml_R_162 (c_F_byteAt w _ _ _ _ (by assumption) _) rfl rfl (by decide) rfl (Nat.le_of_ble_eq_true rfl) d_R_isWhole_41 ?_
          refine Z_bipush (v := 24) C d_R_isWhole_44 (by decide) ?_
          refine Z_icmp_lt (tgt := 91) C d_R_isWhole_46 (by decide) (fun c46 => ?_) (fun c46 => ?_)
          · skip
            refine Z_iconst (v := 0) C d_R_isWhole_91 (by decide) ?_
            exact Z_zret C hN hr (by decide) d_R_isWhole_92 (by simp [rWhole, ← Int32.not_le, c7, c16, c26, c36, c46]) (zeq (rfl))
          · skip
            refine Z_aload_n C 0 d_R_isWhole_49 rfl rfl ?_
            refine Z_iconst (v := 3) C d_R_isWhole_50 (by decide) ?_
            refine C_cFv C w (by assumption) mi_F_byteAt ml_R_162 (c_F_byteAt w _ _ _ _ (by assumption) _) rfl rfl (by decide) rfl (Nat.le_of_ble_eq_true rfl) d_R_isWhole_51 ?_
            refine Z_aload_n C 0 d_R_isWhole_54 rfl rfl ?_
            refine C_gF C w (by assumption) 1 (by decide) fl_R_159 rfl rfl d_R_isWhole_55 ?_
            refine Z_icmp_gt (tgt := 91) C d_R_isWhole_58 (by decide) (fun c58 => ?_) (fun c58 => ?_)
            · skip
              refine Z_iconst (v := 0) C d_R_isWhole_91 (by decide) ?_
              exact Z_zret C hN hr (by decide) d_R_isWhole_92 (by simp [rWhole, ← Int32.not_le, c7, c16, c26, c36, c46, c58]) (zeq (rfl))
            · skip
              refine Z_aload_n C 0 d_R_isWhole_61 rfl rfl ?_
              refine Z_iconst (v := 2) C d_R_isWhole_62 (by decide) ?_
              refine C_cFv C w (by assumption) mi_F_byteAt ml_R_162 (c_F_byteAt w _ _ _ _ (by assumption) _) rfl rfl (by decide) rfl (Nat.le_of_ble_eq_true rfl) d_R_isWhole_63 ?_
              refine Z_if_eq (tgt := 91) C d_R_isWhole_66 (by decide) (fun c66 => ?_) (fun c66 => ?_)
              · skip
                refine Z_iconst (v := 0) C d_R_isWhole_91 (by decide) ?_
                exact Z_zret C hN hr (by decide) d_R_isWhole_92 (by simp [rWhole, ← Int32.not_le, c7, c16, c26, c36, c46, c58, c66]) (zeq (rfl))
              · skip
                refine Z_aload_n C 0 d_R_isWhole_69 rfl rfl ?_
                refine Z_iconst (v := 1) C d_R_isWhole_70 (by decide) ?_
                refine C_cFv C w (by assumption) mi_F_byteAt ml_R_162 (c_F_byteAt w _ _ _ _ (by assumption) _) rfl rfl (by decide) rfl (Nat.le_of_ble_eq_true rfl) d_R_isWhole_71 ?_
                refine Z_iconst (v := 5) C d_R_isWhole_74 (by decide) ?_
                refine Z_iand C d_R_isWhole_75 ?_
                refine Z_if_ne (tgt := 91) C d_R_isWhole_76 (by decide) (fun c76 => ?_) (fun c76 => ?_)
                · skip
                  refine Z_iconst (v := 0) C d_R_isWhole_91 (by decide) ?_
                  exact Z_zret C hN hr (by decide) d_R_isWhole_92 (by simp [rWhole, ← Int32.not_le, c7, c16, c26, c36, c46, c58, c66, c76]) (zeq (rfl))
                · skip
                  refine Z_aload_n C 0 d_R_isWhole_79 rfl rfl ?_
                  refine Z_iconst (v := 4) C d_R_isWhole_80 (by decide) ?_
                  refine C_cFv C w (by assumption) mi_F_fourAt ml_R_165 (c_F_fourAt w _ _ _ _ (by assumption) _) rfl rfl (by decide) rfl (Nat.le_of_ble_eq_true rfl) d_R_isWhole_81 ?_
                  refine Z_if_eq (tgt := 91) C d_R_isWhole_84 (by decide) (fun c84 => ?_) (fun c84 => ?_)
                  · skip
                    refine Z_iconst (v := 0) C d_R_isWhole_91 (by decide) ?_
                    exact Z_zret C hN hr (by decide) d_R_isWhole_92 (by simp [rWhole, ← Int32.not_le, c7, c16, c26, c36, c46, c58, c66, c76, c84]) (zeq (rfl))
                  · skip
                    refine Z_iconst (v := 1) C d_R_isWhole_87 (by decide) ?_
                    refine Z_goto (tgt := 92) C d_R_isWhole_88 (by decide) ?_
                    exact Z_zret C hN hr (by decide) d_R_isWhole_92 (by simp [rWhole, ← Int32.not_le, c7, c16, c26, c36, c46, c58, c66, c76, c84]) (zeq (rfl))
set_option maxRecDepth 100000 in
set_option maxHeartbeats 4000000 in
theorem c_R_sessionMeant {l : Launch} {G : zG} {V : zV} (w : wC G V) (M : zM) (P : Nat → Nat) (D : Nat × Nat) (i : Nat) (hi : i < 5) (k : Nat) (hk : k < 63) : zF l y_R_sessionMeant b_R_sessionMeant 6 (some (.object "StandInLan$Session")) 2 42 G [.ref (V.1 2 i 0), .ref (V.1 9 k 0)] (eC V M P D) (some (va_rf ((rMeant M i k 5 0).map (fun s => V.1 5 i s)))) (eC V M P D) := by
  refine zF.ofZ (by decide) w.2.2.2.2 (Nat.le_of_ble_eq_true rfl) (fun X hXl hN hr C => ?_)
  subst hXl
  show Z X G (zA G) 6 _ (eC V M P D) 0 [(0, .ref (V.1 2 i 0)), (1, .ref (V.1 9 k 0))] []
  refine Z_aload_n C 1 d_R_sessionMeant_0 rfl rfl ?_
  refine Z_bipush (v := 8) C d_R_sessionMeant_1 (by decide) ?_
  refine C_cFv C w (by assumption) mi_F_fourAt ml_R_165 (c_F_fourAt w _ _ _ _ (by assumption) _) rfl rfl (by decide) rfl (Nat.le_of_ble_eq_true rfl) d_R_sessionMeant_3 ?_
  refine Z_istore_n C d_R_sessionMeant_6 rfl (by decide) rfl ?_
  refine Z_iload_n C 0 d_R_sessionMeant_7 rfl rfl ?_
  refine Z_if_ne (tgt := 27) C d_R_sessionMeant_8 (by decide) (fun c8 => ?_) (fun c8 => ?_)
  · skip
    refine Z_iconst (v := 0) C d_R_sessionMeant_27 (by decide) ?_
    refine zst (st' := [.int (rFirst M k)]) (by simp [rFirst, ← Int32.not_le, c8]) ?_
    refine Z_istore_n C d_R_sessionMeant_28 rfl (by decide) rfl ?_
    refine Z_iconst (v := 0) C d_R_sessionMeant_29 (by decide) ?_
    refine Z_istore C d_R_sessionMeant_30 (by decide) rfl ?_
    have hlp : ∀ (n s : Nat), s + n = 5 → rMeant M i k n s = rMeant M i k 5 0 → Z X G (zA G) 6 (zQ X G (some (va_rf ((rMeant M i k 5 0).map (fun s => V.1 5 i s)))) (eC V M P D)) (eC V M P D) 32 [(4, .int (nI s)), (3, .int (rFirst M k)), (2, .int (fo_ M k 8)), (0, .ref (V.1 2 i 0)), (1, .ref (V.1 9 k 0))] [] := by
      intro n
      induction n with
      | zero =>
        intro s h1 h2
        refine Z_iload C 0 d_R_sessionMeant_32 rfl ?_
        refine Z_iconst (v := 5) C d_R_sessionMeant_34 (by decide) ?_
        refine Z_icmp_ge (tgt := 86) C d_R_sessionMeant_35 (by decide) (fun c35 => ?_) (fun c35 => ?_)
        · skip
          refine Z_null C d_R_sessionMeant_86 ?_
          exact Z_aret C hN hr (Or.inl ⟨_, rfl⟩) (Or.inl rfl) d_R_sessionMeant_87 (by rw [← h2]; rfl) (zeq (rfl))
        · exact absurd (nI_le (a := 5) (b := s) (by omega) (by omega)) c35 --stop
      | succ n ih =>
        intro s h1 h2
        have hs : s < 5 := by omega
        refine Z_iload C 0 d_R_sessionMeant_32 rfl ?_
        refine Z_iconst (v := 5) C d_R_sessionMeant_34 (by decide) ?_
        refine Z_icmp_ge (tgt := 86) C d_R_sessionMeant_35 (by decide) (fun c35 => ?_) (fun c35 => ?_)
        · exact absurd c35 (nI_ge (a := s) (b := 5) (by omega) (by decide)) --stop
        · skip
          refine Z_aload_n C 3 d_R_sessionMeant_38 rfl rfl ?_
          refine C_gR C w (by assumption) 3 (by decide) fl_R_27 rfl rfl d_R_sessionMeant_39 ?_
          refine Z_iload C 0 d_R_sessionMeant_42 rfl ?_
          refine C_ldX C w (by assumption) s (nI_clamp (by omega)) (vp_in_nI (by omega) (by decide)) d_R_sessionMeant_44 ?_
          refine Z_astore C d_R_sessionMeant_45 (by decide) rfl ?_
          refine Z_aload C 0 d_R_sessionMeant_47 rfl ?_
          refine C_gS C w (by assumption) (by assumption) 2 (by decide) fl_R_69 rfl rfl d_R_sessionMeant_49 ?_
          refine Z_if_eq (tgt := 80) C d_R_sessionMeant_52 (by decide) (fun c52 => ?_) (fun c52 => ?_)
          · skip
            refine zlv (lv' := [(4, .int (nI s)), (3, .int (rFirst M k)), (2, .int (fo_ M k 8)), (0, .ref (V.1 2 i 0)), (1, .ref (V.1 9 k 0))]) [1, 2, 3, 4, 5] rfl ?_
            refine Z_iinc 0 C d_R_sessionMeant_80 rfl (nI_1 s) (by decide) rfl ?_
            refine Z_goto (tgt := 32) C d_R_sessionMeant_83 (by decide) ?_
            exact ih (s + 1) (by omega) (by rw [← h2]; conv => rhs; unfold rMeant; simp [c52])
          · skip
            refine Z_aload C 0 d_R_sessionMeant_55 rfl ?_
            refine C_gS C w (by assumption) (by assumption) 0 (by decide) fl_R_113 rfl rfl d_R_sessionMeant_57 ?_
            refine Z_iload_n C 3 d_R_sessionMeant_60 rfl rfl ?_
            refine Z_icmp_eq (tgt := 77) C d_R_sessionMeant_61 (by decide) (fun c61 => ?_) (fun c61 => ?_)
            · skip
              refine Z_aload C 0 d_R_sessionMeant_77 rfl ?_
              exact Z_aret C hN hr (Or.inl ⟨_, rfl⟩) (Or.inr ⟨_, rfl⟩) d_R_sessionMeant_79 (by rw [← h2]; unfold rMeant; simp [c52, c61, va_rf]) (zeq rfl)
            · skip
              refine Z_iload_n C 2 d_R_sessionMeant_64 rfl rfl ?_
              refine Z_if_eq (tgt := 80) C d_R_sessionMeant_65 (by decide) (fun c65 => ?_) (fun c65 => ?_)
              · skip
                refine zlv (lv' := [(4, .int (nI s)), (3, .int (rFirst M k)), (2, .int (fo_ M k 8)), (0, .ref (V.1 2 i 0)), (1, .ref (V.1 9 k 0))]) [1, 2, 3, 4, 5] rfl ?_
                refine Z_iinc 0 C d_R_sessionMeant_80 rfl (nI_1 s) (by decide) rfl ?_
                refine Z_goto (tgt := 32) C d_R_sessionMeant_83 (by decide) ?_
                exact ih (s + 1) (by omega) (by rw [← h2]; conv => rhs; unfold rMeant; simp [c52, c61, c65])
              · skip
                refine Z_iload C 1 d_R_sessionMeant_68 rfl ?_
                refine Z_aload_n C 5 d_R_sessionMeant_70 rfl rfl ?_
                refine C_gF C w (by assumption) 3 (by decide) fl_R_150 rfl rfl d_R_sessionMeant_71 ?_
                refine Z_icmp_ne (tgt := 80) C d_R_sessionMeant_74 (by decide) (fun c74 => ?_) (fun c74 => ?_)
                · skip
                  refine zlv (lv' := [(4, .int (nI s)), (3, .int (rFirst M k)), (2, .int (fo_ M k 8)), (0, .ref (V.1 2 i 0)), (1, .ref (V.1 9 k 0))]) [1, 2, 3, 4, 5] rfl ?_
                  refine Z_iinc 0 C d_R_sessionMeant_80 rfl (nI_1 s) (by decide) rfl ?_
                  refine Z_goto (tgt := 32) C d_R_sessionMeant_83 (by decide) ?_
                  exact ih (s + 1) (by omega) (by rw [← h2]; conv => rhs; unfold rMeant; simp [c52, c61, c65, c74])
                · skip
                  refine Z_aload C 0 d_R_sessionMeant_77 rfl ?_
                  exact Z_aret C hN hr (Or.inl ⟨_, rfl⟩) (Or.inr ⟨_, rfl⟩) d_R_sessionMeant_79 (by rw [← h2]; unfold rMeant; simp [c52, c61, c65, c74, va_rf]) (zeq rfl)
    exact hlp 5 0 rfl rfl
  · skip
    refine Z_aload_n C 2 d_R_sessionMeant_11 rfl rfl ?_
    refine Z_iconst (v := 1) C d_R_sessionMeant_12 (by decide) ?_
    refine C_cFv C w (by assumption) mi_F_byteAt ml_R_162 (c_F_byteAt w _ _ _ _ (by assumption) _) rfl rfl (by decide) rfl (Nat.le_of_ble_eq_true rfl) d_R_sessionMeant_13 ?_
    refine Z_bipush (v := 64) C d_R_sessionMeant_16 (by decide) ?_
    refine Z_idiv C d_R_sessionMeant_18 (by decide) ?_
    refine Z_iconst (v := 1) C d_R_sessionMeant_19 (by decide) ?_
    refine Z_icmp_gt (tgt := 27) C d_R_sessionMeant_20 (by decide) (fun c20 => ?_) (fun c20 => ?_)
    · skip
      refine Z_iconst (v := 0) C d_R_sessionMeant_27 (by decide) ?_
      refine zst (st' := [.int (rFirst M k)]) (by simp [rFirst, ← Int32.not_le, c8, c20]) ?_
      refine Z_istore_n C d_R_sessionMeant_28 rfl (by decide) rfl ?_
      refine Z_iconst (v := 0) C d_R_sessionMeant_29 (by decide) ?_
      refine Z_istore C d_R_sessionMeant_30 (by decide) rfl ?_
      have hlp : ∀ (n s : Nat), s + n = 5 → rMeant M i k n s = rMeant M i k 5 0 → Z X G (zA G) 6 (zQ X G (some (va_rf ((rMeant M i k 5 0).map (fun s => V.1 5 i s)))) (eC V M P D)) (eC V M P D) 32 [(4, .int (nI s)), (3, .int (rFirst M k)), (2, .int (fo_ M k 8)), (0, .ref (V.1 2 i 0)), (1, .ref (V.1 9 k 0))] [] := by
        intro n
        induction n with
        | zero =>
          intro s h1 h2
          refine Z_iload C 0 d_R_sessionMeant_32 rfl ?_
          refine Z_iconst (v := 5) C d_R_sessionMeant_34 (by decide) ?_
          refine Z_icmp_ge (tgt := 86) C d_R_sessionMeant_35 (by decide) (fun c35 => ?_) (fun c35 => ?_)
          · skip
            refine Z_null C d_R_sessionMeant_86 ?_
            exact Z_aret C hN hr (Or.inl ⟨_, rfl⟩) (Or.inl rfl) d_R_sessionMeant_87 (by rw [← h2]; rfl) (zeq (rfl))
          · exact absurd (nI_le (a := 5) (b := s) (by omega) (by omega)) c35 --stop
        | succ n ih =>
          intro s h1 h2
          have hs : s < 5 := by omega
          refine Z_iload C 0 d_R_sessionMeant_32 rfl ?_
          refine Z_iconst (v := 5) C d_R_sessionMeant_34 (by decide) ?_
          refine Z_icmp_ge (tgt := 86) C d_R_sessionMeant_35 (by decide) (fun c35 => ?_) (fun c35 => ?_)
          · exact absurd c35 (nI_ge (a := s) (b := 5) (by omega) (by decide)) --stop
          · skip
            refine Z_aload_n C 3 d_R_sessionMeant_38 rfl rfl ?_
            refine C_gR C w (by assumption) 3 (by decide) fl_R_27 rfl rfl d_R_sessionMeant_39 ?_
            refine Z_iload C 0 d_R_sessionMeant_42 rfl ?_
            refine C_ldX C w (by assumption) s (nI_clamp (by omega)) (vp_in_nI (by omega) (by decide)) d_R_sessionMeant_44 ?_
            refine Z_astore C d_R_sessionMeant_45 (by decide) rfl ?_
            refine Z_aload C 0 d_R_sessionMeant_47 rfl ?_
            refine C_gS C w (by assumption) (by assumption) 2 (by decide) fl_R_69 rfl rfl d_R_sessionMeant_49 ?_
            refine Z_if_eq (tgt := 80) C d_R_sessionMeant_52 (by decide) (fun c52 => ?_) (fun c52 => ?_)
            · skip
              refine zlv (lv' := [(4, .int (nI s)), (3, .int (rFirst M k)), (2, .int (fo_ M k 8)), (0, .ref (V.1 2 i 0)), (1, .ref (V.1 9 k 0))]) [1, 2, 3, 4, 5] rfl ?_
              refine Z_iinc 0 C d_R_sessionMeant_80 rfl (nI_1 s) (by decide) rfl ?_
              refine Z_goto (tgt := 32) C d_R_sessionMeant_83 (by decide) ?_
              exact ih (s + 1) (by omega) (by rw [← h2]; conv => rhs; unfold rMeant; simp [c52])
            · skip
              refine Z_aload C 0 d_R_sessionMeant_55 rfl ?_
              refine C_gS C w (by assumption) (by assumption) 0 (by decide) fl_R_113 rfl rfl d_R_sessionMeant_57 ?_
              refine Z_iload_n C 3 d_R_sessionMeant_60 rfl rfl ?_
              refine Z_icmp_eq (tgt := 77) C d_R_sessionMeant_61 (by decide) (fun c61 => ?_) (fun c61 => ?_)
              · skip
                refine Z_aload C 0 d_R_sessionMeant_77 rfl ?_
                exact Z_aret C hN hr (Or.inl ⟨_, rfl⟩) (Or.inr ⟨_, rfl⟩) d_R_sessionMeant_79 (by rw [← h2]; unfold rMeant; simp [c52, c61, va_rf]) (zeq rfl)
              · skip
                refine Z_iload_n C 2 d_R_sessionMeant_64 rfl rfl ?_
                refine Z_if_eq (tgt := 80) C d_R_sessionMeant_65 (by decide) (fun c65 => ?_) (fun c65 => ?_)
                · skip
                  refine zlv (lv' := [(4, .int (nI s)), (3, .int (rFirst M k)), (2, .int (fo_ M k 8)), (0, .ref (V.1 2 i 0)), (1, .ref (V.1 9 k 0))]) [1, 2, 3, 4, 5] rfl ?_
                  refine Z_iinc 0 C d_R_sessionMeant_80 rfl (nI_1 s) (by decide) rfl ?_
                  refine Z_goto (tgt := 32) C d_R_sessionMeant_83 (by decide) ?_
                  exact ih (s + 1) (by omega) (by rw [← h2]; conv => rhs; unfold rMeant; simp [c52, c61, c65])
                · skip
                  refine Z_iload C 1 d_R_sessionMeant_68 rfl ?_
                  refine Z_aload_n C 5 d_R_sessionMeant_70 rfl rfl ?_
                  refine C_gF C w (by assumption) 3 (by decide) fl_R_150 rfl rfl d_R_sessionMeant_71 ?_
                  refine Z_icmp_ne (tgt := 80) C d_R_sessionMeant_74 (by decide) (fun c74 => ?_) (fun c74 => ?_)
                  · skip
                    refine zlv (lv' := [(4, .int (nI s)), (3, .int (rFirst M k)), (2, .int (fo_ M k 8)), (0, .ref (V.1 2 i 0)), (1, .ref (V.1 9 k 0))]) [1, 2, 3, 4, 5] rfl ?_
                    refine Z_iinc 0 C d_R_sessionMeant_80 rfl (nI_1 s) (by decide) rfl ?_
                    refine Z_goto (tgt := 32) C d_R_sessionMeant_83 (by decide) ?_
                    exact ih (s + 1) (by omega) (by rw [← h2]; conv => rhs; unfold rMeant; simp [c52, c61, c65, c74])
                  · skip
                    refine Z_aload C 0 d_R_sessionMeant_77 rfl ?_
                    exact Z_aret C hN hr (Or.inl ⟨_, rfl⟩) (Or.inr ⟨_, rfl⟩) d_R_sessionMeant_79 (by rw [← h2]; unfold rMeant; simp [c52, c61, c65, c74, va_rf]) (zeq rfl)
      exact hlp 5 0 rfl rfl
    · skip
      refine Z_iconst (v := 1) C d_R_sessionMeant_23 (by decide) ?_
      refine Z_goto (tgt := 28) C d_R_sessionMeant_24 (by decide) ?_
      refine zst (st' := [.int (rFirst M k)]) (by simp [rFirst, ← Int32.not_le, c8, c20]) ?_
      refine Z_istore_n C d_R_sessionMeant_28 rfl (by decide) rfl ?_
      refine Z_iconst (v := 0) C d_R_sessionMeant_29 (by decide) ?_
      refine Z_istore C d_R_sessionMeant_30 (by decide) rfl ?_
      have hlp : ∀ (n s : Nat), s + n = 5 → rMeant M i k n s = rMeant M i k 5 0 → Z X G (zA G) 6 (zQ X G (some (va_rf ((rMeant M i k 5 0).map (fun s => V.1 5 i s)))) (eC V M P D)) (eC V M P D) 32 [(4, .int (nI s)), (3, .int (rFirst M k)), (2, .int (fo_ M k 8)), (0, .ref (V.1 2 i 0)), (1, .ref (V.1 9 k 0))] [] := by
        intro n
        induction n with
        | zero =>
          intro s h1 h2
          refine Z_iload C 0 d_R_sessionMeant_32 rfl ?_
          refine Z_iconst (v := 5) C d_R_sessionMeant_34 (by decide) ?_
          refine Z_icmp_ge (tgt := 86) C d_R_sessionMeant_35 (by decide) (fun c35 => ?_) (fun c35 => ?_)
          · skip
            refine Z_null C d_R_sessionMeant_86 ?_
            exact Z_aret C hN hr (Or.inl ⟨_, rfl⟩) (Or.inl rfl) d_R_sessionMeant_87 (by rw [← h2]; rfl) (zeq (rfl))
          · exact absurd (nI_le (a := 5) (b := s) (by omega) (by omega)) c35 --stop
        | succ n ih =>
          intro s h1 h2
          have hs : s < 5 := by omega
          refine Z_iload C 0 d_R_sessionMeant_32 rfl ?_
          refine Z_iconst (v := 5) C d_R_sessionMeant_34 (by decide) ?_
          refine Z_icmp_ge (tgt := 86) C d_R_sessionMeant_35 (by decide) (fun c35 => ?_) (fun c35 => ?_)
          · exact absurd c35 (nI_ge (a := s) (b := 5) (by omega) (by decide)) --stop
          · skip
            refine Z_aload_n C 3 d_R_sessionMeant_38 rfl rfl ?_
            refine C_gR C w (by assumption) 3 (by decide) fl_R_27 rfl rfl d_R_sessionMeant_39 ?_
            refine Z_iload C 0 d_R_sessionMeant_42 rfl ?_
            refine C_ldX C w (by assumption) s (nI_clamp (by omega)) (vp_in_nI (by omega) (by decide)) d_R_sessionMeant_44 ?_
            refine Z_astore C d_R_sessionMeant_45 (by decide) rfl ?_
            refine Z_aload C 0 d_R_sessionMeant_47 rfl ?_
            refine C_gS C w (by assumption) (by assumption) 2 (by decide) fl_R_69 rfl rfl d_R_sessionMeant_49 ?_
            refine Z_if_eq (tgt := 80) C d_R_sessionMeant_52 (by decide) (fun c52 => ?_) (fun c52 => ?_)
            · skip
              refine zlv (lv' := [(4, .int (nI s)), (3, .int (rFirst M k)), (2, .int (fo_ M k 8)), (0, .ref (V.1 2 i 0)), (1, .ref (V.1 9 k 0))]) [1, 2, 3, 4, 5] rfl ?_
              refine Z_iinc 0 C d_R_sessionMeant_80 rfl (nI_1 s) (by decide) rfl ?_
              refine Z_goto (tgt := 32) C d_R_sessionMeant_83 (by decide) ?_
              exact ih (s + 1) (by omega) (by rw [← h2]; conv => rhs; unfold rMeant; simp [c52])
            · skip
              refine Z_aload C 0 d_R_sessionMeant_55 rfl ?_
              refine C_gS C w (by assumption) (by assumption) 0 (by decide) fl_R_113 rfl rfl d_R_sessionMeant_57 ?_
              refine Z_iload_n C 3 d_R_sessionMeant_60 rfl rfl ?_
              refine Z_icmp_eq (tgt := 77) C d_R_sessionMeant_61 (by decide) (fun c61 => ?_) (fun c61 => ?_)
              · skip
                refine Z_aload C 0 d_R_sessionMeant_77 rfl ?_
                exact Z_aret C hN hr (Or.inl ⟨_, rfl⟩) (Or.inr ⟨_, rfl⟩) d_R_sessionMeant_79 (by rw [← h2]; unfold rMeant; simp [c52, c61, va_rf]) (zeq rfl)
              · skip
                refine Z_iload_n C 2 d_R_sessionMeant_64 rfl rfl ?_
                refine Z_if_eq (tgt := 80) C d_R_sessionMeant_65 (by decide) (fun c65 => ?_) (fun c65 => ?_)
                · skip
                  refine zlv (lv' := [(4, .int (nI s)), (3, .int (rFirst M k)), (2, .int (fo_ M k 8)), (0, .ref (V.1 2 i 0)), (1, .ref (V.1 9 k 0))]) [1, 2, 3, 4, 5] rfl ?_
                  refine Z_iinc 0 C d_R_sessionMeant_80 rfl (nI_1 s) (by decide) rfl ?_
                  refine Z_goto (tgt := 32) C d_R_sessionMeant_83 (by decide) ?_
                  exact ih (s + 1) (by omega) (by rw [← h2]; conv => rhs; unfold rMeant; simp [c52, c61, c65])
                · skip
                  refine Z_iload C 1 d_R_sessionMeant_68 rfl ?_
                  refine Z_aload_n C 5 d_R_sessionMeant_70 rfl rfl ?_
                  refine C_gF C w (by assumption) 3 (by decide) fl_R_150 rfl rfl d_R_sessionMeant_71 ?_
                  refine Z_icmp_ne (tgt := 80) C d_R_sessionMeant_74 (by decide) (fun c74 => ?_) (fun c74 => ?_)
                  · skip
                    refine zlv (lv' := [(4, .int (nI s)), (3, .int (rFirst M k)), (2, .int (fo_ M k 8)), (0, .ref (V.1 2 i 0)), (1, .ref (V.1 9 k 0))]) [1, 2, 3, 4, 5] rfl ?_
                    refine Z_iinc 0 C d_R_sessionMeant_80 rfl (nI_1 s) (by decide) rfl ?_
                    refine Z_goto (tgt := 32) C d_R_sessionMeant_83 (by decide) ?_
                    exact ih (s + 1) (by omega) (by rw [← h2]; conv => rhs; unfold rMeant; simp [c52, c61, c65, c74])
                  · skip
                    refine Z_aload C 0 d_R_sessionMeant_77 rfl ?_
                    exact Z_aret C hN hr (Or.inl ⟨_, rfl⟩) (Or.inr ⟨_, rfl⟩) d_R_sessionMeant_79 (by rw [← h2]; unfold rMeant; simp [c52, c61, c65, c74, va_rf]) (zeq rfl)
      exact hlp 5 0 rfl rfl
set_option maxRecDepth 100000 in
set_option maxHeartbeats 4000000 in
theorem c_R_forgetAll {l : Launch} {G : zG} {V : zV} (w : wC G V) (M : zM) (P : Nat → Nat) (D : Nat × Nat) (i : Nat) (hi : i < 5) : zF l y_R_forgetAll b_R_forgetAll 2 none 0 0 G [.ref (V.1 2 i 0)] (eC V M P D) none (eC V (rForget M i) P D) := by
  refine zF.ofZ (by decide) w.2.2.2.2 (Nat.le_of_ble_eq_true rfl) (fun X hXl hN hr C => ?_)
  subst hXl
  show Z X G (zA G) 2 _ (eC V M P D) 0 [(0, .ref (V.1 2 i 0))] []
  refine Z_aload_n C 0 d_R_forgetAll_0 rfl rfl ?_
  refine Z_iconst (v := 0) C d_R_forgetAll_1 (by decide) ?_
  refine C_pR C w (by assumption) 4 (by decide) fl_R_34 rfl rfl rfl rfl rfl d_R_forgetAll_2 ?_
  refine Z_aload_n C 0 d_R_forgetAll_5 rfl rfl ?_
  refine Z_iconst (v := 0) C d_R_forgetAll_6 (by decide) ?_
  refine C_pR C w (by assumption) 5 (by decide) fl_R_37 rfl rfl rfl rfl rfl d_R_forgetAll_7 ?_
  refine Z_aload_n C 0 d_R_forgetAll_10 rfl rfl ?_
  refine Z_iconst (v := 0) C d_R_forgetAll_11 (by decide) ?_
  refine C_pR C w (by assumption) 6 (by decide) fl_R_44 rfl rfl rfl rfl rfl d_R_forgetAll_12 ?_
  refine Z_iconst (v := 0) C d_R_forgetAll_15 (by decide) ?_
  refine Z_istore_n C d_R_forgetAll_16 rfl (by decide) rfl ?_
  have hlp : ∀ (n s : Nat), s + n = 5 → Z X G (zA G) 2 (zQ X G none (eC V (rForget M i) P D)) (eC V (gone (up (up (up M 2 i 0 4 0) 2 i 0 5 0) 2 i 0 6 0) i s) P D) 17 [(1, .int (nI s)), (0, .ref (V.1 2 i 0))] [] := by
    intro n
    induction n with
    | zero =>
      intro s h1
      obtain rfl : s = 5 := by omega
      refine Z_iload_n C 0 d_R_forgetAll_17 rfl rfl ?_
      refine Z_iconst (v := 5) C d_R_forgetAll_18 (by decide) ?_
      refine Z_icmp_ge (tgt := 38) C d_R_forgetAll_19 (by decide) (fun c19 => ?_) (fun c19 => ?_)
      · skip
        exact Z_vret C hN hr d_R_forgetAll_38 rfl (zeq (rfl))
      · exact absurd (nI_le (a := 5) (b := 5) (by omega) (by omega)) c19 --stop
    | succ n ih =>
      intro s h1
      have hs : s < 5 := by omega
      refine Z_iload_n C 0 d_R_forgetAll_17 rfl rfl ?_
      refine Z_iconst (v := 5) C d_R_forgetAll_18 (by decide) ?_
      refine Z_icmp_ge (tgt := 38) C d_R_forgetAll_19 (by decide) (fun c19 => ?_) (fun c19 => ?_)
      · exact absurd c19 (nI_ge (a := s) (b := 5) (by omega) (by decide)) --stop
      · skip
        refine Z_aload_n C 1 d_R_forgetAll_22 rfl rfl ?_
        refine C_gR C w (by assumption) 3 (by decide) fl_R_27 rfl rfl d_R_forgetAll_23 ?_
        refine Z_iload_n C 0 d_R_forgetAll_26 rfl rfl ?_
        refine C_ldX C w (by assumption) s (nI_clamp (by omega)) (vp_in_nI (by omega) (by decide)) d_R_forgetAll_27 ?_
        refine Z_iconst (v := 0) C d_R_forgetAll_28 (by decide) ?_
        refine C_pS C w (by assumption) (by assumption) 2 (by decide) fl_R_69 rfl rfl rfl rfl rfl d_R_forgetAll_29 ?_
        refine Z_iinc 0 C d_R_forgetAll_32 rfl (nI_1 s) (by decide) rfl ?_
        refine Z_goto (tgt := 17) C d_R_forgetAll_35 (by decide) ?_
        exact ih (s + 1) (by omega)
  exact hlp 5 0 rfl
set_option maxRecDepth 100000 in
set_option maxHeartbeats 4000000 in
theorem c_S_learn {l : Launch} {G : zG} {V : zV} (w : wC G V) (M : zM) (P : Nat → Nat) (D : Nat × Nat) (i j : Nat) (hi : i < 5) (hj : j < 5) (k : Nat) (hk : k < 63) : zF l y_S_learn b_S_learn 5 (some .boolean) 2 42 G [.ref (V.1 5 i j), .ref (V.1 9 k 0)] (eC V M P D) (some (.int (sChanged (M 5 i j) (M 9 k 0) (M 10 k 0)))) (eC V (rw4 M 5 i j (sLearn (M 5 i j) (M 9 k 0) (M 10 k 0))) P D) := by
  refine zF.ofZ (by decide) w.2.2.2.2 (Nat.le_of_ble_eq_true rfl) (fun X hXl hN hr C => ?_)
  subst hXl
  show Z X G (zA G) 5 _ (eC V M P D) 0 [(0, .ref (V.1 5 i j)), (1, .ref (V.1 9 k 0))] []
  refine Z_aload_n C 0 d_S_learn_0 rfl rfl ?_
  refine C_gS C w (by assumption) (by assumption) 10 (by decide) fl_S_43 rfl rfl d_S_learn_1 ?_
  refine Z_istore_n C d_S_learn_4 rfl (by decide) rfl ?_
  refine Z_aload_n C 1 d_S_learn_5 rfl rfl ?_
  refine C_gS C w (by assumption) (by assumption) 3 (by decide) fl_S_22 rfl rfl d_S_learn_6 ?_
  refine Z_istore_n C d_S_learn_9 rfl (by decide) rfl ?_
  refine Z_aload_n C 3 d_S_learn_10 rfl rfl ?_
  refine Z_iconst (v := 1) C d_S_learn_11 (by decide) ?_
  refine C_cFv C w (by assumption) mi_F_byteAt ml_S_93 (c_F_byteAt w _ _ _ _ (by assumption) _) rfl rfl (by decide) rfl (Nat.le_of_ble_eq_true rfl) d_S_learn_12 ?_
  refine Z_istore C d_S_learn_15 (by decide) rfl ?_
  refine Z_aload_n C 3 d_S_learn_17 rfl rfl ?_
  refine Z_aload_n C 4 d_S_learn_18 rfl rfl ?_
  refine Z_iconst (v := 4) C d_S_learn_19 (by decide) ?_
  refine C_cFv C w (by assumption) mi_F_fourAt ml_S_98 (c_F_fourAt w _ _ _ _ (by assumption) _) rfl rfl (by decide) rfl (Nat.le_of_ble_eq_true rfl) d_S_learn_20 ?_
  refine C_csv C ms_S_told ml_S_101 (c_S_told w _ _ _ _) rfl (by decide) rfl (Nat.le_of_ble_eq_true rfl) d_S_learn_23 ?_
  refine C_pS C w (by assumption) (by assumption) 5 (by decide) fl_S_28 rfl rfl rfl rfl rfl d_S_learn_26 ?_
  refine Z_aload_n C 3 d_S_learn_29 rfl rfl ?_
  refine Z_iload C 0 d_S_learn_30 rfl ?_
  refine Z_bipush (v := 64) C d_S_learn_32 (by decide) ?_
  refine Z_idiv C d_S_learn_34 (by decide) ?_
  refine C_pS C w (by assumption) (by assumption) 4 (by decide) fl_S_25 rfl rfl rfl rfl rfl d_S_learn_35 ?_
  refine Z_aload_n C 3 d_S_learn_38 rfl rfl ?_
  refine Z_aload_n C 4 d_S_learn_39 rfl rfl ?_
  refine Z_iconst (v := 2) C d_S_learn_40 (by decide) ?_
  refine C_cFv C w (by assumption) mi_F_byteAt ml_S_93 (c_F_byteAt w _ _ _ _ (by assumption) _) rfl rfl (by decide) rfl (Nat.le_of_ble_eq_true rfl) d_S_learn_41 ?_
  refine C_pS C w (by assumption) (by assumption) 12 (by decide) fl_S_49 rfl rfl rfl rfl rfl d_S_learn_44 ?_
  refine Z_aload_n C 3 d_S_learn_47 rfl rfl ?_
  refine Z_aload_n C 4 d_S_learn_48 rfl rfl ?_
  refine Z_bipush (v := 12) C d_S_learn_49 (by decide) ?_
  refine C_cFv C w (by assumption) mi_F_fourAt ml_S_98 (c_F_fourAt w _ _ _ _ (by assumption) _) rfl rfl (by decide) rfl (Nat.le_of_ble_eq_true rfl) d_S_learn_51 ?_
  refine C_csv C ms_S_told ml_S_101 (c_S_told w _ _ _ _) rfl (by decide) rfl (Nat.le_of_ble_eq_true rfl) d_S_learn_54 ?_
  refine C_pS C w (by assumption) (by assumption) 11 (by decide) fl_S_46 rfl rfl rfl rfl rfl d_S_learn_57 ?_
  refine Z_aload_n C 3 d_S_learn_60 rfl rfl ?_
  refine Z_aload_n C 4 d_S_learn_61 rfl rfl ?_
  refine Z_bipush (v := 16) C d_S_learn_62 (by decide) ?_
  refine C_cFv C w (by assumption) mi_F_fourAt ml_S_98 (c_F_fourAt w _ _ _ _ (by assumption) _) rfl rfl (by decide) rfl (Nat.le_of_ble_eq_true rfl) d_S_learn_64 ?_
  refine C_csv C ms_S_told ml_S_101 (c_S_told w _ _ _ _) rfl (by decide) rfl (Nat.le_of_ble_eq_true rfl) d_S_learn_67 ?_
  refine C_pS C w (by assumption) (by assumption) 10 (by decide) fl_S_43 rfl rfl rfl rfl rfl d_S_learn_70 ?_
  refine Z_aload_n C 3 d_S_learn_73 rfl rfl ?_
  refine C_gS C w (by assumption) (by assumption) 13 (by decide) fl_S_52 rfl rfl d_S_learn_74 ?_
  refine Z_if_eq (tgt := 97) C d_S_learn_77 (by decide) (fun c77 => ?_) (fun c77 => ?_)
  · simp [up_eq, rw4_rw4, rw4_self, rw4_id, rk_2_3, rk_2_5, rk_2_6, rk_2_7, rk_2_9, rk_2_10, rk_3_2, rk_3_5, rk_3_6, rk_3_7, rk_3_9, rk_3_10, rk_5_2, rk_5_3, rk_5_6, rk_5_7, rk_5_9, rk_5_10, rk_6_2, rk_6_3, rk_6_5, rk_6_7, rk_6_9, rk_6_10, rk_7_2, rk_7_3, rk_7_5, rk_7_6, rk_7_9, rk_7_10, rk_9_2, rk_9_3, rk_9_5, rk_9_6, rk_9_7, rk_9_10, rk_10_2, rk_10_3, rk_10_5, rk_10_6, rk_10_7, rk_10_9, upd] at c77
    refine zKk (K' := eC V (rw4 M 5 i j (sLearn2 (M 5 i j) (M 9 k 0) (M 10 k 0))) P D) (zeq (by apply eC_M; simp only [up_eq, rw4_rw4, rw4_self, rw4_id, rk_2_3, rk_2_5, rk_2_6, rk_2_7, rk_2_9, rk_2_10, rk_3_2, rk_3_5, rk_3_6, rk_3_7, rk_3_9, rk_3_10, rk_5_2, rk_5_3, rk_5_6, rk_5_7, rk_5_9, rk_5_10, rk_6_2, rk_6_3, rk_6_5, rk_6_7, rk_6_9, rk_6_10, rk_7_2, rk_7_3, rk_7_5, rk_7_6, rk_7_9, rk_7_10, rk_9_2, rk_9_3, rk_9_5, rk_9_6, rk_9_7, rk_9_10, rk_10_2, rk_10_3, rk_10_5, rk_10_6, rk_10_7, rk_10_9]; unfold sLearn2 sLearn1; simp [upd, sUse, c77])) ?_
    refine Z_aload_n C 3 d_S_learn_97 rfl rfl ?_
    refine Z_ldc C co_S_104 d_S_learn_98 ?_
    refine Z_aload_n C 3 d_S_learn_100 rfl rfl ?_
    refine C_gS C w (by assumption) (by assumption) 12 (by decide) fl_S_49 rfl rfl d_S_learn_101 ?_
    refine Z_aload_n C 3 d_S_learn_104 rfl rfl ?_
    refine C_gS C w (by assumption) (by assumption) 15 (by decide) fl_S_80 rfl rfl d_S_learn_105 ?_
    refine Z_aload_n C 3 d_S_learn_108 rfl rfl ?_
    refine C_gS C w (by assumption) (by assumption) 11 (by decide) fl_S_46 rfl rfl d_S_learn_109 ?_
    refine Z_mmax C ml_S_83 mx_s ma_i mx_c ⟨Nat.le_of_ble_eq_true rfl, Nat.le_of_ble_eq_true rfl⟩ d_S_learn_112 ?_
    refine Z_imul C d_S_learn_115 ?_
    refine Z_mmin C ml_S_74 mn_s ma_i mn_c ⟨Nat.le_of_ble_eq_true rfl, Nat.le_of_ble_eq_true rfl⟩ d_S_learn_116 ?_
    refine C_pS C w (by assumption) (by assumption) 17 (by decide) fl_S_58 rfl rfl rfl rfl rfl d_S_learn_119 ?_
    refine Z_aload_n C 3 d_S_learn_122 rfl rfl ?_
    refine C_cSn C w (by assumption) (by assumption) mi_S_follow ml_S_105 (c_S_follow w _ _ _ _ _ (by assumption) (by assumption)) rfl rfl (by decide) rfl (Nat.le_of_ble_eq_true rfl) d_S_learn_123 ?_
    refine Z_aload_n C 3 d_S_learn_126 rfl rfl ?_
    refine C_gS C w (by assumption) (by assumption) 10 (by decide) fl_S_43 rfl rfl d_S_learn_127 ?_
    refine Z_iload_n C 2 d_S_learn_130 rfl rfl ?_
    refine Z_icmp_ne (tgt := 142) C d_S_learn_131 (by decide) (fun c131 => ?_) (fun c131 => ?_)
    · simp only [up_eq, rw4_rw4, rw4_self, rw4_id, rk_2_3, rk_2_5, rk_2_6, rk_2_7, rk_2_9, rk_2_10, rk_3_2, rk_3_5, rk_3_6, rk_3_7, rk_3_9, rk_3_10, rk_5_2, rk_5_3, rk_5_6, rk_5_7, rk_5_9, rk_5_10, rk_6_2, rk_6_3, rk_6_5, rk_6_7, rk_6_9, rk_6_10, rk_7_2, rk_7_3, rk_7_5, rk_7_6, rk_7_9, rk_7_10, rk_9_2, rk_9_3, rk_9_5, rk_9_6, rk_9_7, rk_9_10, rk_10_2, rk_10_3, rk_10_5, rk_10_6, rk_10_7, rk_10_9] at c131
      have c131 : ¬ sLearn (M 5 i j) (M 9 k 0) (M 10 k 0) 10 = M 5 i j 10 := c131
      refine Z_iconst (v := 1) C d_S_learn_142 (by decide) ?_
      refine Z_goto (tgt := 147) C d_S_learn_143 (by decide) ?_
      exact Z_zret C hN hr (by decide) d_S_learn_147 (by unfold sChanged; first | rw [if_pos c131] | rw [if_neg (not_not_intro c131), if_pos c139] | rw [if_neg (not_not_intro c131), if_neg c139]) (zeq (by apply eC_M; simp only [up_eq, rw4_rw4, rw4_self, rw4_id, rk_2_3, rk_2_5, rk_2_6, rk_2_7, rk_2_9, rk_2_10, rk_3_2, rk_3_5, rk_3_6, rk_3_7, rk_3_9, rk_3_10, rk_5_2, rk_5_3, rk_5_6, rk_5_7, rk_5_9, rk_5_10, rk_6_2, rk_6_3, rk_6_5, rk_6_7, rk_6_9, rk_6_10, rk_7_2, rk_7_3, rk_7_5, rk_7_6, rk_7_9, rk_7_10, rk_9_2, rk_9_3, rk_9_5, rk_9_6, rk_9_7, rk_9_10, rk_10_2, rk_10_3, rk_10_5, rk_10_6, rk_10_7, rk_10_9]; rfl))
    · simp only [up_eq, rw4_rw4, rw4_self, rw4_id, rk_2_3, rk_2_5, rk_2_6, rk_2_7, rk_2_9, rk_2_10, rk_3_2, rk_3_5, rk_3_6, rk_3_7, rk_3_9, rk_3_10, rk_5_2, rk_5_3, rk_5_6, rk_5_7, rk_5_9, rk_5_10, rk_6_2, rk_6_3, rk_6_5, rk_6_7, rk_6_9, rk_6_10, rk_7_2, rk_7_3, rk_7_5, rk_7_6, rk_7_9, rk_7_10, rk_9_2, rk_9_3, rk_9_5, rk_9_6, rk_9_7, rk_9_10, rk_10_2, rk_10_3, rk_10_5, rk_10_6, rk_10_7, rk_10_9] at c131
      have c131 : sLearn (M 5 i j) (M 9 k 0) (M 10 k 0) 10 = M 5 i j 10 := c131
      refine Z_aload_n C 3 d_S_learn_134 rfl rfl ?_
      refine C_gS C w (by assumption) (by assumption) 3 (by decide) fl_S_22 rfl rfl d_S_learn_135 ?_
      refine Z_iload_n C 1 d_S_learn_138 rfl rfl ?_
      refine Z_icmp_eq (tgt := 146) C d_S_learn_139 (by decide) (fun c139 => ?_) (fun c139 => ?_)
      · simp only [up_eq, rw4_rw4, rw4_self, rw4_id, rk_2_3, rk_2_5, rk_2_6, rk_2_7, rk_2_9, rk_2_10, rk_3_2, rk_3_5, rk_3_6, rk_3_7, rk_3_9, rk_3_10, rk_5_2, rk_5_3, rk_5_6, rk_5_7, rk_5_9, rk_5_10, rk_6_2, rk_6_3, rk_6_5, rk_6_7, rk_6_9, rk_6_10, rk_7_2, rk_7_3, rk_7_5, rk_7_6, rk_7_9, rk_7_10, rk_9_2, rk_9_3, rk_9_5, rk_9_6, rk_9_7, rk_9_10, rk_10_2, rk_10_3, rk_10_5, rk_10_6, rk_10_7, rk_10_9] at c139
        have c139 : sLearn (M 5 i j) (M 9 k 0) (M 10 k 0) 3 = M 5 i j 3 := c139
        refine Z_iconst (v := 0) C d_S_learn_146 (by decide) ?_
        exact Z_zret C hN hr (by decide) d_S_learn_147 (by unfold sChanged; first | rw [if_pos c131] | rw [if_neg (not_not_intro c131), if_pos c139] | rw [if_neg (not_not_intro c131), if_neg c139]) (zeq (by apply eC_M; simp only [up_eq, rw4_rw4, rw4_self, rw4_id, rk_2_3, rk_2_5, rk_2_6, rk_2_7, rk_2_9, rk_2_10, rk_3_2, rk_3_5, rk_3_6, rk_3_7, rk_3_9, rk_3_10, rk_5_2, rk_5_3, rk_5_6, rk_5_7, rk_5_9, rk_5_10, rk_6_2, rk_6_3, rk_6_5, rk_6_7, rk_6_9, rk_6_10, rk_7_2, rk_7_3, rk_7_5, rk_7_6, rk_7_9, rk_7_10, rk_9_2, rk_9_3, rk_9_5, rk_9_6, rk_9_7, rk_9_10, rk_10_2, rk_10_3, rk_10_5, rk_10_6, rk_10_7, rk_10_9]; rfl))
      · simp only [up_eq, rw4_rw4, rw4_self, rw4_id, rk_2_3, rk_2_5, rk_2_6, rk_2_7, rk_2_9, rk_2_10, rk_3_2, rk_3_5, rk_3_6, rk_3_7, rk_3_9, rk_3_10, rk_5_2, rk_5_3, rk_5_6, rk_5_7, rk_5_9, rk_5_10, rk_6_2, rk_6_3, rk_6_5, rk_6_7, rk_6_9, rk_6_10, rk_7_2, rk_7_3, rk_7_5, rk_7_6, rk_7_9, rk_7_10, rk_9_2, rk_9_3, rk_9_5, rk_9_6, rk_9_7, rk_9_10, rk_10_2, rk_10_3, rk_10_5, rk_10_6, rk_10_7, rk_10_9] at c139
        have c139 : ¬ sLearn (M 5 i j) (M 9 k 0) (M 10 k 0) 3 = M 5 i j 3 := c139
        refine Z_iconst (v := 1) C d_S_learn_142 (by decide) ?_
        refine Z_goto (tgt := 147) C d_S_learn_143 (by decide) ?_
        exact Z_zret C hN hr (by decide) d_S_learn_147 (by unfold sChanged; first | rw [if_pos c131] | rw [if_neg (not_not_intro c131), if_pos c139] | rw [if_neg (not_not_intro c131), if_neg c139]) (zeq (by apply eC_M; simp only [up_eq, rw4_rw4, rw4_self, rw4_id, rk_2_3, rk_2_5, rk_2_6, rk_2_7, rk_2_9, rk_2_10, rk_3_2, rk_3_5, rk_3_6, rk_3_7, rk_3_9, rk_3_10, rk_5_2, rk_5_3, rk_5_6, rk_5_7, rk_5_9, rk_5_10, rk_6_2, rk_6_3, rk_6_5, rk_6_7, rk_6_9, rk_6_10, rk_7_2, rk_7_3, rk_7_5, rk_7_6, rk_7_9, rk_7_10, rk_9_2, rk_9_3, rk_9_5, rk_9_6, rk_9_7, rk_9_10, rk_10_2, rk_10_3, rk_10_5, rk_10_6, rk_10_7, rk_10_9]; rfl))
  · simp [up_eq, rw4_rw4, rw4_self, rw4_id, rk_2_3, rk_2_5, rk_2_6, rk_2_7, rk_2_9, rk_2_10, rk_3_2, rk_3_5, rk_3_6, rk_3_7, rk_3_9, rk_3_10, rk_5_2, rk_5_3, rk_5_6, rk_5_7, rk_5_9, rk_5_10, rk_6_2, rk_6_3, rk_6_5, rk_6_7, rk_6_9, rk_6_10, rk_7_2, rk_7_3, rk_7_5, rk_7_6, rk_7_9, rk_7_10, rk_9_2, rk_9_3, rk_9_5, rk_9_6, rk_9_7, rk_9_10, rk_10_2, rk_10_3, rk_10_5, rk_10_6, rk_10_7, rk_10_9, upd] at c77
    refine Z_iload C 0 d_S_learn_80 rfl ?_
    refine Z_bipush (v := 16) C d_S_learn_82 (by decide) ?_
    refine Z_iand C d_S_learn_84 ?_
    refine Z_if_eq (tgt := 97) C d_S_learn_85 (by decide) (fun c85 => ?_) (fun c85 => ?_)
    · skip
      refine zKk (K' := eC V (rw4 M 5 i j (sLearn2 (M 5 i j) (M 9 k 0) (M 10 k 0))) P D) (zeq (by apply eC_M; simp only [up_eq, rw4_rw4, rw4_self, rw4_id, rk_2_3, rk_2_5, rk_2_6, rk_2_7, rk_2_9, rk_2_10, rk_3_2, rk_3_5, rk_3_6, rk_3_7, rk_3_9, rk_3_10, rk_5_2, rk_5_3, rk_5_6, rk_5_7, rk_5_9, rk_5_10, rk_6_2, rk_6_3, rk_6_5, rk_6_7, rk_6_9, rk_6_10, rk_7_2, rk_7_3, rk_7_5, rk_7_6, rk_7_9, rk_7_10, rk_9_2, rk_9_3, rk_9_5, rk_9_6, rk_9_7, rk_9_10, rk_10_2, rk_10_3, rk_10_5, rk_10_6, rk_10_7, rk_10_9]; unfold sLearn2 sLearn1; simp [upd, sUse, c77, c85])) ?_
      refine Z_aload_n C 3 d_S_learn_97 rfl rfl ?_
      refine Z_ldc C co_S_104 d_S_learn_98 ?_
      refine Z_aload_n C 3 d_S_learn_100 rfl rfl ?_
      refine C_gS C w (by assumption) (by assumption) 12 (by decide) fl_S_49 rfl rfl d_S_learn_101 ?_
      refine Z_aload_n C 3 d_S_learn_104 rfl rfl ?_
      refine C_gS C w (by assumption) (by assumption) 15 (by decide) fl_S_80 rfl rfl d_S_learn_105 ?_
      refine Z_aload_n C 3 d_S_learn_108 rfl rfl ?_
      refine C_gS C w (by assumption) (by assumption) 11 (by decide) fl_S_46 rfl rfl d_S_learn_109 ?_
      refine Z_mmax C ml_S_83 mx_s ma_i mx_c ⟨Nat.le_of_ble_eq_true rfl, Nat.le_of_ble_eq_true rfl⟩ d_S_learn_112 ?_
      refine Z_imul C d_S_learn_115 ?_
      refine Z_mmin C ml_S_74 mn_s ma_i mn_c ⟨Nat.le_of_ble_eq_true rfl, Nat.le_of_ble_eq_true rfl⟩ d_S_learn_116 ?_
      refine C_pS C w (by assumption) (by assumption) 17 (by decide) fl_S_58 rfl rfl rfl rfl rfl d_S_learn_119 ?_
      refine Z_aload_n C 3 d_S_learn_122 rfl rfl ?_
      refine C_cSn C w (by assumption) (by assumption) mi_S_follow ml_S_105 (c_S_follow w _ _ _ _ _ (by assumption) (by assumption)) rfl rfl (by decide) rfl (Nat.le_of_ble_eq_true rfl) d_S_learn_123 ?_
      refine Z_aload_n C 3 d_S_learn_126 rfl rfl ?_
      refine C_gS C w (by assumption) (by assumption) 10 (by decide) fl_S_43 rfl rfl d_S_learn_127 ?_
      refine Z_iload_n C 2 d_S_learn_130 rfl rfl ?_
      refine Z_icmp_ne (tgt := 142) C d_S_learn_131 (by decide) (fun c131 => ?_) (fun c131 => ?_)
      · simp only [up_eq, rw4_rw4, rw4_self, rw4_id, rk_2_3, rk_2_5, rk_2_6, rk_2_7, rk_2_9, rk_2_10, rk_3_2, rk_3_5, rk_3_6, rk_3_7, rk_3_9, rk_3_10, rk_5_2, rk_5_3, rk_5_6, rk_5_7, rk_5_9, rk_5_10, rk_6_2, rk_6_3, rk_6_5, rk_6_7, rk_6_9, rk_6_10, rk_7_2, rk_7_3, rk_7_5, rk_7_6, rk_7_9, rk_7_10, rk_9_2, rk_9_3, rk_9_5, rk_9_6, rk_9_7, rk_9_10, rk_10_2, rk_10_3, rk_10_5, rk_10_6, rk_10_7, rk_10_9] at c131
        have c131 : ¬ sLearn (M 5 i j) (M 9 k 0) (M 10 k 0) 10 = M 5 i j 10 := c131
        refine Z_iconst (v := 1) C d_S_learn_142 (by decide) ?_
        refine Z_goto (tgt := 147) C d_S_learn_143 (by decide) ?_
        exact Z_zret C hN hr (by decide) d_S_learn_147 (by unfold sChanged; first | rw [if_pos c131] | rw [if_neg (not_not_intro c131), if_pos c139] | rw [if_neg (not_not_intro c131), if_neg c139]) (zeq (by apply eC_M; simp only [up_eq, rw4_rw4, rw4_self, rw4_id, rk_2_3, rk_2_5, rk_2_6, rk_2_7, rk_2_9, rk_2_10, rk_3_2, rk_3_5, rk_3_6, rk_3_7, rk_3_9, rk_3_10, rk_5_2, rk_5_3, rk_5_6, rk_5_7, rk_5_9, rk_5_10, rk_6_2, rk_6_3, rk_6_5, rk_6_7, rk_6_9, rk_6_10, rk_7_2, rk_7_3, rk_7_5, rk_7_6, rk_7_9, rk_7_10, rk_9_2, rk_9_3, rk_9_5, rk_9_6, rk_9_7, rk_9_10, rk_10_2, rk_10_3, rk_10_5, rk_10_6, rk_10_7, rk_10_9]; rfl))
      · simp only [up_eq, rw4_rw4, rw4_self, rw4_id, rk_2_3, rk_2_5, rk_2_6, rk_2_7, rk_2_9, rk_2_10, rk_3_2, rk_3_5, rk_3_6, rk_3_7, rk_3_9, rk_3_10, rk_5_2, rk_5_3, rk_5_6, rk_5_7, rk_5_9, rk_5_10, rk_6_2, rk_6_3, rk_6_5, rk_6_7, rk_6_9, rk_6_10, rk_7_2, rk_7_3, rk_7_5, rk_7_6, rk_7_9, rk_7_10, rk_9_2, rk_9_3, rk_9_5, rk_9_6, rk_9_7, rk_9_10, rk_10_2, rk_10_3, rk_10_5, rk_10_6, rk_10_7, rk_10_9] at c131
        have c131 : sLearn (M 5 i j) (M 9 k 0) (M 10 k 0) 10 = M 5 i j 10 := c131
        refine Z_aload_n C 3 d_S_learn_134 rfl rfl ?_
        refine C_gS C w (by assumption) (by assumption) 3 (by decide) fl_S_22 rfl rfl d_S_learn_135 ?_
        refine Z_iload_n C 1 d_S_learn_138 rfl rfl ?_
        refine Z_icmp_eq (tgt := 146) C d_S_learn_139 (by decide) (fun c139 => ?_) (fun c139 => ?_)
        · simp only [up_eq, rw4_rw4, rw4_self, rw4_id, rk_2_3, rk_2_5, rk_2_6, rk_2_7, rk_2_9, rk_2_10, rk_3_2, rk_3_5, rk_3_6, rk_3_7, rk_3_9, rk_3_10, rk_5_2, rk_5_3, rk_5_6, rk_5_7, rk_5_9, rk_5_10, rk_6_2, rk_6_3, rk_6_5, rk_6_7, rk_6_9, rk_6_10, rk_7_2, rk_7_3, rk_7_5, rk_7_6, rk_7_9, rk_7_10, rk_9_2, rk_9_3, rk_9_5, rk_9_6, rk_9_7, rk_9_10, rk_10_2, rk_10_3, rk_10_5, rk_10_6, rk_10_7, rk_10_9] at c139
          have c139 : sLearn (M 5 i j) (M 9 k 0) (M 10 k 0) 3 = M 5 i j 3 := c139
          refine Z_iconst (v := 0) C d_S_learn_146 (by decide) ?_
          exact Z_zret C hN hr (by decide) d_S_learn_147 (by unfold sChanged; first | rw [if_pos c131] | rw [if_neg (not_not_intro c131), if_pos c139] | rw [if_neg (not_not_intro c131), if_neg c139]) (zeq (by apply eC_M; simp only [up_eq, rw4_rw4, rw4_self, rw4_id, rk_2_3, rk_2_5, rk_2_6, rk_2_7, rk_2_9, rk_2_10, rk_3_2, rk_3_5, rk_3_6, rk_3_7, rk_3_9, rk_3_10, rk_5_2, rk_5_3, rk_5_6, rk_5_7, rk_5_9, rk_5_10, rk_6_2, rk_6_3, rk_6_5, rk_6_7, rk_6_9, rk_6_10, rk_7_2, rk_7_3, rk_7_5, rk_7_6, rk_7_9, rk_7_10, rk_9_2, rk_9_3, rk_9_5, rk_9_6, rk_9_7, rk_9_10, rk_10_2, rk_10_3, rk_10_5, rk_10_6, rk_10_7, rk_10_9]; rfl))
        · simp only [up_eq, rw4_rw4, rw4_self, rw4_id, rk_2_3, rk_2_5, rk_2_6, rk_2_7, rk_2_9, rk_2_10, rk_3_2, rk_3_5, rk_3_6, rk_3_7, rk_3_9, rk_3_10, rk_5_2, rk_5_3, rk_5_6, rk_5_7, rk_5_9, rk_5_10, rk_6_2, rk_6_3, rk_6_5, rk_6_7, rk_6_9, rk_6_10, rk_7_2, rk_7_3, rk_7_5, rk_7_6, rk_7_9, rk_7_10, rk_9_2, rk_9_3, rk_9_5, rk_9_6, rk_9_7, rk_9_10, rk_10_2, rk_10_3, rk_10_5, rk_10_6, rk_10_7, rk_10_9] at c139
          have c139 : ¬ sLearn (M 5 i j) (M 9 k 0) (M 10 k 0) 3 = M 5 i j 3 := c139
          refine Z_iconst (v := 1) C d_S_learn_142 (by decide) ?_
          refine Z_goto (tgt := 147) C d_S_learn_143 (by decide) ?_
          exact Z_zret C hN hr (by decide) d_S_learn_147 (by unfold sChanged; first | rw [if_pos c131] | rw [if_neg (not_not_intro c131), if_pos c139] | rw [if_neg (not_not_intro c131), if_neg c139]) (zeq (by apply eC_M; simp only [up_eq, rw4_rw4, rw4_self, rw4_id, rk_2_3, rk_2_5, rk_2_6, rk_2_7, rk_2_9, rk_2_10, rk_3_2, rk_3_5, rk_3_6, rk_3_7, rk_3_9, rk_3_10, rk_5_2, rk_5_3, rk_5_6, rk_5_7, rk_5_9, rk_5_10, rk_6_2, rk_6_3, rk_6_5, rk_6_7, rk_6_9, rk_6_10, rk_7_2, rk_7_3, rk_7_5, rk_7_6, rk_7_9, rk_7_10, rk_9_2, rk_9_3, rk_9_5, rk_9_6, rk_9_7, rk_9_10, rk_10_2, rk_10_3, rk_10_5, rk_10_6, rk_10_7, rk_10_9]; rfl))
    · skip
      refine Z_aload_n C 3 d_S_learn_88 rfl rfl ?_
      refine Z_iconst (v := 0) C d_S_learn_89 (by decide) ?_
      refine C_pS C w (by assumption) (by assumption) 13 (by decide) fl_S_52 rfl rfl rfl rfl rfl d_S_learn_90 ?_
      refine Z_aload_n C 3 d_S_learn_93 rfl rfl ?_
      refine C_cSn C w (by assumption) (by assumption) mi_S_useRates ml_S_55 (c_S_useRates w _ _ _ _ _ (by assumption) (by assumption)) rfl rfl (by decide) rfl (Nat.le_of_ble_eq_true rfl) d_S_learn_94 ?_
      refine zKk (K' := eC V (rw4 M 5 i j (sLearn2 (M 5 i j) (M 9 k 0) (M 10 k 0))) P D) (zeq (by apply eC_M; simp only [up_eq, rw4_rw4, rw4_self, rw4_id, rk_2_3, rk_2_5, rk_2_6, rk_2_7, rk_2_9, rk_2_10, rk_3_2, rk_3_5, rk_3_6, rk_3_7, rk_3_9, rk_3_10, rk_5_2, rk_5_3, rk_5_6, rk_5_7, rk_5_9, rk_5_10, rk_6_2, rk_6_3, rk_6_5, rk_6_7, rk_6_9, rk_6_10, rk_7_2, rk_7_3, rk_7_5, rk_7_6, rk_7_9, rk_7_10, rk_9_2, rk_9_3, rk_9_5, rk_9_6, rk_9_7, rk_9_10, rk_10_2, rk_10_3, rk_10_5, rk_10_6, rk_10_7, rk_10_9]; unfold sLearn2 sLearn1; simp [upd, sUse, c77, c85])) ?_
      refine Z_aload_n C 3 d_S_learn_97 rfl rfl ?_
      refine Z_ldc C co_S_104 d_S_learn_98 ?_
      refine Z_aload_n C 3 d_S_learn_100 rfl rfl ?_
      refine C_gS C w (by assumption) (by assumption) 12 (by decide) fl_S_49 rfl rfl d_S_learn_101 ?_
      refine Z_aload_n C 3 d_S_learn_104 rfl rfl ?_
      refine C_gS C w (by assumption) (by assumption) 15 (by decide) fl_S_80 rfl rfl d_S_learn_105 ?_
      refine Z_aload_n C 3 d_S_learn_108 rfl rfl ?_
      refine C_gS C w (by assumption) (by assumption) 11 (by decide) fl_S_46 rfl rfl d_S_learn_109 ?_
      refine Z_mmax C ml_S_83 mx_s ma_i mx_c ⟨Nat.le_of_ble_eq_true rfl, Nat.le_of_ble_eq_true rfl⟩ d_S_learn_112 ?_
      refine Z_imul C d_S_learn_115 ?_
      refine Z_mmin C ml_S_74 mn_s ma_i mn_c ⟨Nat.le_of_ble_eq_true rfl, Nat.le_of_ble_eq_true rfl⟩ d_S_learn_116 ?_
      refine C_pS C w (by assumption) (by assumption) 17 (by decide) fl_S_58 rfl rfl rfl rfl rfl d_S_learn_119 ?_
      refine Z_aload_n C 3 d_S_learn_122 rfl rfl ?_
      refine C_cSn C w (by assumption) (by assumption) mi_S_follow ml_S_105 (c_S_follow w _ _ _ _ _ (by assumption) (by assumption)) rfl rfl (by decide) rfl (Nat.le_of_ble_eq_true rfl) d_S_learn_123 ?_
      refine Z_aload_n C 3 d_S_learn_126 rfl rfl ?_
      refine C_gS C w (by assumption) (by assumption) 10 (by decide) fl_S_43 rfl rfl d_S_learn_127 ?_
      refine Z_iload_n C 2 d_S_learn_130 rfl rfl ?_
      refine Z_icmp_ne (tgt := 142) C d_S_learn_131 (by decide) (fun c131 => ?_) (fun c131 => ?_)
      · simp only [up_eq, rw4_rw4, rw4_self, rw4_id, rk_2_3, rk_2_5, rk_2_6, rk_2_7, rk_2_9, rk_2_10, rk_3_2, rk_3_5, rk_3_6, rk_3_7, rk_3_9, rk_3_10, rk_5_2, rk_5_3, rk_5_6, rk_5_7, rk_5_9, rk_5_10, rk_6_2, rk_6_3, rk_6_5, rk_6_7, rk_6_9, rk_6_10, rk_7_2, rk_7_3, rk_7_5, rk_7_6, rk_7_9, rk_7_10, rk_9_2, rk_9_3, rk_9_5, rk_9_6, rk_9_7, rk_9_10, rk_10_2, rk_10_3, rk_10_5, rk_10_6, rk_10_7, rk_10_9] at c131
        have c131 : ¬ sLearn (M 5 i j) (M 9 k 0) (M 10 k 0) 10 = M 5 i j 10 := c131
        refine Z_iconst (v := 1) C d_S_learn_142 (by decide) ?_
        refine Z_goto (tgt := 147) C d_S_learn_143 (by decide) ?_
        exact Z_zret C hN hr (by decide) d_S_learn_147 (by unfold sChanged; first | rw [if_pos c131] | rw [if_neg (not_not_intro c131), if_pos c139] | rw [if_neg (not_not_intro c131), if_neg c139]) (zeq (by apply eC_M; simp only [up_eq, rw4_rw4, rw4_self, rw4_id, rk_2_3, rk_2_5, rk_2_6, rk_2_7, rk_2_9, rk_2_10, rk_3_2, rk_3_5, rk_3_6, rk_3_7, rk_3_9, rk_3_10, rk_5_2, rk_5_3, rk_5_6, rk_5_7, rk_5_9, rk_5_10, rk_6_2, rk_6_3, rk_6_5, rk_6_7, rk_6_9, rk_6_10, rk_7_2, rk_7_3, rk_7_5, rk_7_6, rk_7_9, rk_7_10, rk_9_2, rk_9_3, rk_9_5, rk_9_6, rk_9_7, rk_9_10, rk_10_2, rk_10_3, rk_10_5, rk_10_6, rk_10_7, rk_10_9]; rfl))
      · simp only [up_eq, rw4_rw4, rw4_self, rw4_id, rk_2_3, rk_2_5, rk_2_6, rk_2_7, rk_2_9, rk_2_10, rk_3_2, rk_3_5, rk_3_6, rk_3_7, rk_3_9, rk_3_10, rk_5_2, rk_5_3, rk_5_6, rk_5_7, rk_5_9, rk_5_10, rk_6_2, rk_6_3, rk_6_5, rk_6_7, rk_6_9, rk_6_10, rk_7_2, rk_7_3, rk_7_5, rk_7_6, rk_7_9, rk_7_10, rk_9_2, rk_9_3, rk_9_5, rk_9_6, rk_9_7, rk_9_10, rk_10_2, rk_10_3, rk_10_5, rk_10_6, rk_10_7, rk_10_9] at c131
        have c131 : sLearn (M 5 i j) (M 9 k 0) (M 10 k 0) 10 = M 5 i j 10 := c131
        refine Z_aload_n C 3 d_S_learn_134 rfl rfl ?_
        refine C_gS C w (by assumption) (by assumption) 3 (by decide) fl_S_22 rfl rfl d_S_learn_135 ?_
        refine Z_iload_n C 1 d_S_learn_138 rfl rfl ?_
        refine Z_icmp_eq (tgt := 146) C d_S_learn_139 (by decide) (fun c139 => ?_) (fun c139 => ?_)
        · simp only [up_eq, rw4_rw4, rw4_self, rw4_id, rk_2_3, rk_2_5, rk_2_6, rk_2_7, rk_2_9, rk_2_10, rk_3_2, rk_3_5, rk_3_6, rk_3_7, rk_3_9, rk_3_10, rk_5_2, rk_5_3, rk_5_6, rk_5_7, rk_5_9, rk_5_10, rk_6_2, rk_6_3, rk_6_5, rk_6_7, rk_6_9, rk_6_10, rk_7_2, rk_7_3, rk_7_5, rk_7_6, rk_7_9, rk_7_10, rk_9_2, rk_9_3, rk_9_5, rk_9_6, rk_9_7, rk_9_10, rk_10_2, rk_10_3, rk_10_5, rk_10_6, rk_10_7, rk_10_9] at c139
          have c139 : sLearn (M 5 i j) (M 9 k 0) (M 10 k 0) 3 = M 5 i j 3 := c139
          refine Z_iconst (v := 0) C d_S_learn_146 (by decide) ?_
          exact Z_zret C hN hr (by decide) d_S_learn_147 (by unfold sChanged; first | rw [if_pos c131] | rw [if_neg (not_not_intro c131), if_pos c139] | rw [if_neg (not_not_intro c131), if_neg c139]) (zeq (by apply eC_M; simp only [up_eq, rw4_rw4, rw4_self, rw4_id, rk_2_3, rk_2_5, rk_2_6, rk_2_7, rk_2_9, rk_2_10, rk_3_2, rk_3_5, rk_3_6, rk_3_7, rk_3_9, rk_3_10, rk_5_2, rk_5_3, rk_5_6, rk_5_7, rk_5_9, rk_5_10, rk_6_2, rk_6_3, rk_6_5, rk_6_7, rk_6_9, rk_6_10, rk_7_2, rk_7_3, rk_7_5, rk_7_6, rk_7_9, rk_7_10, rk_9_2, rk_9_3, rk_9_5, rk_9_6, rk_9_7, rk_9_10, rk_10_2, rk_10_3, rk_10_5, rk_10_6, rk_10_7, rk_10_9]; rfl))
        · simp only [up_eq, rw4_rw4, rw4_self, rw4_id, rk_2_3, rk_2_5, rk_2_6, rk_2_7, rk_2_9, rk_2_10, rk_3_2, rk_3_5, rk_3_6, rk_3_7, rk_3_9, rk_3_10, rk_5_2, rk_5_3, rk_5_6, rk_5_7, rk_5_9, rk_5_10, rk_6_2, rk_6_3, rk_6_5, rk_6_7, rk_6_9, rk_6_10, rk_7_2, rk_7_3, rk_7_5, rk_7_6, rk_7_9, rk_7_10, rk_9_2, rk_9_3, rk_9_5, rk_9_6, rk_9_7, rk_9_10, rk_10_2, rk_10_3, rk_10_5, rk_10_6, rk_10_7, rk_10_9] at c139
          have c139 : ¬ sLearn (M 5 i j) (M 9 k 0) (M 10 k 0) 3 = M 5 i j 3 := c139
          refine Z_iconst (v := 1) C d_S_learn_142 (by decide) ?_
          refine Z_goto (tgt := 147) C d_S_learn_143 (by decide) ?_
          exact Z_zret C hN hr (by decide) d_S_learn_147 (by unfold sChanged; first | rw [if_pos c131] | rw [if_neg (not_not_intro c131), if_pos c139] | rw [if_neg (not_not_intro c131), if_neg c139]) (zeq (by apply eC_M; simp only [up_eq, rw4_rw4, rw4_self, rw4_id, rk_2_3, rk_2_5, rk_2_6, rk_2_7, rk_2_9, rk_2_10, rk_3_2, rk_3_5, rk_3_6, rk_3_7, rk_3_9, rk_3_10, rk_5_2, rk_5_3, rk_5_6, rk_5_7, rk_5_9, rk_5_10, rk_6_2, rk_6_3, rk_6_5, rk_6_7, rk_6_9, rk_6_10, rk_7_2, rk_7_3, rk_7_5, rk_7_6, rk_7_9, rk_7_10, rk_9_2, rk_9_3, rk_9_5, rk_9_6, rk_9_7, rk_9_10, rk_10_2, rk_10_3, rk_10_5, rk_10_6, rk_10_7, rk_10_9]; rfl))

