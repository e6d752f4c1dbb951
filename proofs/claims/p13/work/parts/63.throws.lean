/-! THE CLASS'S CALLS THAT THROW; set -/
def leF (j : Nat) : Int32 := match j with
  | 0 => 1
  | 1 => 1
  | 2 => 0
  | 3 => 1
  | 4 => -2147483648
  | 5 => -2147483648
  | 6 => 1
  | _ => 0
def moF (j : Nat) : Int32 := match j with
  | 0 => 255
  | 1 => 4095
  | 2 => 1
  | 3 => 255
  | 4 => 2147483647
  | 5 => 2147483647
  | 6 => 50
  | 7 => 3
  | 8 => 254
  | _ => 31
/-- the two tables of settings -/
def stOk (A : Nat → Prop) (U : State) (H : Heap) : Prop := ∃ tL tM : Nat, (va_Z RX4 "LEAST" "[I" (.ref tL) A U H ∧ va_T .int tL 10 (fun j => .int (leF j)) A U H) ∧ (va_Z RX4 "MOST" "[I" (.ref tM) A U H ∧ va_T .int tM 10 (fun j => .int (moF j)) A U H)
theorem stOk.moved {A : Nat → Prop} {u U : State} {H : Heap} (hvm : u.vm.Alike U.vm) (h : stOk A u H) : stOk A U H := by
  obtain ⟨a, b, ⟨h1, h2⟩, h3, h4⟩ := h
  exact ⟨a, b, ⟨h1.moved hvm, h2.moved hvm⟩, h3.moved hvm, h4.moved hvm⟩
theorem stOk.kept {A : Nat → Prop} {U : State} {H H1 : Heap} (h : stOk A U H) (hq : ∀ a : Nat, a < H.size → ¬ A a → H1[a]? = H[a]?) : stOk A U H1 := by
  obtain ⟨a, b, ⟨h1, h2⟩, h3, h4⟩ := h
  exact ⟨a, b, ⟨h1.kept hq, h2.kept hq⟩, h3.kept hq, h4.kept hq⟩
theorem stOk.narrow {A B : Nat → Prop} {U : State} {H : Heap} (h : stOk A U H) (hAB : ∀ q, B q → A q) : stOk B U H := by
  obtain ⟨a, b, ⟨h1, h2⟩, h3, h4⟩ := h
  exact ⟨a, b, ⟨h1.narrow hAB, h2.narrow hAB⟩, h3.narrow hAB, h4.narrow hAB⟩
section JCR
variable {X : zX} {G : zG} {A : Nat → Prop} {nL : Nat} {Q : State → Prop} {pc : Nat} {lv : List (Nat × Value)} {st : List Value} {cc : ByteArray} {own : String} {fr lo : Nat} {V : zV} {M : zM} {P : Nat → Nat} {D : Nat × Nat} {i j index : Nat} {v : Value} {x : Int32} {B : Heap → Prop}
theorem JC_gL (C : jC X cc nL own fr lo) (w : wC G V) (hK : va_K G.1 G.2.1 G.2.2.1 X.s) (k : Nat) (hk : k < 3) (hlk : Cond.fieldLink own index RX4 (TX4 k).2.1 (TX4 k).2.2.1 ∈ zT) (hr : (TX4 k).1 = RX4) (hv : (fsL V)[k]? = some v) (hd : decode cc pc = .ok (.getfield index, 3)) (kk : J X A nL Q (zP G (eC V M P D)) (pc + 3) lv (v :: st)) : J X A nL Q (zP G (eC V M P D)) pc lv (.ref (V.1 0 0 0) :: st) :=
  J_get C hK (fun _ h => h) k (w.2.2.1 0 0 0 ⟨rfl, rfl⟩) (fun f hf => hf 0 0 0 ⟨rfl, rfl⟩) (by rw [w.1]; rfl) in_L hk hlk hr hv hd kk
theorem JC_gR (C : jC X cc nL own fr lo) (w : wC G V) (hK : va_K G.1 G.2.1 G.2.2.1 X.s) (hi : i < 5) (k : Nat) (hk : k < 11) (hlk : Cond.fieldLink own index RX1 (TX1 k).2.1 (TX1 k).2.2.1 ∈ zT) (hr : (TX1 k).1 = RX1) (hv : (fsR V i (M 2 i 0))[k]? = some v) (hd : decode cc pc = .ok (.getfield index, 3)) (kk : J X A nL Q (zP G (eC V M P D)) (pc + 3) lv (v :: st)) : J X A nL Q (zP G (eC V M P D)) pc lv (.ref (V.1 2 i 0) :: st) :=
  J_get C hK (fun _ h => h) k (w.2.2.1 2 i 0 ⟨hi, rfl⟩) (fun f hf => hf 2 i 0 ⟨hi, rfl⟩) (by rw [w.1]; rfl) in_R hk hlk hr hv hd kk
theorem JC_gS (C : jC X cc nL own fr lo) (w : wC G V) (hK : va_K G.1 G.2.1 G.2.2.1 X.s) (hi : i < 5) (hj : j < 5) (k : Nat) (hk : k < 19) (hlk : Cond.fieldLink own index RX2 (TX2 k).2.1 (TX2 k).2.2.1 ∈ zT) (hr : (TX2 k).1 = RX2) (hv : (fsS V i j (M 5 i j))[k]? = some v) (hd : decode cc pc = .ok (.getfield index, 3)) (kk : J X A nL Q (zP G (eC V M P D)) (pc + 3) lv (v :: st)) : J X A nL Q (zP G (eC V M P D)) pc lv (.ref (V.1 5 i j) :: st) :=
  J_get C hK (fun _ h => h) k (w.2.2.1 5 i j ⟨hi, hj⟩) (fun f hf => hf 5 i j ⟨hi, hj⟩) (by rw [w.1]; rfl) in_S hk hlk hr hv hd kk
theorem JC_ldQ (C : jC X cc nL own fr lo) (w : wC G V) (hK : va_K G.1 G.2.1 G.2.2.1 X.s) (n : Nat) (hn : x.toNatClampNeg = n) (hin : vp_in x 5) (hd : decode cc pc = .ok (.aaload, 1)) (kk : J X A nL Q (zP G (eC V M P D)) (pc + 1) lv (.ref (V.1 2 n 0) :: st)) : J X A nL Q (zP G (eC V M P D)) pc lv (.int x :: .ref (V.1 1 0 0) :: st) := by
  subst hn
  exact J_aald (t0 := 2) C hK (fun _ h => h) (w.2.2.1 1 0 0 ⟨rfl, rfl⟩) (fun f hf => hf 1 0 0 ⟨rfl, rfl⟩) (by rw [w.2.1]; rfl) hin hd kk
theorem JC_ldX (C : jC X cc nL own fr lo) (w : wC G V) (hK : va_K G.1 G.2.1 G.2.2.1 X.s) (hi : i < 5) (n : Nat) (hn : x.toNatClampNeg = n) (hin : vp_in x 5) (hd : decode cc pc = .ok (.aaload, 1)) (kk : J X A nL Q (zP G (eC V M P D)) (pc + 1) lv (.ref (V.1 5 i n) :: st)) : J X A nL Q (zP G (eC V M P D)) pc lv (.int x :: .ref (V.1 4 i 0) :: st) := by
  subst hn
  exact J_aald (t0 := 3) C hK (fun _ h => h) (w.2.2.1 4 i 0 ⟨hi, rfl⟩) (fun f hf => hf 4 i 0 ⟨hi, rfl⟩) (by rw [w.2.1]; rfl) hin hd kk
theorem J_gets {n d : String} {t : Nat} (C : jC X cc nL own fr lo) (hZ : va_Z RX4 n d (.ref t) A X.s X.s.heap) (hlk : Cond.fieldLink own index RX4 n d ∈ zT) (hd : decode cc pc = .ok (.getstatic index, 3)) (k : J X A nL Q B (pc + 3) lv (.ref t :: st)) : J X A nL Q B pc lv st := fun H locs ls hb hS hl =>
  va_gets C.1.1 C.1.2.1 hZ hS C.1.2.2.2.1 (C.1.2.2.2.2 _ hlk) (fun _ h => h) hd (k H locs ls hb hS hl)
theorem J_tlen {f : Nat → Value} {t : Nat} (C : jC X cc nL own fr lo) (hT : va_T .int t 10 f A X.s X.s.heap) (hd : decode cc pc = .ok (.arraylength, 1)) (k : J X A nL Q B (pc + 1) lv (.int 10 :: st)) : J X A nL Q B pc lv (.ref t :: st) := fun H locs ls hb hS hl =>
  va_tlen C.1.1 C.1.2.1 hT hS rfl hd (k H locs ls hb hS hl)
theorem J_ti {f : Nat → Int32} {t : Nat} (n : Nat) (C : jC X cc nL own fr lo) (hT : va_T .int t 10 (fun j => .int (f j)) A X.s X.s.heap) (hn : x.toNatClampNeg = n) (hin : vp_in x 10) (hd : decode cc pc = .ok (.iaload, 1)) (k : J X A nL Q B (pc + 1) lv (.int (f n) :: st)) : J X A nL Q B pc lv (.int x :: .ref t :: st) := fun H locs ls hb hS hl => by
  subst hn
  exact va_ti C.1.1 C.1.2.1 hT hS hin rfl hd (k H locs ls hb hS hl)
end JCR
theorem zP.kp {G : zG} {K : zK} : ∀ H H' : Heap, zP G K H → H.size ≤ H'.size → (∀ q, q < H.size → H'[q]? = H[q]?) → zP G K H' := fun _ _ h _ hq => h.kept (fun q _ hl => hq q hl)
set_option maxRecDepth 100000 in
set_option maxHeartbeats 4000000 in
theorem p_L_isRouter {l : Launch} {G : zG} (hNd : G.2.2.2.Nodup) (K : zK) (x : Int32) : zF l y_L_isRouter b_L_isRouter 1 (some .boolean) 0 0 G [.int x] K (some (.int (lIsR x))) K := by
  refine zF.ofZ (by decide) hNd (Nat.le_of_ble_eq_true rfl) (fun X hXl hN hr C => ?_)
  subst hXl
  show Z X G (zA G) 1 _ K 0 [(0, .int x)] []
  refine Z_iload_n C 0 d_L_isRouter_0 rfl rfl ?_
  refine Z_if_lt (tgt := 13) C d_L_isRouter_1 (by decide) (fun c1 => ?_) (fun c1 => ?_)
  · skip
    refine Z_iconst (v := 0) C d_L_isRouter_13 (by decide) ?_
    exact Z_zret C hN hr (by decide) d_L_isRouter_14 (by simp [lIsR, c1]) (zeq (rfl))
  · skip
    refine Z_iload_n C 0 d_L_isRouter_4 rfl rfl ?_
    refine Z_iconst (v := 5) C d_L_isRouter_5 (by decide) ?_
    refine Z_icmp_ge (tgt := 13) C d_L_isRouter_6 (by decide) (fun c6 => ?_) (fun c6 => ?_)
    · skip
      refine Z_iconst (v := 0) C d_L_isRouter_13 (by decide) ?_
      exact Z_zret C hN hr (by decide) d_L_isRouter_14 (by simp [lIsR, c1, c6]) (zeq (rfl))
    · skip
      refine Z_iconst (v := 1) C d_L_isRouter_9 (by decide) ?_
      refine Z_goto (tgt := 14) C d_L_isRouter_10 (by decide) ?_
      exact Z_zret C hN hr (by decide) d_L_isRouter_14 (by simp [lIsR, c1, c6]) (zeq (rfl))
set_option maxRecDepth 100000 in
set_option maxHeartbeats 4000000 in
theorem p_L_isRate {l : Launch} {G : zG} (hNd : G.2.2.2.Nodup) (K : zK) (x : Int32) : zF l y_L_isRate b_L_isRate 1 (some .boolean) 0 0 G [.int x] K (some (.int (lRate x))) K := by
  refine zF.ofZ (by decide) hNd (Nat.le_of_ble_eq_true rfl) (fun X hXl hN hr C => ?_)
  subst hXl
  show Z X G (zA G) 1 _ K 0 [(0, .int x)] []
  refine Z_iload_n C 0 d_L_isRate_0 rfl rfl ?_
  refine Z_iconst (v := 1) C d_L_isRate_1 (by decide) ?_
  refine Z_icmp_lt (tgt := 16) C d_L_isRate_2 (by decide) (fun c2 => ?_) (fun c2 => ?_)
  · skip
    refine Z_iconst (v := 0) C d_L_isRate_16 (by decide) ?_
    exact Z_zret C hN hr (by decide) d_L_isRate_17 (by simp [lRate, c2]) (zeq (rfl))
  · skip
    refine Z_iload_n C 0 d_L_isRate_5 rfl rfl ?_
    refine Z_sipush (v := 1000) C d_L_isRate_6 (by decide) ?_
    refine Z_icmp_gt (tgt := 16) C d_L_isRate_9 (by decide) (fun c9 => ?_) (fun c9 => ?_)
    · skip
      refine Z_iconst (v := 0) C d_L_isRate_16 (by decide) ?_
      exact Z_zret C hN hr (by decide) d_L_isRate_17 (by simp [lRate, c2, c9]) (zeq (rfl))
    · skip
      refine Z_iconst (v := 1) C d_L_isRate_12 (by decide) ?_
      refine Z_goto (tgt := 17) C d_L_isRate_13 (by decide) ?_
      exact Z_zret C hN hr (by decide) d_L_isRate_17 (by simp [lRate, c2, c9]) (zeq (rfl))
set_option maxRecDepth 100000 in
set_option maxHeartbeats 4000000 in
theorem t_start_1 {l : Launch} (hl : ∀ e, l.admits e → e.platform.stackTraces = false) {G : zG} {V : zV} (w : wC G V) (M : zM) (P : Nat → Nat) (D : Nat × Nat) (x : Int32) (h : lIsR x = 0) : zTh l y_L_start b_L_start 2 none 6 82 [.ref (V.1 0 0 0), .int x] (zPre G (eC V M P D)) "java/lang/IndexOutOfBoundsException" := by
  refine zTh.ofJ (B' := zP G (eC V M P D)) hl (by decide) (Nat.le_of_ble_eq_true rfl) (fun U h => h.1) (fun X hXl C t hb => ?_)
  subst hXl
  have hK := hb.2
  show J X nA 2 _ (zP G (eC V M P D)) 0 [(0, .ref (V.1 0 0 0)), (1, .int x)] []
  refine J_iload_n C 1 d_L_start_0 rfl rfl ?_
  refine J_callP (G := G) C zP.kp ms_L_isRouter ml_L_32 (p_L_isRouter List.nodup_nil _ _) ⟨Nat.le_of_ble_eq_true rfl, Nat.le_of_ble_eq_true rfl⟩ rfl rfl (Nat.le_of_ble_eq_true rfl) d_L_start_1 ?_
  refine J_if_ne (tgt := 17) C d_L_start_4 (by decide) (fun c4 => ?_) (fun c4 => ?_)
  · exact absurd h c4
  · skip
    exact J_throw C t (by decide) (by decide) ta_IndexOutOfBoundsException kl_L_43 iz_IndexOutOfBoundsException im_IndexOutOfBoundsException sr_L_58 ⟨Nat.le_of_ble_eq_true rfl, Nat.le_of_ble_eq_true rfl⟩ d_L_start_7 d_L_start_10 d_L_start_11 d_L_start_13 d_L_start_16
set_option maxRecDepth 100000 in
set_option maxHeartbeats 4000000 in
theorem t_stop_1 {l : Launch} (hl : ∀ e, l.admits e → e.platform.stackTraces = false) {G : zG} {V : zV} (w : wC G V) (M : zM) (P : Nat → Nat) (D : Nat × Nat) (x : Int32) (b : Int32) (h : lIsR x = 0) : zTh l y_L_stop b_L_stop 3 none 6 82 [.ref (V.1 0 0 0), .int x, .int b] (zPre G (eC V M P D)) "java/lang/IndexOutOfBoundsException" := by
  refine zTh.ofJ (B' := zP G (eC V M P D)) hl (by decide) (Nat.le_of_ble_eq_true rfl) (fun U h => h.1) (fun X hXl C t hb => ?_)
  subst hXl
  have hK := hb.2
  show J X nA 3 _ (zP G (eC V M P D)) 0 [(0, .ref (V.1 0 0 0)), (1, .int x), (2, .int b)] []
  refine J_iload_n C 1 d_L_stop_0 rfl rfl ?_
  refine J_callP (G := G) C zP.kp ms_L_isRouter ml_L_32 (p_L_isRouter List.nodup_nil _ _) ⟨Nat.le_of_ble_eq_true rfl, Nat.le_of_ble_eq_true rfl⟩ rfl rfl (Nat.le_of_ble_eq_true rfl) d_L_stop_1 ?_
  refine J_if_ne (tgt := 17) C d_L_stop_4 (by decide) (fun c4 => ?_) (fun c4 => ?_)
  · exact absurd h c4
  · skip
    exact J_throw C t (by decide) (by decide) ta_IndexOutOfBoundsException kl_L_43 iz_IndexOutOfBoundsException im_IndexOutOfBoundsException sr_L_58 ⟨Nat.le_of_ble_eq_true rfl, Nat.le_of_ble_eq_true rfl⟩ d_L_stop_7 d_L_stop_10 d_L_stop_11 d_L_stop_13 d_L_stop_16
set_option maxRecDepth 100000 in
set_option maxHeartbeats 4000000 in
theorem t_ask_1 {l : Launch} (hl : ∀ e, l.admits e → e.platform.stackTraces = false) {G : zG} {V : zV} (w : wC G V) (M : zM) (P : Nat → Nat) (D : Nat × Nat) (x : Int32) (h : lIsR x = 0) : zTh l y_L_ask b_L_ask 2 none 6 82 [.ref (V.1 0 0 0), .int x] (zPre G (eC V M P D)) "java/lang/IndexOutOfBoundsException" := by
  refine zTh.ofJ (B' := zP G (eC V M P D)) hl (by decide) (Nat.le_of_ble_eq_true rfl) (fun U h => h.1) (fun X hXl C t hb => ?_)
  subst hXl
  have hK := hb.2
  show J X nA 2 _ (zP G (eC V M P D)) 0 [(0, .ref (V.1 0 0 0)), (1, .int x)] []
  refine J_iload_n C 1 d_L_ask_0 rfl rfl ?_
  refine J_callP (G := G) C zP.kp ms_L_isRouter ml_L_32 (p_L_isRouter List.nodup_nil _ _) ⟨Nat.le_of_ble_eq_true rfl, Nat.le_of_ble_eq_true rfl⟩ rfl rfl (Nat.le_of_ble_eq_true rfl) d_L_ask_1 ?_
  refine J_if_ne (tgt := 17) C d_L_ask_4 (by decide) (fun c4 => ?_) (fun c4 => ?_)
  · exact absurd h c4
  · skip
    exact J_throw C t (by decide) (by decide) ta_IndexOutOfBoundsException kl_L_43 iz_IndexOutOfBoundsException im_IndexOutOfBoundsException sr_L_58 ⟨Nat.le_of_ble_eq_true rfl, Nat.le_of_ble_eq_true rfl⟩ d_L_ask_7 d_L_ask_10 d_L_ask_11 d_L_ask_13 d_L_ask_16
set_option maxRecDepth 100000 in
set_option maxHeartbeats 4000000 in
theorem t_arrive_1 {l : Launch} (hl : ∀ e, l.admits e → e.platform.stackTraces = false) {G : zG} {V : zV} (w : wC G V) (M : zM) (P : Nat → Nat) (D : Nat × Nat) (x : Int32) (k s hp ad : Int32) (h : lIsR x = 0) : zTh l y_L_arrive b_L_arrive 7 (some .boolean) 6 82 [.ref (V.1 0 0 0), .int x, .int k, .int s, .int hp, .int ad] (zPre G (eC V M P D)) "java/lang/IndexOutOfBoundsException" := by
  refine zTh.ofJ (B' := zP G (eC V M P D)) hl (by decide) (Nat.le_of_ble_eq_true rfl) (fun U h => h.1) (fun X hXl C t hb => ?_)
  subst hXl
  have hK := hb.2
  show J X nA 7 _ (zP G (eC V M P D)) 0 [(0, .ref (V.1 0 0 0)), (1, .int x), (2, .int k), (3, .int s), (4, .int hp), (5, .int ad)] []
  refine J_iload_n C 1 d_L_arrive_0 rfl rfl ?_
  refine J_callP (G := G) C zP.kp ms_L_isRouter ml_L_32 (p_L_isRouter List.nodup_nil _ _) ⟨Nat.le_of_ble_eq_true rfl, Nat.le_of_ble_eq_true rfl⟩ rfl rfl (Nat.le_of_ble_eq_true rfl) d_L_arrive_1 ?_
  refine J_if_ne (tgt := 17) C d_L_arrive_4 (by decide) (fun c4 => ?_) (fun c4 => ?_)
  · exact absurd h c4
  · skip
    exact J_throw C t (by decide) (by decide) ta_IndexOutOfBoundsException kl_L_43 iz_IndexOutOfBoundsException im_IndexOutOfBoundsException sr_L_58 ⟨Nat.le_of_ble_eq_true rfl, Nat.le_of_ble_eq_true rfl⟩ d_L_arrive_7 d_L_arrive_10 d_L_arrive_11 d_L_arrive_13 d_L_arrive_16
set_option maxRecDepth 100000 in
set_option maxHeartbeats 4000000 in
theorem t_start_2 {l : Launch} (hl : ∀ e, l.admits e → e.platform.stackTraces = false) {G : zG} {V : zV} (w : wC G V) (M : zM) (P : Nat → Nat) (D : Nat × Nat) (r : Nat) (hr5 : r < 5) (h : ¬ M 2 r 0 4 = 0) : zTh l y_L_start b_L_start 2 none 6 82 [.ref (V.1 0 0 0), .int (nI r)] (zPre G (eC V M P D)) "java/lang/IllegalStateException" := by
  refine zTh.ofJ (B' := zP G (eC V M P D)) hl (by decide) (Nat.le_of_ble_eq_true rfl) (fun U h => h.1) (fun X hXl C t hb => ?_)
  subst hXl
  have hK := hb.2
  show J X nA 2 _ (zP G (eC V M P D)) 0 [(0, .ref (V.1 0 0 0)), (1, .int (nI r))] []
  refine J_iload_n C 1 d_L_start_0 rfl rfl ?_
  refine J_callP (G := G) C zP.kp ms_L_isRouter ml_L_32 (p_L_isRouter List.nodup_nil _ _) ⟨Nat.le_of_ble_eq_true rfl, Nat.le_of_ble_eq_true rfl⟩ rfl rfl (Nat.le_of_ble_eq_true rfl) d_L_start_1 ?_
  refine J_if_ne (tgt := 17) C d_L_start_4 (by decide) (fun c4 => ?_) (fun c4 => ?_)
  · skip
    refine J_aload_n C 0 d_L_start_17 rfl rfl ?_
    refine JC_gL C w hK 1 (by decide) fl_L_21 rfl rfl d_L_start_18 ?_
    refine J_iload_n C 1 d_L_start_21 rfl rfl ?_
    refine JC_ldQ C w hK r (nI_clamp (by omega)) (vp_in_nI (by omega) (by decide)) d_L_start_22 ?_
    refine JC_gR C w hK (by assumption) 4 (by decide) fl_L_60 rfl rfl d_L_start_23 ?_
    refine J_if_eq (tgt := 39) C d_L_start_26 (by decide) (fun c26 => ?_) (fun c26 => ?_)
    · exact absurd c26 h
    · skip
      exact J_throw C t (by decide) (by decide) ta_IllegalStateException kl_L_64 iz_IllegalStateException im_IllegalStateException sr_L_66 ⟨Nat.le_of_ble_eq_true rfl, Nat.le_of_ble_eq_true rfl⟩ d_L_start_29 d_L_start_32 d_L_start_33 d_L_start_35 d_L_start_38
  · exact absurd c4 (lIsR_ne hr5)
set_option maxRecDepth 100000 in
set_option maxHeartbeats 4000000 in
theorem t_stop_2 {l : Launch} (hl : ∀ e, l.admits e → e.platform.stackTraces = false) {G : zG} {V : zV} (w : wC G V) (M : zM) (P : Nat → Nat) (D : Nat × Nat) (r : Nat) (hr5 : r < 5) (b : Int32) (h : M 2 r 0 4 = 0) : zTh l y_L_stop b_L_stop 3 none 6 82 [.ref (V.1 0 0 0), .int (nI r), .int b] (zPre G (eC V M P D)) "java/lang/IllegalStateException" := by
  refine zTh.ofJ (B' := zP G (eC V M P D)) hl (by decide) (Nat.le_of_ble_eq_true rfl) (fun U h => h.1) (fun X hXl C t hb => ?_)
  subst hXl
  have hK := hb.2
  show J X nA 3 _ (zP G (eC V M P D)) 0 [(0, .ref (V.1 0 0 0)), (1, .int (nI r)), (2, .int b)] []
  refine J_iload_n C 1 d_L_stop_0 rfl rfl ?_
  refine J_callP (G := G) C zP.kp ms_L_isRouter ml_L_32 (p_L_isRouter List.nodup_nil _ _) ⟨Nat.le_of_ble_eq_true rfl, Nat.le_of_ble_eq_true rfl⟩ rfl rfl (Nat.le_of_ble_eq_true rfl) d_L_stop_1 ?_
  refine J_if_ne (tgt := 17) C d_L_stop_4 (by decide) (fun c4 => ?_) (fun c4 => ?_)
  · skip
    refine J_aload_n C 0 d_L_stop_17 rfl rfl ?_
    refine JC_gL C w hK 1 (by decide) fl_L_21 rfl rfl d_L_stop_18 ?_
    refine J_iload_n C 1 d_L_stop_21 rfl rfl ?_
    refine JC_ldQ C w hK r (nI_clamp (by omega)) (vp_in_nI (by omega) (by decide)) d_L_stop_22 ?_
    refine JC_gR C w hK (by assumption) 4 (by decide) fl_L_60 rfl rfl d_L_stop_23 ?_
    refine J_if_ne (tgt := 39) C d_L_stop_26 (by decide) (fun c26 => ?_) (fun c26 => ?_)
    · exact absurd h c26
    · skip
      exact J_throw C t (by decide) (by decide) ta_IllegalStateException kl_L_64 iz_IllegalStateException im_IllegalStateException sr_L_72 ⟨Nat.le_of_ble_eq_true rfl, Nat.le_of_ble_eq_true rfl⟩ d_L_stop_29 d_L_stop_32 d_L_stop_33 d_L_stop_35 d_L_stop_38
  · exact absurd c4 (lIsR_ne hr5)
set_option maxRecDepth 100000 in
set_option maxHeartbeats 4000000 in
theorem t_ask_2 {l : Launch} (hl : ∀ e, l.admits e → e.platform.stackTraces = false) {G : zG} {V : zV} (w : wC G V) (M : zM) (P : Nat → Nat) (D : Nat × Nat) (r : Nat) (hr5 : r < 5) (h : M 2 r 0 4 = 0) : zTh l y_L_ask b_L_ask 2 none 6 82 [.ref (V.1 0 0 0), .int (nI r)] (zPre G (eC V M P D)) "java/lang/IllegalStateException" := by
  refine zTh.ofJ (B' := zP G (eC V M P D)) hl (by decide) (Nat.le_of_ble_eq_true rfl) (fun U h => h.1) (fun X hXl C t hb => ?_)
  subst hXl
  have hK := hb.2
  show J X nA 2 _ (zP G (eC V M P D)) 0 [(0, .ref (V.1 0 0 0)), (1, .int (nI r))] []
  refine J_iload_n C 1 d_L_ask_0 rfl rfl ?_
  refine J_callP (G := G) C zP.kp ms_L_isRouter ml_L_32 (p_L_isRouter List.nodup_nil _ _) ⟨Nat.le_of_ble_eq_true rfl, Nat.le_of_ble_eq_true rfl⟩ rfl rfl (Nat.le_of_ble_eq_true rfl) d_L_ask_1 ?_
  refine J_if_ne (tgt := 17) C d_L_ask_4 (by decide) (fun c4 => ?_) (fun c4 => ?_)
  · skip
    refine J_aload_n C 0 d_L_ask_17 rfl rfl ?_
    refine JC_gL C w hK 1 (by decide) fl_L_21 rfl rfl d_L_ask_18 ?_
    refine J_iload_n C 1 d_L_ask_21 rfl rfl ?_
    refine JC_ldQ C w hK r (nI_clamp (by omega)) (vp_in_nI (by omega) (by decide)) d_L_ask_22 ?_
    refine JC_gR C w hK (by assumption) 4 (by decide) fl_L_60 rfl rfl d_L_ask_23 ?_
    refine J_if_ne (tgt := 39) C d_L_ask_26 (by decide) (fun c26 => ?_) (fun c26 => ?_)
    · exact absurd h c26
    · skip
      exact J_throw C t (by decide) (by decide) ta_IllegalStateException kl_L_64 iz_IllegalStateException im_IllegalStateException sr_L_72 ⟨Nat.le_of_ble_eq_true rfl, Nat.le_of_ble_eq_true rfl⟩ d_L_ask_29 d_L_ask_32 d_L_ask_33 d_L_ask_35 d_L_ask_38
  · exact absurd c4 (lIsR_ne hr5)
set_option maxRecDepth 100000 in
set_option maxHeartbeats 4000000 in
theorem t_open_1 {l : Launch} (hl : ∀ e, l.admits e → e.platform.stackTraces = false) {G : zG} {V : zV} (w : wC G V) (M : zM) (P : Nat → Nat) (D : Nat × Nat) (x y tx rx m : Int32) (h : lIsR x = 0 ∨ lIsR y = 0 ∨ y = x) : zTh l y_L_open b_L_open 6 none 6 82 [.ref (V.1 0 0 0), .int x, .int y, .int tx, .int rx, .int m] (zPre G (eC V M P D)) "java/lang/IndexOutOfBoundsException" := by
  refine zTh.ofJ (B' := zP G (eC V M P D)) hl (by decide) (Nat.le_of_ble_eq_true rfl) (fun U h => h.1) (fun X hXl C t hb => ?_)
  subst hXl
  have hK := hb.2
  show J X nA 6 _ (zP G (eC V M P D)) 0 [(0, .ref (V.1 0 0 0)), (1, .int x), (2, .int y), (3, .int tx), (4, .int rx), (5, .int m)] []
  refine J_iload_n C 1 d_L_open_0 rfl rfl ?_
  refine J_callP (G := G) C zP.kp ms_L_isRouter ml_L_32 (p_L_isRouter List.nodup_nil _ _) ⟨Nat.le_of_ble_eq_true rfl, Nat.le_of_ble_eq_true rfl⟩ rfl rfl (Nat.le_of_ble_eq_true rfl) d_L_open_1 ?_
  refine J_if_eq (tgt := 19) C d_L_open_4 (by decide) (fun c4 => ?_) (fun c4 => ?_)
  · skip
    exact J_throw C t (by decide) (by decide) ta_IndexOutOfBoundsException kl_L_43 iz_IndexOutOfBoundsException im_IndexOutOfBoundsException sr_L_80 ⟨Nat.le_of_ble_eq_true rfl, Nat.le_of_ble_eq_true rfl⟩ d_L_open_19 d_L_open_22 d_L_open_23 d_L_open_25 d_L_open_28
  · skip
    refine J_iload_n C 2 d_L_open_7 rfl rfl ?_
    refine J_callP (G := G) C zP.kp ms_L_isRouter ml_L_32 (p_L_isRouter List.nodup_nil _ _) ⟨Nat.le_of_ble_eq_true rfl, Nat.le_of_ble_eq_true rfl⟩ rfl rfl (Nat.le_of_ble_eq_true rfl) d_L_open_8 ?_
    refine J_if_eq (tgt := 19) C d_L_open_11 (by decide) (fun c11 => ?_) (fun c11 => ?_)
    · skip
      exact J_throw C t (by decide) (by decide) ta_IndexOutOfBoundsException kl_L_43 iz_IndexOutOfBoundsException im_IndexOutOfBoundsException sr_L_80 ⟨Nat.le_of_ble_eq_true rfl, Nat.le_of_ble_eq_true rfl⟩ d_L_open_19 d_L_open_22 d_L_open_23 d_L_open_25 d_L_open_28
    · skip
      refine J_iload_n C 2 d_L_open_14 rfl rfl ?_
      refine J_iload_n C 1 d_L_open_15 rfl rfl ?_
      refine J_icmp_ne (tgt := 29) C d_L_open_16 (by decide) (fun c16 => ?_) (fun c16 => ?_)
      · exact absurd ((h.resolve_left c4).resolve_left c11) c16
      · skip
        exact J_throw C t (by decide) (by decide) ta_IndexOutOfBoundsException kl_L_43 iz_IndexOutOfBoundsException im_IndexOutOfBoundsException sr_L_80 ⟨Nat.le_of_ble_eq_true rfl, Nat.le_of_ble_eq_true rfl⟩ d_L_open_19 d_L_open_22 d_L_open_23 d_L_open_25 d_L_open_28
set_option maxRecDepth 100000 in
set_option maxHeartbeats 4000000 in
theorem t_open_2 {l : Launch} (hl : ∀ e, l.admits e → e.platform.stackTraces = false) {G : zG} {V : zV} (w : wC G V) (M : zM) (P : Nat → Nat) (D : Nat × Nat) (r : Nat) (hr5 : r < 5) (s : Nat) (hs5 : s < 5) (tx rx m : Int32) (hrs : ¬ s = r) (h : M 2 r 0 4 = 0) : zTh l y_L_open b_L_open 6 none 6 82 [.ref (V.1 0 0 0), .int (nI r), .int (nI s), .int tx, .int rx, .int m] (zPre G (eC V M P D)) "java/lang/IllegalStateException" := by
  refine zTh.ofJ (B' := zP G (eC V M P D)) hl (by decide) (Nat.le_of_ble_eq_true rfl) (fun U h => h.1) (fun X hXl C t hb => ?_)
  subst hXl
  have hK := hb.2
  show J X nA 6 _ (zP G (eC V M P D)) 0 [(0, .ref (V.1 0 0 0)), (1, .int (nI r)), (2, .int (nI s)), (3, .int tx), (4, .int rx), (5, .int m)] []
  refine J_iload_n C 1 d_L_open_0 rfl rfl ?_
  refine J_callP (G := G) C zP.kp ms_L_isRouter ml_L_32 (p_L_isRouter List.nodup_nil _ _) ⟨Nat.le_of_ble_eq_true rfl, Nat.le_of_ble_eq_true rfl⟩ rfl rfl (Nat.le_of_ble_eq_true rfl) d_L_open_1 ?_
  refine J_if_eq (tgt := 19) C d_L_open_4 (by decide) (fun c4 => ?_) (fun c4 => ?_)
  · exact absurd c4 (lIsR_ne hr5)
  · skip
    refine J_iload_n C 2 d_L_open_7 rfl rfl ?_
    refine J_callP (G := G) C zP.kp ms_L_isRouter ml_L_32 (p_L_isRouter List.nodup_nil _ _) ⟨Nat.le_of_ble_eq_true rfl, Nat.le_of_ble_eq_true rfl⟩ rfl rfl (Nat.le_of_ble_eq_true rfl) d_L_open_8 ?_
    refine J_if_eq (tgt := 19) C d_L_open_11 (by decide) (fun c11 => ?_) (fun c11 => ?_)
    · exact absurd c11 (lIsR_ne hs5)
    · skip
      refine J_iload_n C 2 d_L_open_14 rfl rfl ?_
      refine J_iload_n C 1 d_L_open_15 rfl rfl ?_
      refine J_icmp_ne (tgt := 29) C d_L_open_16 (by decide) (fun c16 => ?_) (fun c16 => ?_)
      · skip
        refine J_aload_n C 0 d_L_open_29 rfl rfl ?_
        refine JC_gL C w hK 1 (by decide) fl_L_21 rfl rfl d_L_open_30 ?_
        refine J_iload_n C 1 d_L_open_33 rfl rfl ?_
        refine JC_ldQ C w hK r (nI_clamp (by omega)) (vp_in_nI (by omega) (by decide)) d_L_open_34 ?_
        refine JC_gR C w hK (by assumption) 4 (by decide) fl_L_60 rfl rfl d_L_open_35 ?_
        refine J_if_ne (tgt := 51) C d_L_open_38 (by decide) (fun c38 => ?_) (fun c38 => ?_)
        · exact absurd h c38
        · skip
          exact J_throw C t (by decide) (by decide) ta_IllegalStateException kl_L_64 iz_IllegalStateException im_IllegalStateException sr_L_72 ⟨Nat.le_of_ble_eq_true rfl, Nat.le_of_ble_eq_true rfl⟩ d_L_open_41 d_L_open_44 d_L_open_45 d_L_open_47 d_L_open_50
      · exact absurd ((nI_eq (by omega) (by omega)).mp c16) hrs
set_option maxRecDepth 100000 in
set_option maxHeartbeats 4000000 in
theorem t_open_3 {l : Launch} (hl : ∀ e, l.admits e → e.platform.stackTraces = false) {G : zG} {V : zV} (w : wC G V) (M : zM) (P : Nat → Nat) (D : Nat × Nat) (r : Nat) (hr5 : r < 5) (s : Nat) (hs5 : s < 5) (tx rx m : Int32) (hrs : ¬ s = r) (h : ¬ M 2 r 0 4 = 0) (hb3 : lRate tx = 0 ∨ lRate rx = 0 ∨ m < 1 ∨ ¬ m ≤ 255) : zTh l y_L_open b_L_open 6 none 6 82 [.ref (V.1 0 0 0), .int (nI r), .int (nI s), .int tx, .int rx, .int m] (zPre G (eC V M P D)) "java/lang/IllegalArgumentException" := by
  refine zTh.ofJ (B' := zP G (eC V M P D)) hl (by decide) (Nat.le_of_ble_eq_true rfl) (fun U h => h.1) (fun X hXl C t hb => ?_)
  subst hXl
  have hK := hb.2
  show J X nA 6 _ (zP G (eC V M P D)) 0 [(0, .ref (V.1 0 0 0)), (1, .int (nI r)), (2, .int (nI s)), (3, .int tx), (4, .int rx), (5, .int m)] []
  refine J_iload_n C 1 d_L_open_0 rfl rfl ?_
  refine J_callP (G := G) C zP.kp ms_L_isRouter ml_L_32 (p_L_isRouter List.nodup_nil _ _) ⟨Nat.le_of_ble_eq_true rfl, Nat.le_of_ble_eq_true rfl⟩ rfl rfl (Nat.le_of_ble_eq_true rfl) d_L_open_1 ?_
  refine J_if_eq (tgt := 19) C d_L_open_4 (by decide) (fun c4 => ?_) (fun c4 => ?_)
  · exact absurd c4 (lIsR_ne hr5)
  · skip
    refine J_iload_n C 2 d_L_open_7 rfl rfl ?_
    refine J_callP (G := G) C zP.kp ms_L_isRouter ml_L_32 (p_L_isRouter List.nodup_nil _ _) ⟨Nat.le_of_ble_eq_true rfl, Nat.le_of_ble_eq_true rfl⟩ rfl rfl (Nat.le_of_ble_eq_true rfl) d_L_open_8 ?_
    refine J_if_eq (tgt := 19) C d_L_open_11 (by decide) (fun c11 => ?_) (fun c11 => ?_)
    · exact absurd c11 (lIsR_ne hs5)
    · skip
      refine J_iload_n C 2 d_L_open_14 rfl rfl ?_
      refine J_iload_n C 1 d_L_open_15 rfl rfl ?_
      refine J_icmp_ne (tgt := 29) C d_L_open_16 (by decide) (fun c16 => ?_) (fun c16 => ?_)
      · skip
        refine J_aload_n C 0 d_L_open_29 rfl rfl ?_
        refine JC_gL C w hK 1 (by decide) fl_L_21 rfl rfl d_L_open_30 ?_
        refine J_iload_n C 1 d_L_open_33 rfl rfl ?_
        refine JC_ldQ C w hK r (nI_clamp (by omega)) (vp_in_nI (by omega) (by decide)) d_L_open_34 ?_
        refine JC_gR C w hK (by assumption) 4 (by decide) fl_L_60 rfl rfl d_L_open_35 ?_
        refine J_if_ne (tgt := 51) C d_L_open_38 (by decide) (fun c38 => ?_) (fun c38 => ?_)
        · skip
          refine J_iload_n C 3 d_L_open_51 rfl rfl ?_
          refine J_callP (G := G) C zP.kp ms_L_isRate ml_L_82 (p_L_isRate List.nodup_nil _ _) ⟨Nat.le_of_ble_eq_true rfl, Nat.le_of_ble_eq_true rfl⟩ rfl rfl (Nat.le_of_ble_eq_true rfl) d_L_open_52 ?_
          refine J_if_eq (tgt := 80) C d_L_open_55 (by decide) (fun c55 => ?_) (fun c55 => ?_)
          · skip
            exact J_throw C t (by decide) (by decide) ta_IllegalArgumentException kl_L_50 iz_IllegalArgumentException im_IllegalArgumentException sr_L_85 ⟨Nat.le_of_ble_eq_true rfl, Nat.le_of_ble_eq_true rfl⟩ d_L_open_80 d_L_open_83 d_L_open_84 d_L_open_86 d_L_open_89
          · skip
            refine J_iload C 4 d_L_open_58 rfl ?_
            refine J_callP (G := G) C zP.kp ms_L_isRate ml_L_82 (p_L_isRate List.nodup_nil _ _) ⟨Nat.le_of_ble_eq_true rfl, Nat.le_of_ble_eq_true rfl⟩ rfl rfl (Nat.le_of_ble_eq_true rfl) d_L_open_60 ?_
            refine J_if_eq (tgt := 80) C d_L_open_63 (by decide) (fun c63 => ?_) (fun c63 => ?_)
            · skip
              exact J_throw C t (by decide) (by decide) ta_IllegalArgumentException kl_L_50 iz_IllegalArgumentException im_IllegalArgumentException sr_L_85 ⟨Nat.le_of_ble_eq_true rfl, Nat.le_of_ble_eq_true rfl⟩ d_L_open_80 d_L_open_83 d_L_open_84 d_L_open_86 d_L_open_89
            · skip
              refine J_iload C 5 d_L_open_66 rfl ?_
              refine J_iconst (v := 1) C d_L_open_68 (by decide) ?_
              refine J_icmp_lt (tgt := 80) C d_L_open_69 (by decide) (fun c69 => ?_) (fun c69 => ?_)
              · skip
                exact J_throw C t (by decide) (by decide) ta_IllegalArgumentException kl_L_50 iz_IllegalArgumentException im_IllegalArgumentException sr_L_85 ⟨Nat.le_of_ble_eq_true rfl, Nat.le_of_ble_eq_true rfl⟩ d_L_open_80 d_L_open_83 d_L_open_84 d_L_open_86 d_L_open_89
              · skip
                refine J_iload C 5 d_L_open_72 rfl ?_
                refine J_sipush (v := 255) C d_L_open_74 (by decide) ?_
                refine J_icmp_le (tgt := 90) C d_L_open_77 (by decide) (fun c77 => ?_) (fun c77 => ?_)
                · exact absurd c77 (((hb3.resolve_left c55).resolve_left c63).resolve_left c69)
                · skip
                  exact J_throw C t (by decide) (by decide) ta_IllegalArgumentException kl_L_50 iz_IllegalArgumentException im_IllegalArgumentException sr_L_85 ⟨Nat.le_of_ble_eq_true rfl, Nat.le_of_ble_eq_true rfl⟩ d_L_open_80 d_L_open_83 d_L_open_84 d_L_open_86 d_L_open_89
        · exact absurd c38 h
      · exact absurd ((nI_eq (by omega) (by omega)).mp c16) hrs
set_option maxRecDepth 100000 in
set_option maxHeartbeats 4000000 in
theorem t_change_1 {l : Launch} (hl : ∀ e, l.admits e → e.platform.stackTraces = false) {G : zG} {V : zV} (w : wC G V) (M : zM) (P : Nat → Nat) (D : Nat × Nat) (x y tx rx : Int32) (h : lIsR x = 0 ∨ lIsR y = 0) : zTh l y_L_change b_L_change 7 none 6 82 [.ref (V.1 0 0 0), .int x, .int y, .int tx, .int rx] (zPre G (eC V M P D)) "java/lang/IndexOutOfBoundsException" := by
  refine zTh.ofJ (B' := zP G (eC V M P D)) hl (by decide) (Nat.le_of_ble_eq_true rfl) (fun U h => h.1) (fun X hXl C t hb => ?_)
  subst hXl
  have hK := hb.2
  show J X nA 7 _ (zP G (eC V M P D)) 0 [(0, .ref (V.1 0 0 0)), (1, .int x), (2, .int y), (3, .int tx), (4, .int rx)] []
  refine J_iload_n C 1 d_L_change_0 rfl rfl ?_
  refine J_callP (G := G) C zP.kp ms_L_isRouter ml_L_32 (p_L_isRouter List.nodup_nil _ _) ⟨Nat.le_of_ble_eq_true rfl, Nat.le_of_ble_eq_true rfl⟩ rfl rfl (Nat.le_of_ble_eq_true rfl) d_L_change_1 ?_
  refine J_if_eq (tgt := 14) C d_L_change_4 (by decide) (fun c4 => ?_) (fun c4 => ?_)
  · skip
    exact J_throw C t (by decide) (by decide) ta_IndexOutOfBoundsException kl_L_43 iz_IndexOutOfBoundsException im_IndexOutOfBoundsException sr_L_58 ⟨Nat.le_of_ble_eq_true rfl, Nat.le_of_ble_eq_true rfl⟩ d_L_change_14 d_L_change_17 d_L_change_18 d_L_change_20 d_L_change_23
  · skip
    refine J_iload_n C 2 d_L_change_7 rfl rfl ?_
    refine J_callP (G := G) C zP.kp ms_L_isRouter ml_L_32 (p_L_isRouter List.nodup_nil _ _) ⟨Nat.le_of_ble_eq_true rfl, Nat.le_of_ble_eq_true rfl⟩ rfl rfl (Nat.le_of_ble_eq_true rfl) d_L_change_8 ?_
    refine J_if_ne (tgt := 24) C d_L_change_11 (by decide) (fun c11 => ?_) (fun c11 => ?_)
    · exact absurd (h.resolve_left c4) c11
    · skip
      exact J_throw C t (by decide) (by decide) ta_IndexOutOfBoundsException kl_L_43 iz_IndexOutOfBoundsException im_IndexOutOfBoundsException sr_L_58 ⟨Nat.le_of_ble_eq_true rfl, Nat.le_of_ble_eq_true rfl⟩ d_L_change_14 d_L_change_17 d_L_change_18 d_L_change_20 d_L_change_23
set_option maxRecDepth 100000 in
set_option maxHeartbeats 4000000 in
theorem t_change_2 {l : Launch} (hl : ∀ e, l.admits e → e.platform.stackTraces = false) {G : zG} {V : zV} (w : wC G V) (M : zM) (P : Nat → Nat) (D : Nat × Nat) (r : Nat) (hr5 : r < 5) (s : Nat) (hs5 : s < 5) (tx rx : Int32) (h : M 5 r s 2 = 0 ∨ M 5 r s 3 = 0) : zTh l y_L_change b_L_change 7 none 6 82 [.ref (V.1 0 0 0), .int (nI r), .int (nI s), .int tx, .int rx] (zPre G (eC V M P D)) "java/lang/IllegalStateException" := by
  refine zTh.ofJ (B' := zP G (eC V M P D)) hl (by decide) (Nat.le_of_ble_eq_true rfl) (fun U h => h.1) (fun X hXl C t hb => ?_)
  subst hXl
  have hK := hb.2
  show J X nA 7 _ (zP G (eC V M P D)) 0 [(0, .ref (V.1 0 0 0)), (1, .int (nI r)), (2, .int (nI s)), (3, .int tx), (4, .int rx)] []
  refine J_iload_n C 1 d_L_change_0 rfl rfl ?_
  refine J_callP (G := G) C zP.kp ms_L_isRouter ml_L_32 (p_L_isRouter List.nodup_nil _ _) ⟨Nat.le_of_ble_eq_true rfl, Nat.le_of_ble_eq_true rfl⟩ rfl rfl (Nat.le_of_ble_eq_true rfl) d_L_change_1 ?_
  refine J_if_eq (tgt := 14) C d_L_change_4 (by decide) (fun c4 => ?_) (fun c4 => ?_)
  · exact absurd c4 (lIsR_ne hr5)
  · skip
    refine J_iload_n C 2 d_L_change_7 rfl rfl ?_
    refine J_callP (G := G) C zP.kp ms_L_isRouter ml_L_32 (p_L_isRouter List.nodup_nil _ _) ⟨Nat.le_of_ble_eq_true rfl, Nat.le_of_ble_eq_true rfl⟩ rfl rfl (Nat.le_of_ble_eq_true rfl) d_L_change_8 ?_
    refine J_if_ne (tgt := 24) C d_L_change_11 (by decide) (fun c11 => ?_) (fun c11 => ?_)
    · skip
      refine J_aload_n C 0 d_L_change_24 rfl rfl ?_
      refine JC_gL C w hK 1 (by decide) fl_L_21 rfl rfl d_L_change_25 ?_
      refine J_iload_n C 1 d_L_change_28 rfl rfl ?_
      refine JC_ldQ C w hK r (nI_clamp (by omega)) (vp_in_nI (by omega) (by decide)) d_L_change_29 ?_
      refine JC_gR C w hK (by assumption) 3 (by decide) fl_L_87 rfl rfl d_L_change_30 ?_
      refine J_iload_n C 2 d_L_change_33 rfl rfl ?_
      refine JC_ldX C w hK (by assumption) s (nI_clamp (by omega)) (vp_in_nI (by omega) (by decide)) d_L_change_34 ?_
      refine J_astore C d_L_change_35 (by decide) rfl ?_
      refine J_aload C 0 d_L_change_37 rfl ?_
      refine JC_gS C w hK (by assumption) (by assumption) 2 (by decide) fl_L_97 rfl rfl d_L_change_39 ?_
      refine J_if_eq (tgt := 53) C d_L_change_42 (by decide) (fun c42 => ?_) (fun c42 => ?_)
      · skip
        exact J_throw C t (by decide) (by decide) ta_IllegalStateException kl_L_64 iz_IllegalStateException im_IllegalStateException sr_L_102 ⟨Nat.le_of_ble_eq_true rfl, Nat.le_of_ble_eq_true rfl⟩ d_L_change_53 d_L_change_56 d_L_change_57 d_L_change_59 d_L_change_62
      · skip
        refine J_aload C 0 d_L_change_45 rfl ?_
        refine JC_gS C w hK (by assumption) (by assumption) 3 (by decide) fl_L_101 rfl rfl d_L_change_47 ?_
        refine J_if_ne (tgt := 63) C d_L_change_50 (by decide) (fun c50 => ?_) (fun c50 => ?_)
        · exact absurd (h.resolve_left c42) c50
        · skip
          exact J_throw C t (by decide) (by decide) ta_IllegalStateException kl_L_64 iz_IllegalStateException im_IllegalStateException sr_L_102 ⟨Nat.le_of_ble_eq_true rfl, Nat.le_of_ble_eq_true rfl⟩ d_L_change_53 d_L_change_56 d_L_change_57 d_L_change_59 d_L_change_62
    · exact absurd c11 (lIsR_ne hs5)
set_option maxRecDepth 100000 in
set_option maxHeartbeats 4000000 in
theorem t_tick_1 {l : Launch} (hl : ∀ e, l.admits e → e.platform.stackTraces = false) {G : zG} {V : zV} (w : wC G V) (M : zM) (P : Nat → Nat) (D : Nat × Nat) (x : Int32) (h : x < 1 ∨ ¬ x ≤ 400) : zTh l y_L_tick b_L_tick 5 (some .int) 6 82 [.ref (V.1 0 0 0), .int x] (zPre G (eC V M P D)) "java/lang/IllegalArgumentException" := by
  refine zTh.ofJ (B' := zP G (eC V M P D)) hl (by decide) (Nat.le_of_ble_eq_true rfl) (fun U h => h.1) (fun X hXl C t hb => ?_)
  subst hXl
  have hK := hb.2
  show J X nA 5 _ (zP G (eC V M P D)) 0 [(0, .ref (V.1 0 0 0)), (1, .int x)] []
  refine J_iload_n C 1 d_L_tick_0 rfl rfl ?_
  refine J_iconst (v := 1) C d_L_tick_1 (by decide) ?_
  refine J_icmp_lt (tgt := 12) C d_L_tick_2 (by decide) (fun c2 => ?_) (fun c2 => ?_)
  · skip
    exact J_throw C t (by decide) (by decide) ta_IllegalArgumentException kl_L_50 iz_IllegalArgumentException im_IllegalArgumentException sr_L_116 ⟨Nat.le_of_ble_eq_true rfl, Nat.le_of_ble_eq_true rfl⟩ d_L_tick_12 d_L_tick_15 d_L_tick_16 d_L_tick_18 d_L_tick_21
  · skip
    refine J_iload_n C 1 d_L_tick_5 rfl rfl ?_
    refine J_sipush (v := 400) C d_L_tick_6 (by decide) ?_
    refine J_icmp_le (tgt := 22) C d_L_tick_9 (by decide) (fun c9 => ?_) (fun c9 => ?_)
    · exact absurd c9 (h.resolve_left c2)
    · skip
      exact J_throw C t (by decide) (by decide) ta_IllegalArgumentException kl_L_50 iz_IllegalArgumentException im_IllegalArgumentException sr_L_116 ⟨Nat.le_of_ble_eq_true rfl, Nat.le_of_ble_eq_true rfl⟩ d_L_tick_12 d_L_tick_15 d_L_tick_16 d_L_tick_18 d_L_tick_21
set_option maxRecDepth 100000 in
set_option maxHeartbeats 4000000 in
theorem t_arrive_2 {l : Launch} (hl : ∀ e, l.admits e → e.platform.stackTraces = false) {G : zG} {V : zV} (w : wC G V) (M : zM) (P : Nat → Nat) (D : Nat × Nat) (r : Nat) (hr5 : r < 5) (k s hp ad : Int32) (h : (¬ k = 1 ∧ ¬ k = 2) ∨ s < 0 ∨ 15 ≤ s ∨ hp < 0 ∨ ¬ hp ≤ 255) : zTh l y_L_arrive b_L_arrive 7 (some .boolean) 6 82 [.ref (V.1 0 0 0), .int (nI r), .int k, .int s, .int hp, .int ad] (zPre G (eC V M P D)) "java/lang/IllegalArgumentException" := by
  refine zTh.ofJ (B' := zP G (eC V M P D)) hl (by decide) (Nat.le_of_ble_eq_true rfl) (fun U h => h.1) (fun X hXl C t hb => ?_)
  subst hXl
  have hK := hb.2
  show J X nA 7 _ (zP G (eC V M P D)) 0 [(0, .ref (V.1 0 0 0)), (1, .int (nI r)), (2, .int k), (3, .int s), (4, .int hp), (5, .int ad)] []
  refine J_iload_n C 1 d_L_arrive_0 rfl rfl ?_
  refine J_callP (G := G) C zP.kp ms_L_isRouter ml_L_32 (p_L_isRouter List.nodup_nil _ _) ⟨Nat.le_of_ble_eq_true rfl, Nat.le_of_ble_eq_true rfl⟩ rfl rfl (Nat.le_of_ble_eq_true rfl) d_L_arrive_1 ?_
  refine J_if_ne (tgt := 17) C d_L_arrive_4 (by decide) (fun c4 => ?_) (fun c4 => ?_)
  · skip
    refine J_iload_n C 2 d_L_arrive_17 rfl rfl ?_
    refine J_iconst (v := 1) C d_L_arrive_18 (by decide) ?_
    refine J_icmp_eq (tgt := 27) C d_L_arrive_19 (by decide) (fun c19 => ?_) (fun c19 => ?_)
    · skip
      refine J_iload_n C 3 d_L_arrive_27 rfl rfl ?_
      refine J_if_lt (tgt := 50) C d_L_arrive_28 (by decide) (fun c28 => ?_) (fun c28 => ?_)
      · skip
        exact J_throw C t (by decide) (by decide) ta_IllegalArgumentException kl_L_50 iz_IllegalArgumentException im_IllegalArgumentException sr_L_143 ⟨Nat.le_of_ble_eq_true rfl, Nat.le_of_ble_eq_true rfl⟩ d_L_arrive_50 d_L_arrive_53 d_L_arrive_54 d_L_arrive_56 d_L_arrive_59
      · skip
        refine J_iload_n C 3 d_L_arrive_31 rfl rfl ?_
        refine J_bipush (v := 15) C d_L_arrive_32 (by decide) ?_
        refine J_icmp_ge (tgt := 50) C d_L_arrive_34 (by decide) (fun c34 => ?_) (fun c34 => ?_)
        · skip
          exact J_throw C t (by decide) (by decide) ta_IllegalArgumentException kl_L_50 iz_IllegalArgumentException im_IllegalArgumentException sr_L_143 ⟨Nat.le_of_ble_eq_true rfl, Nat.le_of_ble_eq_true rfl⟩ d_L_arrive_50 d_L_arrive_53 d_L_arrive_54 d_L_arrive_56 d_L_arrive_59
        · skip
          refine J_iload C 4 d_L_arrive_37 rfl ?_
          refine J_if_lt (tgt := 50) C d_L_arrive_39 (by decide) (fun c39 => ?_) (fun c39 => ?_)
          · skip
            exact J_throw C t (by decide) (by decide) ta_IllegalArgumentException kl_L_50 iz_IllegalArgumentException im_IllegalArgumentException sr_L_143 ⟨Nat.le_of_ble_eq_true rfl, Nat.le_of_ble_eq_true rfl⟩ d_L_arrive_50 d_L_arrive_53 d_L_arrive_54 d_L_arrive_56 d_L_arrive_59
          · skip
            refine J_iload C 4 d_L_arrive_42 rfl ?_
            refine J_sipush (v := 255) C d_L_arrive_44 (by decide) ?_
            refine J_icmp_le (tgt := 60) C d_L_arrive_47 (by decide) (fun c47 => ?_) (fun c47 => ?_)
            · exact absurd c47 ((((h.resolve_left (by intro z; first | exact z.1 c19 | exact z.2 c24)).resolve_left c28).resolve_left c34).resolve_left c39)
            · skip
              exact J_throw C t (by decide) (by decide) ta_IllegalArgumentException kl_L_50 iz_IllegalArgumentException im_IllegalArgumentException sr_L_143 ⟨Nat.le_of_ble_eq_true rfl, Nat.le_of_ble_eq_true rfl⟩ d_L_arrive_50 d_L_arrive_53 d_L_arrive_54 d_L_arrive_56 d_L_arrive_59
    · skip
      refine J_iload_n C 2 d_L_arrive_22 rfl rfl ?_
      refine J_iconst (v := 2) C d_L_arrive_23 (by decide) ?_
      refine J_icmp_ne (tgt := 50) C d_L_arrive_24 (by decide) (fun c24 => ?_) (fun c24 => ?_)
      · skip
        exact J_throw C t (by decide) (by decide) ta_IllegalArgumentException kl_L_50 iz_IllegalArgumentException im_IllegalArgumentException sr_L_143 ⟨Nat.le_of_ble_eq_true rfl, Nat.le_of_ble_eq_true rfl⟩ d_L_arrive_50 d_L_arrive_53 d_L_arrive_54 d_L_arrive_56 d_L_arrive_59
      · skip
        refine J_iload_n C 3 d_L_arrive_27 rfl rfl ?_
        refine J_if_lt (tgt := 50) C d_L_arrive_28 (by decide) (fun c28 => ?_) (fun c28 => ?_)
        · skip
          exact J_throw C t (by decide) (by decide) ta_IllegalArgumentException kl_L_50 iz_IllegalArgumentException im_IllegalArgumentException sr_L_143 ⟨Nat.le_of_ble_eq_true rfl, Nat.le_of_ble_eq_true rfl⟩ d_L_arrive_50 d_L_arrive_53 d_L_arrive_54 d_L_arrive_56 d_L_arrive_59
        · skip
          refine J_iload_n C 3 d_L_arrive_31 rfl rfl ?_
          refine J_bipush (v := 15) C d_L_arrive_32 (by decide) ?_
          refine J_icmp_ge (tgt := 50) C d_L_arrive_34 (by decide) (fun c34 => ?_) (fun c34 => ?_)
          · skip
            exact J_throw C t (by decide) (by decide) ta_IllegalArgumentException kl_L_50 iz_IllegalArgumentException im_IllegalArgumentException sr_L_143 ⟨Nat.le_of_ble_eq_true rfl, Nat.le_of_ble_eq_true rfl⟩ d_L_arrive_50 d_L_arrive_53 d_L_arrive_54 d_L_arrive_56 d_L_arrive_59
          · skip
            refine J_iload C 4 d_L_arrive_37 rfl ?_
            refine J_if_lt (tgt := 50) C d_L_arrive_39 (by decide) (fun c39 => ?_) (fun c39 => ?_)
            · skip
              exact J_throw C t (by decide) (by decide) ta_IllegalArgumentException kl_L_50 iz_IllegalArgumentException im_IllegalArgumentException sr_L_143 ⟨Nat.le_of_ble_eq_true rfl, Nat.le_of_ble_eq_true rfl⟩ d_L_arrive_50 d_L_arrive_53 d_L_arrive_54 d_L_arrive_56 d_L_arrive_59
            · skip
              refine J_iload C 4 d_L_arrive_42 rfl ?_
              refine J_sipush (v := 255) C d_L_arrive_44 (by decide) ?_
              refine J_icmp_le (tgt := 60) C d_L_arrive_47 (by decide) (fun c47 => ?_) (fun c47 => ?_)
              · exact absurd c47 ((((h.resolve_left (by intro z; first | exact z.1 c19 | exact z.2 c24)).resolve_left c28).resolve_left c34).resolve_left c39)
              · skip
                exact J_throw C t (by decide) (by decide) ta_IllegalArgumentException kl_L_50 iz_IllegalArgumentException im_IllegalArgumentException sr_L_143 ⟨Nat.le_of_ble_eq_true rfl, Nat.le_of_ble_eq_true rfl⟩ d_L_arrive_50 d_L_arrive_53 d_L_arrive_54 d_L_arrive_56 d_L_arrive_59
  · exact absurd c4 (lIsR_ne hr5)
set_option maxRecDepth 100000 in
set_option maxHeartbeats 4000000 in
theorem t_arrive_3 {l : Launch} (hl : ∀ e, l.admits e → e.platform.stackTraces = false) {G : zG} {V : zV} (w : wC G V) (M : zM) (P : Nat → Nat) (D : Nat × Nat) (r : Nat) (hr5 : r < 5) (k s hp ad : Int32) (hk : k = 1 ∨ k = 2) (hs1 : ¬ s < 0) (hs2 : ¬ 15 ≤ s) (hh1 : ¬ hp < 0) (hh2 : hp ≤ 255) (h : M 2 r 0 4 = 0) : zTh l y_L_arrive b_L_arrive 7 (some .boolean) 6 82 [.ref (V.1 0 0 0), .int (nI r), .int k, .int s, .int hp, .int ad] (zPre G (eC V M P D)) "java/lang/IllegalStateException" := by
  refine zTh.ofJ (B' := zP G (eC V M P D)) hl (by decide) (Nat.le_of_ble_eq_true rfl) (fun U h => h.1) (fun X hXl C t hb => ?_)
  subst hXl
  have hK := hb.2
  show J X nA 7 _ (zP G (eC V M P D)) 0 [(0, .ref (V.1 0 0 0)), (1, .int (nI r)), (2, .int k), (3, .int s), (4, .int hp), (5, .int ad)] []
  refine J_iload_n C 1 d_L_arrive_0 rfl rfl ?_
  refine J_callP (G := G) C zP.kp ms_L_isRouter ml_L_32 (p_L_isRouter List.nodup_nil _ _) ⟨Nat.le_of_ble_eq_true rfl, Nat.le_of_ble_eq_true rfl⟩ rfl rfl (Nat.le_of_ble_eq_true rfl) d_L_arrive_1 ?_
  refine J_if_ne (tgt := 17) C d_L_arrive_4 (by decide) (fun c4 => ?_) (fun c4 => ?_)
  · skip
    refine J_iload_n C 2 d_L_arrive_17 rfl rfl ?_
    refine J_iconst (v := 1) C d_L_arrive_18 (by decide) ?_
    refine J_icmp_eq (tgt := 27) C d_L_arrive_19 (by decide) (fun c19 => ?_) (fun c19 => ?_)
    · skip
      refine J_iload_n C 3 d_L_arrive_27 rfl rfl ?_
      refine J_if_lt (tgt := 50) C d_L_arrive_28 (by decide) (fun c28 => ?_) (fun c28 => ?_)
      · exact absurd c28 hs1
      · skip
        refine J_iload_n C 3 d_L_arrive_31 rfl rfl ?_
        refine J_bipush (v := 15) C d_L_arrive_32 (by decide) ?_
        refine J_icmp_ge (tgt := 50) C d_L_arrive_34 (by decide) (fun c34 => ?_) (fun c34 => ?_)
        · exact absurd c34 hs2
        · skip
          refine J_iload C 4 d_L_arrive_37 rfl ?_
          refine J_if_lt (tgt := 50) C d_L_arrive_39 (by decide) (fun c39 => ?_) (fun c39 => ?_)
          · exact absurd c39 hh1
          · skip
            refine J_iload C 4 d_L_arrive_42 rfl ?_
            refine J_sipush (v := 255) C d_L_arrive_44 (by decide) ?_
            refine J_icmp_le (tgt := 60) C d_L_arrive_47 (by decide) (fun c47 => ?_) (fun c47 => ?_)
            · skip
              refine J_aload_n C 0 d_L_arrive_60 rfl rfl ?_
              refine JC_gL C w hK 1 (by decide) fl_L_21 rfl rfl d_L_arrive_61 ?_
              refine J_iload_n C 1 d_L_arrive_64 rfl rfl ?_
              refine JC_ldQ C w hK r (nI_clamp (by omega)) (vp_in_nI (by omega) (by decide)) d_L_arrive_65 ?_
              refine JC_gR C w hK (by assumption) 4 (by decide) fl_L_60 rfl rfl d_L_arrive_66 ?_
              refine J_if_ne (tgt := 82) C d_L_arrive_69 (by decide) (fun c69 => ?_) (fun c69 => ?_)
              · exact absurd h c69
              · skip
                exact J_throw C t (by decide) (by decide) ta_IllegalStateException kl_L_64 iz_IllegalStateException im_IllegalStateException sr_L_72 ⟨Nat.le_of_ble_eq_true rfl, Nat.le_of_ble_eq_true rfl⟩ d_L_arrive_72 d_L_arrive_75 d_L_arrive_76 d_L_arrive_78 d_L_arrive_81
            · exact absurd hh2 c47
    · skip
      refine J_iload_n C 2 d_L_arrive_22 rfl rfl ?_
      refine J_iconst (v := 2) C d_L_arrive_23 (by decide) ?_
      refine J_icmp_ne (tgt := 50) C d_L_arrive_24 (by decide) (fun c24 => ?_) (fun c24 => ?_)
      · exact absurd (hk.resolve_left c19) c24
      · skip
        refine J_iload_n C 3 d_L_arrive_27 rfl rfl ?_
        refine J_if_lt (tgt := 50) C d_L_arrive_28 (by decide) (fun c28 => ?_) (fun c28 => ?_)
        · exact absurd c28 hs1
        · skip
          refine J_iload_n C 3 d_L_arrive_31 rfl rfl ?_
          refine J_bipush (v := 15) C d_L_arrive_32 (by decide) ?_
          refine J_icmp_ge (tgt := 50) C d_L_arrive_34 (by decide) (fun c34 => ?_) (fun c34 => ?_)
          · exact absurd c34 hs2
          · skip
            refine J_iload C 4 d_L_arrive_37 rfl ?_
            refine J_if_lt (tgt := 50) C d_L_arrive_39 (by decide) (fun c39 => ?_) (fun c39 => ?_)
            · exact absurd c39 hh1
            · skip
              refine J_iload C 4 d_L_arrive_42 rfl ?_
              refine J_sipush (v := 255) C d_L_arrive_44 (by decide) ?_
              refine J_icmp_le (tgt := 60) C d_L_arrive_47 (by decide) (fun c47 => ?_) (fun c47 => ?_)
              · skip
                refine J_aload_n C 0 d_L_arrive_60 rfl rfl ?_
                refine JC_gL C w hK 1 (by decide) fl_L_21 rfl rfl d_L_arrive_61 ?_
                refine J_iload_n C 1 d_L_arrive_64 rfl rfl ?_
                refine JC_ldQ C w hK r (nI_clamp (by omega)) (vp_in_nI (by omega) (by decide)) d_L_arrive_65 ?_
                refine JC_gR C w hK (by assumption) 4 (by decide) fl_L_60 rfl rfl d_L_arrive_66 ?_
                refine J_if_ne (tgt := 82) C d_L_arrive_69 (by decide) (fun c69 => ?_) (fun c69 => ?_)
                · exact absurd h c69
                · skip
                  exact J_throw C t (by decide) (by decide) ta_IllegalStateException kl_L_64 iz_IllegalStateException im_IllegalStateException sr_L_72 ⟨Nat.le_of_ble_eq_true rfl, Nat.le_of_ble_eq_true rfl⟩ d_L_arrive_72 d_L_arrive_75 d_L_arrive_76 d_L_arrive_78 d_L_arrive_81
              · exact absurd hh2 c47
  · exact absurd c4 (lIsR_ne hr5)
set_option maxRecDepth 100000 in
set_option maxHeartbeats 4000000 in
theorem t_set_1 {l : Launch} (hl : ∀ e, l.admits e → e.platform.stackTraces = false) {G : zG} {V : zV} (w : wC G V) (M : zM) (P : Nat → Nat) (D : Nat × Nat) (x y v : Int32) (h : lIsR x = 0 ∨ y < 0 ∨ 10 ≤ y) : zTh l y_L_set b_L_set 4 none 6 82 [.ref (V.1 0 0 0), .int x, .int y, .int v] (fun U => zPre G (eC V M P D) U ∧ stOk nA U U.heap) "java/lang/IndexOutOfBoundsException" := by
  refine zTh.ofJ (B' := zP G (eC V M P D)) hl (by decide) (Nat.le_of_ble_eq_true rfl) (fun U h => h.1.1) (fun X hXl C t hb => ?_)
  subst hXl
  obtain ⟨⟨-, hK⟩, tL, tM, ⟨zL, uL⟩, zM, uM⟩ := hb
  show J X nA 4 _ (zP G (eC V M P D)) 0 [(0, .ref (V.1 0 0 0)), (1, .int x), (2, .int y), (3, .int v)] []
  refine J_iload_n C 1 d_L_set_0 rfl rfl ?_
  refine J_callP (G := G) C zP.kp ms_L_isRouter ml_L_32 (p_L_isRouter List.nodup_nil _ _) ⟨Nat.le_of_ble_eq_true rfl, Nat.le_of_ble_eq_true rfl⟩ rfl rfl (Nat.le_of_ble_eq_true rfl) d_L_set_1 ?_
  refine J_if_eq (tgt := 27) C d_L_set_4 (by decide) (fun c4 => ?_) (fun c4 => ?_)
  · skip
    exact J_throw C t (by decide) (by decide) ta_IndexOutOfBoundsException kl_L_43 iz_IndexOutOfBoundsException im_IndexOutOfBoundsException sr_L_45 ⟨Nat.le_of_ble_eq_true rfl, Nat.le_of_ble_eq_true rfl⟩ d_L_set_27 d_L_set_30 d_L_set_31 d_L_set_33 d_L_set_36
  · skip
    refine J_iload_n C 2 d_L_set_7 rfl rfl ?_
    refine J_if_lt (tgt := 27) C d_L_set_8 (by decide) (fun c8 => ?_) (fun c8 => ?_)
    · skip
      exact J_throw C t (by decide) (by decide) ta_IndexOutOfBoundsException kl_L_43 iz_IndexOutOfBoundsException im_IndexOutOfBoundsException sr_L_45 ⟨Nat.le_of_ble_eq_true rfl, Nat.le_of_ble_eq_true rfl⟩ d_L_set_27 d_L_set_30 d_L_set_31 d_L_set_33 d_L_set_36
    · skip
      refine J_iload_n C 2 d_L_set_11 rfl rfl ?_
      refine J_gets C zL fl_L_36 d_L_set_12 ?_
      refine J_tlen C uL d_L_set_15 ?_
      refine J_icmp_ge (tgt := 27) C d_L_set_16 (by decide) (fun c16 => ?_) (fun c16 => ?_)
      · skip
        exact J_throw C t (by decide) (by decide) ta_IndexOutOfBoundsException kl_L_43 iz_IndexOutOfBoundsException im_IndexOutOfBoundsException sr_L_45 ⟨Nat.le_of_ble_eq_true rfl, Nat.le_of_ble_eq_true rfl⟩ d_L_set_27 d_L_set_30 d_L_set_31 d_L_set_33 d_L_set_36
      · skip
        refine J_iload_n C 2 d_L_set_19 rfl rfl ?_
        refine J_gets C zM fl_L_40 d_L_set_20 ?_
        refine J_tlen C uM d_L_set_23 ?_
        refine J_icmp_lt (tgt := 37) C d_L_set_24 (by decide) (fun c24 => ?_) (fun c24 => ?_)
        · exact absurd ((h.resolve_left c4).resolve_left c8) c16
        · skip
          exact J_throw C t (by decide) (by decide) ta_IndexOutOfBoundsException kl_L_43 iz_IndexOutOfBoundsException im_IndexOutOfBoundsException sr_L_45 ⟨Nat.le_of_ble_eq_true rfl, Nat.le_of_ble_eq_true rfl⟩ d_L_set_27 d_L_set_30 d_L_set_31 d_L_set_33 d_L_set_36
set_option maxRecDepth 100000 in
set_option maxHeartbeats 4000000 in
theorem t_set_2 {l : Launch} (hl : ∀ e, l.admits e → e.platform.stackTraces = false) {G : zG} {V : zV} (w : wC G V) (M : zM) (P : Nat → Nat) (D : Nat × Nat) (r : Nat) (hr5 : r < 5) (wh : Nat) (hw : wh < 10) (v : Int32) (h : v < leF wh ∨ ¬ v ≤ moF wh) : zTh l y_L_set b_L_set 4 none 6 82 [.ref (V.1 0 0 0), .int (nI r), .int (nI wh), .int v] (fun U => zPre G (eC V M P D) U ∧ stOk nA U U.heap) "java/lang/IllegalArgumentException" := by
  refine zTh.ofJ (B' := zP G (eC V M P D)) hl (by decide) (Nat.le_of_ble_eq_true rfl) (fun U h => h.1.1) (fun X hXl C t hb => ?_)
  subst hXl
  obtain ⟨⟨-, hK⟩, tL, tM, ⟨zL, uL⟩, zM, uM⟩ := hb
  show J X nA 4 _ (zP G (eC V M P D)) 0 [(0, .ref (V.1 0 0 0)), (1, .int (nI r)), (2, .int (nI wh)), (3, .int v)] []
  refine J_iload_n C 1 d_L_set_0 rfl rfl ?_
  refine J_callP (G := G) C zP.kp ms_L_isRouter ml_L_32 (p_L_isRouter List.nodup_nil _ _) ⟨Nat.le_of_ble_eq_true rfl, Nat.le_of_ble_eq_true rfl⟩ rfl rfl (Nat.le_of_ble_eq_true rfl) d_L_set_1 ?_
  refine J_if_eq (tgt := 27) C d_L_set_4 (by decide) (fun c4 => ?_) (fun c4 => ?_)
  · exact absurd c4 (lIsR_ne hr5)
  · skip
    refine J_iload_n C 2 d_L_set_7 rfl rfl ?_
    refine J_if_lt (tgt := 27) C d_L_set_8 (by decide) (fun c8 => ?_) (fun c8 => ?_)
    · exact absurd c8 (nI_pos (by omega))
    · skip
      refine J_iload_n C 2 d_L_set_11 rfl rfl ?_
      refine J_gets C zL fl_L_36 d_L_set_12 ?_
      refine J_tlen C uL d_L_set_15 ?_
      refine J_icmp_ge (tgt := 27) C d_L_set_16 (by decide) (fun c16 => ?_) (fun c16 => ?_)
      · exact absurd c16 (nI_ge (a := wh) (b := 10) hw (by decide))
      · skip
        refine J_iload_n C 2 d_L_set_19 rfl rfl ?_
        refine J_gets C zM fl_L_40 d_L_set_20 ?_
        refine J_tlen C uM d_L_set_23 ?_
        refine J_icmp_lt (tgt := 37) C d_L_set_24 (by decide) (fun c24 => ?_) (fun c24 => ?_)
        · skip
          refine J_iload_n C 3 d_L_set_37 rfl rfl ?_
          refine J_gets C zL fl_L_36 d_L_set_38 ?_
          refine J_iload_n C 2 d_L_set_41 rfl rfl ?_
          refine J_ti wh C uL (nI_clamp (by omega)) (vp_in_nI (by omega) (by decide)) d_L_set_42 ?_
          refine J_icmp_lt (tgt := 55) C d_L_set_43 (by decide) (fun c43 => ?_) (fun c43 => ?_)
          · skip
            exact J_throw C t (by decide) (by decide) ta_IllegalArgumentException kl_L_50 iz_IllegalArgumentException im_IllegalArgumentException sr_L_52 ⟨Nat.le_of_ble_eq_true rfl, Nat.le_of_ble_eq_true rfl⟩ d_L_set_55 d_L_set_58 d_L_set_59 d_L_set_61 d_L_set_64
          · skip
            refine J_iload_n C 3 d_L_set_46 rfl rfl ?_
            refine J_gets C zM fl_L_40 d_L_set_47 ?_
            refine J_iload_n C 2 d_L_set_50 rfl rfl ?_
            refine J_ti wh C uM (nI_clamp (by omega)) (vp_in_nI (by omega) (by decide)) d_L_set_51 ?_
            refine J_icmp_le (tgt := 65) C d_L_set_52 (by decide) (fun c52 => ?_) (fun c52 => ?_)
            · exact absurd c52 (h.resolve_left c43)
            · skip
              exact J_throw C t (by decide) (by decide) ta_IllegalArgumentException kl_L_50 iz_IllegalArgumentException im_IllegalArgumentException sr_L_52 ⟨Nat.le_of_ble_eq_true rfl, Nat.le_of_ble_eq_true rfl⟩ d_L_set_55 d_L_set_58 d_L_set_59 d_L_set_61 d_L_set_64
        · exact absurd (nI_lt (a := wh) (b := 10) hw (by decide)) c24
