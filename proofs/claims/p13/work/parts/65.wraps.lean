theorem d_J_set_0 : decode b_J_set 0 = .ok (.aload_n 0, 1) := by decide +kernel
theorem d_J_set_1 : decode b_J_set 1 = .ok (.iload_n 1, 1) := by decide +kernel
theorem d_J_set_2 : decode b_J_set 2 = .ok (.iload_n 2, 1) := by decide +kernel
theorem d_J_set_3 : decode b_J_set 3 = .ok (.iload_n 3, 1) := by decide +kernel
theorem d_J_set_4 : decode b_J_set 4 = .ok (.invokevirtual 7, 3) := by decide +kernel
theorem d_J_set_7 : decode b_J_set 7 = .ok (.goto 11, 3) := by decide +kernel
theorem d_J_set_10 : decode b_J_set 10 = .ok (.astore 4, 2) := by decide +kernel
theorem d_J_set_12 : decode b_J_set 12 = .ok (.iconst 1, 1) := by decide +kernel
theorem d_J_set_13 : decode b_J_set 13 = .ok (.ireturn, 1) := by decide +kernel
theorem d_J_set_14 : decode b_J_set 14 = .ok (.astore 4, 2) := by decide +kernel
theorem d_J_set_16 : decode b_J_set 16 = .ok (.iconst 2, 1) := by decide +kernel
theorem d_J_set_17 : decode b_J_set 17 = .ok (.ireturn, 1) := by decide +kernel
theorem d_J_set_18 : decode b_J_set 18 = .ok (.iconst 0, 1) := by decide +kernel
theorem d_J_set_19 : decode b_J_set 19 = .ok (.ireturn, 1) := by decide +kernel
theorem d_J_start_0 : decode b_J_start 0 = .ok (.aload_n 0, 1) := by decide +kernel
theorem d_J_start_1 : decode b_J_start 1 = .ok (.iload_n 1, 1) := by decide +kernel
theorem d_J_start_2 : decode b_J_start 2 = .ok (.invokevirtual 17, 3) := by decide +kernel
theorem d_J_start_5 : decode b_J_start 5 = .ok (.goto 9, 3) := by decide +kernel
theorem d_J_start_8 : decode b_J_start 8 = .ok (.astore_n 2, 1) := by decide +kernel
theorem d_J_start_9 : decode b_J_start 9 = .ok (.iconst 1, 1) := by decide +kernel
theorem d_J_start_10 : decode b_J_start 10 = .ok (.ireturn, 1) := by decide +kernel
theorem d_J_start_11 : decode b_J_start 11 = .ok (.astore_n 2, 1) := by decide +kernel
theorem d_J_start_12 : decode b_J_start 12 = .ok (.iconst 2, 1) := by decide +kernel
theorem d_J_start_13 : decode b_J_start 13 = .ok (.ireturn, 1) := by decide +kernel
theorem d_J_start_14 : decode b_J_start 14 = .ok (.iconst 0, 1) := by decide +kernel
theorem d_J_start_15 : decode b_J_start 15 = .ok (.ireturn, 1) := by decide +kernel
theorem d_J_stop_0 : decode b_J_stop 0 = .ok (.aload_n 0, 1) := by decide +kernel
theorem d_J_stop_1 : decode b_J_stop 1 = .ok (.iload_n 1, 1) := by decide +kernel
theorem d_J_stop_2 : decode b_J_stop 2 = .ok (.iload_n 2, 1) := by decide +kernel
theorem d_J_stop_3 : decode b_J_stop 3 = .ok (.invokevirtual 23, 3) := by decide +kernel
theorem d_J_stop_6 : decode b_J_stop 6 = .ok (.goto 9, 3) := by decide +kernel
theorem d_J_stop_9 : decode b_J_stop 9 = .ok (.astore_n 3, 1) := by decide +kernel
theorem d_J_stop_10 : decode b_J_stop 10 = .ok (.iconst 1, 1) := by decide +kernel
theorem d_J_stop_11 : decode b_J_stop 11 = .ok (.ireturn, 1) := by decide +kernel
theorem d_J_stop_12 : decode b_J_stop 12 = .ok (.astore_n 3, 1) := by decide +kernel
theorem d_J_stop_13 : decode b_J_stop 13 = .ok (.iconst 2, 1) := by decide +kernel
theorem d_J_stop_14 : decode b_J_stop 14 = .ok (.ireturn, 1) := by decide +kernel
theorem d_J_stop_15 : decode b_J_stop 15 = .ok (.iconst 0, 1) := by decide +kernel
theorem d_J_stop_16 : decode b_J_stop 16 = .ok (.ireturn, 1) := by decide +kernel
theorem d_J_open_0 : decode b_J_open 0 = .ok (.aload_n 0, 1) := by decide +kernel
theorem d_J_open_1 : decode b_J_open 1 = .ok (.iload_n 1, 1) := by decide +kernel
theorem d_J_open_2 : decode b_J_open 2 = .ok (.iload_n 2, 1) := by decide +kernel
theorem d_J_open_3 : decode b_J_open 3 = .ok (.iload_n 3, 1) := by decide +kernel
theorem d_J_open_4 : decode b_J_open 4 = .ok (.iload 4, 2) := by decide +kernel
theorem d_J_open_6 : decode b_J_open 6 = .ok (.iload 5, 2) := by decide +kernel
theorem d_J_open_8 : decode b_J_open 8 = .ok (.invokevirtual 27, 3) := by decide +kernel
theorem d_J_open_11 : decode b_J_open 11 = .ok (.goto 15, 3) := by decide +kernel
theorem d_J_open_14 : decode b_J_open 14 = .ok (.astore 6, 2) := by decide +kernel
theorem d_J_open_16 : decode b_J_open 16 = .ok (.iconst 1, 1) := by decide +kernel
theorem d_J_open_17 : decode b_J_open 17 = .ok (.ireturn, 1) := by decide +kernel
theorem d_J_open_18 : decode b_J_open 18 = .ok (.astore 6, 2) := by decide +kernel
theorem d_J_open_20 : decode b_J_open 20 = .ok (.iconst 2, 1) := by decide +kernel
theorem d_J_open_21 : decode b_J_open 21 = .ok (.ireturn, 1) := by decide +kernel
theorem d_J_open_22 : decode b_J_open 22 = .ok (.astore 6, 2) := by decide +kernel
theorem d_J_open_24 : decode b_J_open 24 = .ok (.iconst 3, 1) := by decide +kernel
theorem d_J_open_25 : decode b_J_open 25 = .ok (.ireturn, 1) := by decide +kernel
theorem d_J_open_26 : decode b_J_open 26 = .ok (.iconst 0, 1) := by decide +kernel
theorem d_J_open_27 : decode b_J_open 27 = .ok (.ireturn, 1) := by decide +kernel
theorem d_J_change_0 : decode b_J_change 0 = .ok (.aload_n 0, 1) := by decide +kernel
theorem d_J_change_1 : decode b_J_change 1 = .ok (.iload_n 1, 1) := by decide +kernel
theorem d_J_change_2 : decode b_J_change 2 = .ok (.iload_n 2, 1) := by decide +kernel
theorem d_J_change_3 : decode b_J_change 3 = .ok (.iload_n 3, 1) := by decide +kernel
theorem d_J_change_4 : decode b_J_change 4 = .ok (.iload 4, 2) := by decide +kernel
theorem d_J_change_6 : decode b_J_change 6 = .ok (.invokevirtual 31, 3) := by decide +kernel
theorem d_J_change_9 : decode b_J_change 9 = .ok (.goto 15, 3) := by decide +kernel
theorem d_J_change_12 : decode b_J_change 12 = .ok (.astore 5, 2) := by decide +kernel
theorem d_J_change_14 : decode b_J_change 14 = .ok (.iconst 1, 1) := by decide +kernel
theorem d_J_change_15 : decode b_J_change 15 = .ok (.ireturn, 1) := by decide +kernel
theorem d_J_change_16 : decode b_J_change 16 = .ok (.astore 5, 2) := by decide +kernel
theorem d_J_change_18 : decode b_J_change 18 = .ok (.iconst 2, 1) := by decide +kernel
theorem d_J_change_19 : decode b_J_change 19 = .ok (.ireturn, 1) := by decide +kernel
theorem d_J_change_20 : decode b_J_change 20 = .ok (.astore 5, 2) := by decide +kernel
theorem d_J_change_22 : decode b_J_change 22 = .ok (.iconst 3, 1) := by decide +kernel
theorem d_J_change_23 : decode b_J_change 23 = .ok (.ireturn, 1) := by decide +kernel
theorem d_J_change_24 : decode b_J_change 24 = .ok (.iconst 0, 1) := by decide +kernel
theorem d_J_change_25 : decode b_J_change 25 = .ok (.ireturn, 1) := by decide +kernel
theorem d_J_ask_0 : decode b_J_ask 0 = .ok (.aload_n 0, 1) := by decide +kernel
theorem d_J_ask_1 : decode b_J_ask 1 = .ok (.iload_n 1, 1) := by decide +kernel
theorem d_J_ask_2 : decode b_J_ask 2 = .ok (.invokevirtual 35, 3) := by decide +kernel
theorem d_J_ask_5 : decode b_J_ask 5 = .ok (.goto 9, 3) := by decide +kernel
theorem d_J_ask_8 : decode b_J_ask 8 = .ok (.astore_n 2, 1) := by decide +kernel
theorem d_J_ask_9 : decode b_J_ask 9 = .ok (.iconst 1, 1) := by decide +kernel
theorem d_J_ask_10 : decode b_J_ask 10 = .ok (.ireturn, 1) := by decide +kernel
theorem d_J_ask_11 : decode b_J_ask 11 = .ok (.astore_n 2, 1) := by decide +kernel
theorem d_J_ask_12 : decode b_J_ask 12 = .ok (.iconst 2, 1) := by decide +kernel
theorem d_J_ask_13 : decode b_J_ask 13 = .ok (.ireturn, 1) := by decide +kernel
theorem d_J_ask_14 : decode b_J_ask 14 = .ok (.iconst 0, 1) := by decide +kernel
theorem d_J_ask_15 : decode b_J_ask 15 = .ok (.ireturn, 1) := by decide +kernel
theorem d_J_tick_0 : decode b_J_tick 0 = .ok (.aload_n 2, 1) := by decide +kernel
theorem d_J_tick_1 : decode b_J_tick 1 = .ok (.iconst 0, 1) := by decide +kernel
theorem d_J_tick_2 : decode b_J_tick 2 = .ok (.aload_n 0, 1) := by decide +kernel
theorem d_J_tick_3 : decode b_J_tick 3 = .ok (.iload_n 1, 1) := by decide +kernel
theorem d_J_tick_4 : decode b_J_tick 4 = .ok (.invokevirtual 38, 3) := by decide +kernel
theorem d_J_tick_7 : decode b_J_tick 7 = .ok (.i2l, 1) := by decide +kernel
theorem d_J_tick_8 : decode b_J_tick 8 = .ok (.lastore, 1) := by decide +kernel
theorem d_J_tick_9 : decode b_J_tick 9 = .ok (.goto 6, 3) := by decide +kernel
theorem d_J_tick_12 : decode b_J_tick 12 = .ok (.astore_n 3, 1) := by decide +kernel
theorem d_J_tick_13 : decode b_J_tick 13 = .ok (.iconst 1, 1) := by decide +kernel
theorem d_J_tick_14 : decode b_J_tick 14 = .ok (.ireturn, 1) := by decide +kernel
theorem d_J_tick_15 : decode b_J_tick 15 = .ok (.iconst 0, 1) := by decide +kernel
theorem d_J_tick_16 : decode b_J_tick 16 = .ok (.ireturn, 1) := by decide +kernel
theorem d_J_arrive_0 : decode b_J_arrive 0 = .ok (.aload 6, 2) := by decide +kernel
theorem d_J_arrive_2 : decode b_J_arrive 2 = .ok (.iconst 0, 1) := by decide +kernel
theorem d_J_arrive_3 : decode b_J_arrive 3 = .ok (.aload_n 0, 1) := by decide +kernel
theorem d_J_arrive_4 : decode b_J_arrive 4 = .ok (.iload_n 1, 1) := by decide +kernel
theorem d_J_arrive_5 : decode b_J_arrive 5 = .ok (.iload_n 2, 1) := by decide +kernel
theorem d_J_arrive_6 : decode b_J_arrive 6 = .ok (.iload_n 3, 1) := by decide +kernel
theorem d_J_arrive_7 : decode b_J_arrive 7 = .ok (.iload 4, 2) := by decide +kernel
theorem d_J_arrive_9 : decode b_J_arrive 9 = .ok (.iload 5, 2) := by decide +kernel
theorem d_J_arrive_11 : decode b_J_arrive 11 = .ok (.invokevirtual 42, 3) := by decide +kernel
theorem d_J_arrive_14 : decode b_J_arrive 14 = .ok (.ifCond .eq 7, 3) := by decide +kernel
theorem d_J_arrive_17 : decode b_J_arrive 17 = .ok (.lconst 1, 1) := by decide +kernel
theorem d_J_arrive_18 : decode b_J_arrive 18 = .ok (.goto 4, 3) := by decide +kernel
theorem d_J_arrive_21 : decode b_J_arrive 21 = .ok (.lconst 0, 1) := by decide +kernel
theorem d_J_arrive_22 : decode b_J_arrive 22 = .ok (.lastore, 1) := by decide +kernel
theorem d_J_arrive_23 : decode b_J_arrive 23 = .ok (.goto 15, 3) := by decide +kernel
theorem d_J_arrive_26 : decode b_J_arrive 26 = .ok (.astore 7, 2) := by decide +kernel
theorem d_J_arrive_28 : decode b_J_arrive 28 = .ok (.iconst 1, 1) := by decide +kernel
theorem d_J_arrive_29 : decode b_J_arrive 29 = .ok (.ireturn, 1) := by decide +kernel
theorem d_J_arrive_30 : decode b_J_arrive 30 = .ok (.astore 7, 2) := by decide +kernel
theorem d_J_arrive_32 : decode b_J_arrive 32 = .ok (.iconst 2, 1) := by decide +kernel
theorem d_J_arrive_33 : decode b_J_arrive 33 = .ok (.ireturn, 1) := by decide +kernel
theorem d_J_arrive_34 : decode b_J_arrive 34 = .ok (.astore 7, 2) := by decide +kernel
theorem d_J_arrive_36 : decode b_J_arrive 36 = .ok (.iconst 3, 1) := by decide +kernel
theorem d_J_arrive_37 : decode b_J_arrive 37 = .ok (.ireturn, 1) := by decide +kernel
theorem d_J_arrive_38 : decode b_J_arrive 38 = .ok (.iconst 0, 1) := by decide +kernel
theorem d_J_arrive_39 : decode b_J_arrive 39 = .ok (.ireturn, 1) := by decide +kernel
/-! THE LAW'S WRAPPERS, A CASE EACH -/
theorem wC'.room {X : zX} {hs : List (Nat × Nat × Nat × Nat)} (hw : wC' X hs) : X.cells + 1 ≤ X.R.cells ∧ X.slots + 6 ≤ X.R.slots := by
  obtain ⟨⟨z1, z2⟩, htab, hok, hr1, hr2⟩ := hw
  have q1 : X.cells = 0 := z1
  have q2 : X.slots = 0 := z2
  rw [q1, q2, hr1, hr2]
  exact ⟨Nat.le_refl _, Nat.le_refl _⟩
theorem wC'.c0 {X : zX} {hs : List (Nat × Nat × Nat × Nat)} (hw : wC' X hs) : X.cells ≤ 1 ∧ X.slots ≤ 6 := by
  have q1 : X.cells = 0 := hw.1.1
  have q2 : X.slots = 0 := hw.1.2
  rw [q1, q2]
  exact ⟨Nat.zero_le _, Nat.zero_le _⟩
theorem wC'.c1 {X : zX} {hs : List (Nat × Nat × Nat × Nat)} (hw : wC' X hs) : (X.more 1 6).cells ≤ 1 ∧ (X.more 1 6).slots ≤ 6 := by
  have q1 : X.cells = 0 := hw.1.1
  have q2 : X.slots = 0 := hw.1.2
  show X.cells + 1 ≤ 1 ∧ X.slots + 6 ≤ 6
  rw [q1, q2]
  exact ⟨Nat.le_refl _, Nat.le_refl _⟩
abbrev wBs (G : zG) (V : zV) (M : zM) (P : Nat → Nat) (D : Nat × Nat) : State → Prop := fun U => zPre G (eC V M P D) U ∧ nOk U
abbrev wBt (G : zG) (V : zV) (M : zM) (P : Nat → Nat) (D : Nat × Nat) : State → Prop := fun U => wBs G V M P D U ∧ stOk (zA G) U U.heap
set_option maxRecDepth 100000 in
set_option maxHeartbeats 4000000 in
theorem w_start_0 {l : Launch} {G : zG} {V : zV} (w : wC G V) (M : zM) (P : Nat → Nat) (D : Nat × Nat) (r : Nat) (hr5 : r < 5) (hI : Inv M P D) (h : M 2 r 0 4 = 0) : wF l y_J_start b_J_start 3 (some .int) hs_start 6 129 [.ref (V.1 0 0 0), .int (nI r)] (wBs G V M P D) (zA G) (some (.int 0)) (zP G (eC V (wkS (M, P, D) r).1 (wkS (M, P, D) r).2.1 (wkS (M, P, D) r).2.2)) := by
  refine wF.ofJ (B := zP G (eC V M P D)) (by decide) (Nat.le_of_ble_eq_true rfl) (fun U h => h.1.1) (fun X hXl hr C hw hb => ?_)
  subst hXl
  obtain ⟨hb, hn0⟩ := hb
  have hK := hb.2
  show J X (zA G) 3 _ (zP G (eC V M P D)) 0 [(0, .ref (V.1 0 0 0)), (1, .int (nI r))] []
  refine J_aload_n C 0 d_J_start_0 rfl rfl ?_
  refine J_iload_n C 1 d_J_start_1 rfl rfl ?_
  refine J_callV (B' := zP G (eC V (wkS (M, P, D) r).1 (wkS (M, P, D) r).2.1 (wkS (M, P, D) r).2.2)) C hK w.2.2.2.2 (fun q h => h) (fun _ h => h) (fun _ _ _ _ _ h => h) mi_L_start ml_J_17 (c_L_start w M P D r hr5 hI h) ⟨Nat.le_of_ble_eq_true rfl, Nat.le_of_ble_eq_true rfl⟩ (w.2.2.1 0 0 0 ⟨rfl, rfl⟩) (fun f hf => hf 0 0 0 ⟨rfl, rfl⟩) (by rw [w.1]; rfl) rfl rfl (Nat.le_of_ble_eq_true rfl) d_J_start_2 ?_
  refine J_goto (tgt := 14) C d_J_start_5 (by decide) ?_
  refine J_iconst (v := 0) C d_J_start_14 (by decide) ?_
  exact J_wret C hw.c0 hr d_J_start_15 rfl (fun _ h => h)
set_option maxRecDepth 100000 in
set_option maxHeartbeats 4000000 in
theorem w_start_1 {l : Launch} (hl : ∀ e, l.admits e → e.platform.stackTraces = false) {G : zG} {V : zV} (w : wC G V) (M : zM) (P : Nat → Nat) (D : Nat × Nat) (x : Int32) (h : lIsR x = 0) : wF l y_J_start b_J_start 3 (some .int) hs_start 7 103 [.ref (V.1 0 0 0), .int x] (wBs G V M P D) (zA G) (some (.int 1)) (zP G (eC V M P D)) := by
  refine wF.ofJ (B := zP G (eC V M P D)) (by decide) (Nat.le_of_ble_eq_true rfl) (fun U h => h.1.1) (fun X hXl hr C hw hb => ?_)
  subst hXl
  obtain ⟨hb, hn0⟩ := hb
  have hK := hb.2
  show J X (zA G) 3 _ (zP G (eC V M P D)) 0 [(0, .ref (V.1 0 0 0)), (1, .int x)] []
  refine J_aload_n C 0 d_J_start_0 rfl rfl ?_
  refine J_iload_n C 1 d_J_start_1 rfl rfl ?_
  refine J_callTw (E := "java/lang/IndexOutOfBoundsException") (hs := hs_start) C w hK (fun q h => h) hb.1 hn0 hw mi_L_start ml_J_17 (t_start_1 hl w M P D x h) ⟨Nat.le_of_ble_eq_true rfl, Nat.le_of_ble_eq_true rfl⟩ rfl (fun U g mk a h => zPre.call g mk a h) (fun U h1 h2 _ => ⟨h1, va_K.moved h2.alike hK⟩) [] (0, 5, 8, 13) [(0, 5, 11, 21)] rfl (fun _ h => absurd h List.not_mem_nil) (by decide) (by decide) kl_J_13 ca_IndexOutOfBoundsException rfl rfl (Nat.le_of_ble_eq_true rfl) d_J_start_2 (fun q => ?_)
  have C2 := C.more hw.room
  show J (X.more 1 6) (zA G) 3 _ (zP G (eC V M P D)) 8 _ [.ref q]
  refine J_astore_n C2 d_J_start_8 rfl (by decide) rfl ?_
  refine J_iconst (v := 1) C2 d_J_start_9 (by decide) ?_
  exact J_wret C2 hw.c1 hr d_J_start_10 rfl (fun _ h => h)
set_option maxRecDepth 100000 in
set_option maxHeartbeats 4000000 in
theorem w_start_2 {l : Launch} (hl : ∀ e, l.admits e → e.platform.stackTraces = false) {G : zG} {V : zV} (w : wC G V) (M : zM) (P : Nat → Nat) (D : Nat × Nat) (r : Nat) (hr5 : r < 5) (h : ¬ M 2 r 0 4 = 0) : wF l y_J_start b_J_start 3 (some .int) hs_start 7 103 [.ref (V.1 0 0 0), .int (nI r)] (wBs G V M P D) (zA G) (some (.int 2)) (zP G (eC V M P D)) := by
  refine wF.ofJ (B := zP G (eC V M P D)) (by decide) (Nat.le_of_ble_eq_true rfl) (fun U h => h.1.1) (fun X hXl hr C hw hb => ?_)
  subst hXl
  obtain ⟨hb, hn0⟩ := hb
  have hK := hb.2
  show J X (zA G) 3 _ (zP G (eC V M P D)) 0 [(0, .ref (V.1 0 0 0)), (1, .int (nI r))] []
  refine J_aload_n C 0 d_J_start_0 rfl rfl ?_
  refine J_iload_n C 1 d_J_start_1 rfl rfl ?_
  refine J_callTw (E := "java/lang/IllegalStateException") (hs := hs_start) C w hK (fun q h => h) hb.1 hn0 hw mi_L_start ml_J_17 (t_start_2 hl w M P D r hr5 h) ⟨Nat.le_of_ble_eq_true rfl, Nat.le_of_ble_eq_true rfl⟩ rfl (fun U g mk a h => zPre.call g mk a h) (fun U h1 h2 _ => ⟨h1, va_K.moved h2.alike hK⟩) [((0, 5, 8, 13), "java/lang/IndexOutOfBoundsException")] (0, 5, 11, 21) [] rfl (by simp only [List.forall_mem_cons]; exact ⟨⟨⟨by decide, by decide, kl_J_13⟩, by decide⟩, fun _ h => absurd h List.not_mem_nil⟩) (by decide) (by decide) kl_J_21 ca_IllegalStateException rfl rfl (Nat.le_of_ble_eq_true rfl) d_J_start_2 (fun q => ?_)
  have C2 := C.more hw.room
  show J (X.more 1 6) (zA G) 3 _ (zP G (eC V M P D)) 11 _ [.ref q]
  refine J_astore_n C2 d_J_start_11 rfl (by decide) rfl ?_
  refine J_iconst (v := 2) C2 d_J_start_12 (by decide) ?_
  exact J_wret C2 hw.c1 hr d_J_start_13 rfl (fun _ h => h)
set_option maxRecDepth 100000 in
set_option maxHeartbeats 4000000 in
theorem w_stop_0 {l : Launch} {G : zG} {V : zV} (w : wC G V) (M : zM) (P : Nat → Nat) (D : Nat × Nat) (r : Nat) (hr5 : r < 5) (hI : Inv M P D) (h : ¬ M 2 r 0 4 = 0) (b : Int32) : wF l y_J_stop b_J_stop 4 (some .int) hs_stop 5 109 [.ref (V.1 0 0 0), .int (nI r), .int b] (wBs G V M P D) (zA G) (some (.int 0)) (zP G (eC V (stS (M, P, D) r b).1 (stS (M, P, D) r b).2.1 (stS (M, P, D) r b).2.2)) := by
  refine wF.ofJ (B := zP G (eC V M P D)) (by decide) (Nat.le_of_ble_eq_true rfl) (fun U h => h.1.1) (fun X hXl hr C hw hb => ?_)
  subst hXl
  obtain ⟨hb, hn0⟩ := hb
  have hK := hb.2
  show J X (zA G) 4 _ (zP G (eC V M P D)) 0 [(0, .ref (V.1 0 0 0)), (1, .int (nI r)), (2, .int b)] []
  refine J_aload_n C 0 d_J_stop_0 rfl rfl ?_
  refine J_iload_n C 1 d_J_stop_1 rfl rfl ?_
  refine J_iload_n C 2 d_J_stop_2 rfl rfl ?_
  refine J_callV (B' := zP G (eC V (stS (M, P, D) r b).1 (stS (M, P, D) r b).2.1 (stS (M, P, D) r b).2.2)) C hK w.2.2.2.2 (fun q h => h) (fun _ h => h) (fun _ _ _ _ _ h => h) mi_L_stop ml_J_23 (c_L_stop w M P D r hr5 hI h b) ⟨Nat.le_of_ble_eq_true rfl, Nat.le_of_ble_eq_true rfl⟩ (w.2.2.1 0 0 0 ⟨rfl, rfl⟩) (fun f hf => hf 0 0 0 ⟨rfl, rfl⟩) (by rw [w.1]; rfl) rfl rfl (Nat.le_of_ble_eq_true rfl) d_J_stop_3 ?_
  refine J_goto (tgt := 15) C d_J_stop_6 (by decide) ?_
  refine J_iconst (v := 0) C d_J_stop_15 (by decide) ?_
  exact J_wret C hw.c0 hr d_J_stop_16 rfl (fun _ h => h)
set_option maxRecDepth 100000 in
set_option maxHeartbeats 4000000 in
theorem w_stop_1 {l : Launch} (hl : ∀ e, l.admits e → e.platform.stackTraces = false) {G : zG} {V : zV} (w : wC G V) (M : zM) (P : Nat → Nat) (D : Nat × Nat) (x b : Int32) (h : lIsR x = 0) : wF l y_J_stop b_J_stop 4 (some .int) hs_stop 7 104 [.ref (V.1 0 0 0), .int x, .int b] (wBs G V M P D) (zA G) (some (.int 1)) (zP G (eC V M P D)) := by
  refine wF.ofJ (B := zP G (eC V M P D)) (by decide) (Nat.le_of_ble_eq_true rfl) (fun U h => h.1.1) (fun X hXl hr C hw hb => ?_)
  subst hXl
  obtain ⟨hb, hn0⟩ := hb
  have hK := hb.2
  show J X (zA G) 4 _ (zP G (eC V M P D)) 0 [(0, .ref (V.1 0 0 0)), (1, .int x), (2, .int b)] []
  refine J_aload_n C 0 d_J_stop_0 rfl rfl ?_
  refine J_iload_n C 1 d_J_stop_1 rfl rfl ?_
  refine J_iload_n C 2 d_J_stop_2 rfl rfl ?_
  refine J_callTw (E := "java/lang/IndexOutOfBoundsException") (hs := hs_stop) C w hK (fun q h => h) hb.1 hn0 hw mi_L_stop ml_J_23 (t_stop_1 hl w M P D x b h) ⟨Nat.le_of_ble_eq_true rfl, Nat.le_of_ble_eq_true rfl⟩ rfl (fun U g mk a h => zPre.call g mk a h) (fun U h1 h2 _ => ⟨h1, va_K.moved h2.alike hK⟩) [] (0, 6, 9, 13) [(0, 6, 12, 21)] rfl (fun _ h => absurd h List.not_mem_nil) (by decide) (by decide) kl_J_13 ca_IndexOutOfBoundsException rfl rfl (Nat.le_of_ble_eq_true rfl) d_J_stop_3 (fun q => ?_)
  have C2 := C.more hw.room
  show J (X.more 1 6) (zA G) 4 _ (zP G (eC V M P D)) 9 _ [.ref q]
  refine J_astore_n C2 d_J_stop_9 rfl (by decide) rfl ?_
  refine J_iconst (v := 1) C2 d_J_stop_10 (by decide) ?_
  exact J_wret C2 hw.c1 hr d_J_stop_11 rfl (fun _ h => h)
set_option maxRecDepth 100000 in
set_option maxHeartbeats 4000000 in
theorem w_stop_2 {l : Launch} (hl : ∀ e, l.admits e → e.platform.stackTraces = false) {G : zG} {V : zV} (w : wC G V) (M : zM) (P : Nat → Nat) (D : Nat × Nat) (r : Nat) (hr5 : r < 5) (b : Int32) (h : M 2 r 0 4 = 0) : wF l y_J_stop b_J_stop 4 (some .int) hs_stop 7 104 [.ref (V.1 0 0 0), .int (nI r), .int b] (wBs G V M P D) (zA G) (some (.int 2)) (zP G (eC V M P D)) := by
  refine wF.ofJ (B := zP G (eC V M P D)) (by decide) (Nat.le_of_ble_eq_true rfl) (fun U h => h.1.1) (fun X hXl hr C hw hb => ?_)
  subst hXl
  obtain ⟨hb, hn0⟩ := hb
  have hK := hb.2
  show J X (zA G) 4 _ (zP G (eC V M P D)) 0 [(0, .ref (V.1 0 0 0)), (1, .int (nI r)), (2, .int b)] []
  refine J_aload_n C 0 d_J_stop_0 rfl rfl ?_
  refine J_iload_n C 1 d_J_stop_1 rfl rfl ?_
  refine J_iload_n C 2 d_J_stop_2 rfl rfl ?_
  refine J_callTw (E := "java/lang/IllegalStateException") (hs := hs_stop) C w hK (fun q h => h) hb.1 hn0 hw mi_L_stop ml_J_23 (t_stop_2 hl w M P D r hr5 b h) ⟨Nat.le_of_ble_eq_true rfl, Nat.le_of_ble_eq_true rfl⟩ rfl (fun U g mk a h => zPre.call g mk a h) (fun U h1 h2 _ => ⟨h1, va_K.moved h2.alike hK⟩) [((0, 6, 9, 13), "java/lang/IndexOutOfBoundsException")] (0, 6, 12, 21) [] rfl (by simp only [List.forall_mem_cons]; exact ⟨⟨⟨by decide, by decide, kl_J_13⟩, by decide⟩, fun _ h => absurd h List.not_mem_nil⟩) (by decide) (by decide) kl_J_21 ca_IllegalStateException rfl rfl (Nat.le_of_ble_eq_true rfl) d_J_stop_3 (fun q => ?_)
  have C2 := C.more hw.room
  show J (X.more 1 6) (zA G) 4 _ (zP G (eC V M P D)) 12 _ [.ref q]
  refine J_astore_n C2 d_J_stop_12 rfl (by decide) rfl ?_
  refine J_iconst (v := 2) C2 d_J_stop_13 (by decide) ?_
  exact J_wret C2 hw.c1 hr d_J_stop_14 rfl (fun _ h => h)
set_option maxRecDepth 100000 in
set_option maxHeartbeats 4000000 in
theorem w_ask_0 {l : Launch} {G : zG} {V : zV} (w : wC G V) (M : zM) (P : Nat → Nat) (D : Nat × Nat) (r : Nat) (hr5 : r < 5) (hI : Inv M P D) (h : ¬ M 2 r 0 4 = 0) : wF l y_J_ask b_J_ask 3 (some .int) hs_ask 4 89 [.ref (V.1 0 0 0), .int (nI r)] (wBs G V M P D) (zA G) (some (.int 0)) (zP G (eC V (seS (M, P, D) r 3 r 15).1 (seS (M, P, D) r 3 r 15).2.1 (seS (M, P, D) r 3 r 15).2.2)) := by
  refine wF.ofJ (B := zP G (eC V M P D)) (by decide) (Nat.le_of_ble_eq_true rfl) (fun U h => h.1.1) (fun X hXl hr C hw hb => ?_)
  subst hXl
  obtain ⟨hb, hn0⟩ := hb
  have hK := hb.2
  show J X (zA G) 3 _ (zP G (eC V M P D)) 0 [(0, .ref (V.1 0 0 0)), (1, .int (nI r))] []
  refine J_aload_n C 0 d_J_ask_0 rfl rfl ?_
  refine J_iload_n C 1 d_J_ask_1 rfl rfl ?_
  refine J_callV (B' := zP G (eC V (seS (M, P, D) r 3 r 15).1 (seS (M, P, D) r 3 r 15).2.1 (seS (M, P, D) r 3 r 15).2.2)) C hK w.2.2.2.2 (fun q h => h) (fun _ h => h) (fun _ _ _ _ _ h => h) mi_L_ask ml_J_35 (c_L_ask w M P D r hr5 hI h) ⟨Nat.le_of_ble_eq_true rfl, Nat.le_of_ble_eq_true rfl⟩ (w.2.2.1 0 0 0 ⟨rfl, rfl⟩) (fun f hf => hf 0 0 0 ⟨rfl, rfl⟩) (by rw [w.1]; rfl) rfl rfl (Nat.le_of_ble_eq_true rfl) d_J_ask_2 ?_
  refine J_goto (tgt := 14) C d_J_ask_5 (by decide) ?_
  refine J_iconst (v := 0) C d_J_ask_14 (by decide) ?_
  exact J_wret C hw.c0 hr d_J_ask_15 rfl (fun _ h => h)
set_option maxRecDepth 100000 in
set_option maxHeartbeats 4000000 in
theorem w_ask_1 {l : Launch} (hl : ∀ e, l.admits e → e.platform.stackTraces = false) {G : zG} {V : zV} (w : wC G V) (M : zM) (P : Nat → Nat) (D : Nat × Nat) (x : Int32) (h : lIsR x = 0) : wF l y_J_ask b_J_ask 3 (some .int) hs_ask 7 103 [.ref (V.1 0 0 0), .int x] (wBs G V M P D) (zA G) (some (.int 1)) (zP G (eC V M P D)) := by
  refine wF.ofJ (B := zP G (eC V M P D)) (by decide) (Nat.le_of_ble_eq_true rfl) (fun U h => h.1.1) (fun X hXl hr C hw hb => ?_)
  subst hXl
  obtain ⟨hb, hn0⟩ := hb
  have hK := hb.2
  show J X (zA G) 3 _ (zP G (eC V M P D)) 0 [(0, .ref (V.1 0 0 0)), (1, .int x)] []
  refine J_aload_n C 0 d_J_ask_0 rfl rfl ?_
  refine J_iload_n C 1 d_J_ask_1 rfl rfl ?_
  refine J_callTw (E := "java/lang/IndexOutOfBoundsException") (hs := hs_ask) C w hK (fun q h => h) hb.1 hn0 hw mi_L_ask ml_J_35 (t_ask_1 hl w M P D x h) ⟨Nat.le_of_ble_eq_true rfl, Nat.le_of_ble_eq_true rfl⟩ rfl (fun U g mk a h => zPre.call g mk a h) (fun U h1 h2 _ => ⟨h1, va_K.moved h2.alike hK⟩) [] (0, 5, 8, 13) [(0, 5, 11, 21)] rfl (fun _ h => absurd h List.not_mem_nil) (by decide) (by decide) kl_J_13 ca_IndexOutOfBoundsException rfl rfl (Nat.le_of_ble_eq_true rfl) d_J_ask_2 (fun q => ?_)
  have C2 := C.more hw.room
  show J (X.more 1 6) (zA G) 3 _ (zP G (eC V M P D)) 8 _ [.ref q]
  refine J_astore_n C2 d_J_ask_8 rfl (by decide) rfl ?_
  refine J_iconst (v := 1) C2 d_J_ask_9 (by decide) ?_
  exact J_wret C2 hw.c1 hr d_J_ask_10 rfl (fun _ h => h)
set_option maxRecDepth 100000 in
set_option maxHeartbeats 4000000 in
theorem w_ask_2 {l : Launch} (hl : ∀ e, l.admits e → e.platform.stackTraces = false) {G : zG} {V : zV} (w : wC G V) (M : zM) (P : Nat → Nat) (D : Nat × Nat) (r : Nat) (hr5 : r < 5) (h : M 2 r 0 4 = 0) : wF l y_J_ask b_J_ask 3 (some .int) hs_ask 7 103 [.ref (V.1 0 0 0), .int (nI r)] (wBs G V M P D) (zA G) (some (.int 2)) (zP G (eC V M P D)) := by
  refine wF.ofJ (B := zP G (eC V M P D)) (by decide) (Nat.le_of_ble_eq_true rfl) (fun U h => h.1.1) (fun X hXl hr C hw hb => ?_)
  subst hXl
  obtain ⟨hb, hn0⟩ := hb
  have hK := hb.2
  show J X (zA G) 3 _ (zP G (eC V M P D)) 0 [(0, .ref (V.1 0 0 0)), (1, .int (nI r))] []
  refine J_aload_n C 0 d_J_ask_0 rfl rfl ?_
  refine J_iload_n C 1 d_J_ask_1 rfl rfl ?_
  refine J_callTw (E := "java/lang/IllegalStateException") (hs := hs_ask) C w hK (fun q h => h) hb.1 hn0 hw mi_L_ask ml_J_35 (t_ask_2 hl w M P D r hr5 h) ⟨Nat.le_of_ble_eq_true rfl, Nat.le_of_ble_eq_true rfl⟩ rfl (fun U g mk a h => zPre.call g mk a h) (fun U h1 h2 _ => ⟨h1, va_K.moved h2.alike hK⟩) [((0, 5, 8, 13), "java/lang/IndexOutOfBoundsException")] (0, 5, 11, 21) [] rfl (by simp only [List.forall_mem_cons]; exact ⟨⟨⟨by decide, by decide, kl_J_13⟩, by decide⟩, fun _ h => absurd h List.not_mem_nil⟩) (by decide) (by decide) kl_J_21 ca_IllegalStateException rfl rfl (Nat.le_of_ble_eq_true rfl) d_J_ask_2 (fun q => ?_)
  have C2 := C.more hw.room
  show J (X.more 1 6) (zA G) 3 _ (zP G (eC V M P D)) 11 _ [.ref q]
  refine J_astore_n C2 d_J_ask_11 rfl (by decide) rfl ?_
  refine J_iconst (v := 2) C2 d_J_ask_12 (by decide) ?_
  exact J_wret C2 hw.c1 hr d_J_ask_13 rfl (fun _ h => h)
set_option maxRecDepth 100000 in
set_option maxHeartbeats 4000000 in
theorem w_open_0 {l : Launch} {G : zG} {V : zV} (w : wC G V) (M : zM) (P : Nat → Nat) (D : Nat × Nat) (r : Nat) (hr5 : r < 5) (s : Nat) (hs5 : s < 5) (hrs : ¬ s = r) (h : ¬ M 2 r 0 4 = 0) (tx rx m : Int32) (htx : ¬ lRate tx = 0) (hrx : ¬ lRate rx = 0) (hm1 : ¬ m < 1) (hm2 : m ≤ 255) : wF l y_J_open b_J_open 7 (some .int) hs_open 5 110 [.ref (V.1 0 0 0), .int (nI r), .int (nI s), .int tx, .int rx, .int m] (wBs G V M P D) (zA G) (some (.int 0)) (zP G (eC V (rw4 M 5 r s (sBegin (M 5 r s) tx rx m)) P D)) := by
  refine wF.ofJ (B := zP G (eC V M P D)) (by decide) (Nat.le_of_ble_eq_true rfl) (fun U h => h.1.1) (fun X hXl hr C hw hb => ?_)
  subst hXl
  obtain ⟨hb, hn0⟩ := hb
  have hK := hb.2
  show J X (zA G) 7 _ (zP G (eC V M P D)) 0 [(0, .ref (V.1 0 0 0)), (1, .int (nI r)), (2, .int (nI s)), (3, .int tx), (4, .int rx), (5, .int m)] []
  refine J_aload_n C 0 d_J_open_0 rfl rfl ?_
  refine J_iload_n C 1 d_J_open_1 rfl rfl ?_
  refine J_iload_n C 2 d_J_open_2 rfl rfl ?_
  refine J_iload_n C 3 d_J_open_3 rfl rfl ?_
  refine J_iload C 4 d_J_open_4 rfl ?_
  refine J_iload C 5 d_J_open_6 rfl ?_
  refine J_callV (B' := zP G (eC V (rw4 M 5 r s (sBegin (M 5 r s) tx rx m)) P D)) C hK w.2.2.2.2 (fun q h => h) (fun _ h => h) (fun _ _ _ _ _ h => h) mi_L_open ml_J_27 (c_L_open w M P D r hr5 s hs5 hrs h tx rx m htx hrx hm1 hm2) ⟨Nat.le_of_ble_eq_true rfl, Nat.le_of_ble_eq_true rfl⟩ (w.2.2.1 0 0 0 ⟨rfl, rfl⟩) (fun f hf => hf 0 0 0 ⟨rfl, rfl⟩) (by rw [w.1]; rfl) rfl rfl (Nat.le_of_ble_eq_true rfl) d_J_open_8 ?_
  refine J_goto (tgt := 26) C d_J_open_11 (by decide) ?_
  refine J_iconst (v := 0) C d_J_open_26 (by decide) ?_
  exact J_wret C hw.c0 hr d_J_open_27 rfl (fun _ h => h)
set_option maxRecDepth 100000 in
set_option maxHeartbeats 4000000 in
theorem w_open_1 {l : Launch} (hl : ∀ e, l.admits e → e.platform.stackTraces = false) {G : zG} {V : zV} (w : wC G V) (M : zM) (P : Nat → Nat) (D : Nat × Nat) (x y tx rx m : Int32) (h : lIsR x = 0 ∨ lIsR y = 0 ∨ y = x) : wF l y_J_open b_J_open 7 (some .int) hs_open 7 107 [.ref (V.1 0 0 0), .int x, .int y, .int tx, .int rx, .int m] (wBs G V M P D) (zA G) (some (.int 1)) (zP G (eC V M P D)) := by
  refine wF.ofJ (B := zP G (eC V M P D)) (by decide) (Nat.le_of_ble_eq_true rfl) (fun U h => h.1.1) (fun X hXl hr C hw hb => ?_)
  subst hXl
  obtain ⟨hb, hn0⟩ := hb
  have hK := hb.2
  show J X (zA G) 7 _ (zP G (eC V M P D)) 0 [(0, .ref (V.1 0 0 0)), (1, .int x), (2, .int y), (3, .int tx), (4, .int rx), (5, .int m)] []
  refine J_aload_n C 0 d_J_open_0 rfl rfl ?_
  refine J_iload_n C 1 d_J_open_1 rfl rfl ?_
  refine J_iload_n C 2 d_J_open_2 rfl rfl ?_
  refine J_iload_n C 3 d_J_open_3 rfl rfl ?_
  refine J_iload C 4 d_J_open_4 rfl ?_
  refine J_iload C 5 d_J_open_6 rfl ?_
  refine J_callTw (E := "java/lang/IndexOutOfBoundsException") (hs := hs_open) C w hK (fun q h => h) hb.1 hn0 hw mi_L_open ml_J_27 (t_open_1 hl w M P D x y tx rx m h) ⟨Nat.le_of_ble_eq_true rfl, Nat.le_of_ble_eq_true rfl⟩ rfl (fun U g mk a h => zPre.call g mk a h) (fun U h1 h2 _ => ⟨h1, va_K.moved h2.alike hK⟩) [] (0, 11, 14, 13) [(0, 11, 18, 21), (0, 11, 22, 15)] rfl (fun _ h => absurd h List.not_mem_nil) (by decide) (by decide) kl_J_13 ca_IndexOutOfBoundsException rfl rfl (Nat.le_of_ble_eq_true rfl) d_J_open_8 (fun q => ?_)
  have C2 := C.more hw.room
  show J (X.more 1 6) (zA G) 7 _ (zP G (eC V M P D)) 14 _ [.ref q]
  refine J_astore C2 d_J_open_14 (by decide) rfl ?_
  refine J_iconst (v := 1) C2 d_J_open_16 (by decide) ?_
  exact J_wret C2 hw.c1 hr d_J_open_17 rfl (fun _ h => h)
set_option maxRecDepth 100000 in
set_option maxHeartbeats 4000000 in
theorem w_open_2 {l : Launch} (hl : ∀ e, l.admits e → e.platform.stackTraces = false) {G : zG} {V : zV} (w : wC G V) (M : zM) (P : Nat → Nat) (D : Nat × Nat) (r : Nat) (hr5 : r < 5) (s : Nat) (hs5 : s < 5) (tx rx m : Int32) (hrs : ¬ s = r) (h : M 2 r 0 4 = 0) : wF l y_J_open b_J_open 7 (some .int) hs_open 7 107 [.ref (V.1 0 0 0), .int (nI r), .int (nI s), .int tx, .int rx, .int m] (wBs G V M P D) (zA G) (some (.int 2)) (zP G (eC V M P D)) := by
  refine wF.ofJ (B := zP G (eC V M P D)) (by decide) (Nat.le_of_ble_eq_true rfl) (fun U h => h.1.1) (fun X hXl hr C hw hb => ?_)
  subst hXl
  obtain ⟨hb, hn0⟩ := hb
  have hK := hb.2
  show J X (zA G) 7 _ (zP G (eC V M P D)) 0 [(0, .ref (V.1 0 0 0)), (1, .int (nI r)), (2, .int (nI s)), (3, .int tx), (4, .int rx), (5, .int m)] []
  refine J_aload_n C 0 d_J_open_0 rfl rfl ?_
  refine J_iload_n C 1 d_J_open_1 rfl rfl ?_
  refine J_iload_n C 2 d_J_open_2 rfl rfl ?_
  refine J_iload_n C 3 d_J_open_3 rfl rfl ?_
  refine J_iload C 4 d_J_open_4 rfl ?_
  refine J_iload C 5 d_J_open_6 rfl ?_
  refine J_callTw (E := "java/lang/IllegalStateException") (hs := hs_open) C w hK (fun q h => h) hb.1 hn0 hw mi_L_open ml_J_27 (t_open_2 hl w M P D r hr5 s hs5 tx rx m hrs h) ⟨Nat.le_of_ble_eq_true rfl, Nat.le_of_ble_eq_true rfl⟩ rfl (fun U g mk a h => zPre.call g mk a h) (fun U h1 h2 _ => ⟨h1, va_K.moved h2.alike hK⟩) [((0, 11, 14, 13), "java/lang/IndexOutOfBoundsException")] (0, 11, 18, 21) [(0, 11, 22, 15)] rfl (by simp only [List.forall_mem_cons]; exact ⟨⟨⟨by decide, by decide, kl_J_13⟩, by decide⟩, fun _ h => absurd h List.not_mem_nil⟩) (by decide) (by decide) kl_J_21 ca_IllegalStateException rfl rfl (Nat.le_of_ble_eq_true rfl) d_J_open_8 (fun q => ?_)
  have C2 := C.more hw.room
  show J (X.more 1 6) (zA G) 7 _ (zP G (eC V M P D)) 18 _ [.ref q]
  refine J_astore C2 d_J_open_18 (by decide) rfl ?_
  refine J_iconst (v := 2) C2 d_J_open_20 (by decide) ?_
  exact J_wret C2 hw.c1 hr d_J_open_21 rfl (fun _ h => h)
set_option maxRecDepth 100000 in
set_option maxHeartbeats 4000000 in
theorem w_open_3 {l : Launch} (hl : ∀ e, l.admits e → e.platform.stackTraces = false) {G : zG} {V : zV} (w : wC G V) (M : zM) (P : Nat → Nat) (D : Nat × Nat) (r : Nat) (hr5 : r < 5) (s : Nat) (hs5 : s < 5) (tx rx m : Int32) (hrs : ¬ s = r) (h : ¬ M 2 r 0 4 = 0) (hb3 : lRate tx = 0 ∨ lRate rx = 0 ∨ m < 1 ∨ ¬ m ≤ 255) : wF l y_J_open b_J_open 7 (some .int) hs_open 7 107 [.ref (V.1 0 0 0), .int (nI r), .int (nI s), .int tx, .int rx, .int m] (wBs G V M P D) (zA G) (some (.int 3)) (zP G (eC V M P D)) := by
  refine wF.ofJ (B := zP G (eC V M P D)) (by decide) (Nat.le_of_ble_eq_true rfl) (fun U h => h.1.1) (fun X hXl hr C hw hb => ?_)
  subst hXl
  obtain ⟨hb, hn0⟩ := hb
  have hK := hb.2
  show J X (zA G) 7 _ (zP G (eC V M P D)) 0 [(0, .ref (V.1 0 0 0)), (1, .int (nI r)), (2, .int (nI s)), (3, .int tx), (4, .int rx), (5, .int m)] []
  refine J_aload_n C 0 d_J_open_0 rfl rfl ?_
  refine J_iload_n C 1 d_J_open_1 rfl rfl ?_
  refine J_iload_n C 2 d_J_open_2 rfl rfl ?_
  refine J_iload_n C 3 d_J_open_3 rfl rfl ?_
  refine J_iload C 4 d_J_open_4 rfl ?_
  refine J_iload C 5 d_J_open_6 rfl ?_
  refine J_callTw (E := "java/lang/IllegalArgumentException") (hs := hs_open) C w hK (fun q h => h) hb.1 hn0 hw mi_L_open ml_J_27 (t_open_3 hl w M P D r hr5 s hs5 tx rx m hrs h hb3) ⟨Nat.le_of_ble_eq_true rfl, Nat.le_of_ble_eq_true rfl⟩ rfl (fun U g mk a h => zPre.call g mk a h) (fun U h1 h2 _ => ⟨h1, va_K.moved h2.alike hK⟩) [((0, 11, 14, 13), "java/lang/IndexOutOfBoundsException"), ((0, 11, 18, 21), "java/lang/IllegalStateException")] (0, 11, 22, 15) [] rfl (by simp only [List.forall_mem_cons]; exact ⟨⟨⟨by decide, by decide, kl_J_13⟩, by decide⟩, ⟨⟨by decide, by decide, kl_J_21⟩, by decide⟩, fun _ h => absurd h List.not_mem_nil⟩) (by decide) (by decide) kl_J_15 ca_IllegalArgumentException rfl rfl (Nat.le_of_ble_eq_true rfl) d_J_open_8 (fun q => ?_)
  have C2 := C.more hw.room
  show J (X.more 1 6) (zA G) 7 _ (zP G (eC V M P D)) 22 _ [.ref q]
  refine J_astore C2 d_J_open_22 (by decide) rfl ?_
  refine J_iconst (v := 3) C2 d_J_open_24 (by decide) ?_
  exact J_wret C2 hw.c1 hr d_J_open_25 rfl (fun _ h => h)
set_option maxRecDepth 100000 in
set_option maxHeartbeats 4000000 in
theorem w_change_0 {l : Launch} {G : zG} {V : zV} (w : wC G V) (M : zM) (P : Nat → Nat) (D : Nat × Nat) (r : Nat) (hr5 : r < 5) (s : Nat) (hs5 : s < 5) (h : ¬ M 5 r s 2 = 0) (h1 : ¬ M 5 r s 3 = 0) (tx rx : Int32) (hok : (tx = 0 ∧ rx = 0) ∨ (¬ lRate tx = 0 ∧ ¬ lRate rx = 0)) : wF l y_J_change b_J_change 6 (some .int) hs_change 6 131 [.ref (V.1 0 0 0), .int (nI r), .int (nI s), .int tx, .int rx] (wBs G V M P D) (zA G) (some (.int 0)) (zP G (eC V (chM M r s tx rx) P D)) := by
  refine wF.ofJ (B := zP G (eC V M P D)) (by decide) (Nat.le_of_ble_eq_true rfl) (fun U h => h.1.1) (fun X hXl hr C hw hb => ?_)
  subst hXl
  obtain ⟨hb, hn0⟩ := hb
  have hK := hb.2
  show J X (zA G) 6 _ (zP G (eC V M P D)) 0 [(0, .ref (V.1 0 0 0)), (1, .int (nI r)), (2, .int (nI s)), (3, .int tx), (4, .int rx)] []
  refine J_aload_n C 0 d_J_change_0 rfl rfl ?_
  refine J_iload_n C 1 d_J_change_1 rfl rfl ?_
  refine J_iload_n C 2 d_J_change_2 rfl rfl ?_
  refine J_iload_n C 3 d_J_change_3 rfl rfl ?_
  refine J_iload C 4 d_J_change_4 rfl ?_
  refine J_callV (B' := zP G (eC V (chM M r s tx rx) P D)) C hK w.2.2.2.2 (fun q h => h) (fun _ h => h) (fun _ _ _ _ _ h => h) mi_L_change ml_J_31 (c_L_change w M P D r hr5 s hs5 h h1 tx rx hok) ⟨Nat.le_of_ble_eq_true rfl, Nat.le_of_ble_eq_true rfl⟩ (w.2.2.1 0 0 0 ⟨rfl, rfl⟩) (fun f hf => hf 0 0 0 ⟨rfl, rfl⟩) (by rw [w.1]; rfl) rfl rfl (Nat.le_of_ble_eq_true rfl) d_J_change_6 ?_
  refine J_goto (tgt := 24) C d_J_change_9 (by decide) ?_
  refine J_iconst (v := 0) C d_J_change_24 (by decide) ?_
  exact J_wret C hw.c0 hr d_J_change_25 rfl (fun _ h => h)
set_option maxRecDepth 100000 in
set_option maxHeartbeats 4000000 in
theorem w_change_1 {l : Launch} (hl : ∀ e, l.admits e → e.platform.stackTraces = false) {G : zG} {V : zV} (w : wC G V) (M : zM) (P : Nat → Nat) (D : Nat × Nat) (x y tx rx : Int32) (h : lIsR x = 0 ∨ lIsR y = 0) : wF l y_J_change b_J_change 6 (some .int) hs_change 7 108 [.ref (V.1 0 0 0), .int x, .int y, .int tx, .int rx] (wBs G V M P D) (zA G) (some (.int 1)) (zP G (eC V M P D)) := by
  refine wF.ofJ (B := zP G (eC V M P D)) (by decide) (Nat.le_of_ble_eq_true rfl) (fun U h => h.1.1) (fun X hXl hr C hw hb => ?_)
  subst hXl
  obtain ⟨hb, hn0⟩ := hb
  have hK := hb.2
  show J X (zA G) 6 _ (zP G (eC V M P D)) 0 [(0, .ref (V.1 0 0 0)), (1, .int x), (2, .int y), (3, .int tx), (4, .int rx)] []
  refine J_aload_n C 0 d_J_change_0 rfl rfl ?_
  refine J_iload_n C 1 d_J_change_1 rfl rfl ?_
  refine J_iload_n C 2 d_J_change_2 rfl rfl ?_
  refine J_iload_n C 3 d_J_change_3 rfl rfl ?_
  refine J_iload C 4 d_J_change_4 rfl ?_
  refine J_callTw (E := "java/lang/IndexOutOfBoundsException") (hs := hs_change) C w hK (fun q h => h) hb.1 hn0 hw mi_L_change ml_J_31 (t_change_1 hl w M P D x y tx rx h) ⟨Nat.le_of_ble_eq_true rfl, Nat.le_of_ble_eq_true rfl⟩ rfl (fun U g mk a h => zPre.call g mk a h) (fun U h1 h2 _ => ⟨h1, va_K.moved h2.alike hK⟩) [] (0, 9, 12, 13) [(0, 9, 16, 21), (0, 9, 20, 15)] rfl (fun _ h => absurd h List.not_mem_nil) (by decide) (by decide) kl_J_13 ca_IndexOutOfBoundsException rfl rfl (Nat.le_of_ble_eq_true rfl) d_J_change_6 (fun q => ?_)
  have C2 := C.more hw.room
  show J (X.more 1 6) (zA G) 6 _ (zP G (eC V M P D)) 12 _ [.ref q]
  refine J_astore C2 d_J_change_12 (by decide) rfl ?_
  refine J_iconst (v := 1) C2 d_J_change_14 (by decide) ?_
  exact J_wret C2 hw.c1 hr d_J_change_15 rfl (fun _ h => h)
set_option maxRecDepth 100000 in
set_option maxHeartbeats 4000000 in
theorem w_change_2 {l : Launch} (hl : ∀ e, l.admits e → e.platform.stackTraces = false) {G : zG} {V : zV} (w : wC G V) (M : zM) (P : Nat → Nat) (D : Nat × Nat) (r : Nat) (hr5 : r < 5) (s : Nat) (hs5 : s < 5) (tx rx : Int32) (h : M 5 r s 2 = 0 ∨ M 5 r s 3 = 0) : wF l y_J_change b_J_change 6 (some .int) hs_change 7 108 [.ref (V.1 0 0 0), .int (nI r), .int (nI s), .int tx, .int rx] (wBs G V M P D) (zA G) (some (.int 2)) (zP G (eC V M P D)) := by
  refine wF.ofJ (B := zP G (eC V M P D)) (by decide) (Nat.le_of_ble_eq_true rfl) (fun U h => h.1.1) (fun X hXl hr C hw hb => ?_)
  subst hXl
  obtain ⟨hb, hn0⟩ := hb
  have hK := hb.2
  show J X (zA G) 6 _ (zP G (eC V M P D)) 0 [(0, .ref (V.1 0 0 0)), (1, .int (nI r)), (2, .int (nI s)), (3, .int tx), (4, .int rx)] []
  refine J_aload_n C 0 d_J_change_0 rfl rfl ?_
  refine J_iload_n C 1 d_J_change_1 rfl rfl ?_
  refine J_iload_n C 2 d_J_change_2 rfl rfl ?_
  refine J_iload_n C 3 d_J_change_3 rfl rfl ?_
  refine J_iload C 4 d_J_change_4 rfl ?_
  refine J_callTw (E := "java/lang/IllegalStateException") (hs := hs_change) C w hK (fun q h => h) hb.1 hn0 hw mi_L_change ml_J_31 (t_change_2 hl w M P D r hr5 s hs5 tx rx h) ⟨Nat.le_of_ble_eq_true rfl, Nat.le_of_ble_eq_true rfl⟩ rfl (fun U g mk a h => zPre.call g mk a h) (fun U h1 h2 _ => ⟨h1, va_K.moved h2.alike hK⟩) [((0, 9, 12, 13), "java/lang/IndexOutOfBoundsException")] (0, 9, 16, 21) [(0, 9, 20, 15)] rfl (by simp only [List.forall_mem_cons]; exact ⟨⟨⟨by decide, by decide, kl_J_13⟩, by decide⟩, fun _ h => absurd h List.not_mem_nil⟩) (by decide) (by decide) kl_J_21 ca_IllegalStateException rfl rfl (Nat.le_of_ble_eq_true rfl) d_J_change_6 (fun q => ?_)
  have C2 := C.more hw.room
  show J (X.more 1 6) (zA G) 6 _ (zP G (eC V M P D)) 16 _ [.ref q]
  refine J_astore C2 d_J_change_16 (by decide) rfl ?_
  refine J_iconst (v := 2) C2 d_J_change_18 (by decide) ?_
  exact J_wret C2 hw.c1 hr d_J_change_19 rfl (fun _ h => h)
set_option maxRecDepth 100000 in
set_option maxHeartbeats 4000000 in
theorem w_tick_1 {l : Launch} (hl : ∀ e, l.admits e → e.platform.stackTraces = false) {G : zG} {V : zV} (w : wC G V) (M : zM) (P : Nat → Nat) (D : Nat × Nat) (x : Int32) (o : Nat) (h : x < 1 ∨ ¬ x ≤ 400) : wF l y_J_tick b_J_tick 4 (some .int) hs_tick 7 106 [.ref (V.1 0 0 0), .int x, .ref o] (wBs G V M P D) (zA G) (some (.int 1)) (zP G (eC V M P D)) := by
  refine wF.ofJ (B := zP G (eC V M P D)) (by decide) (Nat.le_of_ble_eq_true rfl) (fun U h => h.1.1) (fun X hXl hr C hw hb => ?_)
  subst hXl
  obtain ⟨hb, hn0⟩ := hb
  have hK := hb.2
  show J X (zA G) 4 _ (zP G (eC V M P D)) 0 [(0, .ref (V.1 0 0 0)), (1, .int x), (2, .ref o)] []
  refine J_aload_n C 2 d_J_tick_0 rfl rfl ?_
  refine J_iconst (v := 0) C d_J_tick_1 (by decide) ?_
  refine J_aload_n C 0 d_J_tick_2 rfl rfl ?_
  refine J_iload_n C 1 d_J_tick_3 rfl rfl ?_
  refine J_callTw (E := "java/lang/IllegalArgumentException") (hs := hs_tick) C w hK (fun q h => h) hb.1 hn0 hw mi_L_tick ml_J_38 (t_tick_1 hl w M P D x h) ⟨Nat.le_of_ble_eq_true rfl, Nat.le_of_ble_eq_true rfl⟩ rfl (fun U g mk a h => zPre.call g mk a h) (fun U h1 h2 _ => ⟨h1, va_K.moved h2.alike hK⟩) [] (0, 9, 12, 15) [] rfl (fun _ h => absurd h List.not_mem_nil) (by decide) (by decide) kl_J_15 ca_IllegalArgumentException rfl rfl (Nat.le_of_ble_eq_true rfl) d_J_tick_4 (fun q => ?_)
  have C2 := C.more hw.room
  show J (X.more 1 6) (zA G) 4 _ (zP G (eC V M P D)) 12 _ [.ref q]
  refine J_astore_n C2 d_J_tick_12 rfl (by decide) rfl ?_
  refine J_iconst (v := 1) C2 d_J_tick_13 (by decide) ?_
  exact J_wret C2 hw.c1 hr d_J_tick_14 rfl (fun _ h => h)
set_option maxRecDepth 100000 in
set_option maxHeartbeats 4000000 in
theorem w_arrive_1 {l : Launch} (hl : ∀ e, l.admits e → e.platform.stackTraces = false) {G : zG} {V : zV} (w : wC G V) (M : zM) (P : Nat → Nat) (D : Nat × Nat) (x k s hp ad : Int32) (o : Nat) (h : lIsR x = 0) : wF l y_J_arrive b_J_arrive 8 (some .int) hs_arrive 7 108 [.ref (V.1 0 0 0), .int x, .int k, .int s, .int hp, .int ad, .ref o] (wBs G V M P D) (zA G) (some (.int 1)) (zP G (eC V M P D)) := by
  refine wF.ofJ (B := zP G (eC V M P D)) (by decide) (Nat.le_of_ble_eq_true rfl) (fun U h => h.1.1) (fun X hXl hr C hw hb => ?_)
  subst hXl
  obtain ⟨hb, hn0⟩ := hb
  have hK := hb.2
  show J X (zA G) 8 _ (zP G (eC V M P D)) 0 [(0, .ref (V.1 0 0 0)), (1, .int x), (2, .int k), (3, .int s), (4, .int hp), (5, .int ad), (6, .ref o)] []
  refine J_aload C 6 d_J_arrive_0 rfl ?_
  refine J_iconst (v := 0) C d_J_arrive_2 (by decide) ?_
  refine J_aload_n C 0 d_J_arrive_3 rfl rfl ?_
  refine J_iload_n C 1 d_J_arrive_4 rfl rfl ?_
  refine J_iload_n C 2 d_J_arrive_5 rfl rfl ?_
  refine J_iload_n C 3 d_J_arrive_6 rfl rfl ?_
  refine J_iload C 4 d_J_arrive_7 rfl ?_
  refine J_iload C 5 d_J_arrive_9 rfl ?_
  refine J_callTw (E := "java/lang/IndexOutOfBoundsException") (hs := hs_arrive) C w hK (fun q h => h) hb.1 hn0 hw mi_L_arrive ml_J_42 (t_arrive_1 hl w M P D x k s hp ad h) ⟨Nat.le_of_ble_eq_true rfl, Nat.le_of_ble_eq_true rfl⟩ rfl (fun U g mk a h => zPre.call g mk a h) (fun U h1 h2 _ => ⟨h1, va_K.moved h2.alike hK⟩) [] (0, 23, 26, 13) [(0, 23, 30, 15), (0, 23, 34, 21)] rfl (fun _ h => absurd h List.not_mem_nil) (by decide) (by decide) kl_J_13 ca_IndexOutOfBoundsException rfl rfl (Nat.le_of_ble_eq_true rfl) d_J_arrive_11 (fun q => ?_)
  have C2 := C.more hw.room
  show J (X.more 1 6) (zA G) 8 _ (zP G (eC V M P D)) 26 _ [.ref q]
  refine J_astore C2 d_J_arrive_26 (by decide) rfl ?_
  refine J_iconst (v := 1) C2 d_J_arrive_28 (by decide) ?_
  exact J_wret C2 hw.c1 hr d_J_arrive_29 rfl (fun _ h => h)
set_option maxRecDepth 100000 in
set_option maxHeartbeats 4000000 in
theorem w_arrive_2 {l : Launch} (hl : ∀ e, l.admits e → e.platform.stackTraces = false) {G : zG} {V : zV} (w : wC G V) (M : zM) (P : Nat → Nat) (D : Nat × Nat) (r : Nat) (hr5 : r < 5) (k s hp ad : Int32) (o : Nat) (h : (¬ k = 1 ∧ ¬ k = 2) ∨ s < 0 ∨ 15 ≤ s ∨ hp < 0 ∨ ¬ hp ≤ 255) : wF l y_J_arrive b_J_arrive 8 (some .int) hs_arrive 7 108 [.ref (V.1 0 0 0), .int (nI r), .int k, .int s, .int hp, .int ad, .ref o] (wBs G V M P D) (zA G) (some (.int 2)) (zP G (eC V M P D)) := by
  refine wF.ofJ (B := zP G (eC V M P D)) (by decide) (Nat.le_of_ble_eq_true rfl) (fun U h => h.1.1) (fun X hXl hr C hw hb => ?_)
  subst hXl
  obtain ⟨hb, hn0⟩ := hb
  have hK := hb.2
  show J X (zA G) 8 _ (zP G (eC V M P D)) 0 [(0, .ref (V.1 0 0 0)), (1, .int (nI r)), (2, .int k), (3, .int s), (4, .int hp), (5, .int ad), (6, .ref o)] []
  refine J_aload C 6 d_J_arrive_0 rfl ?_
  refine J_iconst (v := 0) C d_J_arrive_2 (by decide) ?_
  refine J_aload_n C 0 d_J_arrive_3 rfl rfl ?_
  refine J_iload_n C 1 d_J_arrive_4 rfl rfl ?_
  refine J_iload_n C 2 d_J_arrive_5 rfl rfl ?_
  refine J_iload_n C 3 d_J_arrive_6 rfl rfl ?_
  refine J_iload C 4 d_J_arrive_7 rfl ?_
  refine J_iload C 5 d_J_arrive_9 rfl ?_
  refine J_callTw (E := "java/lang/IllegalArgumentException") (hs := hs_arrive) C w hK (fun q h => h) hb.1 hn0 hw mi_L_arrive ml_J_42 (t_arrive_2 hl w M P D r hr5 k s hp ad h) ⟨Nat.le_of_ble_eq_true rfl, Nat.le_of_ble_eq_true rfl⟩ rfl (fun U g mk a h => zPre.call g mk a h) (fun U h1 h2 _ => ⟨h1, va_K.moved h2.alike hK⟩) [((0, 23, 26, 13), "java/lang/IndexOutOfBoundsException")] (0, 23, 30, 15) [(0, 23, 34, 21)] rfl (by simp only [List.forall_mem_cons]; exact ⟨⟨⟨by decide, by decide, kl_J_13⟩, by decide⟩, fun _ h => absurd h List.not_mem_nil⟩) (by decide) (by decide) kl_J_15 ca_IllegalArgumentException rfl rfl (Nat.le_of_ble_eq_true rfl) d_J_arrive_11 (fun q => ?_)
  have C2 := C.more hw.room
  show J (X.more 1 6) (zA G) 8 _ (zP G (eC V M P D)) 30 _ [.ref q]
  refine J_astore C2 d_J_arrive_30 (by decide) rfl ?_
  refine J_iconst (v := 2) C2 d_J_arrive_32 (by decide) ?_
  exact J_wret C2 hw.c1 hr d_J_arrive_33 rfl (fun _ h => h)
set_option maxRecDepth 100000 in
set_option maxHeartbeats 4000000 in
theorem w_arrive_3 {l : Launch} (hl : ∀ e, l.admits e → e.platform.stackTraces = false) {G : zG} {V : zV} (w : wC G V) (M : zM) (P : Nat → Nat) (D : Nat × Nat) (r : Nat) (hr5 : r < 5) (k s hp ad : Int32) (o : Nat) (hk : k = 1 ∨ k = 2) (hs1 : ¬ s < 0) (hs2 : ¬ 15 ≤ s) (hh1 : ¬ hp < 0) (hh2 : hp ≤ 255) (h : M 2 r 0 4 = 0) : wF l y_J_arrive b_J_arrive 8 (some .int) hs_arrive 7 108 [.ref (V.1 0 0 0), .int (nI r), .int k, .int s, .int hp, .int ad, .ref o] (wBs G V M P D) (zA G) (some (.int 3)) (zP G (eC V M P D)) := by
  refine wF.ofJ (B := zP G (eC V M P D)) (by decide) (Nat.le_of_ble_eq_true rfl) (fun U h => h.1.1) (fun X hXl hr C hw hb => ?_)
  subst hXl
  obtain ⟨hb, hn0⟩ := hb
  have hK := hb.2
  show J X (zA G) 8 _ (zP G (eC V M P D)) 0 [(0, .ref (V.1 0 0 0)), (1, .int (nI r)), (2, .int k), (3, .int s), (4, .int hp), (5, .int ad), (6, .ref o)] []
  refine J_aload C 6 d_J_arrive_0 rfl ?_
  refine J_iconst (v := 0) C d_J_arrive_2 (by decide) ?_
  refine J_aload_n C 0 d_J_arrive_3 rfl rfl ?_
  refine J_iload_n C 1 d_J_arrive_4 rfl rfl ?_
  refine J_iload_n C 2 d_J_arrive_5 rfl rfl ?_
  refine J_iload_n C 3 d_J_arrive_6 rfl rfl ?_
  refine J_iload C 4 d_J_arrive_7 rfl ?_
  refine J_iload C 5 d_J_arrive_9 rfl ?_
  refine J_callTw (E := "java/lang/IllegalStateException") (hs := hs_arrive) C w hK (fun q h => h) hb.1 hn0 hw mi_L_arrive ml_J_42 (t_arrive_3 hl w M P D r hr5 k s hp ad hk hs1 hs2 hh1 hh2 h) ⟨Nat.le_of_ble_eq_true rfl, Nat.le_of_ble_eq_true rfl⟩ rfl (fun U g mk a h => zPre.call g mk a h) (fun U h1 h2 _ => ⟨h1, va_K.moved h2.alike hK⟩) [((0, 23, 26, 13), "java/lang/IndexOutOfBoundsException"), ((0, 23, 30, 15), "java/lang/IllegalArgumentException")] (0, 23, 34, 21) [] rfl (by simp only [List.forall_mem_cons]; exact ⟨⟨⟨by decide, by decide, kl_J_13⟩, by decide⟩, ⟨⟨by decide, by decide, kl_J_15⟩, by decide⟩, fun _ h => absurd h List.not_mem_nil⟩) (by decide) (by decide) kl_J_21 ca_IllegalStateException rfl rfl (Nat.le_of_ble_eq_true rfl) d_J_arrive_11 (fun q => ?_)
  have C2 := C.more hw.room
  show J (X.more 1 6) (zA G) 8 _ (zP G (eC V M P D)) 34 _ [.ref q]
  refine J_astore C2 d_J_arrive_34 (by decide) rfl ?_
  refine J_iconst (v := 3) C2 d_J_arrive_36 (by decide) ?_
  exact J_wret C2 hw.c1 hr d_J_arrive_37 rfl (fun _ h => h)
set_option maxRecDepth 100000 in
set_option maxHeartbeats 4000000 in
theorem w_set_0 {l : Launch} {G : zG} {V : zV} (w : wC G V) (M : zM) (P : Nat → Nat) (D : Nat × Nat) (r : Nat) (hr5 : r < 5) (wh : Nat) (hw10 : wh < 10) (v : Int32) (h1 : ¬ v < leF wh) (h2 : v ≤ moF wh) : wF l y_J_set b_J_set 5 (some .int) hs_set 2 43 [.ref (V.1 0 0 0), .int (nI r), .int (nI wh), .int v] (wBt G V M P D) (zA G) (some (.int 0)) (zP G (eC V (up M 3 r 0 wh v) P D)) := by
  refine wF.ofJ (B := zP G (eC V M P D)) (by decide) (Nat.le_of_ble_eq_true rfl) (fun U h => h.1.1.1) (fun X hXl hr C hw hb => ?_)
  subst hXl
  obtain ⟨⟨hb, hn0⟩, hst⟩ := hb
  have hK := hb.2
  show J X (zA G) 5 _ (zP G (eC V M P D)) 0 [(0, .ref (V.1 0 0 0)), (1, .int (nI r)), (2, .int (nI wh)), (3, .int v)] []
  refine J_aload_n C 0 d_J_set_0 rfl rfl ?_
  refine J_iload_n C 1 d_J_set_1 rfl rfl ?_
  refine J_iload_n C 2 d_J_set_2 rfl rfl ?_
  refine J_iload_n C 3 d_J_set_3 rfl rfl ?_
  refine J_callVs (B' := zP G (eC V (up M 3 r 0 wh v) P D)) C hK w.2.2.2.2 (fun q => Iff.rfl) hst (fun _ h => h) (fun _ _ _ _ _ h => h) mi_L_set ml_J_7 (c_L_set w M P D r hr5 wh hw10 v h1 h2) ⟨Nat.le_of_ble_eq_true rfl, Nat.le_of_ble_eq_true rfl⟩ (w.2.2.1 0 0 0 ⟨rfl, rfl⟩) (fun f hf => hf 0 0 0 ⟨rfl, rfl⟩) (by rw [w.1]; rfl) rfl rfl (Nat.le_of_ble_eq_true rfl) d_J_set_4 ?_
  refine J_goto (tgt := 18) C d_J_set_7 (by decide) ?_
  refine J_iconst (v := 0) C d_J_set_18 (by decide) ?_
  exact J_wret C hw.c0 hr d_J_set_19 rfl (fun _ h => h)
set_option maxRecDepth 100000 in
set_option maxHeartbeats 4000000 in
theorem w_set_1 {l : Launch} (hl : ∀ e, l.admits e → e.platform.stackTraces = false) {G : zG} {V : zV} (w : wC G V) (M : zM) (P : Nat → Nat) (D : Nat × Nat) (x y v : Int32) (h : lIsR x = 0 ∨ y < 0 ∨ 10 ≤ y) : wF l y_J_set b_J_set 5 (some .int) hs_set 7 105 [.ref (V.1 0 0 0), .int x, .int y, .int v] (wBt G V M P D) (zA G) (some (.int 1)) (zP G (eC V M P D)) := by
  refine wF.ofJ (B := zP G (eC V M P D)) (by decide) (Nat.le_of_ble_eq_true rfl) (fun U h => h.1.1.1) (fun X hXl hr C hw hb => ?_)
  subst hXl
  obtain ⟨⟨hb, hn0⟩, hst⟩ := hb
  have hK := hb.2
  show J X (zA G) 5 _ (zP G (eC V M P D)) 0 [(0, .ref (V.1 0 0 0)), (1, .int x), (2, .int y), (3, .int v)] []
  refine J_aload_n C 0 d_J_set_0 rfl rfl ?_
  refine J_iload_n C 1 d_J_set_1 rfl rfl ?_
  refine J_iload_n C 2 d_J_set_2 rfl rfl ?_
  refine J_iload_n C 3 d_J_set_3 rfl rfl ?_
  refine J_callTw (E := "java/lang/IndexOutOfBoundsException") (hs := hs_set) C w hK (fun q h => h) hb.1 hn0 hw mi_L_set ml_J_7 (t_set_1 hl w M P D x y v h) ⟨Nat.le_of_ble_eq_true rfl, Nat.le_of_ble_eq_true rfl⟩ rfl (fun U g mk a h => ⟨zPre.call g mk a h.1, stOk.moved (u := U) (U := U.calling g mk a) (Vm.Alike.refl U.vm) h.2⟩) (fun U h1 h2 h3 => ⟨⟨h1, va_K.moved h2.alike hK⟩, ((hst.kept h3).moved h2.alike).narrow (fun _ z => z.elim)⟩) [] (0, 7, 10, 13) [(0, 7, 14, 15)] rfl (fun _ h => absurd h List.not_mem_nil) (by decide) (by decide) kl_J_13 ca_IndexOutOfBoundsException rfl rfl (Nat.le_of_ble_eq_true rfl) d_J_set_4 (fun q => ?_)
  have C2 := C.more hw.room
  show J (X.more 1 6) (zA G) 5 _ (zP G (eC V M P D)) 10 _ [.ref q]
  refine J_astore C2 d_J_set_10 (by decide) rfl ?_
  refine J_iconst (v := 1) C2 d_J_set_12 (by decide) ?_
  exact J_wret C2 hw.c1 hr d_J_set_13 rfl (fun _ h => h)
set_option maxRecDepth 100000 in
set_option maxHeartbeats 4000000 in
theorem w_set_2 {l : Launch} (hl : ∀ e, l.admits e → e.platform.stackTraces = false) {G : zG} {V : zV} (w : wC G V) (M : zM) (P : Nat → Nat) (D : Nat × Nat) (r : Nat) (hr5 : r < 5) (wh : Nat) (hw10 : wh < 10) (v : Int32) (h : v < leF wh ∨ ¬ v ≤ moF wh) : wF l y_J_set b_J_set 5 (some .int) hs_set 7 105 [.ref (V.1 0 0 0), .int (nI r), .int (nI wh), .int v] (wBt G V M P D) (zA G) (some (.int 2)) (zP G (eC V M P D)) := by
  refine wF.ofJ (B := zP G (eC V M P D)) (by decide) (Nat.le_of_ble_eq_true rfl) (fun U h => h.1.1.1) (fun X hXl hr C hw hb => ?_)
  subst hXl
  obtain ⟨⟨hb, hn0⟩, hst⟩ := hb
  have hK := hb.2
  show J X (zA G) 5 _ (zP G (eC V M P D)) 0 [(0, .ref (V.1 0 0 0)), (1, .int (nI r)), (2, .int (nI wh)), (3, .int v)] []
  refine J_aload_n C 0 d_J_set_0 rfl rfl ?_
  refine J_iload_n C 1 d_J_set_1 rfl rfl ?_
  refine J_iload_n C 2 d_J_set_2 rfl rfl ?_
  refine J_iload_n C 3 d_J_set_3 rfl rfl ?_
  refine J_callTw (E := "java/lang/IllegalArgumentException") (hs := hs_set) C w hK (fun q h => h) hb.1 hn0 hw mi_L_set ml_J_7 (t_set_2 hl w M P D r hr5 wh hw10 v h) ⟨Nat.le_of_ble_eq_true rfl, Nat.le_of_ble_eq_true rfl⟩ rfl (fun U g mk a h => ⟨zPre.call g mk a h.1, stOk.moved (u := U) (U := U.calling g mk a) (Vm.Alike.refl U.vm) h.2⟩) (fun U h1 h2 h3 => ⟨⟨h1, va_K.moved h2.alike hK⟩, ((hst.kept h3).moved h2.alike).narrow (fun _ z => z.elim)⟩) [((0, 7, 10, 13), "java/lang/IndexOutOfBoundsException")] (0, 7, 14, 15) [] rfl (by simp only [List.forall_mem_cons]; exact ⟨⟨⟨by decide, by decide, kl_J_13⟩, by decide⟩, fun _ h => absurd h List.not_mem_nil⟩) (by decide) (by decide) kl_J_15 ca_IllegalArgumentException rfl rfl (Nat.le_of_ble_eq_true rfl) d_J_set_4 (fun q => ?_)
  have C2 := C.more hw.room
  show J (X.more 1 6) (zA G) 5 _ (zP G (eC V M P D)) 14 _ [.ref q]
  refine J_astore C2 d_J_set_14 (by decide) rfl ?_
  refine J_iconst (v := 2) C2 d_J_set_16 (by decide) ?_
  exact J_wret C2 hw.c1 hr d_J_set_17 rfl (fun _ h => h)
