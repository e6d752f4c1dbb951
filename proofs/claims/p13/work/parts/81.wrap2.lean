/-! change where the rates are out of range; its wrapper; the wrapper of arrive, where it returns -/
set_option maxRecDepth 100000 in
set_option maxHeartbeats 4000000 in
theorem t_change_3 {l : Launch} (hl : ∀ e, l.admits e → e.platform.stackTraces = false) {G : zG} {V : zV} (w : wC G V) (M : zM) (P : Nat → Nat) (D : Nat × Nat) (r : Nat) (hr5 : r < 5) (s : Nat) (hs5 : s < 5) (tx rx : Int32) (h : ¬ M 5 r s 2 = 0) (h1 : ¬ M 5 r s 3 = 0) (hz : ¬ (tx = 0 ∧ rx = 0)) (hb3 : lRate tx = 0 ∨ lRate rx = 0) : zTh l y_L_change b_L_change 7 none 6 82 [.ref (V.1 0 0 0), .int (nI r), .int (nI s), .int tx, .int rx] (zPre G (eC V M P D)) "java/lang/IllegalArgumentException" := by
  refine zTh.ofJ (B' := zP G (eC V M P D)) hl (by decide) (Nat.le_of_ble_eq_true rfl) (fun U h => h.1) (fun X hXl C t hb => ?_)
  subst hXl
  have hK := hb.2
  show J X nA 7 _ (zP G (eC V M P D)) 0 [(0, .ref (V.1 0 0 0)), (1, .int (nI r)), (2, .int (nI s)), (3, .int tx), (4, .int rx)] []
  refine J_iload_n C 1 d_L_change_0 rfl rfl ?_
  refine J_callP (G := G) C zP.kp ms_L_isRouter ml_L_32 (p_L_isRouter List.nodup_nil _ _) ⟨Nat.le_of_ble_eq_true rfl, Nat.le_of_ble_eq_true rfl⟩ rfl rfl (Nat.le_of_ble_eq_true rfl) d_L_change_1 ?_
  refine J_if_eq (tgt := 14) C d_L_change_4 (by decide) (fun c4 => ?_) (fun c4 => ?_)
  · exact absurd c4 (lIsR_ne hr5)
  · skip
    refine J_iload_n C 2 d_L_change_7 rfl rfl ?_
    refine J_callP (G := G) C zP.kp ms_L_isRouter ml_L_32 (p_L_isRouter List.nodup_nil _ _) ⟨Nat.le_of_ble_eq_true rfl, Nat.le_of_ble_eq_true rfl⟩ rfl rfl (Nat.le_of_ble_eq_true rfl) d_L_change_8 ?_
    refine J_if_ne (tgt := 24) C d_L_change_11 (by decide) (fun c11 => ?_) (fun c11 => ?_)
    · skip
      refine J_aload_n C 0 d_L_change_24 rfl rfl ?_
      refine JC_gL C w hK 1 (by decide) fl_L_21 rfl rfl d_L_change_25 ?_
      refine J_iload_n C 1 d_L_change_28 rfl rfl ?_
      refine JC_ldQ C w hK r (nI_clamp (by omega)) (vp_in_nI (by omega) (by decide)) d_L_change_29 ?_
      refine JC_gR C w hK (by assumption) 3 (by decide) fl_L_87 rfl rfl d_L_change_30 ?_
      refine J_iload_n C 2 d_L_change_33 rfl rfl ?_
      refine JC_ldX C w hK (by assumption) s (nI_clamp (by omega)) (vp_in_nI (by omega) (by decide)) d_L_change_34 ?_
      refine J_astore C d_L_change_35 (by decide) rfl ?_
      refine J_aload C 0 d_L_change_37 rfl ?_
      refine JC_gS C w hK (by assumption) (by assumption) 2 (by decide) fl_L_97 rfl rfl d_L_change_39 ?_
      refine J_if_eq (tgt := 53) C d_L_change_42 (by decide) (fun c42 => ?_) (fun c42 => ?_)
      · exact absurd c42 h
      · skip
        refine J_aload C 0 d_L_change_45 rfl ?_
        refine JC_gS C w hK (by assumption) (by assumption) 3 (by decide) fl_L_101 rfl rfl d_L_change_47 ?_
        refine J_if_ne (tgt := 63) C d_L_change_50 (by decide) (fun c50 => ?_) (fun c50 => ?_)
        · skip
          refine J_iload_n C 4 d_L_change_63 rfl rfl ?_
          refine J_if_ne (tgt := 76) C d_L_change_64 (by decide) (fun c64 => ?_) (fun c64 => ?_)
          · skip
            refine J_iconst (v := 0) C d_L_change_76 (by decide) ?_
            refine J_istore C d_L_change_77 (by decide) rfl ?_
            refine J_iload C 0 d_L_change_79 rfl ?_
            refine J_if_ne (tgt := 109) C d_L_change_81 (by decide) (fun c81 => ?_) (fun c81 => ?_)
            · exact absurd rfl c81
            · skip
              refine J_iload_n C 5 d_L_change_84 rfl rfl ?_
              refine J_callP (G := G) C zP.kp ms_L_isRate ml_L_82 (p_L_isRate List.nodup_nil _ _) ⟨Nat.le_of_ble_eq_true rfl, Nat.le_of_ble_eq_true rfl⟩ rfl rfl (Nat.le_of_ble_eq_true rfl) d_L_change_85 ?_
              refine J_if_eq (tgt := 99) C d_L_change_88 (by decide) (fun c88 => ?_) (fun c88 => ?_)
              · skip
                exact J_throw C t (by decide) (by decide) ta_IllegalArgumentException kl_L_50 iz_IllegalArgumentException im_IllegalArgumentException sr_L_104 ⟨Nat.le_of_ble_eq_true rfl, Nat.le_of_ble_eq_true rfl⟩ d_L_change_99 d_L_change_102 d_L_change_103 d_L_change_105 d_L_change_108
              · skip
                refine J_iload C 6 d_L_change_91 rfl ?_
                refine J_callP (G := G) C zP.kp ms_L_isRate ml_L_82 (p_L_isRate List.nodup_nil _ _) ⟨Nat.le_of_ble_eq_true rfl, Nat.le_of_ble_eq_true rfl⟩ rfl rfl (Nat.le_of_ble_eq_true rfl) d_L_change_93 ?_
                refine J_if_ne (tgt := 109) C d_L_change_96 (by decide) (fun c96 => ?_) (fun c96 => ?_)
                · exact absurd (hb3.resolve_left c88) c96
                · skip
                  exact J_throw C t (by decide) (by decide) ta_IllegalArgumentException kl_L_50 iz_IllegalArgumentException im_IllegalArgumentException sr_L_104 ⟨Nat.le_of_ble_eq_true rfl, Nat.le_of_ble_eq_true rfl⟩ d_L_change_99 d_L_change_102 d_L_change_103 d_L_change_105 d_L_change_108
          · skip
            refine J_iload C 5 d_L_change_67 rfl ?_
            refine J_if_ne (tgt := 76) C d_L_change_69 (by decide) (fun c69 => ?_) (fun c69 => ?_)
            · skip
              refine J_iconst (v := 0) C d_L_change_76 (by decide) ?_
              refine J_istore C d_L_change_77 (by decide) rfl ?_
              refine J_iload C 0 d_L_change_79 rfl ?_
              refine J_if_ne (tgt := 109) C d_L_change_81 (by decide) (fun c81 => ?_) (fun c81 => ?_)
              · exact absurd rfl c81
              · skip
                refine J_iload_n C 5 d_L_change_84 rfl rfl ?_
                refine J_callP (G := G) C zP.kp ms_L_isRate ml_L_82 (p_L_isRate List.nodup_nil _ _) ⟨Nat.le_of_ble_eq_true rfl, Nat.le_of_ble_eq_true rfl⟩ rfl rfl (Nat.le_of_ble_eq_true rfl) d_L_change_85 ?_
                refine J_if_eq (tgt := 99) C d_L_change_88 (by decide) (fun c88 => ?_) (fun c88 => ?_)
                · skip
                  exact J_throw C t (by decide) (by decide) ta_IllegalArgumentException kl_L_50 iz_IllegalArgumentException im_IllegalArgumentException sr_L_104 ⟨Nat.le_of_ble_eq_true rfl, Nat.le_of_ble_eq_true rfl⟩ d_L_change_99 d_L_change_102 d_L_change_103 d_L_change_105 d_L_change_108
                · skip
                  refine J_iload C 6 d_L_change_91 rfl ?_
                  refine J_callP (G := G) C zP.kp ms_L_isRate ml_L_82 (p_L_isRate List.nodup_nil _ _) ⟨Nat.le_of_ble_eq_true rfl, Nat.le_of_ble_eq_true rfl⟩ rfl rfl (Nat.le_of_ble_eq_true rfl) d_L_change_93 ?_
                  refine J_if_ne (tgt := 109) C d_L_change_96 (by decide) (fun c96 => ?_) (fun c96 => ?_)
                  · exact absurd (hb3.resolve_left c88) c96
                  · skip
                    exact J_throw C t (by decide) (by decide) ta_IllegalArgumentException kl_L_50 iz_IllegalArgumentException im_IllegalArgumentException sr_L_104 ⟨Nat.le_of_ble_eq_true rfl, Nat.le_of_ble_eq_true rfl⟩ d_L_change_99 d_L_change_102 d_L_change_103 d_L_change_105 d_L_change_108
            · exact absurd ⟨c64, c69⟩ hz
        · exact absurd c50 h1
    · exact absurd c11 (lIsR_ne hs5)
set_option maxRecDepth 100000 in
set_option maxHeartbeats 4000000 in
theorem w_change_3 {l : Launch} (hl : ∀ e, l.admits e → e.platform.stackTraces = false) {G : zG} {V : zV} (w : wC G V) (M : zM) (P : Nat → Nat) (D : Nat × Nat) (r : Nat) (hr5 : r < 5) (s : Nat) (hs5 : s < 5) (tx rx : Int32) (h : ¬ M 5 r s 2 = 0) (h1 : ¬ M 5 r s 3 = 0) (hz : ¬ (tx = 0 ∧ rx = 0)) (hb3 : lRate tx = 0 ∨ lRate rx = 0) : wF l y_J_change b_J_change 6 (some .int) hs_change 7 108 [.ref (V.1 0 0 0), .int (nI r), .int (nI s), .int tx, .int rx] (wBs G V M P D) (zA G) (some (.int 3)) (zP G (eC V M P D)) := by
  refine wF.ofJ (B := zP G (eC V M P D)) (by decide) (Nat.le_of_ble_eq_true rfl) (fun U h => h.1.1) (fun X hXl hr C hw hb => ?_)
  subst hXl
  obtain ⟨hb, hn0⟩ := hb
  have hK := hb.2
  show J X (zA G) 6 _ (zP G (eC V M P D)) 0 [(0, .ref (V.1 0 0 0)), (1, .int (nI r)), (2, .int (nI s)), (3, .int tx), (4, .int rx)] []
  refine J_aload_n C 0 d_J_change_0 rfl rfl ?_
  refine J_iload_n C 1 d_J_change_1 rfl rfl ?_
  refine J_iload_n C 2 d_J_change_2 rfl rfl ?_
  refine J_iload_n C 3 d_J_change_3 rfl rfl ?_
  refine J_iload C 4 d_J_change_4 rfl ?_
  refine J_callTw (E := "java/lang/IllegalArgumentException") (hs := hs_change) C w hK (fun q h => h) hb.1 hn0 hw mi_L_change ml_J_31 (t_change_3 hl w M P D r hr5 s hs5 tx rx h h1 hz hb3) ⟨Nat.le_of_ble_eq_true rfl, Nat.le_of_ble_eq_true rfl⟩ rfl (fun U g mk a h => zPre.call g mk a h) (fun U h1 h2 _ => ⟨h1, va_K.moved h2.alike hK⟩) [((0, 9, 12, 13), "java/lang/IndexOutOfBoundsException"), ((0, 9, 16, 21), "java/lang/IllegalStateException")] (0, 9, 20, 15) [] rfl (by simp only [List.forall_mem_cons]; exact ⟨⟨⟨by decide, by decide, kl_J_13⟩, by decide⟩, ⟨⟨by decide, by decide, kl_J_21⟩, by decide⟩, fun _ h => absurd h List.not_mem_nil⟩) (by decide) (by decide) kl_J_15 ca_IllegalArgumentException rfl rfl (Nat.le_of_ble_eq_true rfl) d_J_change_6 (fun q => ?_)
  have C2 := C.more hw.room
  show J (X.more 1 6) (zA G) 6 _ (zP G (eC V M P D)) 20 _ [.ref q]
  refine J_astore C2 d_J_change_20 (by decide) rfl ?_
  refine J_iconst (v := 3) C2 d_J_change_22 (by decide) ?_
  exact J_wret C2 hw.c1 hr d_J_change_23 rfl (fun _ h => h)
set_option maxRecDepth 100000 in
set_option maxHeartbeats 4000000 in
theorem w_arrive_0 {l : Launch} {G : zG} {V : zV} (w : wC G V) (M : zM) (P : Nat → Nat) (D : Nat × Nat) (r : Nat) (hr5 : r < 5) (hI : Inv M P D) (h0 : ¬ M 2 r 0 4 = 0) (k s hp ad : Int32) (hk : k = 1 ∨ k = 2) (hs1 : ¬ s < 0) (hs2 : ¬ 15 ≤ s) (hh1 : ¬ hp < 0) (hh2 : hp ≤ 255) (o : Nat) (cL : ClassId) (fo : Nat → Int64) (ho : o ∉ G.2.2.2) :
    wF l y_J_arrive b_J_arrive 8 (some .int) hs_arrive 7 153 [.ref (V.1 0 0 0), .int (nI r), .int k, .int s, .int hp, .int ad, .ref o] (fun U => wBs G V M P D U ∧ oP o cL fo U.heap ∧ ArrOfT U cL .long) (tA G o) (some (.int 0)) (fun H => zP G (eC V (arS (M, P, D) r k s hp ad).1 (arS (M, P, D) r k s hp ad).2.1 (arS (M, P, D) r k s hp ad).2.2) H ∧ oP o cL (vp_updL fo 0 (if heR (ar1 M k s hp ad) r 62 = 0 then 0 else 1)) H) := by
  refine wF.ofJ (B := fun H => zP G (eC V M P D) H ∧ oP o cL fo H) (by decide) (Nat.le_of_ble_eq_true rfl) (fun U h => ⟨h.1.1.1, h.2.1⟩) (fun X hXl hr C hw hb => ?_)
  subst hXl
  obtain ⟨⟨hb, hn0⟩, hob, hAr⟩ := hb
  have hK := hb.2
  show J X (tA G o) 8 _ _ 0 [(0, .ref (V.1 0 0 0)), (1, .int (nI r)), (2, .int k), (3, .int s), (4, .int hp), (5, .int ad), (6, .ref o)] []
  have fin : ∀ (v : Int64) (lv : List (Nat × Value)), v = (if heR (ar1 M k s hp ad) r 62 = 0 then 0 else 1) → J X (tA G o) 8 (wQ X (some (.int 0)) (tA G o) (fun H => zP G (eC V (arS (M, P, D) r k s hp ad).1 (arS (M, P, D) r k s hp ad).2.1 (arS (M, P, D) r k s hp ad).2.2) H ∧ oP o cL (vp_updL fo 0 (if heR (ar1 M k s hp ad) r 62 = 0 then 0 else 1)) H)) (fun H => zP G (eC V (arS (M, P, D) r k s hp ad).1 (arS (M, P, D) r k s hp ad).2.1 (arS (M, P, D) r k s hp ad).2.2) H ∧ oP o cL fo H) 22 lv [.long v, .int 0, .ref o] := by
    intro v lv hv
    refine J_last (B' := fun H => zP G (eC V (arS (M, P, D) r k s hp ad).1 (arS (M, P, D) r k s hp ad).2.1 (arS (M, P, D) r k s hp ad).2.2) H ∧ oP o cL (vp_updL fo 0 (if heR (ar1 M k s hp ad) r 62 = 0 then 0 else 1)) H) C hAr (Or.inr rfl) (fun _ h => h.2) d_J_arrive_22 (fun H H1 h1 _ h3 h4 => ⟨h1.1.kept (fun q hq _ => h3 q (fun e => ho (e ▸ hq))), by rw [← hv]; exact h4⟩) ?_
    refine J_goto (tgt := 38) C d_J_arrive_23 (by decide) ?_
    refine J_iconst (v := 0) C d_J_arrive_38 (by decide) ?_
    exact J_wret C hw.c0 hr d_J_arrive_39 rfl (fun _ h => h)
  refine J_aload C 6 d_J_arrive_0 rfl ?_
  refine J_iconst (v := 0) C d_J_arrive_2 (by decide) ?_
  refine J_aload_n C 0 d_J_arrive_3 rfl rfl ?_
  refine J_iload_n C 1 d_J_arrive_4 rfl rfl ?_
  refine J_iload_n C 2 d_J_arrive_5 rfl rfl ?_
  refine J_iload_n C 3 d_J_arrive_6 rfl rfl ?_
  refine J_iload C 4 d_J_arrive_7 rfl ?_
  refine J_iload C 5 d_J_arrive_9 rfl ?_
  refine J_callV (B' := fun H => zP G (eC V (arS (M, P, D) r k s hp ad).1 (arS (M, P, D) r k s hp ad).2.1 (arS (M, P, D) r k s hp ad).2.2) H ∧ oP o cL fo H) C hK w.2.2.2.2 (fun q h => Or.inl h) (fun _ h => h.1) (fun H H' h1 _ h3 h4 => ⟨h4, by show H'[o]? = _; rw [h3 o (Array.getElem?_eq_some_iff.mp h1.2).1 ho]; exact h1.2⟩) mi_L_arrive ml_J_42 (c_L_arrive w M P D r hr5 hI h0 k s hp ad hk hs1 hs2 hh1 hh2) ⟨Nat.le_of_ble_eq_true rfl, Nat.le_of_ble_eq_true rfl⟩ (w.2.2.1 0 0 0 ⟨rfl, rfl⟩) (fun f hf => hf 0 0 0 ⟨rfl, rfl⟩) (by rw [w.1]; rfl) rfl rfl (Nat.le_of_ble_eq_true rfl) d_J_arrive_11 ?_
  refine J_if_eq (tgt := 21) C d_J_arrive_14 (by decide) (fun c => ?_) (fun c => ?_)
  · refine J_lconst (v := 0) C d_J_arrive_21 rfl ?_
    exact fin 0 _ (by rw [if_pos c])
  · refine J_lconst (v := 1) C d_J_arrive_17 rfl ?_
    refine J_goto (tgt := 22) C d_J_arrive_18 (by decide) ?_
    exact fin 1 _ (by rw [if_neg c])
