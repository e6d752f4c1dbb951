/-! the reference: thrown -/
set_option maxRecDepth 100000 in
set_option maxHeartbeats 4000000 in
theorem c_M_thrown {l : Launch} {G : zG} {U : zU} (w : wR G U) (N : zR)  : zF l y_M_thrown b_M_thrown 1 (some .int) 0 0 G [.ref (U.1 43)] (eR U N) (some (.int (N 43 0))) (eR U N) := by
  refine zF.ofZ (by decide) w.2.2.2.2 (Nat.le_of_ble_eq_true rfl) (fun X hXl hN hr C => ?_)
  subst hXl
  show Z X G (zA G) 1 _ (eR U N) 0 [(0, .ref (U.1 43))] []
  refine Z_aload_n C 0 d_M_thrown_0 rfl rfl ?_
  refine R_get C w 0 (by decide) fl_M_124 rfl rfl d_M_thrown_1 ?_
  exact Z_iret C hN hr d_M_thrown_4 (rfl) (zeq (rfl))
