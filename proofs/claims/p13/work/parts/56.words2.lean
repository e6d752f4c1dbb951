/-! words of constructors, exceptions, wrappers -/
theorem ob_i : Cond.instanceMethod Lib.objectInit ∈ zT := zin 67 (by decide +kernel) (by decide +kernel)
theorem ob_c : Cond.code Lib.objectInit ⟨#[0xb1]⟩ 1 none ∈ zT := zin 68 (by decide +kernel) (by decide +kernel)
theorem mo_L : Cond.methodLink RX4 1 Lib.objectInit ∈ zT := zin 66 (by decide +kernel) (by decide +kernel)
theorem mo_W : Cond.methodLink RX3 3 Lib.objectInit ∈ zT := zin 74 (by decide +kernel) (by decide +kernel)
theorem mo_F : Cond.methodLink RX0 3 Lib.objectInit ∈ zT := zin 81 (by decide +kernel) (by decide +kernel)
theorem mo_R : Cond.methodLink RX1 3 Lib.objectInit ∈ zT := zin 155 (by decide +kernel) (by decide +kernel)
theorem mo_S : Cond.methodLink RX2 3 Lib.objectInit ∈ zT := zin 164 (by decide +kernel) (by decide +kernel)
theorem mo_M : Cond.methodLink RX5 1 Lib.objectInit ∈ zT := zin 728 (by decide +kernel) (by decide +kernel)
theorem kl_J_8 : Cond.classLink RXL 8 RX4 ∈ zT := zin 61 (by decide +kernel) (by decide +kernel)
theorem kl_L_7 : Cond.classLink RX4 7 RX3 ∈ zT := zin 69 (by decide +kernel) (by decide +kernel)
theorem kl_W_15 : Cond.classLink RX3 15 RX0 ∈ zT := zin 75 (by decide +kernel) (by decide +kernel)
theorem kl_L_12 : Cond.classLink RX4 12 RX1 ∈ zT := zin 149 (by decide +kernel) (by decide +kernel)
theorem kl_R_25 : Cond.classLink RX1 25 RX2 ∈ zT := zin 158 (by decide +kernel) (by decide +kernel)
theorem kl_L_25 : Cond.classLink RX4 25 RX0 ∈ zT := zin 273 (by decide +kernel) (by decide +kernel)
theorem kl_J_13 : Cond.classLink RXL 13 "java/lang/IndexOutOfBoundsException" ∈ zT := zin 339 (by decide +kernel) (by decide +kernel)
theorem kl_J_15 : Cond.classLink RXL 15 "java/lang/IllegalArgumentException" ∈ zT := zin 340 (by decide +kernel) (by decide +kernel)
theorem kl_L_43 : Cond.classLink RX4 43 "java/lang/IndexOutOfBoundsException" ∈ zT := zin 349 (by decide +kernel) (by decide +kernel)
theorem kl_L_50 : Cond.classLink RX4 50 "java/lang/IllegalArgumentException" ∈ zT := zin 417 (by decide +kernel) (by decide +kernel)
theorem kl_J_21 : Cond.classLink RXL 21 "java/lang/IllegalStateException" ∈ zT := zin 436 (by decide +kernel) (by decide +kernel)
theorem kl_L_64 : Cond.classLink RX4 64 "java/lang/IllegalStateException" ∈ zT := zin 442 (by decide +kernel) (by decide +kernel)
theorem kl_J_47 : Cond.classLink RXL 47 RX5 ∈ zT := zin 723 (by decide +kernel) (by decide +kernel)
theorem im_L : Cond.instantiable RX4 3 ∈ zT := zin 62 (by decide +kernel) (by decide +kernel)
theorem im_W : Cond.instantiable RX3 6 ∈ zT := zin 70 (by decide +kernel) (by decide +kernel)
theorem im_F : Cond.instantiable RX0 9 ∈ zT := zin 77 (by decide +kernel) (by decide +kernel)
theorem im_R : Cond.instantiable RX1 11 ∈ zT := zin 151 (by decide +kernel) (by decide +kernel)
theorem im_S : Cond.instantiable RX2 19 ∈ zT := zin 160 (by decide +kernel) (by decide +kernel)
theorem im_IndexOutOfBoundsException : Cond.instantiable "java/lang/IndexOutOfBoundsException" 6 ∈ zT := zin 350 (by decide +kernel) (by decide +kernel)
theorem im_Throwable : Cond.instantiable "java/lang/Throwable" 6 ∈ zT := zin 388 (by decide +kernel) (by decide +kernel)
theorem im_IllegalArgumentException : Cond.instantiable "java/lang/IllegalArgumentException" 6 ∈ zT := zin 418 (by decide +kernel) (by decide +kernel)
theorem im_IllegalStateException : Cond.instantiable "java/lang/IllegalStateException" 6 ∈ zT := zin 443 (by decide +kernel) (by decide +kernel)
theorem im_M : Cond.instantiable RX5 43 ∈ zT := zin 724 (by decide +kernel) (by decide +kernel)
theorem iz_J : Cond.initialized RXL ∈ zT := zin 47 (by decide +kernel) (by decide +kernel)
theorem iz_L : Cond.initialized RX4 ∈ zT := zin 48 (by decide +kernel) (by decide +kernel)
theorem iz_W : Cond.initialized RX3 ∈ zT := zin 49 (by decide +kernel) (by decide +kernel)
theorem iz_F : Cond.initialized RX0 ∈ zT := zin 50 (by decide +kernel) (by decide +kernel)
theorem iz_R : Cond.initialized RX1 ∈ zT := zin 51 (by decide +kernel) (by decide +kernel)
theorem iz_S : Cond.initialized RX2 ∈ zT := zin 52 (by decide +kernel) (by decide +kernel)
theorem iz_M : Cond.initialized RX5 ∈ zT := zin 53 (by decide +kernel) (by decide +kernel)
theorem iz_Throwable : Cond.initialized "java/lang/Throwable" ∈ zT := zin 54 (by decide +kernel) (by decide +kernel)
theorem iz_Exception : Cond.initialized "java/lang/Exception" ∈ zT := zin 55 (by decide +kernel) (by decide +kernel)
theorem iz_RuntimeException : Cond.initialized "java/lang/RuntimeException" ∈ zT := zin 56 (by decide +kernel) (by decide +kernel)
theorem iz_IndexOutOfBoundsException : Cond.initialized "java/lang/IndexOutOfBoundsException" ∈ zT := zin 57 (by decide +kernel) (by decide +kernel)
theorem iz_IllegalArgumentException : Cond.initialized "java/lang/IllegalArgumentException" ∈ zT := zin 58 (by decide +kernel) (by decide +kernel)
theorem iz_IllegalStateException : Cond.initialized "java/lang/IllegalStateException" ∈ zT := zin 59 (by decide +kernel) (by decide +kernel)
theorem iz_Math : Cond.initialized "java/lang/Math" ∈ zT := zin 60 (by decide +kernel) (by decide +kernel)
theorem ac_int : Cond.arrayClass .int ∈ zT := zin 126 (by decide +kernel) (by decide +kernel)
theorem ac_byte : Cond.arrayClass .byte ∈ zT := zin 416 (by decide +kernel) (by decide +kernel)
theorem ac_boolean : Cond.arrayClass .boolean ∈ zT := zin 861 (by decide +kernel) (by decide +kernel)
theorem ac_long : Cond.arrayClass .long ∈ zT := zin 1056 (by decide +kernel) (by decide +kernel)
theorem ao_F : Cond.arrayOver (.object RX0) ∈ lw_tbl := List.mem_of_getElem? (i := 76) (by decide +kernel)
theorem ao_R : Cond.arrayOver (.object RX1) ∈ lw_tbl := List.mem_of_getElem? (i := 150) (by decide +kernel)
theorem ao_S : Cond.arrayOver (.object RX2) ∈ lw_tbl := List.mem_of_getElem? (i := 159) (by decide +kernel)
theorem mk_L : zMk y_L_init b_L_init 4 0 := ⟨zin 64 (by decide +kernel) (by decide +kernel), zin 48 (by decide +kernel) (by decide +kernel), zin 65 (by decide +kernel) (by decide +kernel), (by decide +kernel), (by decide +kernel), (by decide +kernel)⟩
theorem mk_M : zMk y_M_init b_M_init 2 0 := ⟨zin 726 (by decide +kernel) (by decide +kernel), zin 53 (by decide +kernel) (by decide +kernel), zin 727 (by decide +kernel) (by decide +kernel), (by decide +kernel), (by decide +kernel), (by decide +kernel)⟩
theorem mk_F : zMk y_F_init b_F_init 1 0 := ⟨zin 79 (by decide +kernel) (by decide +kernel), zin 50 (by decide +kernel) (by decide +kernel), zin 80 (by decide +kernel) (by decide +kernel), (by decide +kernel), (by decide +kernel), (by decide +kernel)⟩
theorem mk_R : zMk y_R_init b_R_init 4 2 := ⟨zin 153 (by decide +kernel) (by decide +kernel), zin 51 (by decide +kernel) (by decide +kernel), zin 154 (by decide +kernel) (by decide +kernel), (by decide +kernel), (by decide +kernel), (by decide +kernel)⟩
theorem mk_S : zMk y_S_init b_S_init 3 2 := ⟨zin 162 (by decide +kernel) (by decide +kernel), zin 52 (by decide +kernel) (by decide +kernel), zin 163 (by decide +kernel) (by decide +kernel), (by decide +kernel), (by decide +kernel), (by decide +kernel)⟩
theorem mk_W : zMk y_W_init b_W_init 2 0 := ⟨zin 72 (by decide +kernel) (by decide +kernel), zin 49 (by decide +kernel) (by decide +kernel), zin 73 (by decide +kernel) (by decide +kernel), (by decide +kernel), (by decide +kernel), (by decide +kernel)⟩
theorem sr_L_45 : Cond.stringRef RX4 45 "no such router or setting" ∈ tSR := tSR_in 390 (by decide +kernel) rfl
theorem sr_L_52 : Cond.stringRef RX4 52 "the setting can't have this value" ∈ tSR := tSR_in 426 (by decide +kernel) rfl
theorem sr_L_58 : Cond.stringRef RX4 58 "no such router" ∈ tSR := tSR_in 441 (by decide +kernel) rfl
theorem sr_L_66 : Cond.stringRef RX4 66 "the router is not OFF" ∈ tSR := tSR_in 451 (by decide +kernel) rfl
theorem sr_L_72 : Cond.stringRef RX4 72 "the router is OFF" ∈ tSR := tSR_in 522 (by decide +kernel) rfl
theorem sr_L_80 : Cond.stringRef RX4 80 "no such router, or it is the same one" ∈ tSR := tSR_in 538 (by decide +kernel) rfl
theorem sr_L_85 : Cond.stringRef RX4 85 "tx, rx or multiplier is out of its range" ∈ tSR := tSR_in 542 (by decide +kernel) rfl
theorem sr_L_102 : Cond.stringRef RX4 102 "no such session, or it is ADMIN" ∈ tSR := tSR_in 569 (by decide +kernel) rfl
theorem sr_L_104 : Cond.stringRef RX4 104 "tx or rx is out of its range" ∈ tSR := tSR_in 570 (by decide +kernel) rfl
theorem sr_L_116 : Cond.stringRef RX4 116 "not 1 to 400 ticks" ∈ tSR := tSR_in 601 (by decide +kernel) rfl
theorem sr_L_143 : Cond.stringRef RX4 143 "kind, station or hops is out of its range" ∈ tSR := tSR_in 722 (by decide +kernel) rfl
theorem ca_IndexOutOfBoundsException : Cond.castable "java/lang/IndexOutOfBoundsException" "java/lang/IndexOutOfBoundsException" ∈ tCa := tCa_in 351 (by decide +kernel) rfl
theorem ca_IllegalArgumentException : Cond.castable "java/lang/IllegalArgumentException" "java/lang/IllegalArgumentException" ∈ tCa := tCa_in 419 (by decide +kernel) rfl
theorem ca_IllegalStateException : Cond.castable "java/lang/IllegalStateException" "java/lang/IllegalStateException" ∈ tCa := tCa_in 444 (by decide +kernel) rfl
def tAtB (w : Cond) : Bool := decide (w = .laysStatic Bundle.tN "UNASSIGNED_STACK" Bundle.steD) || (decide (w = .laysStatic Bundle.tN "SUPPRESSED_SENTINEL" Bundle.listD) || (decide (w = .isRef (.static Bundle.tN "UNASSIGNED_STACK" Bundle.steD)) || (decide (w = .isRef (.static Bundle.tN "SUPPRESSED_SENTINEL" Bundle.listD)) || (decide (w ∈ lw_tbl) && (goodWord w || tIsC w)))))
theorem tAt_of {own E : String} {i3 : Nat} {names : List String} (h : (Bundle.ownAtoms own i3 E names).all tAtB = true) : tAt own i3 E names := by
  intro w hw
  have h1 := List.all_eq_true.mp h w hw
  unfold tAtB at h1
  simp only [Bool.or_eq_true, Bool.and_eq_true, decide_eq_true_eq] at h1
  rcases h1 with h1 | h1 | h1 | h1 | ⟨h1, h2 | h2⟩
  · exact Or.inr (Or.inr (Or.inl h1))
  · exact Or.inr (Or.inr (Or.inr (Or.inl h1)))
  · exact Or.inr (Or.inr (Or.inr (Or.inr (Or.inl h1))))
  · exact Or.inr (Or.inr (Or.inr (Or.inr (Or.inr h1))))
  · exact Or.inl (List.mem_filter.mpr ⟨h1, h2⟩)
  · exact Or.inr (Or.inl (List.mem_filter.mpr ⟨h1, h2⟩))
set_option maxRecDepth 100000 in
theorem ta_IndexOutOfBoundsException : tAt RX4 47 "java/lang/IndexOutOfBoundsException" ["java/lang/RuntimeException", "java/lang/Exception"] := tAt_of (by decide +kernel)
-- IndexOutOfBoundsException : 47
set_option maxRecDepth 100000 in
theorem ta_IllegalArgumentException : tAt RX4 54 "java/lang/IllegalArgumentException" ["java/lang/RuntimeException", "java/lang/Exception"] := tAt_of (by decide +kernel)
-- IllegalArgumentException : 54
set_option maxRecDepth 100000 in
theorem ta_IllegalStateException : tAt RX4 68 "java/lang/IllegalStateException" ["java/lang/RuntimeException", "java/lang/Exception"] := tAt_of (by decide +kernel)
-- IllegalStateException : 68
abbrev hs_set : List (Nat × Nat × Nat × Nat) := [(0, 7, 10, 13), (0, 7, 14, 15)]
theorem wc_set : Cond.codeWith y_J_set b_J_set 5 (some .int) hs_set ∈ zT := zin 338 (by decide +kernel) (by decide +kernel)
theorem ws_set : Cond.static y_J_set ∈ zT := zin 337 (by decide +kernel) (by decide +kernel)
abbrev hs_start : List (Nat × Nat × Nat × Nat) := [(0, 5, 8, 13), (0, 5, 11, 21)]
theorem wc_start : Cond.codeWith y_J_start b_J_start 3 (some .int) hs_start ∈ zT := zin 435 (by decide +kernel) (by decide +kernel)
theorem ws_start : Cond.static y_J_start ∈ zT := zin 434 (by decide +kernel) (by decide +kernel)
abbrev hs_stop : List (Nat × Nat × Nat × Nat) := [(0, 6, 9, 13), (0, 6, 12, 21)]
theorem wc_stop : Cond.codeWith y_J_stop b_J_stop 4 (some .int) hs_stop ∈ zT := zin 517 (by decide +kernel) (by decide +kernel)
theorem ws_stop : Cond.static y_J_stop ∈ zT := zin 516 (by decide +kernel) (by decide +kernel)
abbrev hs_open : List (Nat × Nat × Nat × Nat) := [(0, 11, 14, 13), (0, 11, 18, 21), (0, 11, 22, 15)]
theorem wc_open : Cond.codeWith y_J_open b_J_open 7 (some .int) hs_open ∈ zT := zin 533 (by decide +kernel) (by decide +kernel)
theorem ws_open : Cond.static y_J_open ∈ zT := zin 532 (by decide +kernel) (by decide +kernel)
abbrev hs_change : List (Nat × Nat × Nat × Nat) := [(0, 9, 12, 13), (0, 9, 16, 21), (0, 9, 20, 15)]
theorem wc_change : Cond.codeWith y_J_change b_J_change 6 (some .int) hs_change ∈ zT := zin 564 (by decide +kernel) (by decide +kernel)
theorem ws_change : Cond.static y_J_change ∈ zT := zin 563 (by decide +kernel) (by decide +kernel)
abbrev hs_ask : List (Nat × Nat × Nat × Nat) := [(0, 5, 8, 13), (0, 5, 11, 21)]
theorem wc_ask : Cond.codeWith y_J_ask b_J_ask 3 (some .int) hs_ask ∈ zT := zin 588 (by decide +kernel) (by decide +kernel)
theorem ws_ask : Cond.static y_J_ask ∈ zT := zin 587 (by decide +kernel) (by decide +kernel)
abbrev hs_tick : List (Nat × Nat × Nat × Nat) := [(0, 9, 12, 15)]
theorem wc_tick : Cond.codeWith y_J_tick b_J_tick 4 (some .int) hs_tick ∈ zT := zin 596 (by decide +kernel) (by decide +kernel)
theorem ws_tick : Cond.static y_J_tick ∈ zT := zin 595 (by decide +kernel) (by decide +kernel)
abbrev hs_arrive : List (Nat × Nat × Nat × Nat) := [(0, 23, 26, 13), (0, 23, 30, 15), (0, 23, 34, 21)]
theorem wc_arrive : Cond.codeWith y_J_arrive b_J_arrive 8 (some .int) hs_arrive ∈ zT := zin 717 (by decide +kernel) (by decide +kernel)
theorem ws_arrive : Cond.static y_J_arrive ∈ zT := zin 716 (by decide +kernel) (by decide +kernel)
