/-! THE LAW: a call of every kind -/
section LW
variable {X : zX} {A : Nat → Prop} {Q : State → Prop} {G G' : zG} {V : zV} {U : zU} {σ : zS} {N : zR} {o : Nat} {cL : ClassId} {fo : Nat → Int64}
set_option maxRecDepth 100000 in
set_option maxHeartbeats 4000000 in
theorem law_set (C : jC X code 7 RXL 11 392) (K : lK X A G V G' U o cL) (hrc : X.cells + 1 ≤ X.R.cells ∧ X.slots + 6 ≤ X.R.slots) {b L i : Nat} {xs : Nat → Int32} (hX : va_X b L xs X.s X.s.heap) (hbl : b < X.s.heap.size) (hbA : ¬ A b) (hL : L ≤ 100000) (hik : i + 6 ≤ L) (hl : ∀ e, X.l.admits e → e.platform.stackTraces = false) (h : RL σ N) (fin : ∀ (a c : Nat) (σ' : zS) (N' : zR) (fo' : Nat → Int64) (lv : List (Nat × Value)) (ks : List Nat), a ≤ 1 → c ≤ 6 → RL σ' N' → lv_pick lv ks = [(4, .int (nI i)), (3, .ref o), (2, .ref (U.1 43)), (1, .ref (V.1 0 0 0)), (0, .ref b)] → J (X.more a c) A 7 Q (lB G V σ' G' U N' o cL fo') 743 lv []) : J X A 7 Q (lB G V σ G' U N o cL fo) 112 [(4, .int (nI i)), (3, .ref o), (2, .ref (U.1 43)), (1, .ref (V.1 0 0 0)), (0, .ref b)] [] := by
  obtain ⟨k, fr, lo, fr', lo', σ', N', hw, hr, hm, hr', hk, hq⟩ := g_set hl K.1 K.2.1 h (xs (i + 1)) (xs (i + 2)) (xs (i + 3))
  have C2 := C.more hrc
  refine J_aload_n C 3 d_J_law_112 rfl rfl ?_
  refine L_arg 1 4 0 C hX hbl hbA hL hik rfl rfl rfl (by decide) d_J_law_113 d_J_law_114 d_J_law_116 d_J_law_117 d_J_law_118 ?_
  refine L_arg 2 4 0 C hX hbl hbA hL hik rfl rfl rfl (by decide) d_J_law_119 d_J_law_120 d_J_law_122 d_J_law_123 d_J_law_124 ?_
  refine L_arg 3 4 0 C hX hbl hbA hL hik rfl rfl rfl (by decide) d_J_law_125 d_J_law_126 d_J_law_128 d_J_law_129 d_J_law_130 ?_
  refine L_wr (n := 4) C K ml_J_50 ws_set iz_J wc_set (by decide) (by decide +kernel) hw hr (by decide) hrc wBt.call (fun S h => h) rfl rfl d_J_law_131 ?_
  refine J_istore C2 d_J_law_134 (by decide) rfl ?_
  refine J_aload_n C2 3 d_J_law_136 rfl rfl ?_
  refine L_arg 1 5 1 C2 hX hbl hbA hL hik rfl rfl rfl (by decide) d_J_law_137 d_J_law_138 d_J_law_140 d_J_law_141 d_J_law_142 ?_
  refine L_arg 2 5 1 C2 hX hbl hbA hL hik rfl rfl rfl (by decide) d_J_law_143 d_J_law_144 d_J_law_146 d_J_law_147 d_J_law_148 ?_
  refine L_arg 3 5 1 C2 hX hbl hbA hL hik rfl rfl rfl (by decide) d_J_law_149 d_J_law_150 d_J_law_152 d_J_law_153 d_J_law_154 ?_
  refine L_mv (X := X.more 1 6) (rest := []) C2 K mi_M_set ml_J_55 rfl hm hr' (by decide) rfl rfl (Nat.le_of_ble_eq_true rfl) d_J_law_155 ?_
  refine J_goto (tgt := 743) C2 d_J_law_158 (by decide) ?_
  exact fin 1 6 _ _ _ _ [1, 2, 3, 4, 5] (by decide) (by decide) hq rfl
set_option maxRecDepth 100000 in
set_option maxHeartbeats 4000000 in
theorem law_start (C : jC X code 7 RXL 11 392) (K : lK X A G V G' U o cL) (hrc : X.cells + 1 ≤ X.R.cells ∧ X.slots + 6 ≤ X.R.slots) {b L i : Nat} {xs : Nat → Int32} (hX : va_X b L xs X.s X.s.heap) (hbl : b < X.s.heap.size) (hbA : ¬ A b) (hL : L ≤ 100000) (hik : i + 6 ≤ L) (hl : ∀ e, X.l.admits e → e.platform.stackTraces = false) (h : RL σ N) (fin : ∀ (a c : Nat) (σ' : zS) (N' : zR) (fo' : Nat → Int64) (lv : List (Nat × Value)) (ks : List Nat), a ≤ 1 → c ≤ 6 → RL σ' N' → lv_pick lv ks = [(4, .int (nI i)), (3, .ref o), (2, .ref (U.1 43)), (1, .ref (V.1 0 0 0)), (0, .ref b)] → J (X.more a c) A 7 Q (lB G V σ' G' U N' o cL fo') 743 lv []) : J X A 7 Q (lB G V σ G' U N o cL fo) 161 [(4, .int (nI i)), (3, .ref o), (2, .ref (U.1 43)), (1, .ref (V.1 0 0 0)), (0, .ref b)] [] := by
  obtain ⟨k, fr, lo, fr', lo', σ', N', hw, hr, hm, hr', hk, hq⟩ := g_start hl K.1 K.2.1 h (xs (i + 1))
  have C2 := C.more hrc
  refine J_aload_n C 3 d_J_law_161 rfl rfl ?_
  refine L_arg 1 4 0 C hX hbl hbA hL hik rfl rfl rfl (by decide) d_J_law_162 d_J_law_163 d_J_law_165 d_J_law_166 d_J_law_167 ?_
  refine L_wr (n := 2) C K ml_J_56 ws_start iz_J wc_start (by decide) (by decide +kernel) hw hr (by decide) hrc wBs.call (fun S h => h.1) rfl rfl d_J_law_168 ?_
  refine J_istore C2 d_J_law_171 (by decide) rfl ?_
  refine J_aload_n C2 3 d_J_law_173 rfl rfl ?_
  refine L_arg 1 5 1 C2 hX hbl hbA hL hik rfl rfl rfl (by decide) d_J_law_174 d_J_law_175 d_J_law_177 d_J_law_178 d_J_law_179 ?_
  refine L_mv (X := X.more 1 6) (rest := []) C2 K mi_M_start ml_J_59 rfl hm hr' (by decide) rfl rfl (Nat.le_of_ble_eq_true rfl) d_J_law_180 ?_
  refine J_goto (tgt := 743) C2 d_J_law_183 (by decide) ?_
  exact fin 1 6 _ _ _ _ [1, 2, 3, 4, 5] (by decide) (by decide) hq rfl
set_option maxRecDepth 100000 in
set_option maxHeartbeats 4000000 in
theorem law_stop_0 (C : jC X code 7 RXL 11 392) (K : lK X A G V G' U o cL) (hrc : X.cells + 1 ≤ X.R.cells ∧ X.slots + 6 ≤ X.R.slots) {b L i : Nat} {xs : Nat → Int32} (hX : va_X b L xs X.s X.s.heap) (hbl : b < X.s.heap.size) (hbA : ¬ A b) (hL : L ≤ 100000) (hik : i + 6 ≤ L) (hl : ∀ e, X.l.admits e → e.platform.stackTraces = false) (h : RL σ N) (fin : ∀ (a c : Nat) (σ' : zS) (N' : zR) (fo' : Nat → Int64) (lv : List (Nat × Value)) (ks : List Nat), a ≤ 1 → c ≤ 6 → RL σ' N' → lv_pick lv ks = [(4, .int (nI i)), (3, .ref o), (2, .ref (U.1 43)), (1, .ref (V.1 0 0 0)), (0, .ref b)] → J (X.more a c) A 7 Q (lB G V σ' G' U N' o cL fo') 743 lv []) (hx : xs (i + 2) = 0) : J X A 7 Q (lB G V σ G' U N o cL fo) 186 [(4, .int (nI i)), (3, .ref o), (2, .ref (U.1 43)), (1, .ref (V.1 0 0 0)), (0, .ref b)] [] := by
  obtain ⟨k, fr, lo, fr', lo', σ', N', hw, hr, hm, hr', hk, hq⟩ := g_stop hl K.1 K.2.1 h (xs (i + 1)) 0
  have C2 := C.more hrc
  refine J_aload_n C 3 d_J_law_186 rfl rfl ?_
  refine L_arg 1 4 0 C hX hbl hbA hL hik rfl rfl rfl (by decide) d_J_law_187 d_J_law_188 d_J_law_190 d_J_law_191 d_J_law_192 ?_
  refine L_arg 2 4 0 C hX hbl hbA hL hik rfl rfl rfl (by decide) d_J_law_193 d_J_law_194 d_J_law_196 d_J_law_197 d_J_law_198 ?_
  refine J_if_eq (tgt := 206) C d_J_law_199 (by decide) (fun _ => ?_) (fun c => absurd hx c)
  refine J_iconst (v := 0) C d_J_law_206 (by decide) ?_
  refine L_wr (n := 3) C K ml_J_60 ws_stop iz_J wc_stop (by decide) (by decide +kernel) hw hr (by decide) hrc wBs.call (fun S h => h.1) rfl rfl d_J_law_207 ?_
  refine J_istore C2 d_J_law_210 (by decide) rfl ?_
  refine J_aload_n C2 3 d_J_law_212 rfl rfl ?_
  refine L_arg 1 5 1 C2 hX hbl hbA hL hik rfl rfl rfl (by decide) d_J_law_213 d_J_law_214 d_J_law_216 d_J_law_217 d_J_law_218 ?_
  refine L_arg 2 5 1 C2 hX hbl hbA hL hik rfl rfl rfl (by decide) d_J_law_219 d_J_law_220 d_J_law_222 d_J_law_223 d_J_law_224 ?_
  refine J_if_eq (tgt := 232) C2 d_J_law_225 (by decide) (fun _ => ?_) (fun c => absurd hx c)
  refine J_iconst (v := 0) C2 d_J_law_232 (by decide) ?_
  refine L_mv (X := X.more 1 6) (rest := []) C2 K mi_M_stop ml_J_63 rfl hm hr' (by decide) rfl rfl (Nat.le_of_ble_eq_true rfl) d_J_law_233 ?_
  refine J_aload_n C2 3 d_J_law_236 rfl rfl ?_
  refine L_mv (X := X.more 1 6) (rest := []) C2 K mi_M_thrown ml_J_64 rfl (c_M_thrown K.2.1 _) (by decide) (by decide) rfl rfl (by decide) d_J_law_237 ?_
  refine J_iload C2 0 d_J_law_240 rfl ?_
  refine J_icmp_eq (tgt := 247) C2 d_J_law_242 (by decide) (fun _ => ?_) (fun c => absurd hk c)
  refine J_goto (tgt := 743) C2 d_J_law_247 (by decide) ?_
  exact fin 1 6 _ _ _ _ [1, 2, 3, 4, 5] (by decide) (by decide) hq rfl
set_option maxRecDepth 100000 in
set_option maxHeartbeats 4000000 in
theorem law_stop_1 (C : jC X code 7 RXL 11 392) (K : lK X A G V G' U o cL) (hrc : X.cells + 1 ≤ X.R.cells ∧ X.slots + 6 ≤ X.R.slots) {b L i : Nat} {xs : Nat → Int32} (hX : va_X b L xs X.s X.s.heap) (hbl : b < X.s.heap.size) (hbA : ¬ A b) (hL : L ≤ 100000) (hik : i + 6 ≤ L) (hl : ∀ e, X.l.admits e → e.platform.stackTraces = false) (h : RL σ N) (fin : ∀ (a c : Nat) (σ' : zS) (N' : zR) (fo' : Nat → Int64) (lv : List (Nat × Value)) (ks : List Nat), a ≤ 1 → c ≤ 6 → RL σ' N' → lv_pick lv ks = [(4, .int (nI i)), (3, .ref o), (2, .ref (U.1 43)), (1, .ref (V.1 0 0 0)), (0, .ref b)] → J (X.more a c) A 7 Q (lB G V σ' G' U N' o cL fo') 743 lv []) (hx : ¬ xs (i + 2) = 0) : J X A 7 Q (lB G V σ G' U N o cL fo) 186 [(4, .int (nI i)), (3, .ref o), (2, .ref (U.1 43)), (1, .ref (V.1 0 0 0)), (0, .ref b)] [] := by
  obtain ⟨k, fr, lo, fr', lo', σ', N', hw, hr, hm, hr', hk, hq⟩ := g_stop hl K.1 K.2.1 h (xs (i + 1)) 1
  have C2 := C.more hrc
  refine J_aload_n C 3 d_J_law_186 rfl rfl ?_
  refine L_arg 1 4 0 C hX hbl hbA hL hik rfl rfl rfl (by decide) d_J_law_187 d_J_law_188 d_J_law_190 d_J_law_191 d_J_law_192 ?_
  refine L_arg 2 4 0 C hX hbl hbA hL hik rfl rfl rfl (by decide) d_J_law_193 d_J_law_194 d_J_law_196 d_J_law_197 d_J_law_198 ?_
  refine J_if_eq (tgt := 206) C d_J_law_199 (by decide) (fun c => absurd c hx) (fun _ => ?_)
  refine J_iconst (v := 1) C d_J_law_202 (by decide) ?_
  refine J_goto (tgt := 207) C d_J_law_203 (by decide) ?_
  refine L_wr (n := 3) C K ml_J_60 ws_stop iz_J wc_stop (by decide) (by decide +kernel) hw hr (by decide) hrc wBs.call (fun S h => h.1) rfl rfl d_J_law_207 ?_
  refine J_istore C2 d_J_law_210 (by decide) rfl ?_
  refine J_aload_n C2 3 d_J_law_212 rfl rfl ?_
  refine L_arg 1 5 1 C2 hX hbl hbA hL hik rfl rfl rfl (by decide) d_J_law_213 d_J_law_214 d_J_law_216 d_J_law_217 d_J_law_218 ?_
  refine L_arg 2 5 1 C2 hX hbl hbA hL hik rfl rfl rfl (by decide) d_J_law_219 d_J_law_220 d_J_law_222 d_J_law_223 d_J_law_224 ?_
  refine J_if_eq (tgt := 232) C2 d_J_law_225 (by decide) (fun c => absurd c hx) (fun _ => ?_)
  refine J_iconst (v := 1) C2 d_J_law_228 (by decide) ?_
  refine J_goto (tgt := 233) C2 d_J_law_229 (by decide) ?_
  refine L_mv (X := X.more 1 6) (rest := []) C2 K mi_M_stop ml_J_63 rfl hm hr' (by decide) rfl rfl (Nat.le_of_ble_eq_true rfl) d_J_law_233 ?_
  refine J_aload_n C2 3 d_J_law_236 rfl rfl ?_
  refine L_mv (X := X.more 1 6) (rest := []) C2 K mi_M_thrown ml_J_64 rfl (c_M_thrown K.2.1 _) (by decide) (by decide) rfl rfl (by decide) d_J_law_237 ?_
  refine J_iload C2 0 d_J_law_240 rfl ?_
  refine J_icmp_eq (tgt := 247) C2 d_J_law_242 (by decide) (fun _ => ?_) (fun c => absurd hk c)
  refine J_goto (tgt := 743) C2 d_J_law_247 (by decide) ?_
  exact fin 1 6 _ _ _ _ [1, 2, 3, 4, 5] (by decide) (by decide) hq rfl
set_option maxRecDepth 100000 in
set_option maxHeartbeats 4000000 in
theorem law_open (C : jC X code 7 RXL 11 392) (K : lK X A G V G' U o cL) (hrc : X.cells + 1 ≤ X.R.cells ∧ X.slots + 6 ≤ X.R.slots) {b L i : Nat} {xs : Nat → Int32} (hX : va_X b L xs X.s X.s.heap) (hbl : b < X.s.heap.size) (hbA : ¬ A b) (hL : L ≤ 100000) (hik : i + 6 ≤ L) (hl : ∀ e, X.l.admits e → e.platform.stackTraces = false) (h : RL σ N) (fin : ∀ (a c : Nat) (σ' : zS) (N' : zR) (fo' : Nat → Int64) (lv : List (Nat × Value)) (ks : List Nat), a ≤ 1 → c ≤ 6 → RL σ' N' → lv_pick lv ks = [(4, .int (nI i)), (3, .ref o), (2, .ref (U.1 43)), (1, .ref (V.1 0 0 0)), (0, .ref b)] → J (X.more a c) A 7 Q (lB G V σ' G' U N' o cL fo') 743 lv []) : J X A 7 Q (lB G V σ G' U N o cL fo) 250 [(4, .int (nI i)), (3, .ref o), (2, .ref (U.1 43)), (1, .ref (V.1 0 0 0)), (0, .ref b)] [] := by
  obtain ⟨k, fr, lo, fr', lo', σ', N', hw, hr, hm, hr', hk, hq⟩ := g_open hl K.1 K.2.1 h (xs (i + 1)) (xs (i + 2)) (xs (i + 3)) (xs (i + 4)) (xs (i + 5))
  have C2 := C.more hrc
  refine J_aload_n C 3 d_J_law_250 rfl rfl ?_
  refine L_arg 1 4 0 C hX hbl hbA hL hik rfl rfl rfl (by decide) d_J_law_251 d_J_law_252 d_J_law_254 d_J_law_255 d_J_law_256 ?_
  refine L_arg 2 4 0 C hX hbl hbA hL hik rfl rfl rfl (by decide) d_J_law_257 d_J_law_258 d_J_law_260 d_J_law_261 d_J_law_262 ?_
  refine L_arg 3 4 0 C hX hbl hbA hL hik rfl rfl rfl (by decide) d_J_law_263 d_J_law_264 d_J_law_266 d_J_law_267 d_J_law_268 ?_
  refine L_arg 4 4 0 C hX hbl hbA hL hik rfl rfl rfl (by decide) d_J_law_269 d_J_law_270 d_J_law_272 d_J_law_273 d_J_law_274 ?_
  refine L_arg 5 4 0 C hX hbl hbA hL hik rfl rfl rfl (by decide) d_J_law_275 d_J_law_276 d_J_law_278 d_J_law_279 d_J_law_280 ?_
  refine L_wr (n := 6) C K ml_J_68 ws_open iz_J wc_open (by decide) (by decide +kernel) hw hr (by decide) hrc wBs.call (fun S h => h.1) rfl rfl d_J_law_281 ?_
  refine J_istore C2 d_J_law_284 (by decide) rfl ?_
  refine J_aload_n C2 3 d_J_law_286 rfl rfl ?_
  refine L_arg 1 5 1 C2 hX hbl hbA hL hik rfl rfl rfl (by decide) d_J_law_287 d_J_law_288 d_J_law_290 d_J_law_291 d_J_law_292 ?_
  refine L_arg 2 5 1 C2 hX hbl hbA hL hik rfl rfl rfl (by decide) d_J_law_293 d_J_law_294 d_J_law_296 d_J_law_297 d_J_law_298 ?_
  refine L_arg 3 5 1 C2 hX hbl hbA hL hik rfl rfl rfl (by decide) d_J_law_299 d_J_law_300 d_J_law_302 d_J_law_303 d_J_law_304 ?_
  refine L_arg 4 5 1 C2 hX hbl hbA hL hik rfl rfl rfl (by decide) d_J_law_305 d_J_law_306 d_J_law_308 d_J_law_309 d_J_law_310 ?_
  refine L_arg 5 5 1 C2 hX hbl hbA hL hik rfl rfl rfl (by decide) d_J_law_311 d_J_law_312 d_J_law_314 d_J_law_315 d_J_law_316 ?_
  refine L_mv (X := X.more 1 6) (rest := []) C2 K mi_M_open ml_J_71 rfl hm hr' (by decide) rfl rfl (Nat.le_of_ble_eq_true rfl) d_J_law_317 ?_
  refine J_goto (tgt := 743) C2 d_J_law_320 (by decide) ?_
  exact fin 1 6 _ _ _ _ [1, 2, 3, 4, 5] (by decide) (by decide) hq rfl
set_option maxRecDepth 100000 in
set_option maxHeartbeats 4000000 in
theorem law_change (C : jC X code 7 RXL 11 392) (K : lK X A G V G' U o cL) (hrc : X.cells + 1 ≤ X.R.cells ∧ X.slots + 6 ≤ X.R.slots) {b L i : Nat} {xs : Nat → Int32} (hX : va_X b L xs X.s X.s.heap) (hbl : b < X.s.heap.size) (hbA : ¬ A b) (hL : L ≤ 100000) (hik : i + 6 ≤ L) (hl : ∀ e, X.l.admits e → e.platform.stackTraces = false) (h : RL σ N) (fin : ∀ (a c : Nat) (σ' : zS) (N' : zR) (fo' : Nat → Int64) (lv : List (Nat × Value)) (ks : List Nat), a ≤ 1 → c ≤ 6 → RL σ' N' → lv_pick lv ks = [(4, .int (nI i)), (3, .ref o), (2, .ref (U.1 43)), (1, .ref (V.1 0 0 0)), (0, .ref b)] → J (X.more a c) A 7 Q (lB G V σ' G' U N' o cL fo') 743 lv []) : J X A 7 Q (lB G V σ G' U N o cL fo) 323 [(4, .int (nI i)), (3, .ref o), (2, .ref (U.1 43)), (1, .ref (V.1 0 0 0)), (0, .ref b)] [] := by
  obtain ⟨k, fr, lo, fr', lo', σ', N', hw, hr, hm, hr', hk, hq⟩ := g_change hl K.1 K.2.1 h (xs (i + 1)) (xs (i + 2)) (xs (i + 3)) (xs (i + 4))
  have C2 := C.more hrc
  refine J_aload_n C 3 d_J_law_323 rfl rfl ?_
  refine L_arg 1 4 0 C hX hbl hbA hL hik rfl rfl rfl (by decide) d_J_law_324 d_J_law_325 d_J_law_327 d_J_law_328 d_J_law_329 ?_
  refine L_arg 2 4 0 C hX hbl hbA hL hik rfl rfl rfl (by decide) d_J_law_330 d_J_law_331 d_J_law_333 d_J_law_334 d_J_law_335 ?_
  refine L_arg 3 4 0 C hX hbl hbA hL hik rfl rfl rfl (by decide) d_J_law_336 d_J_law_337 d_J_law_339 d_J_law_340 d_J_law_341 ?_
  refine L_arg 4 4 0 C hX hbl hbA hL hik rfl rfl rfl (by decide) d_J_law_342 d_J_law_343 d_J_law_345 d_J_law_346 d_J_law_347 ?_
  refine L_wr (n := 5) C K ml_J_72 ws_change iz_J wc_change (by decide) (by decide +kernel) hw hr (by decide) hrc wBs.call (fun S h => h.1) rfl rfl d_J_law_348 ?_
  refine J_istore C2 d_J_law_351 (by decide) rfl ?_
  refine J_aload_n C2 3 d_J_law_353 rfl rfl ?_
  refine L_arg 1 5 1 C2 hX hbl hbA hL hik rfl rfl rfl (by decide) d_J_law_354 d_J_law_355 d_J_law_357 d_J_law_358 d_J_law_359 ?_
  refine L_arg 2 5 1 C2 hX hbl hbA hL hik rfl rfl rfl (by decide) d_J_law_360 d_J_law_361 d_J_law_363 d_J_law_364 d_J_law_365 ?_
  refine L_arg 3 5 1 C2 hX hbl hbA hL hik rfl rfl rfl (by decide) d_J_law_366 d_J_law_367 d_J_law_369 d_J_law_370 d_J_law_371 ?_
  refine L_arg 4 5 1 C2 hX hbl hbA hL hik rfl rfl rfl (by decide) d_J_law_372 d_J_law_373 d_J_law_375 d_J_law_376 d_J_law_377 ?_
  refine L_mv (X := X.more 1 6) (rest := []) C2 K mi_M_change ml_J_75 rfl hm hr' (by decide) rfl rfl (Nat.le_of_ble_eq_true rfl) d_J_law_378 ?_
  refine J_goto (tgt := 743) C2 d_J_law_381 (by decide) ?_
  exact fin 1 6 _ _ _ _ [1, 2, 3, 4, 5] (by decide) (by decide) hq rfl
set_option maxRecDepth 100000 in
set_option maxHeartbeats 4000000 in
theorem law_ask (C : jC X code 7 RXL 11 392) (K : lK X A G V G' U o cL) (hrc : X.cells + 1 ≤ X.R.cells ∧ X.slots + 6 ≤ X.R.slots) {b L i : Nat} {xs : Nat → Int32} (hX : va_X b L xs X.s X.s.heap) (hbl : b < X.s.heap.size) (hbA : ¬ A b) (hL : L ≤ 100000) (hik : i + 6 ≤ L) (hl : ∀ e, X.l.admits e → e.platform.stackTraces = false) (h : RL σ N) (fin : ∀ (a c : Nat) (σ' : zS) (N' : zR) (fo' : Nat → Int64) (lv : List (Nat × Value)) (ks : List Nat), a ≤ 1 → c ≤ 6 → RL σ' N' → lv_pick lv ks = [(4, .int (nI i)), (3, .ref o), (2, .ref (U.1 43)), (1, .ref (V.1 0 0 0)), (0, .ref b)] → J (X.more a c) A 7 Q (lB G V σ' G' U N' o cL fo') 743 lv []) : J X A 7 Q (lB G V σ G' U N o cL fo) 384 [(4, .int (nI i)), (3, .ref o), (2, .ref (U.1 43)), (1, .ref (V.1 0 0 0)), (0, .ref b)] [] := by
  obtain ⟨k, fr, lo, fr', lo', σ', N', hw, hr, hm, hr', hk, hq⟩ := g_ask hl K.1 K.2.1 h (xs (i + 1))
  have C2 := C.more hrc
  refine J_aload_n C 3 d_J_law_384 rfl rfl ?_
  refine L_arg 1 4 0 C hX hbl hbA hL hik rfl rfl rfl (by decide) d_J_law_385 d_J_law_386 d_J_law_388 d_J_law_389 d_J_law_390 ?_
  refine L_wr (n := 2) C K ml_J_76 ws_ask iz_J wc_ask (by decide) (by decide +kernel) hw hr (by decide) hrc wBs.call (fun S h => h.1) rfl rfl d_J_law_391 ?_
  refine J_istore C2 d_J_law_394 (by decide) rfl ?_
  refine J_aload_n C2 3 d_J_law_396 rfl rfl ?_
  refine L_arg 1 5 1 C2 hX hbl hbA hL hik rfl rfl rfl (by decide) d_J_law_397 d_J_law_398 d_J_law_400 d_J_law_401 d_J_law_402 ?_
  refine L_mv (X := X.more 1 6) (rest := []) C2 K mi_M_ask ml_J_78 rfl hm hr' (by decide) rfl rfl (Nat.le_of_ble_eq_true rfl) d_J_law_403 ?_
  refine J_goto (tgt := 743) C2 d_J_law_406 (by decide) ?_
  exact fin 1 6 _ _ _ _ [1, 2, 3, 4, 5] (by decide) (by decide) hq rfl
set_option maxRecDepth 100000 in
set_option maxHeartbeats 4000000 in
theorem law_tick_1 (C : jC X code 7 RXL 11 392) (K : lK X A G V G' U o cL) (hrc : X.cells + 1 ≤ X.R.cells ∧ X.slots + 6 ≤ X.R.slots) {b L i : Nat} {xs : Nat → Int32} (hX : va_X b L xs X.s X.s.heap) (hbl : b < X.s.heap.size) (hbA : ¬ A b) (hL : L ≤ 100000) (hik : i + 6 ≤ L) (hl : ∀ e, X.l.admits e → e.platform.stackTraces = false) (h : RL σ N) (fin : ∀ (a c : Nat) (σ' : zS) (N' : zR) (fo' : Nat → Int64) (lv : List (Nat × Value)) (ks : List Nat), a ≤ 1 → c ≤ 6 → RL σ' N' → lv_pick lv ks = [(4, .int (nI i)), (3, .ref o), (2, .ref (U.1 43)), (1, .ref (V.1 0 0 0)), (0, .ref b)] → J (X.more a c) A 7 Q (lB G V σ' G' U N' o cL fo') 743 lv []) (hx : xs (i + 1) < 1 ∨ ¬ xs (i + 1) ≤ 400) : J X A 7 Q (lB G V σ G' U N o cL fo) 409 [(4, .int (nI i)), (3, .ref o), (2, .ref (U.1 43)), (1, .ref (V.1 0 0 0)), (0, .ref b)] [] := by
  obtain ⟨fr, lo, fr', lo', N', hw, hr, hm, hr', hk, hq⟩ := g_tick_1 hl K.1 K.2.1 h (xs (i + 1)) o hx
  have hk0 : ¬ (1 : Int32) = 0 := by decide
  have C2 := C.more hrc
  refine J_aload_n C 3 d_J_law_409 rfl rfl ?_
  refine L_arg 1 4 0 C hX hbl hbA hL hik rfl rfl rfl (by decide) d_J_law_410 d_J_law_411 d_J_law_413 d_J_law_414 d_J_law_415 ?_
  refine J_aload_n C 1 d_J_law_416 rfl rfl ?_
  refine L_wr (n := 3) C K ml_J_79 ws_tick iz_J wc_tick (by decide) (by decide +kernel) hw hr (by decide) hrc wBs.call (fun S h => h.1) rfl rfl d_J_law_417 ?_
  refine J_istore C2 d_J_law_420 (by decide) rfl ?_
  refine J_aload_n C2 3 d_J_law_422 rfl rfl ?_
  refine L_arg 1 5 1 C2 hX hbl hbA hL hik rfl rfl rfl (by decide) d_J_law_423 d_J_law_424 d_J_law_426 d_J_law_427 d_J_law_428 ?_
  refine L_mv (X := X.more 1 6) (rest := []) C2 K mi_M_tick ml_J_82 rfl hm hr' (by decide) rfl rfl (Nat.le_of_ble_eq_true rfl) d_J_law_429 ?_
  refine J_istore C2 d_J_law_432 (by decide) rfl ?_
  refine J_goto (tgt := 743) C2 d_J_law_434 (by decide) ?_
  exact fin 1 6 _ _ _ _ [2, 3, 4, 5, 6] (by decide) (by decide) hq rfl
set_option maxRecDepth 100000 in
set_option maxHeartbeats 4000000 in
theorem law_tick_0 (C : jC X code 7 RXL 11 392) (K : lK X A G V G' U o cL) (hrc : X.cells + 1 ≤ X.R.cells ∧ X.slots + 6 ≤ X.R.slots) {b L i : Nat} {xs : Nat → Int32} (hX : va_X b L xs X.s X.s.heap) (hbl : b < X.s.heap.size) (hbA : ¬ A b) (hL : L ≤ 100000) (hik : i + 6 ≤ L) (hl : ∀ e, X.l.admits e → e.platform.stackTraces = false) (h : RL σ N) (fin : ∀ (a c : Nat) (σ' : zS) (N' : zR) (fo' : Nat → Int64) (lv : List (Nat × Value)) (ks : List Nat), a ≤ 1 → c ≤ 6 → RL σ' N' → lv_pick lv ks = [(4, .int (nI i)), (3, .ref o), (2, .ref (U.1 43)), (1, .ref (V.1 0 0 0)), (0, .ref b)] → J (X.more a c) A 7 Q (lB G V σ' G' U N' o cL fo') 743 lv []) (n : Nat) (hn1 : 1 ≤ n) (hn4 : n ≤ 400) (hx : xs (i + 1) = nI n) : J X A 7 Q (lB G V σ G' U N o cL fo) 409 [(4, .int (nI i)), (3, .ref o), (2, .ref (U.1 43)), (1, .ref (V.1 0 0 0)), (0, .ref b)] [] := by
  obtain ⟨fr, lo, fr', lo', b0, σ', N', hw, hr, hm, hr', hk, hq⟩ := g_tick_0 (l := X.l) K.1 K.2.1 h n hn1 hn4 o cL fo K.2.2.2.2.2.2.1
  have C2 := C.more hrc
  refine J_aload_n C 3 d_J_law_409 rfl rfl ?_
  refine L_arg 1 4 0 C hX hbl hbA hL hik rfl rfl rfl (by decide) d_J_law_410 d_J_law_411 d_J_law_413 d_J_law_414 d_J_law_415 ?_
  rw [hx]
  refine J_aload_n C 1 d_J_law_416 rfl rfl ?_
  refine L_wrT (n := 3) C K ml_J_79 ws_tick iz_J wc_tick (by decide) (by decide +kernel) hw hr (by decide) hrc rfl rfl d_J_law_417 ?_
  refine J_istore C2 d_J_law_420 (by decide) rfl ?_
  refine J_aload_n C2 3 d_J_law_422 rfl rfl ?_
  refine L_arg 1 5 1 C2 hX hbl hbA hL hik rfl rfl rfl (by decide) d_J_law_423 d_J_law_424 d_J_law_426 d_J_law_427 d_J_law_428 ?_
  rw [hx]
  refine L_mv (X := X.more 1 6) (rest := []) C2 K mi_M_tick ml_J_82 rfl hm hr' (by decide) rfl rfl (Nat.le_of_ble_eq_true rfl) d_J_law_429 ?_
  refine J_istore C2 d_J_law_432 (by decide) rfl ?_
  refine J_goto (tgt := 743) C2 d_J_law_434 (by decide) ?_
  exact fin 1 6 _ _ _ _ [2, 3, 4, 5, 6] (by decide) (by decide) hq rfl
set_option maxRecDepth 100000 in
set_option maxHeartbeats 4000000 in
theorem law_type (C : jC X code 7 RXL 11 392) (K : lK X A G V G' U o cL) (hrc : X.cells + 1 ≤ X.R.cells ∧ X.slots + 6 ≤ X.R.slots) {b L i : Nat} {xs : Nat → Int32} (hX : va_X b L xs X.s X.s.heap) (hbl : b < X.s.heap.size) (hbA : ¬ A b) (hL : L ≤ 100000) (hik : i + 6 ≤ L) (hl : ∀ e, X.l.admits e → e.platform.stackTraces = false) (h : RL σ N) (fin : ∀ (a c : Nat) (σ' : zS) (N' : zR) (fo' : Nat → Int64) (lv : List (Nat × Value)) (ks : List Nat), a ≤ 1 → c ≤ 6 → RL σ' N' → lv_pick lv ks = [(4, .int (nI i)), (3, .ref o), (2, .ref (U.1 43)), (1, .ref (V.1 0 0 0)), (0, .ref b)] → J (X.more a c) A 7 Q (lB G V σ' G' U N' o cL fo') 743 lv []) : J X A 7 Q (lB G V σ G' U N o cL fo) 437 [(4, .int (nI i)), (3, .ref o), (2, .ref (U.1 43)), (1, .ref (V.1 0 0 0)), (0, .ref b)] [] := by
  obtain ⟨k, k', fr, lo, fr', lo', σ', N', hc, hr, hm, hr', hq, hv⟩ := g_type (l := X.l) K.1 K.2.1 h (((xs (i + 1)).toInt64 <<< ((32 : Int32).toInt64 &&& 63)) ||| ((xs (i + 2)).toInt64 &&& 4294967295)) (xs (i + 3))
  refine J_aload_n C 3 d_J_law_437 rfl rfl ?_
  refine L_arg 1 4 0 C hX hbl hbA hL hik rfl rfl rfl (by decide) d_J_law_438 d_J_law_439 d_J_law_441 d_J_law_442 d_J_law_443 ?_
  refine J_i2l C d_J_law_444 ?_
  refine J_bipush (v := 32) C d_J_law_445 (by decide) ?_
  refine J_lshl C d_J_law_447 ?_
  refine L_arg 2 4 0 C hX hbl hbA hL hik rfl rfl rfl (by decide) d_J_law_448 d_J_law_449 d_J_law_451 d_J_law_452 d_J_law_453 ?_
  refine J_i2l C d_J_law_454 ?_
  refine J_ldc2 C cl_J_83 d_J_law_455 ?_
  refine J_land C d_J_law_458 ?_
  refine J_lor C d_J_law_459 ?_
  refine L_arg 3 4 0 C hX hbl hbA hL hik rfl rfl rfl (by decide) d_J_law_460 d_J_law_461 d_J_law_463 d_J_law_464 d_J_law_465 ?_
  refine L_cv (rest := []) C K mi_L_type ml_J_85 rfl hc hr (by decide) rfl rfl (by decide) d_J_law_466 ?_
  refine J_pop C d_J_law_469 rfl ?_
  refine J_aload_n C 2 d_J_law_470 rfl rfl ?_
  refine L_arg 1 4 0 C hX hbl hbA hL hik rfl rfl rfl (by decide) d_J_law_471 d_J_law_472 d_J_law_474 d_J_law_475 d_J_law_476 ?_
  refine J_i2l C d_J_law_477 ?_
  refine J_bipush (v := 32) C d_J_law_478 (by decide) ?_
  refine J_lshl C d_J_law_480 ?_
  refine L_arg 2 4 0 C hX hbl hbA hL hik rfl rfl rfl (by decide) d_J_law_481 d_J_law_482 d_J_law_484 d_J_law_485 d_J_law_486 ?_
  refine J_i2l C d_J_law_487 ?_
  refine J_ldc2 C cl_J_83 d_J_law_488 ?_
  refine J_land C d_J_law_491 ?_
  refine J_lor C d_J_law_492 ?_
  refine L_arg 3 4 0 C hX hbl hbA hL hik rfl rfl rfl (by decide) d_J_law_493 d_J_law_494 d_J_law_496 d_J_law_497 d_J_law_498 ?_
  refine L_mv (rest := []) C K mi_M_type ml_J_89 rfl hm hr' (by decide) rfl rfl (Nat.le_of_ble_eq_true rfl) d_J_law_499 ?_
  refine J_pop C d_J_law_502 rfl ?_
  refine J_goto (tgt := 743) C d_J_law_503 (by decide) ?_
  exact fin 0 0 _ _ _ _ [0, 1, 2, 3, 4] (by decide) (by decide) hq rfl
set_option maxRecDepth 100000 in
set_option maxHeartbeats 4000000 in
theorem law_arrive_1 (C : jC X code 7 RXL 11 392) (K : lK X A G V G' U o cL) (hrc : X.cells + 1 ≤ X.R.cells ∧ X.slots + 6 ≤ X.R.slots) {b L i : Nat} {xs : Nat → Int32} (hX : va_X b L xs X.s X.s.heap) (hbl : b < X.s.heap.size) (hbA : ¬ A b) (hL : L ≤ 100000) (hik : i + 6 ≤ L) (hl : ∀ e, X.l.admits e → e.platform.stackTraces = false) (h : RL σ N) (fin : ∀ (a c : Nat) (σ' : zS) (N' : zR) (fo' : Nat → Int64) (lv : List (Nat × Value)) (ks : List Nat), a ≤ 1 → c ≤ 6 → RL σ' N' → lv_pick lv ks = [(4, .int (nI i)), (3, .ref o), (2, .ref (U.1 43)), (1, .ref (V.1 0 0 0)), (0, .ref b)] → J (X.more a c) A 7 Q (lB G V σ' G' U N' o cL fo') 743 lv []) (hx : lIsR (xs (i + 1)) = 0 ∨ ((¬ xs (i + 2) = 1 ∧ ¬ xs (i + 2) = 2) ∨ xs (i + 3) < 0 ∨ 15 ≤ xs (i + 3) ∨ xs (i + 4) < 0 ∨ ¬ xs (i + 4) ≤ 255) ∨ σ.1 2 (xs (i + 1)).toNatClampNeg 0 4 = 0) : J X A 7 Q (lB G V σ G' U N o cL fo) 506 [(4, .int (nI i)), (3, .ref o), (2, .ref (U.1 43)), (1, .ref (V.1 0 0 0)), (0, .ref b)] [] := by
  obtain ⟨k0, fr, lo, fr', lo', N', hw, hr, hm, hr', hk, hk0, hq⟩ := g_arrive_t hl K.1 K.2.1 h (xs (i + 1)) (xs (i + 2)) (xs (i + 3)) (xs (i + 4)) (xs (i + 5)) o hx
  have C2 := C.more hrc
  refine J_aload_n C 3 d_J_law_506 rfl rfl ?_
  refine L_arg 1 4 0 C hX hbl hbA hL hik rfl rfl rfl (by decide) d_J_law_507 d_J_law_508 d_J_law_510 d_J_law_511 d_J_law_512 ?_
  refine L_arg 2 4 0 C hX hbl hbA hL hik rfl rfl rfl (by decide) d_J_law_513 d_J_law_514 d_J_law_516 d_J_law_517 d_J_law_518 ?_
  refine L_arg 3 4 0 C hX hbl hbA hL hik rfl rfl rfl (by decide) d_J_law_519 d_J_law_520 d_J_law_522 d_J_law_523 d_J_law_524 ?_
  refine L_arg 4 4 0 C hX hbl hbA hL hik rfl rfl rfl (by decide) d_J_law_525 d_J_law_526 d_J_law_528 d_J_law_529 d_J_law_530 ?_
  refine L_arg 5 4 0 C hX hbl hbA hL hik rfl rfl rfl (by decide) d_J_law_531 d_J_law_532 d_J_law_534 d_J_law_535 d_J_law_536 ?_
  refine J_aload_n C 1 d_J_law_537 rfl rfl ?_
  refine L_wr (n := 7) C K ml_J_90 ws_arrive iz_J wc_arrive (by decide) (by decide +kernel) hw hr (by decide) hrc wBs.call (fun S h => h.1) rfl rfl d_J_law_538 ?_
  refine J_istore C2 d_J_law_541 (by decide) rfl ?_
  refine J_aload_n C2 3 d_J_law_543 rfl rfl ?_
  refine L_arg 1 5 1 C2 hX hbl hbA hL hik rfl rfl rfl (by decide) d_J_law_544 d_J_law_545 d_J_law_547 d_J_law_548 d_J_law_549 ?_
  refine L_arg 2 5 1 C2 hX hbl hbA hL hik rfl rfl rfl (by decide) d_J_law_550 d_J_law_551 d_J_law_553 d_J_law_554 d_J_law_555 ?_
  refine L_arg 3 5 1 C2 hX hbl hbA hL hik rfl rfl rfl (by decide) d_J_law_556 d_J_law_557 d_J_law_559 d_J_law_560 d_J_law_561 ?_
  refine L_arg 4 5 1 C2 hX hbl hbA hL hik rfl rfl rfl (by decide) d_J_law_562 d_J_law_563 d_J_law_565 d_J_law_566 d_J_law_567 ?_
  refine L_arg 5 5 1 C2 hX hbl hbA hL hik rfl rfl rfl (by decide) d_J_law_568 d_J_law_569 d_J_law_571 d_J_law_572 d_J_law_573 ?_
  refine L_mv (X := X.more 1 6) (rest := []) C2 K mi_M_arrive ml_J_93 rfl hm hr' (by decide) rfl rfl (Nat.le_of_ble_eq_true rfl) d_J_law_574 ?_
  refine J_istore C2 d_J_law_577 (by decide) rfl ?_
  refine J_goto (tgt := 743) C2 d_J_law_579 (by decide) ?_
  exact fin 1 6 _ _ _ _ [2, 3, 4, 5, 6] (by decide) (by decide) hq rfl
set_option maxRecDepth 100000 in
set_option maxHeartbeats 4000000 in
theorem law_arrive_0 (C : jC X code 7 RXL 11 392) (K : lK X A G V G' U o cL) (hrc : X.cells + 1 ≤ X.R.cells ∧ X.slots + 6 ≤ X.R.slots) {b L i : Nat} {xs : Nat → Int32} (hX : va_X b L xs X.s X.s.heap) (hbl : b < X.s.heap.size) (hbA : ¬ A b) (hL : L ≤ 100000) (hik : i + 6 ≤ L) (hl : ∀ e, X.l.admits e → e.platform.stackTraces = false) (h : RL σ N) (fin : ∀ (a c : Nat) (σ' : zS) (N' : zR) (fo' : Nat → Int64) (lv : List (Nat × Value)) (ks : List Nat), a ≤ 1 → c ≤ 6 → RL σ' N' → lv_pick lv ks = [(4, .int (nI i)), (3, .ref o), (2, .ref (U.1 43)), (1, .ref (V.1 0 0 0)), (0, .ref b)] → J (X.more a c) A 7 Q (lB G V σ' G' U N' o cL fo') 743 lv []) (h1 : ¬ lIsR (xs (i + 1)) = 0) (h2 : ¬ ((¬ xs (i + 2) = 1 ∧ ¬ xs (i + 2) = 2) ∨ xs (i + 3) < 0 ∨ 15 ≤ xs (i + 3) ∨ xs (i + 4) < 0 ∨ ¬ xs (i + 4) ≤ 255)) (h3 : ¬ σ.1 2 (xs (i + 1)).toNatClampNeg 0 4 = 0) : J X A 7 Q (lB G V σ G' U N o cL fo) 506 [(4, .int (nI i)), (3, .ref o), (2, .ref (U.1 43)), (1, .ref (V.1 0 0 0)), (0, .ref b)] [] := by
  obtain ⟨fr, lo, fr', lo', v0, b0, σ', N', hw, hr, hm, hr', hk, hq⟩ := g_arrive_0 (l := X.l) K.1 K.2.1 h (xs (i + 1)) (xs (i + 2)) (xs (i + 3)) (xs (i + 4)) (xs (i + 5)) o cL fo K.2.2.2.2.2.2.1 h1 h2 h3
  have C2 := C.more hrc
  refine J_aload_n C 3 d_J_law_506 rfl rfl ?_
  refine L_arg 1 4 0 C hX hbl hbA hL hik rfl rfl rfl (by decide) d_J_law_507 d_J_law_508 d_J_law_510 d_J_law_511 d_J_law_512 ?_
  refine L_arg 2 4 0 C hX hbl hbA hL hik rfl rfl rfl (by decide) d_J_law_513 d_J_law_514 d_J_law_516 d_J_law_517 d_J_law_518 ?_
  refine L_arg 3 4 0 C hX hbl hbA hL hik rfl rfl rfl (by decide) d_J_law_519 d_J_law_520 d_J_law_522 d_J_law_523 d_J_law_524 ?_
  refine L_arg 4 4 0 C hX hbl hbA hL hik rfl rfl rfl (by decide) d_J_law_525 d_J_law_526 d_J_law_528 d_J_law_529 d_J_law_530 ?_
  refine L_arg 5 4 0 C hX hbl hbA hL hik rfl rfl rfl (by decide) d_J_law_531 d_J_law_532 d_J_law_534 d_J_law_535 d_J_law_536 ?_
  refine J_aload_n C 1 d_J_law_537 rfl rfl ?_
  refine L_wrT (n := 7) C K ml_J_90 ws_arrive iz_J wc_arrive (by decide) (by decide +kernel) hw hr (by decide) hrc rfl rfl d_J_law_538 ?_
  refine J_istore C2 d_J_law_541 (by decide) rfl ?_
  refine J_aload_n C2 3 d_J_law_543 rfl rfl ?_
  refine L_arg 1 5 1 C2 hX hbl hbA hL hik rfl rfl rfl (by decide) d_J_law_544 d_J_law_545 d_J_law_547 d_J_law_548 d_J_law_549 ?_
  refine L_arg 2 5 1 C2 hX hbl hbA hL hik rfl rfl rfl (by decide) d_J_law_550 d_J_law_551 d_J_law_553 d_J_law_554 d_J_law_555 ?_
  refine L_arg 3 5 1 C2 hX hbl hbA hL hik rfl rfl rfl (by decide) d_J_law_556 d_J_law_557 d_J_law_559 d_J_law_560 d_J_law_561 ?_
  refine L_arg 4 5 1 C2 hX hbl hbA hL hik rfl rfl rfl (by decide) d_J_law_562 d_J_law_563 d_J_law_565 d_J_law_566 d_J_law_567 ?_
  refine L_arg 5 5 1 C2 hX hbl hbA hL hik rfl rfl rfl (by decide) d_J_law_568 d_J_law_569 d_J_law_571 d_J_law_572 d_J_law_573 ?_
  refine L_mv (X := X.more 1 6) (rest := []) C2 K mi_M_arrive ml_J_93 rfl hm hr' (by decide) rfl rfl (Nat.le_of_ble_eq_true rfl) d_J_law_574 ?_
  refine J_istore C2 d_J_law_577 (by decide) rfl ?_
  refine J_goto (tgt := 743) C2 d_J_law_579 (by decide) ?_
  exact fin 1 6 _ _ _ _ [2, 3, 4, 5, 6] (by decide) (by decide) hq rfl
set_option maxRecDepth 100000 in
set_option maxHeartbeats 4000000 in
theorem law_router (C : jC X code 7 RXL 11 392) (K : lK X A G V G' U o cL) (hrc : X.cells + 1 ≤ X.R.cells ∧ X.slots + 6 ≤ X.R.slots) {b L i : Nat} {xs : Nat → Int32} (hX : va_X b L xs X.s X.s.heap) (hbl : b < X.s.heap.size) (hbA : ¬ A b) (hL : L ≤ 100000) (hik : i + 6 ≤ L) (hl : ∀ e, X.l.admits e → e.platform.stackTraces = false) (h : RL σ N) (fin : ∀ (a c : Nat) (σ' : zS) (N' : zR) (fo' : Nat → Int64) (lv : List (Nat × Value)) (ks : List Nat), a ≤ 1 → c ≤ 6 → RL σ' N' → lv_pick lv ks = [(4, .int (nI i)), (3, .ref o), (2, .ref (U.1 43)), (1, .ref (V.1 0 0 0)), (0, .ref b)] → J (X.more a c) A 7 Q (lB G V σ' G' U N' o cL fo') 743 lv []) : J X A 7 Q (lB G V σ G' U N o cL fo) 582 [(4, .int (nI i)), (3, .ref o), (2, .ref (U.1 43)), (1, .ref (V.1 0 0 0)), (0, .ref b)] [] := by
  obtain ⟨k, k', fr, lo, fr', lo', σ', N', hc, hr, hm, hr', hq, hv⟩ := g_router (l := X.l) K.1 K.2.1 h (xs (i + 1)) (xs (i + 2))
  refine J_aload_n C 3 d_J_law_582 rfl rfl ?_
  refine L_arg 1 4 0 C hX hbl hbA hL hik rfl rfl rfl (by decide) d_J_law_583 d_J_law_584 d_J_law_586 d_J_law_587 d_J_law_588 ?_
  refine L_arg 2 4 0 C hX hbl hbA hL hik rfl rfl rfl (by decide) d_J_law_589 d_J_law_590 d_J_law_592 d_J_law_593 d_J_law_594 ?_
  refine L_cv (rest := []) C K mi_L_router ml_J_94 rfl hc hr (by decide) rfl rfl (by decide) d_J_law_595 ?_
  refine J_pop C d_J_law_598 rfl ?_
  refine J_aload_n C 2 d_J_law_599 rfl rfl ?_
  refine L_arg 1 4 0 C hX hbl hbA hL hik rfl rfl rfl (by decide) d_J_law_600 d_J_law_601 d_J_law_603 d_J_law_604 d_J_law_605 ?_
  refine L_arg 2 4 0 C hX hbl hbA hL hik rfl rfl rfl (by decide) d_J_law_606 d_J_law_607 d_J_law_609 d_J_law_610 d_J_law_611 ?_
  refine L_mv (rest := []) C K mi_M_router ml_J_98 rfl hm hr' (by decide) rfl rfl (Nat.le_of_ble_eq_true rfl) d_J_law_612 ?_
  refine J_pop C d_J_law_615 rfl ?_
  refine J_goto (tgt := 743) C d_J_law_616 (by decide) ?_
  exact fin 0 0 _ _ _ _ [0, 1, 2, 3, 4] (by decide) (by decide) hq rfl
set_option maxRecDepth 100000 in
set_option maxHeartbeats 4000000 in
theorem law_session (C : jC X code 7 RXL 11 392) (K : lK X A G V G' U o cL) (hrc : X.cells + 1 ≤ X.R.cells ∧ X.slots + 6 ≤ X.R.slots) {b L i : Nat} {xs : Nat → Int32} (hX : va_X b L xs X.s X.s.heap) (hbl : b < X.s.heap.size) (hbA : ¬ A b) (hL : L ≤ 100000) (hik : i + 6 ≤ L) (hl : ∀ e, X.l.admits e → e.platform.stackTraces = false) (h : RL σ N) (fin : ∀ (a c : Nat) (σ' : zS) (N' : zR) (fo' : Nat → Int64) (lv : List (Nat × Value)) (ks : List Nat), a ≤ 1 → c ≤ 6 → RL σ' N' → lv_pick lv ks = [(4, .int (nI i)), (3, .ref o), (2, .ref (U.1 43)), (1, .ref (V.1 0 0 0)), (0, .ref b)] → J (X.more a c) A 7 Q (lB G V σ' G' U N' o cL fo') 743 lv []) : J X A 7 Q (lB G V σ G' U N o cL fo) 619 [(4, .int (nI i)), (3, .ref o), (2, .ref (U.1 43)), (1, .ref (V.1 0 0 0)), (0, .ref b)] [] := by
  obtain ⟨k, k', fr, lo, fr', lo', σ', N', hc, hr, hm, hr', hq, hv⟩ := g_session (l := X.l) K.1 K.2.1 h (xs (i + 1)) (xs (i + 2)) (xs (i + 3))
  refine J_aload_n C 3 d_J_law_619 rfl rfl ?_
  refine L_arg 1 4 0 C hX hbl hbA hL hik rfl rfl rfl (by decide) d_J_law_620 d_J_law_621 d_J_law_623 d_J_law_624 d_J_law_625 ?_
  refine L_arg 2 4 0 C hX hbl hbA hL hik rfl rfl rfl (by decide) d_J_law_626 d_J_law_627 d_J_law_629 d_J_law_630 d_J_law_631 ?_
  refine L_arg 3 4 0 C hX hbl hbA hL hik rfl rfl rfl (by decide) d_J_law_632 d_J_law_633 d_J_law_635 d_J_law_636 d_J_law_637 ?_
  refine L_cv (rest := []) C K mi_L_session ml_J_99 rfl hc hr (by decide) rfl rfl (by decide) d_J_law_638 ?_
  refine J_pop C d_J_law_641 rfl ?_
  refine J_aload_n C 2 d_J_law_642 rfl rfl ?_
  refine L_arg 1 4 0 C hX hbl hbA hL hik rfl rfl rfl (by decide) d_J_law_643 d_J_law_644 d_J_law_646 d_J_law_647 d_J_law_648 ?_
  refine L_arg 2 4 0 C hX hbl hbA hL hik rfl rfl rfl (by decide) d_J_law_649 d_J_law_650 d_J_law_652 d_J_law_653 d_J_law_654 ?_
  refine L_arg 3 4 0 C hX hbl hbA hL hik rfl rfl rfl (by decide) d_J_law_655 d_J_law_656 d_J_law_658 d_J_law_659 d_J_law_660 ?_
  refine L_mv (rest := []) C K mi_M_session ml_J_103 rfl hm hr' (by decide) rfl rfl (Nat.le_of_ble_eq_true rfl) d_J_law_661 ?_
  refine J_pop C d_J_law_664 rfl ?_
  refine J_goto (tgt := 743) C d_J_law_665 (by decide) ?_
  exact fin 0 0 _ _ _ _ [0, 1, 2, 3, 4] (by decide) (by decide) hq rfl
set_option maxRecDepth 100000 in
set_option maxHeartbeats 4000000 in
theorem law_port (C : jC X code 7 RXL 11 392) (K : lK X A G V G' U o cL) (hrc : X.cells + 1 ≤ X.R.cells ∧ X.slots + 6 ≤ X.R.slots) {b L i : Nat} {xs : Nat → Int32} (hX : va_X b L xs X.s X.s.heap) (hbl : b < X.s.heap.size) (hbA : ¬ A b) (hL : L ≤ 100000) (hik : i + 6 ≤ L) (hl : ∀ e, X.l.admits e → e.platform.stackTraces = false) (h : RL σ N) (fin : ∀ (a c : Nat) (σ' : zS) (N' : zR) (fo' : Nat → Int64) (lv : List (Nat × Value)) (ks : List Nat), a ≤ 1 → c ≤ 6 → RL σ' N' → lv_pick lv ks = [(4, .int (nI i)), (3, .ref o), (2, .ref (U.1 43)), (1, .ref (V.1 0 0 0)), (0, .ref b)] → J (X.more a c) A 7 Q (lB G V σ' G' U N' o cL fo') 743 lv []) : J X A 7 Q (lB G V σ G' U N o cL fo) 668 [(4, .int (nI i)), (3, .ref o), (2, .ref (U.1 43)), (1, .ref (V.1 0 0 0)), (0, .ref b)] [] := by
  obtain ⟨k, k', fr, lo, fr', lo', σ', N', hc, hr, hm, hr', hq, hv⟩ := g_port (l := X.l) K.1 K.2.1 h (xs (i + 1))
  refine J_aload_n C 3 d_J_law_668 rfl rfl ?_
  refine L_arg 1 4 0 C hX hbl hbA hL hik rfl rfl rfl (by decide) d_J_law_669 d_J_law_670 d_J_law_672 d_J_law_673 d_J_law_674 ?_
  refine L_cv (rest := []) C K mi_L_port ml_J_104 rfl hc hr (by decide) rfl rfl (by decide) d_J_law_675 ?_
  refine J_pop C d_J_law_678 rfl ?_
  refine J_aload_n C 2 d_J_law_679 rfl rfl ?_
  refine L_arg 1 4 0 C hX hbl hbA hL hik rfl rfl rfl (by decide) d_J_law_680 d_J_law_681 d_J_law_683 d_J_law_684 d_J_law_685 ?_
  refine L_mv (rest := []) C K mi_M_port ml_J_107 rfl hm hr' (by decide) rfl rfl (Nat.le_of_ble_eq_true rfl) d_J_law_686 ?_
  refine J_pop C d_J_law_689 rfl ?_
  refine J_goto (tgt := 743) C d_J_law_690 (by decide) ?_
  exact fin 0 0 _ _ _ _ [0, 1, 2, 3, 4] (by decide) (by decide) hq rfl
set_option maxRecDepth 100000 in
set_option maxHeartbeats 4000000 in
theorem law_flying (C : jC X code 7 RXL 11 392) (K : lK X A G V G' U o cL) (hrc : X.cells + 1 ≤ X.R.cells ∧ X.slots + 6 ≤ X.R.slots) {b L i : Nat} {xs : Nat → Int32} (hX : va_X b L xs X.s X.s.heap) (hbl : b < X.s.heap.size) (hbA : ¬ A b) (hL : L ≤ 100000) (hik : i + 6 ≤ L) (hl : ∀ e, X.l.admits e → e.platform.stackTraces = false) (h : RL σ N) (fin : ∀ (a c : Nat) (σ' : zS) (N' : zR) (fo' : Nat → Int64) (lv : List (Nat × Value)) (ks : List Nat), a ≤ 1 → c ≤ 6 → RL σ' N' → lv_pick lv ks = [(4, .int (nI i)), (3, .ref o), (2, .ref (U.1 43)), (1, .ref (V.1 0 0 0)), (0, .ref b)] → J (X.more a c) A 7 Q (lB G V σ' G' U N' o cL fo') 743 lv []) : J X A 7 Q (lB G V σ G' U N o cL fo) 693 [(4, .int (nI i)), (3, .ref o), (2, .ref (U.1 43)), (1, .ref (V.1 0 0 0)), (0, .ref b)] [] := by
  obtain ⟨k, k', fr, lo, fr', lo', σ', N', hc, hr, hm, hr', hq, hv⟩ := g_flying (l := X.l) K.1 K.2.1 h
  refine J_aload_n C 3 d_J_law_693 rfl rfl ?_
  refine L_cv (rest := []) C K mi_L_flying ml_J_108 rfl hc hr (by decide) rfl rfl (by decide) d_J_law_694 ?_
  refine J_pop C d_J_law_697 rfl ?_
  refine J_aload_n C 2 d_J_law_698 rfl rfl ?_
  refine L_mv (rest := []) C K mi_M_flying ml_J_111 rfl hm hr' (by decide) rfl rfl (Nat.le_of_ble_eq_true rfl) d_J_law_699 ?_
  refine J_pop C d_J_law_702 rfl ?_
  refine J_goto (tgt := 743) C d_J_law_703 (by decide) ?_
  exact fin 0 0 _ _ _ _ [0, 1, 2, 3, 4] (by decide) (by decide) hq rfl
set_option maxRecDepth 100000 in
set_option maxHeartbeats 4000000 in
theorem law_frame (C : jC X code 7 RXL 11 392) (K : lK X A G V G' U o cL) (hrc : X.cells + 1 ≤ X.R.cells ∧ X.slots + 6 ≤ X.R.slots) {b L i : Nat} {xs : Nat → Int32} (hX : va_X b L xs X.s X.s.heap) (hbl : b < X.s.heap.size) (hbA : ¬ A b) (hL : L ≤ 100000) (hik : i + 6 ≤ L) (hl : ∀ e, X.l.admits e → e.platform.stackTraces = false) (h : RL σ N) (fin : ∀ (a c : Nat) (σ' : zS) (N' : zR) (fo' : Nat → Int64) (lv : List (Nat × Value)) (ks : List Nat), a ≤ 1 → c ≤ 6 → RL σ' N' → lv_pick lv ks = [(4, .int (nI i)), (3, .ref o), (2, .ref (U.1 43)), (1, .ref (V.1 0 0 0)), (0, .ref b)] → J (X.more a c) A 7 Q (lB G V σ' G' U N' o cL fo') 743 lv []) : J X A 7 Q (lB G V σ G' U N o cL fo) 706 [(4, .int (nI i)), (3, .ref o), (2, .ref (U.1 43)), (1, .ref (V.1 0 0 0)), (0, .ref b)] [] := by
  obtain ⟨k, k', fr, lo, fr', lo', σ', N', hc, hr, hm, hr', hq, hv⟩ := g_frame (l := X.l) K.1 K.2.1 h (xs (i + 1)) (xs (i + 2))
  refine J_aload_n C 3 d_J_law_706 rfl rfl ?_
  refine L_arg 1 4 0 C hX hbl hbA hL hik rfl rfl rfl (by decide) d_J_law_707 d_J_law_708 d_J_law_710 d_J_law_711 d_J_law_712 ?_
  refine L_arg 2 4 0 C hX hbl hbA hL hik rfl rfl rfl (by decide) d_J_law_713 d_J_law_714 d_J_law_716 d_J_law_717 d_J_law_718 ?_
  refine L_cv (rest := []) C K mi_L_frame ml_J_112 rfl hc hr (by decide) rfl rfl (by decide) d_J_law_719 ?_
  refine J_pop C d_J_law_722 rfl ?_
  refine J_aload_n C 2 d_J_law_723 rfl rfl ?_
  refine L_arg 1 4 0 C hX hbl hbA hL hik rfl rfl rfl (by decide) d_J_law_724 d_J_law_725 d_J_law_727 d_J_law_728 d_J_law_729 ?_
  refine L_arg 2 4 0 C hX hbl hbA hL hik rfl rfl rfl (by decide) d_J_law_730 d_J_law_731 d_J_law_733 d_J_law_734 d_J_law_735 ?_
  refine L_mv (rest := []) C K mi_M_frame ml_J_115 rfl hm hr' (by decide) rfl rfl (Nat.le_of_ble_eq_true rfl) d_J_law_736 ?_
  refine J_pop C d_J_law_739 rfl ?_
  refine J_goto (tgt := 743) C d_J_law_740 (by decide) ?_
  exact fin 0 0 _ _ _ _ [0, 1, 2, 3, 4] (by decide) (by decide) hq rfl
end LW
