/-! THE LAW: a call of every kind -/
section LW
variable {X : zX} {A : Nat → Prop} {Q : State → Prop} {G G' : zG} {V : zV} {U : zU} {σ : zS} {N : zR} {T o : Nat} {cL : ClassId} {fo : Nat → Int64}
set_option maxRecDepth 100000 in
set_option maxHeartbeats 4000000 in
theorem law_set (C : jC X code 7 RXL 11 392) (K : lK X A G V G' U o cL) (hrc : X.cells + 1 ≤ X.R.cells ∧ X.slots + 6 ≤ X.R.slots) {b L i : Nat} {xs : Nat → Int32} (hX : va_X b L xs X.s X.s.heap) (hbl : b < X.s.heap.size) (hbA : ¬ A b) (hL : L ≤ 100000) (hik : i + 6 ≤ L) (hl : ∀ e, X.l.admits e → e.platform.stackTraces = false) (hT : T ≤ 1000000) (h : RH T σ N) (fin : ∀ (a c : Nat) (σ' : zS) (N' : zR) (fo' : Nat → Int64) (lv : List (Nat × Value)) (ks : List Nat), a ≤ 1 → c ≤ 6 → RH (T + 400) σ' N' → lv_pick lv ks = [(4, .int (nI i)), (3, .ref o), (2, .ref (U.1 43)), (1, .ref (V.1 0 0 0)), (0, .ref b)] → J (X.more a c) A 7 Q (lB G V σ' G' U N' o cL fo') 732 lv []) : J X A 7 Q (lB G V σ G' U N o cL fo) 112 [(4, .int (nI i)), (3, .ref o), (2, .ref (U.1 43)), (1, .ref (V.1 0 0 0)), (0, .ref b)] [] := by
  obtain ⟨k, fr, lo, fr', lo', σ', N', hw, hr, hm, hr', hk, hq⟩ := gh_set hl K.1 K.2.1 h (xs (i + 1)) (xs (i + 2)) (xs (i + 3))
  have C2 := C.more hrc
  refine J_aload_n C 3 d_J_law_112 rfl rfl ?_
  refine L_arg 1 4 0 C hX hbl hbA hL hik rfl rfl rfl (by decide) d_J_law_113 d_J_law_114 d_J_law_116 d_J_law_117 d_J_law_118 ?_
  refine L_arg 2 4 0 C hX hbl hbA hL hik rfl rfl rfl (by decide) d_J_law_119 d_J_law_120 d_J_law_122 d_J_law_123 d_J_law_124 ?_
  refine L_arg 3 4 0 C hX hbl hbA hL hik rfl rfl rfl (by decide) d_J_law_125 d_J_law_126 d_J_law_128 d_J_law_129 d_J_law_130 ?_
  refine L_wr (n := 4) C K ml_J_50 ws_set iz_J wc_set (by decide) (by decide +kernel) hw hr (by decide) hrc wBt.call (fun S h => h) rfl rfl d_J_law_131 ?_
  refine J_istore C2 d_J_law_134 (by decide) rfl ?_
  refine J_aload_n C2 3 d_J_law_136 rfl rfl ?_
  refine L_arg 1 5 1 C2 hX hbl hbA hL hik rfl rfl rfl (by decide) d_J_law_137 d_J_law_138 d_J_law_140 d_J_law_141 d_J_law_142 ?_
  refine L_arg 2 5 1 C2 hX hbl hbA hL hik rfl rfl rfl (by decide) d_J_law_143 d_J_law_144 d_J_law_146 d_J_law_147 d_J_law_148 ?_
  refine L_arg 3 5 1 C2 hX hbl hbA hL hik rfl rfl rfl (by decide) d_J_law_149 d_J_law_150 d_J_law_152 d_J_law_153 d_J_law_154 ?_
  refine L_mv (X := X.more 1 6) (rest := []) C2 K mi_M_set ml_J_55 rfl hm hr' (by decide) rfl rfl (Nat.le_of_ble_eq_true rfl) d_J_law_155 ?_
  refine J_goto (tgt := 732) C2 d_J_law_158 (by decide) ?_
  exact fin 1 6 _ _ _ _ [1, 2, 3, 4, 5] (by decide) (by decide) hq rfl
set_option maxRecDepth 100000 in
set_option maxHeartbeats 4000000 in
theorem law_start (C : jC X code 7 RXL 11 392) (K : lK X A G V G' U o cL) (hrc : X.cells + 1 ≤ X.R.cells ∧ X.slots + 6 ≤ X.R.slots) {b L i : Nat} {xs : Nat → Int32} (hX : va_X b L xs X.s X.s.heap) (hbl : b < X.s.heap.size) (hbA : ¬ A b) (hL : L ≤ 100000) (hik : i + 6 ≤ L) (hl : ∀ e, X.l.admits e → e.platform.stackTraces = false) (hT : T ≤ 1000000) (h : RH T σ N) (fin : ∀ (a c : Nat) (σ' : zS) (N' : zR) (fo' : Nat → Int64) (lv : List (Nat × Value)) (ks : List Nat), a ≤ 1 → c ≤ 6 → RH (T + 400) σ' N' → lv_pick lv ks = [(4, .int (nI i)), (3, .ref o), (2, .ref (U.1 43)), (1, .ref (V.1 0 0 0)), (0, .ref b)] → J (X.more a c) A 7 Q (lB G V σ' G' U N' o cL fo') 732 lv []) : J X A 7 Q (lB G V σ G' U N o cL fo) 161 [(4, .int (nI i)), (3, .ref o), (2, .ref (U.1 43)), (1, .ref (V.1 0 0 0)), (0, .ref b)] [] := by
  obtain ⟨k, fr, lo, fr', lo', σ', N', hw, hr, hm, hr', hk, hq⟩ := gh_start hl K.1 K.2.1 h (xs (i + 1))
  have C2 := C.more hrc
  refine J_aload_n C 3 d_J_law_161 rfl rfl ?_
  refine L_arg 1 4 0 C hX hbl hbA hL hik rfl rfl rfl (by decide) d_J_law_162 d_J_law_163 d_J_law_165 d_J_law_166 d_J_law_167 ?_
  refine L_wr (n := 2) C K ml_J_56 ws_start iz_J wc_start (by decide) (by decide +kernel) hw hr (by decide) hrc wBs.call (fun S h => h.1) rfl rfl d_J_law_168 ?_
  refine J_istore C2 d_J_law_171 (by decide) rfl ?_
  refine J_aload_n C2 3 d_J_law_173 rfl rfl ?_
  refine L_arg 1 5 1 C2 hX hbl hbA hL hik rfl rfl rfl (by decide) d_J_law_174 d_J_law_175 d_J_law_177 d_J_law_178 d_J_law_179 ?_
  refine L_mv (X := X.more 1 6) (rest := []) C2 K mi_M_start ml_J_59 rfl hm hr' (by decide) rfl rfl (Nat.le_of_ble_eq_true rfl) d_J_law_180 ?_
  refine J_goto (tgt := 732) C2 d_J_law_183 (by decide) ?_
  exact fin 1 6 _ _ _ _ [1, 2, 3, 4, 5] (by decide) (by decide) hq rfl
set_option maxRecDepth 100000 in
set_option maxHeartbeats 4000000 in
theorem law_stop_0 (C : jC X code 7 RXL 11 392) (K : lK X A G V G' U o cL) (hrc : X.cells + 1 ≤ X.R.cells ∧ X.slots + 6 ≤ X.R.slots) {b L i : Nat} {xs : Nat → Int32} (hX : va_X b L xs X.s X.s.heap) (hbl : b < X.s.heap.size) (hbA : ¬ A b) (hL : L ≤ 100000) (hik : i + 6 ≤ L) (hl : ∀ e, X.l.admits e → e.platform.stackTraces = false) (hT : T ≤ 1000000) (h : RH T σ N) (fin : ∀ (a c : Nat) (σ' : zS) (N' : zR) (fo' : Nat → Int64) (lv : List (Nat × Value)) (ks : List Nat), a ≤ 1 → c ≤ 6 → RH (T + 400) σ' N' → lv_pick lv ks = [(4, .int (nI i)), (3, .ref o), (2, .ref (U.1 43)), (1, .ref (V.1 0 0 0)), (0, .ref b)] → J (X.more a c) A 7 Q (lB G V σ' G' U N' o cL fo') 732 lv []) (hx : xs (i + 2) = 0) : J X A 7 Q (lB G V σ G' U N o cL fo) 186 [(4, .int (nI i)), (3, .ref o), (2, .ref (U.1 43)), (1, .ref (V.1 0 0 0)), (0, .ref b)] [] := by
  obtain ⟨k, fr, lo, fr', lo', σ', N', hw, hr, hm, hr', hk, hq⟩ := gh_stop hl K.1 K.2.1 h (xs (i + 1)) 0
  have C2 := C.more hrc
  refine J_aload_n C 3 d_J_law_186 rfl rfl ?_
  refine L_arg 1 4 0 C hX hbl hbA hL hik rfl rfl rfl (by decide) d_J_law_187 d_J_law_188 d_J_law_190 d_J_law_191 d_J_law_192 ?_
  refine L_arg 2 4 0 C hX hbl hbA hL hik rfl rfl rfl (by decide) d_J_law_193 d_J_law_194 d_J_law_196 d_J_law_197 d_J_law_198 ?_
  refine J_if_eq (tgt := 206) C d_J_law_199 (by decide) (fun _ => ?_) (fun c => absurd hx c)
  refine J_iconst (v := 0) C d_J_law_206 (by decide) ?_
  refine L_wr (n := 3) C K ml_J_60 ws_stop iz_J wc_stop (by decide) (by decide +kernel) hw hr (by decide) hrc wBs.call (fun S h => h.1) rfl rfl d_J_law_207 ?_
  refine J_istore C2 d_J_law_210 (by decide) rfl ?_
  refine J_aload_n C2 3 d_J_law_212 rfl rfl ?_
  refine L_arg 1 5 1 C2 hX hbl hbA hL hik rfl rfl rfl (by decide) d_J_law_213 d_J_law_214 d_J_law_216 d_J_law_217 d_J_law_218 ?_
  refine L_arg 2 5 1 C2 hX hbl hbA hL hik rfl rfl rfl (by decide) d_J_law_219 d_J_law_220 d_J_law_222 d_J_law_223 d_J_law_224 ?_
  refine J_if_eq (tgt := 232) C2 d_J_law_225 (by decide) (fun _ => ?_) (fun c => absurd hx c)
  refine J_iconst (v := 0) C2 d_J_law_232 (by decide) ?_
  refine L_mv (X := X.more 1 6) (rest := []) C2 K mi_M_stop ml_J_63 rfl hm hr' (by decide) rfl rfl (Nat.le_of_ble_eq_true rfl) d_J_law_233 ?_
  refine J_goto (tgt := 732) C2 d_J_law_236 (by decide) ?_
  exact fin 1 6 _ _ _ _ [1, 2, 3, 4, 5] (by decide) (by decide) hq rfl
set_option maxRecDepth 100000 in
set_option maxHeartbeats 4000000 in
theorem law_stop_1 (C : jC X code 7 RXL 11 392) (K : lK X A G V G' U o cL) (hrc : X.cells + 1 ≤ X.R.cells ∧ X.slots + 6 ≤ X.R.slots) {b L i : Nat} {xs : Nat → Int32} (hX : va_X b L xs X.s X.s.heap) (hbl : b < X.s.heap.size) (hbA : ¬ A b) (hL : L ≤ 100000) (hik : i + 6 ≤ L) (hl : ∀ e, X.l.admits e → e.platform.stackTraces = false) (hT : T ≤ 1000000) (h : RH T σ N) (fin : ∀ (a c : Nat) (σ' : zS) (N' : zR) (fo' : Nat → Int64) (lv : List (Nat × Value)) (ks : List Nat), a ≤ 1 → c ≤ 6 → RH (T + 400) σ' N' → lv_pick lv ks = [(4, .int (nI i)), (3, .ref o), (2, .ref (U.1 43)), (1, .ref (V.1 0 0 0)), (0, .ref b)] → J (X.more a c) A 7 Q (lB G V σ' G' U N' o cL fo') 732 lv []) (hx : ¬ xs (i + 2) = 0) : J X A 7 Q (lB G V σ G' U N o cL fo) 186 [(4, .int (nI i)), (3, .ref o), (2, .ref (U.1 43)), (1, .ref (V.1 0 0 0)), (0, .ref b)] [] := by
  obtain ⟨k, fr, lo, fr', lo', σ', N', hw, hr, hm, hr', hk, hq⟩ := gh_stop hl K.1 K.2.1 h (xs (i + 1)) 1
  have C2 := C.more hrc
  refine J_aload_n C 3 d_J_law_186 rfl rfl ?_
  refine L_arg 1 4 0 C hX hbl hbA hL hik rfl rfl rfl (by decide) d_J_law_187 d_J_law_188 d_J_law_190 d_J_law_191 d_J_law_192 ?_
  refine L_arg 2 4 0 C hX hbl hbA hL hik rfl rfl rfl (by decide) d_J_law_193 d_J_law_194 d_J_law_196 d_J_law_197 d_J_law_198 ?_
  refine J_if_eq (tgt := 206) C d_J_law_199 (by decide) (fun c => absurd c hx) (fun _ => ?_)
  refine J_iconst (v := 1) C d_J_law_202 (by decide) ?_
  refine J_goto (tgt := 207) C d_J_law_203 (by decide) ?_
  refine L_wr (n := 3) C K ml_J_60 ws_stop iz_J wc_stop (by decide) (by decide +kernel) hw hr (by decide) hrc wBs.call (fun S h => h.1) rfl rfl d_J_law_207 ?_
  refine J_istore C2 d_J_law_210 (by decide) rfl ?_
  refine J_aload_n C2 3 d_J_law_212 rfl rfl ?_
  refine L_arg 1 5 1 C2 hX hbl hbA hL hik rfl rfl rfl (by decide) d_J_law_213 d_J_law_214 d_J_law_216 d_J_law_217 d_J_law_218 ?_
  refine L_arg 2 5 1 C2 hX hbl hbA hL hik rfl rfl rfl (by decide) d_J_law_219 d_J_law_220 d_J_law_222 d_J_law_223 d_J_law_224 ?_
  refine J_if_eq (tgt := 232) C2 d_J_law_225 (by decide) (fun c => absurd c hx) (fun _ => ?_)
  refine J_iconst (v := 1) C2 d_J_law_228 (by decide) ?_
  refine J_goto (tgt := 233) C2 d_J_law_229 (by decide) ?_
  refine L_mv (X := X.more 1 6) (rest := []) C2 K mi_M_stop ml_J_63 rfl hm hr' (by decide) rfl rfl (Nat.le_of_ble_eq_true rfl) d_J_law_233 ?_
  refine J_goto (tgt := 732) C2 d_J_law_236 (by decide) ?_
  exact fin 1 6 _ _ _ _ [1, 2, 3, 4, 5] (by decide) (by decide) hq rfl
set_option maxRecDepth 100000 in
set_option maxHeartbeats 4000000 in
theorem law_open (C : jC X code 7 RXL 11 392) (K : lK X A G V G' U o cL) (hrc : X.cells + 1 ≤ X.R.cells ∧ X.slots + 6 ≤ X.R.slots) {b L i : Nat} {xs : Nat → Int32} (hX : va_X b L xs X.s X.s.heap) (hbl : b < X.s.heap.size) (hbA : ¬ A b) (hL : L ≤ 100000) (hik : i + 6 ≤ L) (hl : ∀ e, X.l.admits e → e.platform.stackTraces = false) (hT : T ≤ 1000000) (h : RH T σ N) (fin : ∀ (a c : Nat) (σ' : zS) (N' : zR) (fo' : Nat → Int64) (lv : List (Nat × Value)) (ks : List Nat), a ≤ 1 → c ≤ 6 → RH (T + 400) σ' N' → lv_pick lv ks = [(4, .int (nI i)), (3, .ref o), (2, .ref (U.1 43)), (1, .ref (V.1 0 0 0)), (0, .ref b)] → J (X.more a c) A 7 Q (lB G V σ' G' U N' o cL fo') 732 lv []) : J X A 7 Q (lB G V σ G' U N o cL fo) 239 [(4, .int (nI i)), (3, .ref o), (2, .ref (U.1 43)), (1, .ref (V.1 0 0 0)), (0, .ref b)] [] := by
  obtain ⟨k, fr, lo, fr', lo', σ', N', hw, hr, hm, hr', hk, hq⟩ := gh_open hl K.1 K.2.1 h (xs (i + 1)) (xs (i + 2)) (xs (i + 3)) (xs (i + 4)) (xs (i + 5))
  have C2 := C.more hrc
  refine J_aload_n C 3 d_J_law_239 rfl rfl ?_
  refine L_arg 1 4 0 C hX hbl hbA hL hik rfl rfl rfl (by decide) d_J_law_240 d_J_law_241 d_J_law_243 d_J_law_244 d_J_law_245 ?_
  refine L_arg 2 4 0 C hX hbl hbA hL hik rfl rfl rfl (by decide) d_J_law_246 d_J_law_247 d_J_law_249 d_J_law_250 d_J_law_251 ?_
  refine L_arg 3 4 0 C hX hbl hbA hL hik rfl rfl rfl (by decide) d_J_law_252 d_J_law_253 d_J_law_255 d_J_law_256 d_J_law_257 ?_
  refine L_arg 4 4 0 C hX hbl hbA hL hik rfl rfl rfl (by decide) d_J_law_258 d_J_law_259 d_J_law_261 d_J_law_262 d_J_law_263 ?_
  refine L_arg 5 4 0 C hX hbl hbA hL hik rfl rfl rfl (by decide) d_J_law_264 d_J_law_265 d_J_law_267 d_J_law_268 d_J_law_269 ?_
  refine L_wr (n := 6) C K ml_J_64 ws_open iz_J wc_open (by decide) (by decide +kernel) hw hr (by decide) hrc wBs.call (fun S h => h.1) rfl rfl d_J_law_270 ?_
  refine J_istore C2 d_J_law_273 (by decide) rfl ?_
  refine J_aload_n C2 3 d_J_law_275 rfl rfl ?_
  refine L_arg 1 5 1 C2 hX hbl hbA hL hik rfl rfl rfl (by decide) d_J_law_276 d_J_law_277 d_J_law_279 d_J_law_280 d_J_law_281 ?_
  refine L_arg 2 5 1 C2 hX hbl hbA hL hik rfl rfl rfl (by decide) d_J_law_282 d_J_law_283 d_J_law_285 d_J_law_286 d_J_law_287 ?_
  refine L_arg 3 5 1 C2 hX hbl hbA hL hik rfl rfl rfl (by decide) d_J_law_288 d_J_law_289 d_J_law_291 d_J_law_292 d_J_law_293 ?_
  refine L_arg 4 5 1 C2 hX hbl hbA hL hik rfl rfl rfl (by decide) d_J_law_294 d_J_law_295 d_J_law_297 d_J_law_298 d_J_law_299 ?_
  refine L_arg 5 5 1 C2 hX hbl hbA hL hik rfl rfl rfl (by decide) d_J_law_300 d_J_law_301 d_J_law_303 d_J_law_304 d_J_law_305 ?_
  refine L_mv (X := X.more 1 6) (rest := []) C2 K mi_M_open ml_J_67 rfl hm hr' (by decide) rfl rfl (Nat.le_of_ble_eq_true rfl) d_J_law_306 ?_
  refine J_goto (tgt := 732) C2 d_J_law_309 (by decide) ?_
  exact fin 1 6 _ _ _ _ [1, 2, 3, 4, 5] (by decide) (by decide) hq rfl
set_option maxRecDepth 100000 in
set_option maxHeartbeats 4000000 in
theorem law_change (C : jC X code 7 RXL 11 392) (K : lK X A G V G' U o cL) (hrc : X.cells + 1 ≤ X.R.cells ∧ X.slots + 6 ≤ X.R.slots) {b L i : Nat} {xs : Nat → Int32} (hX : va_X b L xs X.s X.s.heap) (hbl : b < X.s.heap.size) (hbA : ¬ A b) (hL : L ≤ 100000) (hik : i + 6 ≤ L) (hl : ∀ e, X.l.admits e → e.platform.stackTraces = false) (hT : T ≤ 1000000) (h : RH T σ N) (fin : ∀ (a c : Nat) (σ' : zS) (N' : zR) (fo' : Nat → Int64) (lv : List (Nat × Value)) (ks : List Nat), a ≤ 1 → c ≤ 6 → RH (T + 400) σ' N' → lv_pick lv ks = [(4, .int (nI i)), (3, .ref o), (2, .ref (U.1 43)), (1, .ref (V.1 0 0 0)), (0, .ref b)] → J (X.more a c) A 7 Q (lB G V σ' G' U N' o cL fo') 732 lv []) : J X A 7 Q (lB G V σ G' U N o cL fo) 312 [(4, .int (nI i)), (3, .ref o), (2, .ref (U.1 43)), (1, .ref (V.1 0 0 0)), (0, .ref b)] [] := by
  obtain ⟨k, fr, lo, fr', lo', σ', N', hw, hr, hm, hr', hk, hq⟩ := gh_change hl K.1 K.2.1 h (xs (i + 1)) (xs (i + 2)) (xs (i + 3)) (xs (i + 4))
  have C2 := C.more hrc
  refine J_aload_n C 3 d_J_law_312 rfl rfl ?_
  refine L_arg 1 4 0 C hX hbl hbA hL hik rfl rfl rfl (by decide) d_J_law_313 d_J_law_314 d_J_law_316 d_J_law_317 d_J_law_318 ?_
  refine L_arg 2 4 0 C hX hbl hbA hL hik rfl rfl rfl (by decide) d_J_law_319 d_J_law_320 d_J_law_322 d_J_law_323 d_J_law_324 ?_
  refine L_arg 3 4 0 C hX hbl hbA hL hik rfl rfl rfl (by decide) d_J_law_325 d_J_law_326 d_J_law_328 d_J_law_329 d_J_law_330 ?_
  refine L_arg 4 4 0 C hX hbl hbA hL hik rfl rfl rfl (by decide) d_J_law_331 d_J_law_332 d_J_law_334 d_J_law_335 d_J_law_336 ?_
  refine L_wr (n := 5) C K ml_J_68 ws_change iz_J wc_change (by decide) (by decide +kernel) hw hr (by decide) hrc wBs.call (fun S h => h.1) rfl rfl d_J_law_337 ?_
  refine J_istore C2 d_J_law_340 (by decide) rfl ?_
  refine J_aload_n C2 3 d_J_law_342 rfl rfl ?_
  refine L_arg 1 5 1 C2 hX hbl hbA hL hik rfl rfl rfl (by decide) d_J_law_343 d_J_law_344 d_J_law_346 d_J_law_347 d_J_law_348 ?_
  refine L_arg 2 5 1 C2 hX hbl hbA hL hik rfl rfl rfl (by decide) d_J_law_349 d_J_law_350 d_J_law_352 d_J_law_353 d_J_law_354 ?_
  refine L_arg 3 5 1 C2 hX hbl hbA hL hik rfl rfl rfl (by decide) d_J_law_355 d_J_law_356 d_J_law_358 d_J_law_359 d_J_law_360 ?_
  refine L_arg 4 5 1 C2 hX hbl hbA hL hik rfl rfl rfl (by decide) d_J_law_361 d_J_law_362 d_J_law_364 d_J_law_365 d_J_law_366 ?_
  refine L_mv (X := X.more 1 6) (rest := []) C2 K mi_M_change ml_J_71 rfl hm hr' (by decide) rfl rfl (Nat.le_of_ble_eq_true rfl) d_J_law_367 ?_
  refine J_goto (tgt := 732) C2 d_J_law_370 (by decide) ?_
  exact fin 1 6 _ _ _ _ [1, 2, 3, 4, 5] (by decide) (by decide) hq rfl
set_option maxRecDepth 100000 in
set_option maxHeartbeats 4000000 in
theorem law_ask (C : jC X code 7 RXL 11 392) (K : lK X A G V G' U o cL) (hrc : X.cells + 1 ≤ X.R.cells ∧ X.slots + 6 ≤ X.R.slots) {b L i : Nat} {xs : Nat → Int32} (hX : va_X b L xs X.s X.s.heap) (hbl : b < X.s.heap.size) (hbA : ¬ A b) (hL : L ≤ 100000) (hik : i + 6 ≤ L) (hl : ∀ e, X.l.admits e → e.platform.stackTraces = false) (hT : T ≤ 1000000) (h : RH T σ N) (fin : ∀ (a c : Nat) (σ' : zS) (N' : zR) (fo' : Nat → Int64) (lv : List (Nat × Value)) (ks : List Nat), a ≤ 1 → c ≤ 6 → RH (T + 400) σ' N' → lv_pick lv ks = [(4, .int (nI i)), (3, .ref o), (2, .ref (U.1 43)), (1, .ref (V.1 0 0 0)), (0, .ref b)] → J (X.more a c) A 7 Q (lB G V σ' G' U N' o cL fo') 732 lv []) : J X A 7 Q (lB G V σ G' U N o cL fo) 373 [(4, .int (nI i)), (3, .ref o), (2, .ref (U.1 43)), (1, .ref (V.1 0 0 0)), (0, .ref b)] [] := by
  obtain ⟨k, fr, lo, fr', lo', σ', N', hw, hr, hm, hr', hk, hq⟩ := gh_ask hl K.1 K.2.1 h (xs (i + 1))
  have C2 := C.more hrc
  refine J_aload_n C 3 d_J_law_373 rfl rfl ?_
  refine L_arg 1 4 0 C hX hbl hbA hL hik rfl rfl rfl (by decide) d_J_law_374 d_J_law_375 d_J_law_377 d_J_law_378 d_J_law_379 ?_
  refine L_wr (n := 2) C K ml_J_72 ws_ask iz_J wc_ask (by decide) (by decide +kernel) hw hr (by decide) hrc wBs.call (fun S h => h.1) rfl rfl d_J_law_380 ?_
  refine J_istore C2 d_J_law_383 (by decide) rfl ?_
  refine J_aload_n C2 3 d_J_law_385 rfl rfl ?_
  refine L_arg 1 5 1 C2 hX hbl hbA hL hik rfl rfl rfl (by decide) d_J_law_386 d_J_law_387 d_J_law_389 d_J_law_390 d_J_law_391 ?_
  refine L_mv (X := X.more 1 6) (rest := []) C2 K mi_M_ask ml_J_74 rfl hm hr' (by decide) rfl rfl (Nat.le_of_ble_eq_true rfl) d_J_law_392 ?_
  refine J_goto (tgt := 732) C2 d_J_law_395 (by decide) ?_
  exact fin 1 6 _ _ _ _ [1, 2, 3, 4, 5] (by decide) (by decide) hq rfl
set_option maxRecDepth 100000 in
set_option maxHeartbeats 4000000 in
theorem law_tick_1 (C : jC X code 7 RXL 11 392) (K : lK X A G V G' U o cL) (hrc : X.cells + 1 ≤ X.R.cells ∧ X.slots + 6 ≤ X.R.slots) {b L i : Nat} {xs : Nat → Int32} (hX : va_X b L xs X.s X.s.heap) (hbl : b < X.s.heap.size) (hbA : ¬ A b) (hL : L ≤ 100000) (hik : i + 6 ≤ L) (hl : ∀ e, X.l.admits e → e.platform.stackTraces = false) (hT : T ≤ 1000000) (h : RH T σ N) (fin : ∀ (a c : Nat) (σ' : zS) (N' : zR) (fo' : Nat → Int64) (lv : List (Nat × Value)) (ks : List Nat), a ≤ 1 → c ≤ 6 → RH (T + 400) σ' N' → lv_pick lv ks = [(4, .int (nI i)), (3, .ref o), (2, .ref (U.1 43)), (1, .ref (V.1 0 0 0)), (0, .ref b)] → J (X.more a c) A 7 Q (lB G V σ' G' U N' o cL fo') 732 lv []) (hx : xs (i + 1) < 1 ∨ ¬ xs (i + 1) ≤ 400) : J X A 7 Q (lB G V σ G' U N o cL fo) 398 [(4, .int (nI i)), (3, .ref o), (2, .ref (U.1 43)), (1, .ref (V.1 0 0 0)), (0, .ref b)] [] := by
  obtain ⟨fr, lo, fr', lo', N', hw, hr, hm, hr', hk, hq⟩ := gh_tick_1 hl K.1 K.2.1 h (xs (i + 1)) o hx
  have hk0 : ¬ (1 : Int32) = 0 := by decide
  have C2 := C.more hrc
  refine J_aload_n C 3 d_J_law_398 rfl rfl ?_
  refine L_arg 1 4 0 C hX hbl hbA hL hik rfl rfl rfl (by decide) d_J_law_399 d_J_law_400 d_J_law_402 d_J_law_403 d_J_law_404 ?_
  refine J_aload_n C 1 d_J_law_405 rfl rfl ?_
  refine L_wr (n := 3) C K ml_J_75 ws_tick iz_J wc_tick (by decide) (by decide +kernel) hw hr (by decide) hrc wBs.call (fun S h => h.1) rfl rfl d_J_law_406 ?_
  refine J_istore C2 d_J_law_409 (by decide) rfl ?_
  refine J_aload_n C2 3 d_J_law_411 rfl rfl ?_
  refine L_arg 1 5 1 C2 hX hbl hbA hL hik rfl rfl rfl (by decide) d_J_law_412 d_J_law_413 d_J_law_415 d_J_law_416 d_J_law_417 ?_
  refine L_mv (X := X.more 1 6) (rest := []) C2 K mi_M_tick ml_J_78 rfl hm hr' (by decide) rfl rfl (Nat.le_of_ble_eq_true rfl) d_J_law_418 ?_
  refine J_istore C2 d_J_law_421 (by decide) rfl ?_
  refine J_goto (tgt := 732) C2 d_J_law_423 (by decide) ?_
  exact fin 1 6 _ _ _ _ [2, 3, 4, 5, 6] (by decide) (by decide) hq rfl
set_option maxRecDepth 100000 in
set_option maxHeartbeats 4000000 in
theorem law_tick_0 (C : jC X code 7 RXL 11 392) (K : lK X A G V G' U o cL) (hrc : X.cells + 1 ≤ X.R.cells ∧ X.slots + 6 ≤ X.R.slots) {b L i : Nat} {xs : Nat → Int32} (hX : va_X b L xs X.s X.s.heap) (hbl : b < X.s.heap.size) (hbA : ¬ A b) (hL : L ≤ 100000) (hik : i + 6 ≤ L) (hl : ∀ e, X.l.admits e → e.platform.stackTraces = false) (hT : T ≤ 1000000) (h : RH T σ N) (fin : ∀ (a c : Nat) (σ' : zS) (N' : zR) (fo' : Nat → Int64) (lv : List (Nat × Value)) (ks : List Nat), a ≤ 1 → c ≤ 6 → RH (T + 400) σ' N' → lv_pick lv ks = [(4, .int (nI i)), (3, .ref o), (2, .ref (U.1 43)), (1, .ref (V.1 0 0 0)), (0, .ref b)] → J (X.more a c) A 7 Q (lB G V σ' G' U N' o cL fo') 732 lv []) (n : Nat) (hn1 : 1 ≤ n) (hn4 : n ≤ 400) (hx : xs (i + 1) = nI n) : J X A 7 Q (lB G V σ G' U N o cL fo) 398 [(4, .int (nI i)), (3, .ref o), (2, .ref (U.1 43)), (1, .ref (V.1 0 0 0)), (0, .ref b)] [] := by
  obtain ⟨fr, lo, fr', lo', b0, σ', N', hw, hr, hm, hr', hk, hq⟩ := gh_tick_0 (l := X.l) K.1 K.2.1 hT h n hn1 hn4 o cL fo K.2.2.2.2.2.2.1
  have C2 := C.more hrc
  refine J_aload_n C 3 d_J_law_398 rfl rfl ?_
  refine L_arg 1 4 0 C hX hbl hbA hL hik rfl rfl rfl (by decide) d_J_law_399 d_J_law_400 d_J_law_402 d_J_law_403 d_J_law_404 ?_
  rw [hx]
  refine J_aload_n C 1 d_J_law_405 rfl rfl ?_
  refine L_wrT (n := 3) C K ml_J_75 ws_tick iz_J wc_tick (by decide) (by decide +kernel) hw hr (by decide) hrc rfl rfl d_J_law_406 ?_
  refine J_istore C2 d_J_law_409 (by decide) rfl ?_
  refine J_aload_n C2 3 d_J_law_411 rfl rfl ?_
  refine L_arg 1 5 1 C2 hX hbl hbA hL hik rfl rfl rfl (by decide) d_J_law_412 d_J_law_413 d_J_law_415 d_J_law_416 d_J_law_417 ?_
  rw [hx]
  refine L_mv (X := X.more 1 6) (rest := []) C2 K mi_M_tick ml_J_78 rfl hm hr' (by decide) rfl rfl (Nat.le_of_ble_eq_true rfl) d_J_law_418 ?_
  refine J_istore C2 d_J_law_421 (by decide) rfl ?_
  refine J_goto (tgt := 732) C2 d_J_law_423 (by decide) ?_
  exact fin 1 6 _ _ _ _ [2, 3, 4, 5, 6] (by decide) (by decide) hq rfl
set_option maxRecDepth 100000 in
set_option maxHeartbeats 4000000 in
theorem law_type (C : jC X code 7 RXL 11 392) (K : lK X A G V G' U o cL) (hrc : X.cells + 1 ≤ X.R.cells ∧ X.slots + 6 ≤ X.R.slots) {b L i : Nat} {xs : Nat → Int32} (hX : va_X b L xs X.s X.s.heap) (hbl : b < X.s.heap.size) (hbA : ¬ A b) (hL : L ≤ 100000) (hik : i + 6 ≤ L) (hl : ∀ e, X.l.admits e → e.platform.stackTraces = false) (hT : T ≤ 1000000) (h : RH T σ N) (fin : ∀ (a c : Nat) (σ' : zS) (N' : zR) (fo' : Nat → Int64) (lv : List (Nat × Value)) (ks : List Nat), a ≤ 1 → c ≤ 6 → RH (T + 400) σ' N' → lv_pick lv ks = [(4, .int (nI i)), (3, .ref o), (2, .ref (U.1 43)), (1, .ref (V.1 0 0 0)), (0, .ref b)] → J (X.more a c) A 7 Q (lB G V σ' G' U N' o cL fo') 732 lv []) : J X A 7 Q (lB G V σ G' U N o cL fo) 426 [(4, .int (nI i)), (3, .ref o), (2, .ref (U.1 43)), (1, .ref (V.1 0 0 0)), (0, .ref b)] [] := by
  obtain ⟨k, k', fr, lo, fr', lo', σ', N', hc, hr, hm, hr', hq, hv⟩ := gh_type (l := X.l) K.1 K.2.1 h (((xs (i + 1)).toInt64 <<< ((32 : Int32).toInt64 &&& 63)) ||| ((xs (i + 2)).toInt64 &&& 4294967295)) (xs (i + 3))
  refine J_aload_n C 3 d_J_law_426 rfl rfl ?_
  refine L_arg 1 4 0 C hX hbl hbA hL hik rfl rfl rfl (by decide) d_J_law_427 d_J_law_428 d_J_law_430 d_J_law_431 d_J_law_432 ?_
  refine J_i2l C d_J_law_433 ?_
  refine J_bipush (v := 32) C d_J_law_434 (by decide) ?_
  refine J_lshl C d_J_law_436 ?_
  refine L_arg 2 4 0 C hX hbl hbA hL hik rfl rfl rfl (by decide) d_J_law_437 d_J_law_438 d_J_law_440 d_J_law_441 d_J_law_442 ?_
  refine J_i2l C d_J_law_443 ?_
  refine J_ldc2 C cl_J_79 d_J_law_444 ?_
  refine J_land C d_J_law_447 ?_
  refine J_lor C d_J_law_448 ?_
  refine L_arg 3 4 0 C hX hbl hbA hL hik rfl rfl rfl (by decide) d_J_law_449 d_J_law_450 d_J_law_452 d_J_law_453 d_J_law_454 ?_
  refine L_cv (rest := []) C K mi_L_type ml_J_81 rfl hc hr (by decide) rfl rfl (by decide) d_J_law_455 ?_
  refine J_pop C d_J_law_458 rfl ?_
  refine J_aload_n C 2 d_J_law_459 rfl rfl ?_
  refine L_arg 1 4 0 C hX hbl hbA hL hik rfl rfl rfl (by decide) d_J_law_460 d_J_law_461 d_J_law_463 d_J_law_464 d_J_law_465 ?_
  refine J_i2l C d_J_law_466 ?_
  refine J_bipush (v := 32) C d_J_law_467 (by decide) ?_
  refine J_lshl C d_J_law_469 ?_
  refine L_arg 2 4 0 C hX hbl hbA hL hik rfl rfl rfl (by decide) d_J_law_470 d_J_law_471 d_J_law_473 d_J_law_474 d_J_law_475 ?_
  refine J_i2l C d_J_law_476 ?_
  refine J_ldc2 C cl_J_79 d_J_law_477 ?_
  refine J_land C d_J_law_480 ?_
  refine J_lor C d_J_law_481 ?_
  refine L_arg 3 4 0 C hX hbl hbA hL hik rfl rfl rfl (by decide) d_J_law_482 d_J_law_483 d_J_law_485 d_J_law_486 d_J_law_487 ?_
  refine L_mv (rest := []) C K mi_M_type ml_J_85 rfl hm hr' (by decide) rfl rfl (Nat.le_of_ble_eq_true rfl) d_J_law_488 ?_
  refine J_pop C d_J_law_491 rfl ?_
  refine J_goto (tgt := 732) C d_J_law_492 (by decide) ?_
  exact fin 0 0 _ _ _ _ [0, 1, 2, 3, 4] (by decide) (by decide) hq rfl
set_option maxRecDepth 100000 in
set_option maxHeartbeats 4000000 in
theorem law_arrive_1 (C : jC X code 7 RXL 11 392) (K : lK X A G V G' U o cL) (hrc : X.cells + 1 ≤ X.R.cells ∧ X.slots + 6 ≤ X.R.slots) {b L i : Nat} {xs : Nat → Int32} (hX : va_X b L xs X.s X.s.heap) (hbl : b < X.s.heap.size) (hbA : ¬ A b) (hL : L ≤ 100000) (hik : i + 6 ≤ L) (hl : ∀ e, X.l.admits e → e.platform.stackTraces = false) (hT : T ≤ 1000000) (h : RH T σ N) (fin : ∀ (a c : Nat) (σ' : zS) (N' : zR) (fo' : Nat → Int64) (lv : List (Nat × Value)) (ks : List Nat), a ≤ 1 → c ≤ 6 → RH (T + 400) σ' N' → lv_pick lv ks = [(4, .int (nI i)), (3, .ref o), (2, .ref (U.1 43)), (1, .ref (V.1 0 0 0)), (0, .ref b)] → J (X.more a c) A 7 Q (lB G V σ' G' U N' o cL fo') 732 lv []) (hx : lIsR (xs (i + 1)) = 0 ∨ ((¬ xs (i + 2) = 1 ∧ ¬ xs (i + 2) = 2) ∨ xs (i + 3) < 0 ∨ 15 ≤ xs (i + 3) ∨ xs (i + 4) < 0 ∨ ¬ xs (i + 4) ≤ 255) ∨ σ.1 2 (xs (i + 1)).toNatClampNeg 0 4 = 0) : J X A 7 Q (lB G V σ G' U N o cL fo) 495 [(4, .int (nI i)), (3, .ref o), (2, .ref (U.1 43)), (1, .ref (V.1 0 0 0)), (0, .ref b)] [] := by
  obtain ⟨k0, fr, lo, fr', lo', N', hw, hr, hm, hr', hk, hk0, hq⟩ := gh_arrive_t hl K.1 K.2.1 h (xs (i + 1)) (xs (i + 2)) (xs (i + 3)) (xs (i + 4)) (xs (i + 5)) o hx
  have C2 := C.more hrc
  refine J_aload_n C 3 d_J_law_495 rfl rfl ?_
  refine L_arg 1 4 0 C hX hbl hbA hL hik rfl rfl rfl (by decide) d_J_law_496 d_J_law_497 d_J_law_499 d_J_law_500 d_J_law_501 ?_
  refine L_arg 2 4 0 C hX hbl hbA hL hik rfl rfl rfl (by decide) d_J_law_502 d_J_law_503 d_J_law_505 d_J_law_506 d_J_law_507 ?_
  refine L_arg 3 4 0 C hX hbl hbA hL hik rfl rfl rfl (by decide) d_J_law_508 d_J_law_509 d_J_law_511 d_J_law_512 d_J_law_513 ?_
  refine L_arg 4 4 0 C hX hbl hbA hL hik rfl rfl rfl (by decide) d_J_law_514 d_J_law_515 d_J_law_517 d_J_law_518 d_J_law_519 ?_
  refine L_arg 5 4 0 C hX hbl hbA hL hik rfl rfl rfl (by decide) d_J_law_520 d_J_law_521 d_J_law_523 d_J_law_524 d_J_law_525 ?_
  refine J_aload_n C 1 d_J_law_526 rfl rfl ?_
  refine L_wr (n := 7) C K ml_J_86 ws_arrive iz_J wc_arrive (by decide) (by decide +kernel) hw hr (by decide) hrc wBs.call (fun S h => h.1) rfl rfl d_J_law_527 ?_
  refine J_istore C2 d_J_law_530 (by decide) rfl ?_
  refine J_aload_n C2 3 d_J_law_532 rfl rfl ?_
  refine L_arg 1 5 1 C2 hX hbl hbA hL hik rfl rfl rfl (by decide) d_J_law_533 d_J_law_534 d_J_law_536 d_J_law_537 d_J_law_538 ?_
  refine L_arg 2 5 1 C2 hX hbl hbA hL hik rfl rfl rfl (by decide) d_J_law_539 d_J_law_540 d_J_law_542 d_J_law_543 d_J_law_544 ?_
  refine L_arg 3 5 1 C2 hX hbl hbA hL hik rfl rfl rfl (by decide) d_J_law_545 d_J_law_546 d_J_law_548 d_J_law_549 d_J_law_550 ?_
  refine L_arg 4 5 1 C2 hX hbl hbA hL hik rfl rfl rfl (by decide) d_J_law_551 d_J_law_552 d_J_law_554 d_J_law_555 d_J_law_556 ?_
  refine L_arg 5 5 1 C2 hX hbl hbA hL hik rfl rfl rfl (by decide) d_J_law_557 d_J_law_558 d_J_law_560 d_J_law_561 d_J_law_562 ?_
  refine L_mv (X := X.more 1 6) (rest := []) C2 K mi_M_arrive ml_J_89 rfl hm hr' (by decide) rfl rfl (Nat.le_of_ble_eq_true rfl) d_J_law_563 ?_
  refine J_istore C2 d_J_law_566 (by decide) rfl ?_
  refine J_goto (tgt := 732) C2 d_J_law_568 (by decide) ?_
  exact fin 1 6 _ _ _ _ [2, 3, 4, 5, 6] (by decide) (by decide) hq rfl
set_option maxRecDepth 100000 in
set_option maxHeartbeats 4000000 in
theorem law_arrive_0 (C : jC X code 7 RXL 11 392) (K : lK X A G V G' U o cL) (hrc : X.cells + 1 ≤ X.R.cells ∧ X.slots + 6 ≤ X.R.slots) {b L i : Nat} {xs : Nat → Int32} (hX : va_X b L xs X.s X.s.heap) (hbl : b < X.s.heap.size) (hbA : ¬ A b) (hL : L ≤ 100000) (hik : i + 6 ≤ L) (hl : ∀ e, X.l.admits e → e.platform.stackTraces = false) (hT : T ≤ 1000000) (h : RH T σ N) (fin : ∀ (a c : Nat) (σ' : zS) (N' : zR) (fo' : Nat → Int64) (lv : List (Nat × Value)) (ks : List Nat), a ≤ 1 → c ≤ 6 → RH (T + 400) σ' N' → lv_pick lv ks = [(4, .int (nI i)), (3, .ref o), (2, .ref (U.1 43)), (1, .ref (V.1 0 0 0)), (0, .ref b)] → J (X.more a c) A 7 Q (lB G V σ' G' U N' o cL fo') 732 lv []) (h1 : ¬ lIsR (xs (i + 1)) = 0) (h2 : ¬ ((¬ xs (i + 2) = 1 ∧ ¬ xs (i + 2) = 2) ∨ xs (i + 3) < 0 ∨ 15 ≤ xs (i + 3) ∨ xs (i + 4) < 0 ∨ ¬ xs (i + 4) ≤ 255)) (h3 : ¬ σ.1 2 (xs (i + 1)).toNatClampNeg 0 4 = 0) : J X A 7 Q (lB G V σ G' U N o cL fo) 495 [(4, .int (nI i)), (3, .ref o), (2, .ref (U.1 43)), (1, .ref (V.1 0 0 0)), (0, .ref b)] [] := by
  obtain ⟨fr, lo, fr', lo', v0, b0, σ', N', hw, hr, hm, hr', hk, hq, hv0⟩ := gh_arrive_0 (l := X.l) K.1 K.2.1 h (xs (i + 1)) (xs (i + 2)) (xs (i + 3)) (xs (i + 4)) (xs (i + 5)) o cL fo K.2.2.2.2.2.2.1 h1 h2 h3
  have C2 := C.more hrc
  refine J_aload_n C 3 d_J_law_495 rfl rfl ?_
  refine L_arg 1 4 0 C hX hbl hbA hL hik rfl rfl rfl (by decide) d_J_law_496 d_J_law_497 d_J_law_499 d_J_law_500 d_J_law_501 ?_
  refine L_arg 2 4 0 C hX hbl hbA hL hik rfl rfl rfl (by decide) d_J_law_502 d_J_law_503 d_J_law_505 d_J_law_506 d_J_law_507 ?_
  refine L_arg 3 4 0 C hX hbl hbA hL hik rfl rfl rfl (by decide) d_J_law_508 d_J_law_509 d_J_law_511 d_J_law_512 d_J_law_513 ?_
  refine L_arg 4 4 0 C hX hbl hbA hL hik rfl rfl rfl (by decide) d_J_law_514 d_J_law_515 d_J_law_517 d_J_law_518 d_J_law_519 ?_
  refine L_arg 5 4 0 C hX hbl hbA hL hik rfl rfl rfl (by decide) d_J_law_520 d_J_law_521 d_J_law_523 d_J_law_524 d_J_law_525 ?_
  refine J_aload_n C 1 d_J_law_526 rfl rfl ?_
  refine L_wrT (n := 7) C K ml_J_86 ws_arrive iz_J wc_arrive (by decide) (by decide +kernel) hw hr (by decide) hrc rfl rfl d_J_law_527 ?_
  refine J_istore C2 d_J_law_530 (by decide) rfl ?_
  refine J_aload_n C2 3 d_J_law_532 rfl rfl ?_
  refine L_arg 1 5 1 C2 hX hbl hbA hL hik rfl rfl rfl (by decide) d_J_law_533 d_J_law_534 d_J_law_536 d_J_law_537 d_J_law_538 ?_
  refine L_arg 2 5 1 C2 hX hbl hbA hL hik rfl rfl rfl (by decide) d_J_law_539 d_J_law_540 d_J_law_542 d_J_law_543 d_J_law_544 ?_
  refine L_arg 3 5 1 C2 hX hbl hbA hL hik rfl rfl rfl (by decide) d_J_law_545 d_J_law_546 d_J_law_548 d_J_law_549 d_J_law_550 ?_
  refine L_arg 4 5 1 C2 hX hbl hbA hL hik rfl rfl rfl (by decide) d_J_law_551 d_J_law_552 d_J_law_554 d_J_law_555 d_J_law_556 ?_
  refine L_arg 5 5 1 C2 hX hbl hbA hL hik rfl rfl rfl (by decide) d_J_law_557 d_J_law_558 d_J_law_560 d_J_law_561 d_J_law_562 ?_
  refine L_mv (X := X.more 1 6) (rest := []) C2 K mi_M_arrive ml_J_89 rfl hm hr' (by decide) rfl rfl (Nat.le_of_ble_eq_true rfl) d_J_law_563 ?_
  refine J_istore C2 d_J_law_566 (by decide) rfl ?_
  refine J_goto (tgt := 732) C2 d_J_law_568 (by decide) ?_
  exact fin 1 6 _ _ _ _ [2, 3, 4, 5, 6] (by decide) (by decide) hq rfl
set_option maxRecDepth 100000 in
set_option maxHeartbeats 4000000 in
theorem law_router (C : jC X code 7 RXL 11 392) (K : lK X A G V G' U o cL) (hrc : X.cells + 1 ≤ X.R.cells ∧ X.slots + 6 ≤ X.R.slots) {b L i : Nat} {xs : Nat → Int32} (hX : va_X b L xs X.s X.s.heap) (hbl : b < X.s.heap.size) (hbA : ¬ A b) (hL : L ≤ 100000) (hik : i + 6 ≤ L) (hl : ∀ e, X.l.admits e → e.platform.stackTraces = false) (hT : T ≤ 1000000) (h : RH T σ N) (fin : ∀ (a c : Nat) (σ' : zS) (N' : zR) (fo' : Nat → Int64) (lv : List (Nat × Value)) (ks : List Nat), a ≤ 1 → c ≤ 6 → RH (T + 400) σ' N' → lv_pick lv ks = [(4, .int (nI i)), (3, .ref o), (2, .ref (U.1 43)), (1, .ref (V.1 0 0 0)), (0, .ref b)] → J (X.more a c) A 7 Q (lB G V σ' G' U N' o cL fo') 732 lv []) : J X A 7 Q (lB G V σ G' U N o cL fo) 571 [(4, .int (nI i)), (3, .ref o), (2, .ref (U.1 43)), (1, .ref (V.1 0 0 0)), (0, .ref b)] [] := by
  obtain ⟨k, k', fr, lo, fr', lo', σ', N', hc, hr, hm, hr', hq, hv⟩ := gh_router (l := X.l) K.1 K.2.1 h (xs (i + 1)) (xs (i + 2))
  refine J_aload_n C 3 d_J_law_571 rfl rfl ?_
  refine L_arg 1 4 0 C hX hbl hbA hL hik rfl rfl rfl (by decide) d_J_law_572 d_J_law_573 d_J_law_575 d_J_law_576 d_J_law_577 ?_
  refine L_arg 2 4 0 C hX hbl hbA hL hik rfl rfl rfl (by decide) d_J_law_578 d_J_law_579 d_J_law_581 d_J_law_582 d_J_law_583 ?_
  refine L_cv (rest := []) C K mi_L_router ml_J_90 rfl hc hr (by decide) rfl rfl (by decide) d_J_law_584 ?_
  refine J_pop C d_J_law_587 rfl ?_
  refine J_aload_n C 2 d_J_law_588 rfl rfl ?_
  refine L_arg 1 4 0 C hX hbl hbA hL hik rfl rfl rfl (by decide) d_J_law_589 d_J_law_590 d_J_law_592 d_J_law_593 d_J_law_594 ?_
  refine L_arg 2 4 0 C hX hbl hbA hL hik rfl rfl rfl (by decide) d_J_law_595 d_J_law_596 d_J_law_598 d_J_law_599 d_J_law_600 ?_
  refine L_mv (rest := []) C K mi_M_router ml_J_94 rfl hm hr' (by decide) rfl rfl (Nat.le_of_ble_eq_true rfl) d_J_law_601 ?_
  refine J_pop C d_J_law_604 rfl ?_
  refine J_goto (tgt := 732) C d_J_law_605 (by decide) ?_
  exact fin 0 0 _ _ _ _ [0, 1, 2, 3, 4] (by decide) (by decide) hq rfl
set_option maxRecDepth 100000 in
set_option maxHeartbeats 4000000 in
theorem law_session (C : jC X code 7 RXL 11 392) (K : lK X A G V G' U o cL) (hrc : X.cells + 1 ≤ X.R.cells ∧ X.slots + 6 ≤ X.R.slots) {b L i : Nat} {xs : Nat → Int32} (hX : va_X b L xs X.s X.s.heap) (hbl : b < X.s.heap.size) (hbA : ¬ A b) (hL : L ≤ 100000) (hik : i + 6 ≤ L) (hl : ∀ e, X.l.admits e → e.platform.stackTraces = false) (hT : T ≤ 1000000) (h : RH T σ N) (fin : ∀ (a c : Nat) (σ' : zS) (N' : zR) (fo' : Nat → Int64) (lv : List (Nat × Value)) (ks : List Nat), a ≤ 1 → c ≤ 6 → RH (T + 400) σ' N' → lv_pick lv ks = [(4, .int (nI i)), (3, .ref o), (2, .ref (U.1 43)), (1, .ref (V.1 0 0 0)), (0, .ref b)] → J (X.more a c) A 7 Q (lB G V σ' G' U N' o cL fo') 732 lv []) : J X A 7 Q (lB G V σ G' U N o cL fo) 608 [(4, .int (nI i)), (3, .ref o), (2, .ref (U.1 43)), (1, .ref (V.1 0 0 0)), (0, .ref b)] [] := by
  obtain ⟨k, k', fr, lo, fr', lo', σ', N', hc, hr, hm, hr', hq, hv⟩ := gh_session (l := X.l) K.1 K.2.1 h (xs (i + 1)) (xs (i + 2)) (xs (i + 3))
  refine J_aload_n C 3 d_J_law_608 rfl rfl ?_
  refine L_arg 1 4 0 C hX hbl hbA hL hik rfl rfl rfl (by decide) d_J_law_609 d_J_law_610 d_J_law_612 d_J_law_613 d_J_law_614 ?_
  refine L_arg 2 4 0 C hX hbl hbA hL hik rfl rfl rfl (by decide) d_J_law_615 d_J_law_616 d_J_law_618 d_J_law_619 d_J_law_620 ?_
  refine L_arg 3 4 0 C hX hbl hbA hL hik rfl rfl rfl (by decide) d_J_law_621 d_J_law_622 d_J_law_624 d_J_law_625 d_J_law_626 ?_
  refine L_cv (rest := []) C K mi_L_session ml_J_95 rfl hc hr (by decide) rfl rfl (by decide) d_J_law_627 ?_
  refine J_pop C d_J_law_630 rfl ?_
  refine J_aload_n C 2 d_J_law_631 rfl rfl ?_
  refine L_arg 1 4 0 C hX hbl hbA hL hik rfl rfl rfl (by decide) d_J_law_632 d_J_law_633 d_J_law_635 d_J_law_636 d_J_law_637 ?_
  refine L_arg 2 4 0 C hX hbl hbA hL hik rfl rfl rfl (by decide) d_J_law_638 d_J_law_639 d_J_law_641 d_J_law_642 d_J_law_643 ?_
  refine L_arg 3 4 0 C hX hbl hbA hL hik rfl rfl rfl (by decide) d_J_law_644 d_J_law_645 d_J_law_647 d_J_law_648 d_J_law_649 ?_
  refine L_mv (rest := []) C K mi_M_session ml_J_99 rfl hm hr' (by decide) rfl rfl (Nat.le_of_ble_eq_true rfl) d_J_law_650 ?_
  refine J_pop C d_J_law_653 rfl ?_
  refine J_goto (tgt := 732) C d_J_law_654 (by decide) ?_
  exact fin 0 0 _ _ _ _ [0, 1, 2, 3, 4] (by decide) (by decide) hq rfl
set_option maxRecDepth 100000 in
set_option maxHeartbeats 4000000 in
theorem law_port (C : jC X code 7 RXL 11 392) (K : lK X A G V G' U o cL) (hrc : X.cells + 1 ≤ X.R.cells ∧ X.slots + 6 ≤ X.R.slots) {b L i : Nat} {xs : Nat → Int32} (hX : va_X b L xs X.s X.s.heap) (hbl : b < X.s.heap.size) (hbA : ¬ A b) (hL : L ≤ 100000) (hik : i + 6 ≤ L) (hl : ∀ e, X.l.admits e → e.platform.stackTraces = false) (hT : T ≤ 1000000) (h : RH T σ N) (fin : ∀ (a c : Nat) (σ' : zS) (N' : zR) (fo' : Nat → Int64) (lv : List (Nat × Value)) (ks : List Nat), a ≤ 1 → c ≤ 6 → RH (T + 400) σ' N' → lv_pick lv ks = [(4, .int (nI i)), (3, .ref o), (2, .ref (U.1 43)), (1, .ref (V.1 0 0 0)), (0, .ref b)] → J (X.more a c) A 7 Q (lB G V σ' G' U N' o cL fo') 732 lv []) : J X A 7 Q (lB G V σ G' U N o cL fo) 657 [(4, .int (nI i)), (3, .ref o), (2, .ref (U.1 43)), (1, .ref (V.1 0 0 0)), (0, .ref b)] [] := by
  obtain ⟨k, k', fr, lo, fr', lo', σ', N', hc, hr, hm, hr', hq, hv⟩ := gh_port (l := X.l) K.1 K.2.1 h (xs (i + 1))
  refine J_aload_n C 3 d_J_law_657 rfl rfl ?_
  refine L_arg 1 4 0 C hX hbl hbA hL hik rfl rfl rfl (by decide) d_J_law_658 d_J_law_659 d_J_law_661 d_J_law_662 d_J_law_663 ?_
  refine L_cv (rest := []) C K mi_L_port ml_J_100 rfl hc hr (by decide) rfl rfl (by decide) d_J_law_664 ?_
  refine J_aload_n C 2 d_J_law_667 rfl rfl ?_
  refine L_arg 1 4 0 C hX hbl hbA hL hik rfl rfl rfl (by decide) d_J_law_668 d_J_law_669 d_J_law_671 d_J_law_672 d_J_law_673 ?_
  refine L_mv (rest := [.int k]) C K mi_M_port ml_J_103 rfl hm hr' (by decide) rfl rfl (Nat.le_of_ble_eq_true rfl) d_J_law_674 ?_
  refine J_icmp_eq (tgt := 732) C d_J_law_677 (by decide) (fun _ => ?_) (fun c => absurd hv c)
  exact fin 0 0 _ _ _ _ [0, 1, 2, 3, 4] (by decide) (by decide) hq rfl
set_option maxRecDepth 100000 in
set_option maxHeartbeats 4000000 in
theorem law_flying (C : jC X code 7 RXL 11 392) (K : lK X A G V G' U o cL) (hrc : X.cells + 1 ≤ X.R.cells ∧ X.slots + 6 ≤ X.R.slots) {b L i : Nat} {xs : Nat → Int32} (hX : va_X b L xs X.s X.s.heap) (hbl : b < X.s.heap.size) (hbA : ¬ A b) (hL : L ≤ 100000) (hik : i + 6 ≤ L) (hl : ∀ e, X.l.admits e → e.platform.stackTraces = false) (hT : T ≤ 1000000) (h : RH T σ N) (fin : ∀ (a c : Nat) (σ' : zS) (N' : zR) (fo' : Nat → Int64) (lv : List (Nat × Value)) (ks : List Nat), a ≤ 1 → c ≤ 6 → RH (T + 400) σ' N' → lv_pick lv ks = [(4, .int (nI i)), (3, .ref o), (2, .ref (U.1 43)), (1, .ref (V.1 0 0 0)), (0, .ref b)] → J (X.more a c) A 7 Q (lB G V σ' G' U N' o cL fo') 732 lv []) : J X A 7 Q (lB G V σ G' U N o cL fo) 682 [(4, .int (nI i)), (3, .ref o), (2, .ref (U.1 43)), (1, .ref (V.1 0 0 0)), (0, .ref b)] [] := by
  obtain ⟨k, k', fr, lo, fr', lo', σ', N', hc, hr, hm, hr', hq, hv⟩ := gh_flying (l := X.l) K.1 K.2.1 h
  refine J_aload_n C 3 d_J_law_682 rfl rfl ?_
  refine L_cv (rest := []) C K mi_L_flying ml_J_104 rfl hc hr (by decide) rfl rfl (by decide) d_J_law_683 ?_
  refine J_pop C d_J_law_686 rfl ?_
  refine J_aload_n C 2 d_J_law_687 rfl rfl ?_
  refine L_mv (rest := []) C K mi_M_flying ml_J_108 rfl hm hr' (by decide) rfl rfl (Nat.le_of_ble_eq_true rfl) d_J_law_688 ?_
  refine J_pop C d_J_law_691 rfl ?_
  refine J_goto (tgt := 732) C d_J_law_692 (by decide) ?_
  exact fin 0 0 _ _ _ _ [0, 1, 2, 3, 4] (by decide) (by decide) hq rfl
set_option maxRecDepth 100000 in
set_option maxHeartbeats 4000000 in
theorem law_frame (C : jC X code 7 RXL 11 392) (K : lK X A G V G' U o cL) (hrc : X.cells + 1 ≤ X.R.cells ∧ X.slots + 6 ≤ X.R.slots) {b L i : Nat} {xs : Nat → Int32} (hX : va_X b L xs X.s X.s.heap) (hbl : b < X.s.heap.size) (hbA : ¬ A b) (hL : L ≤ 100000) (hik : i + 6 ≤ L) (hl : ∀ e, X.l.admits e → e.platform.stackTraces = false) (hT : T ≤ 1000000) (h : RH T σ N) (fin : ∀ (a c : Nat) (σ' : zS) (N' : zR) (fo' : Nat → Int64) (lv : List (Nat × Value)) (ks : List Nat), a ≤ 1 → c ≤ 6 → RH (T + 400) σ' N' → lv_pick lv ks = [(4, .int (nI i)), (3, .ref o), (2, .ref (U.1 43)), (1, .ref (V.1 0 0 0)), (0, .ref b)] → J (X.more a c) A 7 Q (lB G V σ' G' U N' o cL fo') 732 lv []) : J X A 7 Q (lB G V σ G' U N o cL fo) 695 [(4, .int (nI i)), (3, .ref o), (2, .ref (U.1 43)), (1, .ref (V.1 0 0 0)), (0, .ref b)] [] := by
  obtain ⟨k, k', fr, lo, fr', lo', σ', N', hc, hr, hm, hr', hq, hv⟩ := gh_frame (l := X.l) K.1 K.2.1 h (xs (i + 1)) (xs (i + 2))
  refine J_aload_n C 3 d_J_law_695 rfl rfl ?_
  refine L_arg 1 4 0 C hX hbl hbA hL hik rfl rfl rfl (by decide) d_J_law_696 d_J_law_697 d_J_law_699 d_J_law_700 d_J_law_701 ?_
  refine L_arg 2 4 0 C hX hbl hbA hL hik rfl rfl rfl (by decide) d_J_law_702 d_J_law_703 d_J_law_705 d_J_law_706 d_J_law_707 ?_
  refine L_cv (rest := []) C K mi_L_frame ml_J_109 rfl hc hr (by decide) rfl rfl (by decide) d_J_law_708 ?_
  refine J_pop C d_J_law_711 rfl ?_
  refine J_aload_n C 2 d_J_law_712 rfl rfl ?_
  refine L_arg 1 4 0 C hX hbl hbA hL hik rfl rfl rfl (by decide) d_J_law_713 d_J_law_714 d_J_law_716 d_J_law_717 d_J_law_718 ?_
  refine L_arg 2 4 0 C hX hbl hbA hL hik rfl rfl rfl (by decide) d_J_law_719 d_J_law_720 d_J_law_722 d_J_law_723 d_J_law_724 ?_
  refine L_mv (rest := []) C K mi_M_frame ml_J_112 rfl hm hr' (by decide) rfl rfl (Nat.le_of_ble_eq_true rfl) d_J_law_725 ?_
  refine J_pop C d_J_law_728 rfl ?_
  refine J_goto (tgt := 732) C d_J_law_729 (by decide) ?_
  exact fin 0 0 _ _ _ _ [0, 1, 2, 3, 4] (by decide) (by decide) hq rfl
end LW
