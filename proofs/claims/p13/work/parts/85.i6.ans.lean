/-! THE TWO SIDES: type, arrive; fresh objects; the answers -/
theorem and_hi (y : Int64) : (y &&& 255).toInt32 = nI (y.toBitVec.toNat % 256) := by
  rw [Int64.toInt32_and]
  show y.toInt32 &&& 255 = _
  rw [pk_and y.toInt32 8 (by decide)]
  have e : y.toInt32.toBitVec.toNat = y.toBitVec.toNat % 2 ^ 32 := by
    show (y.toBitVec.signExtend 32).toNat = _
    rw [BitVec.signExtend_eq_setWidth_of_le _ (by decide), BitVec.toNat_setWidth]
  rw [e]
  congr 1
  omega
theorem shr_in (y : Int64) (s : Int64) (k : Nat) (hs : (s.toBitVec.smod 64).toNat = k) : (y >>> s).toInt = y.toInt >>> k := by
  show (y >>> s).toBitVec.toInt = y.toBitVec.toInt >>> k
  rw [Int64.toBitVec_shiftRight]
  unfold BitVec.sshiftRight'
  rw [BitVec.toInt_sshiftRight, hs]
theorem toI_cases (y : Int64) : (y.toInt = (y.toBitVec.toNat : Int) ∨ y.toInt = (y.toBitVec.toNat : Int) - 18446744073709551616) ∧ y.toBitVec.toNat < 18446744073709551616 := by
  have h := y.toBitVec.isLt
  refine ⟨?_, h⟩
  show y.toBitVec.toInt = _ ∨ y.toBitVec.toInt = _
  rw [BitVec.toInt_eq_toNat_cond]
  split
  · exact Or.inl rfl
  · exact Or.inr rfl
theorem my_n (word : Int64) {k : Nat} (hk : k < 8) : myV word k = nI (word.toBitVec.toNat / 2 ^ (8 * k) % 256) := by
  unfold myV
  rw [and_hi]
  congr 1
  have a := toI_cases word
  have b := toI_cases (word >>> ((8 * nI k).toInt64 &&& 63))
  have : k = 0 ∨ k = 1 ∨ k = 2 ∨ k = 3 ∨ k = 4 ∨ k = 5 ∨ k = 6 ∨ k = 7 := by omega
  rcases this with e | e | e | e | e | e | e | e <;> subst e
  · have c := shr_in word ((8 * nI 0).toInt64 &&& 63) 0 (by decide)
    rw [Int.shiftRight_eq_div_pow] at c
    generalize (word >>> ((8 * nI 0).toInt64 &&& 63)) = y at *
    generalize word.toBitVec.toNat = n at *
    generalize y.toBitVec.toNat = m at *
    simp at c ⊢
    omega
  · have c := shr_in word ((8 * nI 1).toInt64 &&& 63) 8 (by decide)
    rw [Int.shiftRight_eq_div_pow] at c
    generalize (word >>> ((8 * nI 1).toInt64 &&& 63)) = y at *
    generalize word.toBitVec.toNat = n at *
    generalize y.toBitVec.toNat = m at *
    simp at c ⊢
    omega
  · have c := shr_in word ((8 * nI 2).toInt64 &&& 63) 16 (by decide)
    rw [Int.shiftRight_eq_div_pow] at c
    generalize (word >>> ((8 * nI 2).toInt64 &&& 63)) = y at *
    generalize word.toBitVec.toNat = n at *
    generalize y.toBitVec.toNat = m at *
    simp at c ⊢
    omega
  · have c := shr_in word ((8 * nI 3).toInt64 &&& 63) 24 (by decide)
    rw [Int.shiftRight_eq_div_pow] at c
    generalize (word >>> ((8 * nI 3).toInt64 &&& 63)) = y at *
    generalize word.toBitVec.toNat = n at *
    generalize y.toBitVec.toNat = m at *
    simp at c ⊢
    omega
  · have c := shr_in word ((8 * nI 4).toInt64 &&& 63) 32 (by decide)
    rw [Int.shiftRight_eq_div_pow] at c
    generalize (word >>> ((8 * nI 4).toInt64 &&& 63)) = y at *
    generalize word.toBitVec.toNat = n at *
    generalize y.toBitVec.toNat = m at *
    simp at c ⊢
    omega
  · have c := shr_in word ((8 * nI 5).toInt64 &&& 63) 40 (by decide)
    rw [Int.shiftRight_eq_div_pow] at c
    generalize (word >>> ((8 * nI 5).toInt64 &&& 63)) = y at *
    generalize word.toBitVec.toNat = n at *
    generalize y.toBitVec.toNat = m at *
    simp at c ⊢
    omega
  · have c := shr_in word ((8 * nI 6).toInt64 &&& 63) 48 (by decide)
    rw [Int.shiftRight_eq_div_pow] at c
    generalize (word >>> ((8 * nI 6).toInt64 &&& 63)) = y at *
    generalize word.toBitVec.toNat = n at *
    generalize y.toBitVec.toNat = m at *
    simp at c ⊢
    omega
  · have c := shr_in word ((8 * nI 7).toInt64 &&& 63) 56 (by decide)
    rw [Int.shiftRight_eq_div_pow] at c
    generalize (word >>> ((8 * nI 7).toInt64 &&& 63)) = y at *
    generalize word.toBitVec.toNat = n at *
    generalize y.toBitVec.toNat = m at *
    simp at c ⊢
    omega
theorem ty_n (word : Int64) {k : Nat} (hk : k < 8) : tyB word k &&& 255 = nI (word.toBitVec.toNat / 2 ^ (8 * k) % 256) := by
  rw [pk_and (tyB word k) 8 (by decide)]
  congr 1
  have h := word.toBitVec.isLt
  have e : (tyB word k).toBitVec.toNat = word.toBitVec.toNat / 2 ^ (8 * k) % 2 ^ 32 := by
    unfold tyB
    show ((word.toBitVec >>> (((8 * nI k).toInt64.toUInt64 &&& Int64.toUInt64 63).toBitVec % 64)).signExtend 32).toNat = _
    rw [BitVec.signExtend_eq_setWidth_of_le _ (by decide), BitVec.toNat_setWidth, BitVec.ushiftRight_eq', BitVec.toNat_ushiftRight, Nat.shiftRight_eq_div_pow]
    have ec : (((8 * nI k).toInt64.toUInt64 &&& Int64.toUInt64 63).toBitVec % 64).toNat = 8 * k := by
      have : k = 0 ∨ k = 1 ∨ k = 2 ∨ k = 3 ∨ k = 4 ∨ k = 5 ∨ k = 6 ∨ k = 7 := by omega
      rcases this with e | e | e | e | e | e | e | e <;> subst e <;> decide
    rw [ec]
  rw [e]
  omega
theorem ty_byte (word : Int64) {k : Nat} (hk : k < 8) : tyB word k &&& 255 = myV word k := by rw [ty_n word hk, my_n word hk]
section TYPE
variable {t T : Nat} {σ : zS} {N : zR} {r s : Nat}
theorem rz_put {word : Int64} {k j : Nat} (h : hRZ t σ N) (hk : k < 8) (e : σ.1 9 62 0 1 = nI j) (e2 : N 43 42 = nI j) (hj : j < 40) : hRZ t (fPut σ.1 62 (tyB word k), σ.2.1, σ.2.2) (myS word k N) := by
  have f : Fdr 62 σ.1 (fPut σ.1 62 (tyB word k)) := fd_put
  obtain ⟨c1, c2⟩ := fPut_at (x := tyB word k) e hj
  have ef : ∀ f, f ≠ 42 → myS word k N 43 f = N 43 f := fun f hf => by unfold myS; rw [u2_self, pk_un hf, u2_ne (by decide)]
  have eo : ∀ a, a ≠ 41 → a ≠ 43 → myS word k N a = N a := fun a h1 h2 => by unfold myS; rw [u2_ne h2, u2_ne h1]
  have e41 : myS word k N 41 = upd (N 41) j (myV word k) := by unfold myS; rw [u2_ne (by decide), u2_self, e2, nI_clamp (by omega)]
  have e42 : myS word k N 43 42 = nI (j + 1) := by unfold myS; rw [u2_is, u2_ne (by decide), e2, nI_1]
  refine ⟨⟨h.rx.wa.of (fun a => f 2 a 0 (by simp) (by simp)) (fun a => f 3 a 0 (by simp) (by simp)) (fun a b => f 5 a b (by simp) (by simp)) (fun a h1 h2 h3 => eo a (by omega) (by omega)), h.rx.wb.of' (f 6 0 0 (by simp) (by simp)) (f 7 0 0 (by simp) (by simp)) (fun F _ hF => f 9 F 0 (fun k => hF k.2) (by simp)) (fun F _ hF => f 10 F 0 (by simp) (fun k => hF k.2)) rfl (eo 10 (by decide) (by decide)) ⟨ef 28 (by decide), ef 1 (by decide)⟩ (fun a h1 h2 => eo a (by omega) (by omega)) ⟨j + 1, e42, by omega, fun i hi => ?_⟩⟩, fun r' hr' => (h.ri r' hr').of (by rw [eo 3 (by decide) (by decide)]) (by rw [eo 4 (by decide) (by decide)]) (by rw [eo 5 (by decide) (by decide)])⟩
  show fPut σ.1 62 (tyB word k) 10 62 0 i = _
  rw [c2, e41]
  by_cases q : i = j
  · subst q; rw [pk_us, pk_us]; exact ty_byte word hk
  · rw [pk_un q, pk_un q]
    obtain ⟨z, z1, z2, z3⟩ := h.rx.wb.tp
    have : z = j := (nI_eq (a := z) (b := j) (by omega) (by omega)).mp (z1.symm.trans e2)
    subst this
    exact z3 i (by omega)
theorem rz_type (word : Int64) : ∀ (n j : Nat) {σ : zS} {N : zR}, n ≤ 8 → hRZ t σ N → σ.1 9 62 0 1 = nI j → N 43 42 = nI j → j + n ≤ 40 → hRZ t (tyL word n σ.1, σ.2.1, σ.2.2) (myL word n N) := by
  intro n
  induction n with
  | zero => intro j σ N _ h _ _ _; exact h
  | succ n ih =>
    intro j σ N hn h e e2 hj
    have h1 := rz_put (word := word) (k := n) h (by omega) e e2 (by omega)
    have c := fPut_at (x := tyB word n) e (by omega)
    have x := ih (j + 1) (σ := (fPut σ.1 62 (tyB word n), σ.2.1, σ.2.2)) (by omega) h1 (by show fPut σ.1 62 (tyB word n) 9 62 0 1 = _; rw [c.1, pk_us]) (by unfold myS; rw [u2_is, u2_ne (by decide), e2, nI_1]) (by omega)
    exact x
theorem myL_43 (word : Int64) {f : Nat} (h : f ≠ 42) : ∀ (n : Nat) (N : zR), myL word n N 43 f = N 43 f ∧ myL word n N 29 = N 29 := by
  intro n
  induction n with
  | zero => intro N; exact ⟨rfl, rfl⟩
  | succ n ih =>
    intro N
    obtain ⟨i1, i2⟩ := ih (myS word n N)
    refine ⟨i1.trans ?_, i2.trans ?_⟩
    · unfold myS; rw [u2_self, pk_un h, u2_ne (by decide)]
    · unfold myS; rw [u2_ne (by decide), u2_ne (by decide)]
theorem rh_type {word : Int64} {n j : Nat} (h : RH T σ N) (hn : n ≤ 8) (hj : N 43 42 = nI j) (hm : j + n ≤ 40) : RH T (tyL word n σ.1, σ.2.1, σ.2.2) (myL word n (t0 N)) := by
  obtain ⟨h1, h2, x, h3, h4⟩ := h
  have q5 : σ.1 9 62 0 1 = N 43 42 := h1.2.2.2.2.2.2
  have e2 : t0 N 43 42 = nI j := (t0_43 N (by decide)).trans hj
  exact ⟨rl_type h1 hj hm, ndu_of (ndu_t h2 0) (myL_43 word (f := 28) (by decide) n (t0 N)).2 (myL_43 word (by decide) n (t0 N)).1 (myL_43 word (by decide) n (t0 N)).1, x, h3, rz_type word n j hn (h4.t0 0) (q5.trans hj) e2 hm⟩
/-- arrive -/
theorem taL_at : ∀ (n k : Nat) (N : zR) (x : Nat), k ≤ x → x < k + n → taL n k N 39 x = if N 43 42 ≤ nI x then 0 else N 41 x := by
  intro n
  induction n with
  | zero => intro k N x h1 h2; omega
  | succ n ih =>
    intro k N x h1 h2
    show taL n (k + 1) (u2 N 39 k (if N 43 42 ≤ nI k then 0 else N 41 k)) 39 x = _
    by_cases e : x = k
    · subst e
      have : ∀ (m y : Nat) (N' : zR), x < y → taL m y N' 39 x = N' 39 x := by
        intro m
        induction m with
        | zero => intro y N' _; rfl
        | succ m im => intro y N' hy; show taL m (y + 1) _ 39 x = _; rw [im (y + 1) _ (by omega), u2_self, pk_un (by omega)]
      rw [this n (x + 1) _ (by omega), u2_self, pk_us]
    · rw [ih (k + 1) _ x (by omega) (by omega), u2_ne (by decide), u2_ne (by decide)]
theorem arv_39 {z j : Nat} (e : N 43 42 = nI z) (hz : z ≤ 40) (hj : j < z) : mArv N 39 j = N 41 j := by
  unfold mArv
  rw [u2_ne (by decide), taL_at 40 0 _ j (by omega) (by omega), u2_self, pk_un (by decide), u2_ne (by decide), t0_43 N (by decide), e, if_neg (nI_ge hj (by omega)), t0_o N (by decide)]
theorem arv_40 : mArv N 43 40 = N 43 42 := by
  unfold mArv
  rw [u2_self, pk_un (by decide), taL_o (by decide), u2_is, t0_43 N (by decide)]
theorem ar1_o {M : zM} {k s hp ad : Int32} {κ a b : Nat} (h : ¬ (κ = 9 ∧ a = 62)) : ar1 M k s hp ad κ a b = M κ a b := by
  unfold ar1
  rw [up_ne (fun z => h ⟨z.1, z.2.1⟩), up_ne (fun z => h ⟨z.1, z.2.1⟩), up_ne (fun z => h ⟨z.1, z.2.1⟩), up_ne (fun z => h ⟨z.1, z.2.1⟩)]
theorem ar1_9 {M : zM} {k s hp ad : Int32} : ar1 M k s hp ad 9 62 0 = upd (upd (upd (upd (M 9 62 0) 2 k) 3 s) 6 hp) 5 ad := by
  unfold ar1
  rw [up_self, up_self, up_self, up_self]
theorem rz_arv {k s hp ad : Int32} (h : hRZ t σ N) (hI : IV N) (q5 : σ.1 9 62 0 1 = N 43 42) : hRZ t (ar1 σ.1 k s hp ad, σ.2.1, σ.2.2) (mArv N) ∧ hHD (ar1 σ.1 k s hp ad) 62 (mArv N) k s hp ad ∧ hOut 62 (ar1 σ.1 k s hp ad, σ.2.1, σ.2.2) := by
  obtain ⟨z, z1, z2, z3⟩ := h.rx.wb.tp
  have o : ∀ a, a ≠ 39 → a ≠ 43 → mArv N a = N a := fun a h1 h2 => arv_o h1 h2
  have e42 : mArv N 43 42 = nI 0 := by unfold mArv; rw [u2_is]; rfl
  refine ⟨⟨⟨h.rx.wa.of (fun a => by dsimp only; exact ar1_o (by omega)) (fun a => by dsimp only; exact ar1_o (by omega)) (fun a b => by dsimp only; exact ar1_o (by omega)) (fun a h1 h2 h3 => o a (by omega) (by omega)), h.rx.wb.of' (by dsimp only; exact ar1_o (by omega)) (by dsimp only; exact ar1_o (by omega)) (fun F _ hF => by dsimp only; exact ar1_o (by omega)) (fun F _ hF => by dsimp only; exact ar1_o (by omega)) rfl (o 10 (by decide) (by decide)) ⟨arv_43 (by decide) (by decide) (by decide), arv_43 (by decide) (by decide) (by decide)⟩ (fun a h1 h2 => o a (by omega) (by omega)) ⟨0, e42, by decide, fun j hj => by omega⟩⟩, fun r' hr' => (h.ri r' hr').of (by rw [o 3 (by decide) (by decide)]) (by rw [o 4 (by decide) (by decide)]) (by rw [o 5 (by decide) (by decide)])⟩, ?_, ?_⟩
  · refine ⟨?_, ?_, ?_, ?_, ?_, ?_⟩
    · rw [ar1_9]; rfl
    · rw [ar1_9]; rfl
    · rw [ar1_9]; rfl
    · rw [ar1_9]; rfl
    · refine ⟨z, by rw [arv_40]; exact z1, ?_⟩
      have e10 : ar1 σ.1 k s hp ad 10 62 0 = σ.1 10 62 0 := ar1_o (by omega)
      rw [e10]
      have hb : ∀ j, j < z → σ.1 10 62 0 j = mArv N 39 j := fun j hj => by rw [arv_39 z1 z2 hj]; exact z3 j hj
      refine ⟨by rw [ar1_9]; exact q5.trans z1, z2, fun j hj _ => hb j hj, fun _ h24 => Or.inl ?_⟩
      show hf4 _ _ _ _ = hf4 _ _ _ _
      rw [hb 8 (by omega), hb 9 (by omega), hb 10 (by omega), hb 11 (by omega)]
    · exact (iv_arv hI).2.2.2.2.2.1
  · have hi := h.rx.wb.i62
    exact ⟨by have := hi.1; show (62 : Nat) ≠ σ.2.2.1; omega, fun n hn => by have := hi.2.2 n hn; show σ.2.1 n ≠ 62; omega⟩
theorem rz_end {τ : zS} (h : hRZ t τ N) : hRZ t (up τ.1 9 62 0 1 0, τ.2.1, τ.2.2) N := by
  refine ⟨⟨h.rx.wa.of (fun a => by dsimp only; exact up_k (by decide)) (fun a => by dsimp only; exact up_k (by decide)) (fun a b => by dsimp only; exact up_k (by decide)) (fun _ _ _ _ => rfl), h.rx.wb.of' (by dsimp only; exact up_k (by decide)) (by dsimp only; exact up_k (by decide)) (fun F _ hF => by dsimp only; exact up_ne (fun z => hF z.2.1)) (fun F _ hF => by dsimp only; exact up_k (by decide)) rfl rfl ⟨rfl, rfl⟩ (fun _ _ _ => rfl) ?_⟩, h.ri⟩
  show ∃ z, _ ∧ _ ∧ ∀ j, j < z → up τ.1 9 62 0 1 0 10 62 0 j = _
  rw [up_k (by decide)]; exact h.rx.wb.tp
theorem ndu_arv (h : NDu N) : NDu (mArv N) := ndu_of h (arv_o (by decide) (by decide)) (arv_43 (by decide) (by decide) (by decide)) (arv_43 (by decide) (by decide) (by decide))
theorem rh_arr_a {st hp ad : Int32} (h : RH T σ N) (hr : r < 5) (hon : ¬ σ.1 2 r 0 4 = 0) : RH T (arS σ r 1 st hp ad) (mAdS (mArv N) r hp ad) ∧ heR (ar1 σ.1 1 st hp ad) r 62 = mAdR (mArv N) r hp ad := by
  obtain ⟨h1, h2, x, h3, h4⟩ := h
  have n3 : ¬ mArv N 3 r = 0 := by rw [arv_o (by decide) (by decide), ← (h4.rx.wa.rt r hr).e4]; exact hon
  have hA := iv_arv h1.2.1
  have g := go_adS (hops := hp) (by_ := ad) hA hr n3
  obtain ⟨a1, a2, a3⟩ := rz_arv (k := 1) (s := st) (hp := hp) (ad := ad) h4 h1.2.1 h1.2.2.2.2.2.2
  obtain ⟨b1, b2, b3, b4⟩ := he_ad (σ := (ar1 σ.1 1 st hp ad, σ.2.1, σ.2.2)) a1 hr a2 a3 n3
  exact ⟨⟨(rl_arr h1 hon g).1, ndu_kp (ndu_arv h2) g.1.2.1, x, h3, rz_end b1⟩, b4⟩
theorem rh_arr_p {hp ad : Int32} {a : Nat} (ha : a < 15) (h : RH T σ N) (hr : r < 5) (hon : ¬ σ.1 2 r 0 4 = 0) : RH T (arS σ r 2 (nI a) hp ad) (mPkS (mArv N) r hp (nI a)) ∧ heR (ar1 σ.1 2 (nI a) hp ad) r 62 = mPkR (mArv N) r hp (nI a) := by
  obtain ⟨h1, h2, x, h3, h4⟩ := h
  have hA := iv_arv h1.2.1
  have g := go_pkS (hops := hp) (st := nI a) hA hr
  obtain ⟨a1, a2, a3⟩ := rz_arv (k := 2) (s := nI a) (hp := hp) (ad := ad) h4 h1.2.1 h1.2.2.2.2.2.2
  obtain ⟨b1, b2, b3, b4⟩ := he_pk (σ := (ar1 σ.1 2 (nI a) hp ad, σ.2.1, σ.2.2)) a1 hr a2 (by omega) a3
  exact ⟨⟨(rl_arr h1 hon g).1, ndu_kp (ndu_arv h2) g.1.2.1, x, h3, rz_end b1⟩, b4⟩
/-! the answers -/
theorem an_flying (h : RH T σ N) : σ.1 6 0 0 2 = N 43 28 := by
  obtain ⟨-, -, x, -, h4⟩ := h
  exact h4.rx.wb.ct
theorem an_port_no {x : Int32} (h : RH T σ N) (hb : x < 0 ∨ ¬ x ≤ 14) : wPlace σ.1 x = -1 := by
  obtain ⟨-, -, y, -, h4⟩ := h
  unfold wPlace
  by_cases c1 : x < 0
  · rw [if_pos c1]
  · rw [if_neg c1]
    by_cases c2 : 16 ≤ x
    · rw [if_pos c2]
    · rw [if_neg c2]
      have e : x = nI 15 := by
        have hb := hb.resolve_left c1
        rw [Int32.le_iff_toInt_le] at hb c2
        have e0 : (14 : Int32).toInt = 14 := rfl
        have e1 : (16 : Int32).toInt = 16 := rfl
        have e2 : (nI 15).toInt = 15 := rfl
        apply Int32.toInt_inj.mp
        omega
      rw [e, nI_clamp (by decide)]
      exact h4.rx.wb.p15
theorem an_port_0 {k : Nat} (h : RH T σ N) (hk : k < 15) : wPlace σ.1 (nI k) = N 10 k := by
  obtain ⟨-, -, y, -, h4⟩ := h
  unfold wPlace
  rw [if_neg (nI_pos (by omega)), if_neg (show ¬ (16 : Int32) ≤ nI k from nI_ge (a := k) (b := 16) (by omega) (by decide)), nI_clamp (by omega)]
  exact h4.rx.wb.pl k hk
theorem an_router_no {x y : Int32} (hb : mIsR x = 0 ∨ y < 0 ∨ ¬ y ≤ 7) : lRouter σ.1 x y = -1 := by
  unfold lRouter
  by_cases c : lIsR x = 0
  · rw [if_pos c]
  · rw [if_neg c]
    have hb := hb.resolve_left c
    have ne : ∀ n : Nat, n ≤ 7 → ¬ y = nI n := fun n hn e => by
      subst e
      rcases hb with k | k
      · exact nI_pos (by omega) k
      · exact k (nI_le (a := n) (b := 7) hn (by decide))
    unfold rTell
    rw [if_neg (show ¬ y = 0 from ne 0 (by decide)), if_neg (show ¬ y = 1 from ne 1 (by decide)), if_neg (show ¬ y = 2 from ne 2 (by decide)), if_neg (show ¬ y = 3 from ne 3 (by decide)), if_neg (show ¬ y = 4 from ne 4 (by decide)), if_neg (show ¬ y = 5 from ne 5 (by decide)), if_neg (show ¬ y = 6 from ne 6 (by decide)), if_neg (show ¬ y = 7 from ne 7 (by decide))]
theorem y_cases {y : Int32} (h1 : ¬ y < 0) (h2 : y ≤ 7) : y = 0 ∨ y = 1 ∨ y = 2 ∨ y = 3 ∨ y = 4 ∨ y = 5 ∨ y = 6 ∨ y = 7 := by
  obtain ⟨j, hj, rfl⟩ := nI_of2 (x := y) (M := 7) (n := 7) rfl h1 h2
  have : j = 0 ∨ j = 1 ∨ j = 2 ∨ j = 3 ∨ j = 4 ∨ j = 5 ∨ j = 6 ∨ j = 7 := by omega
  rcases this with e | e | e | e | e | e | e | e <;> subst e <;> decide
theorem an_router {y : Int32} (h : RH T σ N) (hr : r < 5) (h1 : ¬ y < 0) (h2 : y ≤ 7) : (N 3 r = 0 → lRouter σ.1 (nI r) y = mRoff N r y) ∧ (¬ N 3 r = 0 → lRouter σ.1 (nI r) y = mRon (t0 N) r y) := by
  obtain ⟨-, -, x, -, h4⟩ := h
  have e : lRouter σ.1 (nI r) y = rTell σ.1 r y := by
    unfold lRouter
    rw [if_neg (show ¬ lIsR (nI r) = 0 from mIsR_ne hr), nI_clamp (by omega)]
  have h5 := h4.t0 0
  have ew : rWeighed σ.1 r = mWeighed (t0 N) r := w_eq h5.rx.wa hr
  have q := h4.rx.wa.rt r hr
  have o : ∀ a, a ≠ 43 → t0 N a = N a := fun a ha => t0_o N ha
  rw [e]
  unfold rTell mRoff mRon
  rw [q.e4, q.e5, q.e6, q.e7, q.e8, q.e9, q.e10, ew, o 3 (by decide), o 4 (by decide), o 5 (by decide), o 6 (by decide), o 7 (by decide), o 8 (by decide), o 9 (by decide)]
  refine ⟨fun z => ?_, fun z => ?_⟩
  · obtain ⟨hf4, f5⟩ := (h4.ri r hr).off z
    rcases y_cases h1 h2 with k | k | k | k | k | k | k | k <;> subst k <;> simp [z, hf4, f5]
  · rcases y_cases h1 h2 with k | k | k | k | k | k | k | k <;> subst k <;> simp [z]
end TYPE
/-- fresh objects -/
theorem plf_at {n k : Nat} (h : k < n) : plf n k = -1 := by unfold plf; rw [if_pos h]
theorem msf_at {r k : Nat} (hr : r < 5) (hk : k < 10) : msf 5 (10 * r + k) = svM r k := by
  unfold msf
  rw [if_pos (by omega), show (10 * r + k) / 10 = r by omega, show (10 * r + k) % 10 = k by omega]
theorem sef_at {r k : Nat} (hk : k < 10) : sef r k = svM r k := by
  have : k = 0 ∨ k = 1 ∨ k = 2 ∨ k = 3 ∨ k = 4 ∨ k = 5 ∨ k = 6 ∨ k = 7 ∨ k = 8 ∨ k = 9 := by omega
  rcases this with e | e | e | e | e | e | e | e | e | e <;> subst e <;> simp [sef, svM, upd]
theorem RZ_0 : hRZ 0 (M0, fun n => n, (60, 61)) N0 := by
  have z : ∀ a, a ≠ 2 → a ≠ 10 → N0 a = z0 := fun a h1 h2 => by unfold N0; rw [if_neg h1, if_neg h2]
  have n2 : N0 2 = msf 5 := rfl
  have n10 : N0 10 = plf 15 := rfl
  have f0 : fly N0 = 0 := rfl
  refine ⟨⟨⟨fun r hr => ?_, fun r k hr hk => ?_, fun r s hr hs => ?_, fun i hi => ?_, fun r hr => rfl, fun r hr => ?_⟩, ?_⟩, fun r hr => ⟨Or.inl rfl, fun k => absurd rfl k, fun k => absurd rfl k, fun _ => ⟨rfl, rfl⟩⟩⟩
  · exact ⟨rfl, rfl, rfl, rfl, rfl, rfl, rfl⟩
  · rw [n2, msf_at hr hk]
    exact sef_at hk
  · refine ⟨?_, ?_, ?_, ?_, ?_, ?_, ?_, ?_, ?_, ?_, ?_, ?_, ?_, ?_, ?_, ?_, ?_⟩ <;> rfl
  · exact ⟨Or.inl rfl, ⟨0, by decide, rfl⟩, ⟨0, by decide, rfl⟩, ⟨0, by decide, rfl⟩, Or.inl rfl⟩
  · refine ⟨⟨100, by decide, by decide, ?_⟩, ⟨100, by decide, by decide, ?_⟩, ⟨1, by decide, by decide, ?_⟩, ⟨0, by decide, ?_⟩⟩
    · rw [n2, msf_at hr (by decide)]; rfl
    · rw [n2, msf_at hr (by decide)]; rfl
    · rw [n2, msf_at hr (by decide)]; rfl
    · rw [n2, msf_at hr (by decide)]; rfl
  · refine ⟨fun k hk => ?_, ?_, fun k hk => Or.inl ?_, rfl, rfl, rfl, by decide, fun k hk => ?_, ⟨0, rfl, by decide, fun j hj => by omega⟩, ⟨fun n m _ _ e => e, fun n hn => ?_, fun n hn => ?_, by decide⟩, ⟨rfl, by decide⟩, ⟨by decide, by decide, fun n hn => by show n < 62; omega⟩⟩
    · rw [n10, plf_at hk]; exact plf_at (n := 16) (by omega)
    · exact plf_at (n := 16) (k := 15) (by decide)
    · rw [n10, plf_at (by omega)]
    · rw [f0] at hk; omega
    · show n ≠ 60; omega
    · show n ≠ 61; omega
