/-! THE TWO SIDES, ALL OF IT: sessions -/
def hSQ (q : Nat → Int32) (N : zR) (i : Nat) : Prop := q 2 = N 11 i ∧ q 3 = N 12 i ∧ q 4 = N 13 i ∧ q 5 = sTold (N 14 i) ∧ q 6 = N 15 i ∧ q 7 = N 16 i ∧ q 8 = N 17 i ∧ q 9 = N 20 i ∧ q 10 = N 21 i ∧ q 11 = N 22 i ∧ q 12 = N 23 i ∧ q 13 = N 24 i ∧ q 14 = N 18 i ∧ q 15 = N 19 i ∧ q 16 = N 25 i ∧ q 17 = N 26 i ∧ q 18 = N 27 i
theorem hSQ.e2 {q : Nat → Int32} {N : zR} {i : Nat} (h_ : hSQ q N i) : q 2 = N 11 i := h_.1
theorem hSQ.e3 {q : Nat → Int32} {N : zR} {i : Nat} (h_ : hSQ q N i) : q 3 = N 12 i := h_.2.1
theorem hSQ.e4 {q : Nat → Int32} {N : zR} {i : Nat} (h_ : hSQ q N i) : q 4 = N 13 i := h_.2.2.1
theorem hSQ.e5 {q : Nat → Int32} {N : zR} {i : Nat} (h_ : hSQ q N i) : q 5 = sTold (N 14 i) := h_.2.2.2.1
theorem hSQ.e6 {q : Nat → Int32} {N : zR} {i : Nat} (h_ : hSQ q N i) : q 6 = N 15 i := h_.2.2.2.2.1
theorem hSQ.e7 {q : Nat → Int32} {N : zR} {i : Nat} (h_ : hSQ q N i) : q 7 = N 16 i := h_.2.2.2.2.2.1
theorem hSQ.e8 {q : Nat → Int32} {N : zR} {i : Nat} (h_ : hSQ q N i) : q 8 = N 17 i := h_.2.2.2.2.2.2.1
theorem hSQ.e9 {q : Nat → Int32} {N : zR} {i : Nat} (h_ : hSQ q N i) : q 9 = N 20 i := h_.2.2.2.2.2.2.2.1
theorem hSQ.e10 {q : Nat → Int32} {N : zR} {i : Nat} (h_ : hSQ q N i) : q 10 = N 21 i := h_.2.2.2.2.2.2.2.2.1
theorem hSQ.e11 {q : Nat → Int32} {N : zR} {i : Nat} (h_ : hSQ q N i) : q 11 = N 22 i := h_.2.2.2.2.2.2.2.2.2.1
theorem hSQ.e12 {q : Nat → Int32} {N : zR} {i : Nat} (h_ : hSQ q N i) : q 12 = N 23 i := h_.2.2.2.2.2.2.2.2.2.2.1
theorem hSQ.e13 {q : Nat → Int32} {N : zR} {i : Nat} (h_ : hSQ q N i) : q 13 = N 24 i := h_.2.2.2.2.2.2.2.2.2.2.2.1
theorem hSQ.e14 {q : Nat → Int32} {N : zR} {i : Nat} (h_ : hSQ q N i) : q 14 = N 18 i := h_.2.2.2.2.2.2.2.2.2.2.2.2.1
theorem hSQ.e15 {q : Nat → Int32} {N : zR} {i : Nat} (h_ : hSQ q N i) : q 15 = N 19 i := h_.2.2.2.2.2.2.2.2.2.2.2.2.2.1
theorem hSQ.e16 {q : Nat → Int32} {N : zR} {i : Nat} (h_ : hSQ q N i) : q 16 = N 25 i := h_.2.2.2.2.2.2.2.2.2.2.2.2.2.2.1
theorem hSQ.e17 {q : Nat → Int32} {N : zR} {i : Nat} (h_ : hSQ q N i) : q 17 = N 26 i := h_.2.2.2.2.2.2.2.2.2.2.2.2.2.2.2.1
theorem hSQ.e18 {q : Nat → Int32} {N : zR} {i : Nat} (h_ : hSQ q N i) : q 18 = N 27 i := h_.2.2.2.2.2.2.2.2.2.2.2.2.2.2.2.2
/-- a session's numbers keep to their ranges -/
def hSI (N : zR) (i : Nat) : Prop := (N 12 i = 0 ∨ N 12 i = 1 ∨ N 12 i = 2 ∨ N 12 i = 3) ∧ (∃ n, n ≤ 1000 ∧ N 17 i = nI n) ∧ (∃ n, n ≤ 1000 ∧ N 19 i = nI n) ∧ (∃ n, n ≤ 100000 ∧ N 21 i = nI n) ∧ (N 24 i = 0 ∨ N 24 i = 1)
theorem hSI.s12 {N : zR} {i : Nat} (h_ : hSI N i) : N 12 i = 0 ∨ N 12 i = 1 ∨ N 12 i = 2 ∨ N 12 i = 3 := h_.1
theorem hSI.s17 {N : zR} {i : Nat} (h_ : hSI N i) : ∃ n, n ≤ 1000 ∧ N 17 i = nI n := h_.2.1
theorem hSI.s19 {N : zR} {i : Nat} (h_ : hSI N i) : ∃ n, n ≤ 1000 ∧ N 19 i = nI n := h_.2.2.1
theorem hSI.s21 {N : zR} {i : Nat} (h_ : hSI N i) : ∃ n, n ≤ 100000 ∧ N 21 i = nI n := h_.2.2.2.1
theorem hSI.s24 {N : zR} {i : Nat} (h_ : hSI N i) : N 24 i = 0 ∨ N 24 i = 1 := h_.2.2.2.2
/-- only this session's numbers change -/
def hSO (i : Nat) (N N' : zR) : Prop := (∀ a, ¬ (11 ≤ a ∧ a ≤ 27) → N' a = N a) ∧ (∀ a j, j ≠ i → N' a j = N a j)
theorem hSO.o {i : Nat} {N N' : zR} (h_ : hSO i N N') : ∀ a, ¬ (11 ≤ a ∧ a ≤ 27) → N' a = N a := h_.1
theorem hSO.j {i : Nat} {N N' : zR} (h_ : hSO i N N') : ∀ a j, j ≠ i → N' a j = N a j := h_.2
theorem hSO.rf {i : Nat} {N : zR} : hSO i N N := ⟨fun _ _ => rfl, fun _ _ _ => rfl⟩
theorem hSO.tr {i : Nat} {N N1 N2 : zR} (h : hSO i N N1) (g : hSO i N1 N2) : hSO i N N2 := ⟨fun a ha => (g.o a ha).trans (h.o a ha), fun a j hj => (g.j a j hj).trans (h.j a j hj)⟩
theorem hSO.u {i a : Nat} {N : zR} {v : Int32} (ha : 11 ≤ a ∧ a ≤ 27) : hSO i N (u2 N a i v) := by
  refine ⟨fun b hb => u2_ne (fun e => hb (e ▸ ha)), fun b j hj => ?_⟩
  by_cases e : b = a
  · subst e; rw [u2_self, pk_un hj]
  · rw [u2_ne e]
theorem imx_mx (a b : Int32) : imx a b = mMax a b := by
  unfold imx mMax
  by_cases h : a < b
  · rw [if_pos h, if_pos (by rw [Int32.le_iff_toInt_le]; rw [Int32.lt_iff_toInt_lt] at h; omega)]
  · rw [if_neg h]
    split
    · rename_i g
      apply Int32.toInt_inj.mp
      rw [Int32.le_iff_toInt_le] at g; rw [Int32.lt_iff_toInt_lt] at h; omega
    · rfl
theorem mx_com (a b : Int32) : mMax a b = mMax b a := by
  unfold mMax
  by_cases h : a ≤ b
  · rw [if_pos h]
    split
    · rename_i g
      apply Int32.toInt_inj.mp
      rw [Int32.le_iff_toInt_le] at g h; omega
    · rfl
  · rw [if_neg h, if_pos (by rw [Int32.le_iff_toInt_le] at h ⊢; omega)]
section SES
variable {q : Nat → Int32} {N : zR} {i : Nat}
theorem sq_pause (h : hSQ q N i) : sPause q = if N 21 i = 0 then 0 else mTime N i := by
  unfold sPause mTime sSlowed
  rw [h.e10, h.e3, h.e14, imx_mx, imx_mx, mx_com (N 18 i) 100]
theorem sq_set (h : hSQ q N i) : hSQ (upd q 16 (sPause q)) (mSet N i) i := by
  unfold mSet
  rw [sq_pause h]
  (refine ⟨?_, ?_, ?_, ?_, ?_, ?_, ?_, ?_, ?_, ?_, ?_, ?_, ?_, ?_, ?_, ?_, ?_⟩ <;> simp [upd, u2, h.e2, h.e3, h.e4, h.e5, h.e6, h.e7, h.e8, h.e9, h.e10, h.e11, h.e12, h.e13, h.e14, h.e15, h.e16, h.e17, h.e18])
theorem so_set : hSO i N (mSet N i) := hSO.u (by decide)
theorem si_set (h : hSI N i) : hSI (mSet N i) i := by unfold mSet; (refine ⟨?_, ?_, ?_, ?_, ?_⟩ <;> simp [upd, u2, h.s12, h.s17, h.s19, h.s21, h.s24])
theorem mx_pos {a b : Int32} {n : Nat} (hb : b = nI n) (h0 : 0 < n) (h : n < 2 ^ 31) : 0 < mMax a b := by
  have e := nI_toInt h
  subst hb
  unfold mMax
  split
  · rw [Int32.lt_iff_toInt_lt]; rw [e]; show (0 : Int) < _; omega
  · rename_i g
    rw [Int32.le_iff_toInt_le] at g
    rw [Int32.lt_iff_toInt_lt]
    show (0 : Int) < _
    omega
theorem sq_hurry (h : hSQ q N i) (g : hSI N i) : hSQ (sHurry q) (mHurry N i) i := by
  unfold sHurry mHurry
  have hs := sq_set h
  obtain ⟨n, hn, e21⟩ := g.s21
  by_cases c : N 21 i = 0
  · have ep : sPause q = 0 := by rw [sq_pause h, if_pos c]
    rw [if_pos (Or.inl ep), if_pos c]; exact hs
  · have ep : sPause q = mTime N i := by rw [sq_pause h, if_neg c]
    have hp : 0 < mTime N i := mx_pos e21 (Nat.pos_of_ne_zero (fun z => c (by rw [e21, z]; rfl))) (by omega)
    have hp0 : ¬ mTime N i = 0 := fun z => by rw [z] at hp; exact absurd hp (by decide)
    rw [if_neg c]
    by_cases c2 : N 25 i = 0
    · rw [if_pos c2, if_pos (Or.inr (Or.inl (h.e16.trans c2)))]; exact hs
    rw [if_neg c2]
    by_cases c3 : mTime N i < N 25 i
    · rw [if_pos c3, if_pos (Or.inr (Or.inr (by rw [ep, h.e16]; exact c3)))]; exact hs
    · rw [if_neg c3, if_neg (by rw [ep, h.e16]; exact fun z => z.elim hp0 (fun z => z.elim c2 c3))]; exact h
theorem so_hurry : hSO i N (mHurry N i) := by
  unfold mHurry
  split
  · exact so_set
  split
  · exact so_set
  split
  · exact so_set
  · exact hSO.rf
theorem si_hurry (h : hSI N i) : hSI (mHurry N i) i := by
  unfold mHurry
  split
  · exact si_set h
  split
  · exact si_set h
  split
  · exact si_set h
  · exact h
theorem pos_le {x : Int32} : 0 < x ↔ ¬ x ≤ 0 := by
  rw [Int32.lt_iff_toInt_lt, Int32.le_iff_toInt_le]
  omega
theorem sq_fall (h : hSQ q N i) (g : hSI N i) (why : Int32) : hSQ (sFall q why) (if N 12 i < 2 then N else mDown N i why) i := by
  unfold sFall mDown
  rw [h.e3]
  rcases g.s12 with e | e | e | e <;> rw [e]
  · rw [if_neg (by decide), if_pos (by decide)]; exact h
  · rw [if_neg (by decide), if_pos (by decide)]; exact h
  · rw [if_pos (by decide), if_neg (by decide)]; (refine ⟨?_, ?_, ?_, ?_, ?_, ?_, ?_, ?_, ?_, ?_, ?_, ?_, ?_, ?_, ?_, ?_, ?_⟩ <;> simp [upd, u2, h.e2, h.e3, h.e4, h.e5, h.e6, h.e7, h.e8, h.e9, h.e10, h.e11, h.e12, h.e13, h.e14, h.e15, h.e16, h.e17, h.e18])
  · rw [if_pos (by decide), if_neg (by decide)]; (refine ⟨?_, ?_, ?_, ?_, ?_, ?_, ?_, ?_, ?_, ?_, ?_, ?_, ?_, ?_, ?_, ?_, ?_⟩ <;> simp [upd, u2, h.e2, h.e3, h.e4, h.e5, h.e6, h.e7, h.e8, h.e9, h.e10, h.e11, h.e12, h.e13, h.e14, h.e15, h.e16, h.e17, h.e18])
theorem si_down (g : hSI N i) (why : Int32) : hSI (mDown N i why) i := by unfold mDown; (refine ⟨?_, ?_, ?_, ?_, ?_⟩ <;> simp [upd, u2, g.s12, g.s17, g.s19, g.s21, g.s24])
theorem so_down {why : Int32} : hSO i N (mDown N i why) := (hSO.u (a := 15) (by decide)).tr (hSO.u (by decide))
theorem si_up (g : hSI N i) : hSI (mUp N i) i := by unfold mUp; (refine ⟨?_, ?_, ?_, ?_, ?_⟩ <;> simp [upd, u2, g.s12, g.s17, g.s19, g.s21, g.s24])
theorem so_up : hSO i N (mUp N i) := (hSO.u (a := 12) (by decide)).tr (hSO.u (by decide))
theorem told0 : sTold 0 = 0 := by decide
theorem sq_detect (h : hSQ q N i) (g : hSI N i) : hSQ (sDetect q) (ws1 N i) i ∧ hSI (ws1 N i) i ∧ hSO i N (ws1 N i) := by
  unfold sDetect ws1
  rw [h.e17]
  by_cases c : N 26 i ≤ 0
  · rw [if_pos c, if_neg (fun z => pos_le.mp z c)]; exact ⟨h, g, hSO.rf⟩
  rw [if_neg c, if_pos (pos_le.mpr c)]
  have e1 : u2 N 26 i (N 26 i - 1) 26 i = N 26 i - 1 := by rw [u2_self, pk_us]
  rw [e1]
  have h1 : hSQ (upd q 17 (N 26 i - 1)) (u2 N 26 i (N 26 i - 1)) i := by (refine ⟨?_, ?_, ?_, ?_, ?_, ?_, ?_, ?_, ?_, ?_, ?_, ?_, ?_, ?_, ?_, ?_, ?_⟩ <;> simp [upd, u2, h.e2, h.e3, h.e4, h.e5, h.e6, h.e7, h.e8, h.e9, h.e10, h.e11, h.e12, h.e13, h.e14, h.e15, h.e16, h.e17, h.e18])
  have g1 : hSI (u2 N 26 i (N 26 i - 1)) i := by (refine ⟨?_, ?_, ?_, ?_, ?_⟩ <;> simp [upd, u2, g.s12, g.s17, g.s19, g.s21, g.s24])
  have o1 : hSO i N (u2 N 26 i (N 26 i - 1)) := hSO.u (by decide)
  by_cases c2 : N 26 i - 1 = 0
  · rw [if_pos c2, if_neg (fun z => z c2)]
    generalize u2 N 26 i (N 26 i - 1) = N1 at *
    generalize upd q 17 (N 26 i - 1) = q1 at *
    unfold mFires
    have h2 : hSQ (upd q1 5 0) (u2 N1 14 i 0) i := by
      refine ⟨?_, ?_, ?_, ?_, ?_, ?_, ?_, ?_, ?_, ?_, ?_, ?_, ?_, ?_, ?_, ?_, ?_⟩ <;> simp [upd, u2, h1.e2, h1.e3, h1.e4, h1.e5, h1.e6, h1.e7, h1.e8, h1.e9, h1.e10, h1.e11, h1.e12, h1.e13, h1.e14, h1.e15, h1.e16, h1.e17, h1.e18, told0]
    have g2 : hSI (u2 N1 14 i 0) i := by (refine ⟨?_, ?_, ?_, ?_, ?_⟩ <;> simp [upd, u2, g1.s12, g1.s17, g1.s19, g1.s21, g1.s24])
    refine ⟨sq_fall h2 g2 1, ?_, o1.tr ((hSO.u (a := 14) (v := 0) (by decide)).tr ?_)⟩
    · split
      · exact g2
      · exact si_down g2 1
    · split
      · exact hSO.rf
      · exact so_down
  · rw [if_neg c2, if_pos c2]; exact ⟨h1, g1, o1⟩
theorem sq_begin {tx rx m : Int32} : hSQ (sBegin q tx rx m) (mOpn N i tx rx m) i := by
  unfold sBegin mOpn
  have h : hSQ (upd (sBegin0 q tx rx m) 16 (N 25 i)) (mOp1 N i tx rx m) i := by
    unfold sBegin0 sUse mOp1
    refine ⟨?_, ?_, ?_, ?_, ?_, ?_, ?_, ?_, ?_, ?_, ?_, ?_, ?_, ?_, ?_, ?_, ?_⟩ <;> simp [upd, u2, told0]
  have h2 := sq_set h
  have e1 : sPause (upd (sBegin0 q tx rx m) 16 (N 25 i)) = sPause (sBegin0 q tx rx m) := rfl
  have e2 : ∀ (f : Nat → Int32) (x y : Int32), upd (upd f 16 x) 16 y = upd f 16 y := fun f x y => by
    funext k
    unfold upd
    split <;> rfl
  rw [e1, e2] at h2
  exact h2
theorem so_opn {tx rx m : Int32} : hSO i N (mOpn N i tx rx m) := by
  unfold mOpn mSet mOp1
  repeat (first | exact hSO.rf | refine hSO.tr ?_ (hSO.u (by decide)))
theorem si_opn {tx rx m : Int32} {n : Nat} (hn : n ≤ 1000) (e : rx = nI n) : hSI (mOpn N i tx rx m) i := by
  subst e
  unfold mOpn mSet mOp1
  refine ⟨?_, ⟨n, hn, ?_⟩, ⟨n, hn, ?_⟩, ⟨1, by decide, ?_⟩, ?_⟩ <;> simp [upd, u2, nI]
theorem sq_shut (h : hSQ q N i) (g : hSI N i) : hSQ (sShut q) (mChS N i) i ∧ hSI (mChS N i) i ∧ hSO i N (mChS N i) := by
  unfold sShut mChS
  exact ⟨by (refine ⟨?_, ?_, ?_, ?_, ?_, ?_, ?_, ?_, ?_, ?_, ?_, ?_, ?_, ?_, ?_, ?_, ?_⟩ <;> simp [upd, u2, h.e2, h.e3, h.e4, h.e5, h.e6, h.e7, h.e8, h.e9, h.e10, h.e11, h.e12, h.e13, h.e14, h.e15, h.e16, h.e17, h.e18]), by (refine ⟨?_, ?_, ?_, ?_, ?_⟩ <;> simp [upd, u2, g.s12, g.s17, g.s19, g.s21, g.s24]), ((hSO.u (a := 12) (by decide)).tr (hSO.u (a := 15) (by decide))).tr (hSO.u (by decide))⟩
theorem sq_want {tx rx : Int32} {n : Nat} (hn : n ≤ 1000) (e : rx = nI n) (h : hSQ q N i) (g : hSI N i) : hSQ (sWant q tx rx) (mChg N i tx rx) i ∧ hSI (mChg N i tx rx) i ∧ hSO i N (mChg N i tx rx) := by
  have h1 : hSQ (sWant1 q tx rx) (mC1 N i tx rx) i := by unfold sWant1 mC1; (refine ⟨?_, ?_, ?_, ?_, ?_, ?_, ?_, ?_, ?_, ?_, ?_, ?_, ?_, ?_, ?_, ?_, ?_⟩ <;> simp [upd, u2, h.e2, h.e3, h.e4, h.e5, h.e6, h.e7, h.e8, h.e9, h.e10, h.e11, h.e12, h.e13, h.e14, h.e15, h.e16, h.e17, h.e18])
  have g1 : hSI (mC1 N i tx rx) i := by
    subst e
    unfold mC1
    refine ⟨by simp [upd, u2]; exact g.s12, ⟨n, hn, by simp [upd, u2]⟩, by simp [upd, u2]; exact g.s19, by simp [upd, u2]; exact g.s21, by simp [upd, u2]; exact g.s24⟩
  have o1 : hSO i N (mC1 N i tx rx) := (hSO.u (a := 16) (by decide)).tr (hSO.u (by decide))
  have f7 : mC1 N i tx rx 16 i = tx := by unfold mC1; simp [upd, u2]
  have f8 : mC1 N i tx rx 17 i = rx := by unfold mC1; simp [upd, u2]
  unfold sWant mChg
  generalize mC1 N i tx rx = N1 at *
  generalize sWant1 q tx rx = q1 at *
  have key : hSQ (sWant2 q1) (mC4 (mC3 (mC2 N1 i) i tx) i rx) i ∧ hSI (mC4 (mC3 (mC2 N1 i) i tx) i rx) i ∧ hSO i N1 (mC4 (mC3 (mC2 N1 i) i tx) i rx) := by
    have e12' : mC2 N1 i 12 i = N1 12 i := by unfold mC2; simp [u2]
    have e3 : ∀ (N' : zR) (x : Int32), mC3 N' i x 12 i = N' 12 i := fun N' x => by
      unfold mC3
      split
      · simp [u2]
      · split <;> simp [u2]
    have e12 : ∀ x, mC3 (mC2 N1 i) i x 12 i = N1 12 i := fun x => (e3 _ x).trans e12'
    unfold sWant2
    rw [h1.e3]
    by_cases c : N1 12 i = 3
    · rw [if_pos c]
      have x4 : mC4 (mC3 (mC2 N1 i) i tx) i rx = if rx < mC3 (mC2 N1 i) i tx 19 i then mC3 (mC2 N1 i) i tx else u2 (mC3 (mC2 N1 i) i tx) 19 i rx := by
        show (if ¬ mC3 (mC2 N1 i) i tx 12 i = 3 then _ else _) = _
        rw [if_neg (by rw [e12, c]; decide)]
      have x3 : mC3 (mC2 N1 i) i tx = if mC2 N1 i 18 i < tx then mC2 N1 i else u2 (mC2 N1 i) 18 i tx := by
        show (if ¬ mC2 N1 i 12 i = 3 then _ else _) = _
        rw [if_neg (by rw [e12', c]; decide)]
      have x2 : mC2 N1 i = u2 N1 24 i 1 := by
        unfold mC2
        rw [if_pos c]
        split <;> rfl
      have y3 : mC3 (mC2 N1 i) i tx 19 i = N1 19 i := by rw [x3, x2]; split <;> simp [u2]
      rw [x4, y3, x3, x2]
      have y18 : u2 N1 24 i 1 18 i = N1 18 i := by simp [u2]
      rw [y18]
      have im : imn (q1 14) (q1 7) = if N1 18 i < tx then N1 18 i else tx := by
        rw [h1.e14, h1.e7, f7]
        unfold imn
        by_cases k : N1 18 i < tx
        · rw [if_pos k, if_neg (by rw [Int32.lt_iff_toInt_lt] at k ⊢; omega)]
        · rw [if_neg k]
          split
          · rfl
          · rename_i k2
            apply Int32.toInt_inj.mp
            rw [Int32.lt_iff_toInt_lt] at k k2; omega
      have ix : imx (q1 15) (q1 8) = if rx < N1 19 i then N1 19 i else rx := by
        rw [h1.e15, h1.e8, f8]
        unfold imx
        by_cases k : rx < N1 19 i
        · rw [if_pos k, if_neg (by rw [Int32.lt_iff_toInt_lt] at k ⊢; omega)]
        · rw [if_neg k]
          split
          · rfl
          · rename_i k2
            apply Int32.toInt_inj.mp
            rw [Int32.lt_iff_toInt_lt] at k k2; omega
      rw [im, ix]
      by_cases k1 : N1 18 i < tx <;> by_cases k2 : rx < N1 19 i
      · simp only [if_pos k1, if_pos k2]
        exact ⟨by (refine ⟨?_, ?_, ?_, ?_, ?_, ?_, ?_, ?_, ?_, ?_, ?_, ?_, ?_, ?_, ?_, ?_, ?_⟩ <;> simp [upd, u2, h1.e2, h1.e3, h1.e4, h1.e5, h1.e6, h1.e7, h1.e8, h1.e9, h1.e10, h1.e11, h1.e12, h1.e13, h1.e14, h1.e15, h1.e16, h1.e17, h1.e18]), by (refine ⟨?_, ?_, ?_, ?_, ?_⟩ <;> simp [upd, u2, g1.s12, g1.s17, g1.s19, g1.s21, g1.s24]), hSO.u (by decide)⟩
      · simp only [if_pos k1, if_neg k2]
        exact ⟨by (refine ⟨?_, ?_, ?_, ?_, ?_, ?_, ?_, ?_, ?_, ?_, ?_, ?_, ?_, ?_, ?_, ?_, ?_⟩ <;> simp [upd, u2, h1.e2, h1.e3, h1.e4, h1.e5, h1.e6, h1.e7, h1.e8, h1.e9, h1.e10, h1.e11, h1.e12, h1.e13, h1.e14, h1.e15, h1.e16, h1.e17, h1.e18]), by refine ⟨?_, ?_, ?_, ?_, ?_⟩ <;> simp [upd, u2, g1.s12, g1.s17, g1.s19, g1.s21, g1.s24]; exact ⟨n, hn, e⟩, (hSO.u (a := 24) (by decide)).tr (hSO.u (by decide))⟩
      · simp only [if_neg k1, if_pos k2]
        exact ⟨by (refine ⟨?_, ?_, ?_, ?_, ?_, ?_, ?_, ?_, ?_, ?_, ?_, ?_, ?_, ?_, ?_, ?_, ?_⟩ <;> simp [upd, u2, h1.e2, h1.e3, h1.e4, h1.e5, h1.e6, h1.e7, h1.e8, h1.e9, h1.e10, h1.e11, h1.e12, h1.e13, h1.e14, h1.e15, h1.e16, h1.e17, h1.e18]), by (refine ⟨?_, ?_, ?_, ?_, ?_⟩ <;> simp [upd, u2, g1.s12, g1.s17, g1.s19, g1.s21, g1.s24]), (hSO.u (a := 24) (by decide)).tr (hSO.u (by decide))⟩
      · simp only [if_neg k1, if_neg k2]
        exact ⟨by (refine ⟨?_, ?_, ?_, ?_, ?_, ?_, ?_, ?_, ?_, ?_, ?_, ?_, ?_, ?_, ?_, ?_, ?_⟩ <;> simp [upd, u2, h1.e2, h1.e3, h1.e4, h1.e5, h1.e6, h1.e7, h1.e8, h1.e9, h1.e10, h1.e11, h1.e12, h1.e13, h1.e14, h1.e15, h1.e16, h1.e17, h1.e18]), by refine ⟨?_, ?_, ?_, ?_, ?_⟩ <;> simp [upd, u2, g1.s12, g1.s17, g1.s19, g1.s21, g1.s24]; exact ⟨n, hn, e⟩, ((hSO.u (a := 24) (by decide)).tr (hSO.u (a := 18) (by decide))).tr (hSO.u (by decide))⟩
    · rw [if_neg c]
      have x4 : mC4 (mC3 (mC2 N1 i) i tx) i rx = u2 (mC3 (mC2 N1 i) i tx) 19 i rx := by
        show (if ¬ mC3 (mC2 N1 i) i tx 12 i = 3 then _ else _) = _
        rw [if_pos (by rw [e12]; exact c)]
      have x3 : mC3 (mC2 N1 i) i tx = u2 (mC2 N1 i) 18 i tx := by
        show (if ¬ mC2 N1 i 12 i = 3 then _ else _) = _
        rw [if_pos (by rw [e12']; exact c)]
      have x2 : mC2 N1 i = u2 N1 24 i (N1 24 i) := by
        unfold mC2
        rw [if_neg c]
        rcases g1.s24 with k | k <;> rw [k] <;> rfl
      rw [x4, x3, x2]
      unfold sUse
      rw [h1.e7, f7, h1.e8, f8]
      exact ⟨by (refine ⟨?_, ?_, ?_, ?_, ?_, ?_, ?_, ?_, ?_, ?_, ?_, ?_, ?_, ?_, ?_, ?_, ?_⟩ <;> simp [upd, u2, h1.e2, h1.e3, h1.e4, h1.e5, h1.e6, h1.e7, h1.e8, h1.e9, h1.e10, h1.e11, h1.e12, h1.e13, h1.e14, h1.e15, h1.e16, h1.e17, h1.e18]), by refine ⟨?_, ?_, ?_, ?_, ?_⟩ <;> simp [upd, u2, g1.s12, g1.s17, g1.s19, g1.s21, g1.s24]; exact ⟨n, hn, e⟩, ((hSO.u (a := 24) (by decide)).tr (hSO.u (a := 18) (by decide))).tr (hSO.u (by decide))⟩
  obtain ⟨k1, k2, k3⟩ := key
  exact ⟨sq_hurry k1 k2, si_hurry k2, (o1.tr k3).tr so_hurry⟩
end SES
