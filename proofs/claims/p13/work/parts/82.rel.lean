/-! THE TWO SIDES: what they share (Rl); each call keeps it -/
def Rl (M : zM) (N : zR) : Prop := (∀ r, r < 5 → (M 2 r 0 4 = 0 ↔ N 3 r = 0)) ∧ (∀ r s, r < 5 → s < 5 → (M 5 r s 2 = 0 ↔ N 11 (5 * r + s) = 0)) ∧ (∀ r s, r < 5 → s < 5 → ¬ N 11 (5 * r + s) = 0 → (M 5 r s 3 = 0 ↔ N 12 (5 * r + s) = 0)) ∧ M 6 0 0 3 = N 43 1 ∧ M 9 62 0 1 = N 43 42
def RL (σ : zS) (N : zR) : Prop := IC σ ∧ IV N ∧ Rl σ.1 N
theorem t_43 (N : zR) (k : Int32) {f : Nat} (h : f ≠ 0) : u2 N 43 0 k 43 f = N 43 f := by rw [u2_self, pk_un h]
theorem t0_00 (N : zR) : t0 N 43 0 = 0 := by rw [show t0 N 43 = upd (N 43) 0 0 from u2_self _ _ _ _, pk_us]
theorem iv_t {N : zR} (h : IV N) (k : Int32) : IV (u2 N 43 0 k) := by
  obtain ⟨i1, i2, i3, i4, i5, i6, i7, i8⟩ := h
  exact ⟨i1.of (t_43 N k (by decide)), i2, i3, i4, i5, i6, i7, by rw [t_43 N k (by decide)]; exact i8⟩
theorem rl_t {M : zM} {N : zR} (h : Rl M N) (k : Int32) : Rl M (u2 N 43 0 k) := by
  obtain ⟨h1, h2, h3, h4, h5⟩ := h
  exact ⟨h1, h2, h3, by rw [t_43 N k (by decide)]; exact h4, by rw [t_43 N k (by decide)]; exact h5⟩
theorem RL.t {σ : zS} {N : zR} (h : RL σ N) (k : Int32) : RL σ (u2 N 43 0 k) := ⟨h.1, iv_t h.2.1 k, rl_t h.2.2 k⟩
theorem Rl.go {M M' : zM} {N N' : zR} (h : Rl M N) (w : W0 M M') (wr : Wr M M') (c : N' 43 1 = N 43 1) (sm : Sm N N') (sr : ∀ r, N' 3 r = 0 ↔ N 3 r = 0) : Rl M' N' := by
  obtain ⟨h1, h2, h3, h4, h5⟩ := h
  obtain ⟨w1, w2, w3⟩ := w
  obtain ⟨s1, s2, s3, s4⟩ := sm
  refine ⟨fun r hr => (wr r).trans ((h1 r hr).trans (sr r).symm), fun r s hr hs => by rw [(w3 r s).1, s3]; exact h2 r s hr hs, fun r s hr hs hn => ?_, by rw [w1, c]; exact h4, by rw [w2, s1]; exact h5⟩
  rw [s3] at hn
  exact (w3 r s).2.trans ((h3 r s hr hs hn).trans (s4 _).symm)
theorem RL.go {σ σ' : zS} {N N' : zR} (h : RL σ N) (c : Cs σ σ') (g : Go N N') : RL σ' N' := ⟨c.ic, g.iv, h.2.2.go c.1.2 c.2 g.1.2.1.1.1 g.1.2.2 g.2⟩
/-- set -/
theorem rl_set {σ : zS} {N : zR} {r wh : Nat} {v : Int32} (h : RL σ N) (hw : wh < 10) (hr : r < 5) (hv : ¬ mFits (nI wh) v = 0) : RL (up σ.1 3 r 0 wh v, σ.2.1, σ.2.2) (u2 (t0 N) 2 (10 * r + wh) v) := by
  have h0 := h.t 0
  obtain ⟨hc, ⟨i1, i2, i3, i4, i5, i6, i7, i8⟩, hr1, hr2, hr3, hr4, hr5⟩ := h0
  refine ⟨⟨hc.1.of (by show up σ.1 3 r 0 wh v 6 0 0 2 = _; rw [up_k (by decide)]), hc.2⟩, ⟨i1, fun q hq => ?_, i3, i4, i5, i6, i7, i8⟩, fun q hq => ?_, fun q s hq hs => ?_, fun q s hq hs hn => ?_, ?_, ?_⟩
  · rw [u2_self]
    by_cases e : 10 * q + 6 = 10 * r + wh
    · rw [e, pk_us]
      obtain rfl : wh = 6 := by omega
      intro z
      subst z
      exact hv (by decide)
    · rw [pk_un e]; exact i2 q hq
  · show up σ.1 3 r 0 wh v 2 q 0 4 = 0 ↔ _; rw [up_k (by decide)]; exact hr1 q hq
  · show up σ.1 3 r 0 wh v 5 q s 2 = 0 ↔ _; rw [up_k (by decide)]; exact hr2 q s hq hs
  · show up σ.1 3 r 0 wh v 5 q s 3 = 0 ↔ _; rw [up_k (by decide)]; exact hr3 q s hq hs hn
  · show up σ.1 3 r 0 wh v 6 0 0 3 = _; rw [up_k (by decide)]; exact hr4
  · show up σ.1 3 r 0 wh v 9 62 0 1 = _; rw [up_k (by decide)]; exact hr5
/-- start -/
theorem cs_wk {σ : zS} {i : Nat} (h : IC σ) : Cs0 σ (wkS σ i) ∧ ∀ a, ((wkS σ i).1 2 a 0 4 = 0 ↔ ¬ a = i ∧ σ.1 2 a 0 4 = 0) := by
  have h1 := cs_2 (i := i) (k := 6) (v := σ.1 3 i 0 1) h (by decide)
  unfold wkS
  split
  · obtain ⟨g0, g1⟩ := cs_ac0 (σ := (up σ.1 2 i 0 6 (σ.1 3 i 0 1), σ.2.1, σ.2.2)) (i := i) h1.ic
    exact ⟨h1.1.tr g0, fun a => (g1 a).trans ⟨fun z => ⟨z.1, (h1.2 a).mp z.2⟩, fun z => ⟨z.1, (h1.2 a).mpr z.2⟩⟩⟩
  · obtain ⟨g0, g1⟩ := cs_back0 (σ := (up σ.1 2 i 0 6 (σ.1 3 i 0 1), σ.2.1, σ.2.2)) (i := i) h1.ic
    exact ⟨h1.1.tr g0, fun a => (g1 a).trans ⟨fun z => ⟨z.1, (h1.2 a).mp z.2⟩, fun z => ⟨z.1, (h1.2 a).mpr z.2⟩⟩⟩
abbrev mNk (N : zR) (r : Nat) : zR := u2 (t0 N) 5 r (t0 N 2 (10 * r + 1))
def mStart (N : zR) (r : Nat) : zR := if mWeighed (mNk N r) r = 255 then mAct (mNk N r) r else mBack (mNk N r) r
theorem go_start {N : zR} {r : Nat} (h : IV N) (hr : r < 5) : Go0 (t0 N) (mStart N r) ∧ ∀ a, (mStart N r 3 a = 0 ↔ ¬ a = r ∧ N 3 a = 0) := by
  have h0 := iv_t h 0
  have h1 := go_u (a := 5) (k := r) (v := t0 N 2 (10 * r + 1)) h0 rfl
  unfold mStart
  split
  · obtain ⟨g0, g1⟩ := go_act0 h1.iv hr
    exact ⟨h1.1.tr g0, fun a => (g1 a).trans ⟨fun z => ⟨z.1, (h1.2 a).mp z.2⟩, fun z => ⟨z.1, (h1.2 a).mpr z.2⟩⟩⟩
  · obtain ⟨g0, g1⟩ := go_back0 (r := r) h1.iv
    exact ⟨h1.1.tr g0, fun a => (g1 a).trans ⟨fun z => ⟨z.1, (h1.2 a).mp z.2⟩, fun z => ⟨z.1, (h1.2 a).mpr z.2⟩⟩⟩
theorem rl_start {σ : zS} {N : zR} {r : Nat} (h : RL σ N) (hr : r < 5) : RL (wkS σ r) (mStart N r) ∧ mStart N r 43 0 = 0 := by
  obtain ⟨c0, c1⟩ := cs_wk (i := r) h.1
  obtain ⟨g0, g1⟩ := go_start h.2.1 hr
  obtain ⟨h1, h2, h3, h4, h5⟩ := (h.t 0).2.2
  obtain ⟨w1, w2, w3⟩ := c0.2
  obtain ⟨s1, s2, s3, s4⟩ := g0.2.2
  refine ⟨⟨c0.1, g0.1, fun q hq => ?_, fun q s hq hs => by rw [(w3 q s).1, s3]; exact h2 q s hq hs, fun q s hq hs hn => ?_, by rw [w1, g0.2.1.1.1]; exact h4, by rw [w2, s1]; exact h5⟩, ?_⟩
  · refine (c1 q).trans (Iff.trans ?_ (g1 q).symm)
    exact ⟨fun z => ⟨z.1, (h1 q hq).mp z.2⟩, fun z => ⟨z.1, (h1 q hq).mpr z.2⟩⟩
  · rw [s3] at hn
    exact (w3 q s).2.trans ((h3 q s hq hs hn).trans (s4 _).symm)
  · rw [s2]; exact t0_00 N
/-- stop -/
theorem gone_o {M : zM} {i κ : Nat} (h : κ ≠ 5) : ∀ n, ∀ a b, gone M i n κ a b = M κ a b := by
  intro n
  induction n with
  | zero => intro a b; rfl
  | succ n ih => intro a b; show up (gone M i n) 5 i n 2 0 κ a b = _; rw [up_k h]; exact ih a b
theorem gone_3 {M : zM} {i : Nat} : ∀ n, ∀ a b, gone M i n 5 a b 3 = M 5 a b 3 := by
  intro n
  induction n with
  | zero => intro a b; rfl
  | succ n ih =>
    intro a b
    show up (gone M i n) 5 i n 2 0 5 a b 3 = _
    by_cases e : a = i ∧ b = n
    · obtain ⟨rfl, rfl⟩ := e; rw [up_self, pk_un (by decide)]; exact ih a b
    · rw [up_ne (fun z => e z.2)]; exact ih a b
theorem gone_2 {M : zM} {i : Nat} : ∀ n, ∀ a b, gone M i n 5 a b 2 = if a = i ∧ b < n then 0 else M 5 a b 2 := by
  intro n
  induction n with
  | zero => intro a b; rw [if_neg (by omega)]; rfl
  | succ n ih =>
    intro a b
    show up (gone M i n) 5 i n 2 0 5 a b 2 = _
    by_cases e : a = i ∧ b = n
    · obtain ⟨rfl, rfl⟩ := e; rw [up_self, pk_us, if_pos (by omega)]
    · rw [up_ne (fun z => e z.2), ih]
      by_cases q : a = i ∧ b < n
      · rw [if_pos q, if_pos (by omega)]
      · rw [if_neg q, if_neg (by omega)]
theorem stL_o {r a : Nat} (h : a ≠ 11) : ∀ (n s : Nat) (N : zR), mStL r n s N a = N a := by
  intro n
  induction n with
  | zero => intro s N; rfl
  | succ n ih => intro s N; show mStL r n (s + 1) _ a = _; rw [ih, u2_ne h]
theorem stL_11 {r : Nat} : ∀ (n s : Nat) (N : zR) (j : Nat), mStL r n s N 11 j = if 5 * r + s ≤ j ∧ j < 5 * r + s + n then 0 else N 11 j := by
  intro n
  induction n with
  | zero => intro s N j; rw [if_neg (by omega)]; rfl
  | succ n ih =>
    intro s N j
    show mStL r n (s + 1) (u2 N 11 (5 * r + s) 0) 11 j = _
    rw [ih, u2_self]
    by_cases q : 5 * r + (s + 1) ≤ j ∧ j < 5 * r + (s + 1) + n
    · rw [if_pos q, if_pos (by omega)]
    · rw [if_neg q]
      by_cases e : j = 5 * r + s
      · subst e; rw [pk_us, if_pos (by omega)]
      · rw [pk_un e, if_neg (by omega)]
theorem cs_gb {σ : zS} {i : Nat} (h : IC σ) : Cs σ (gbS σ i) := by
  unfold gbS
  split
  · exact cs_ad h
  · exact Cs.rf h
theorem go_st1 {N : zR} {r : Nat} {b : Int32} (h : IV N) (hr : r < 5) : Go N (mSt1 N r b) := by
  unfold mSt1
  split
  · exact Go.rf h
  split
  · exact Go.rf h
  · exact go_adv h hr
theorem rl_stop {σ : zS} {N : zR} {r : Nat} {b : Int32} (h : RL σ N) (hr : r < 5) : RL (stS σ r b) (mStop (t0 N) r b) ∧ mStop (t0 N) r b 43 0 = 0 := by
  obtain ⟨σ1, hs1, hc1⟩ : ∃ σ1 : zS, stS σ r b = (rForget σ1.1 r, σ1.2.1, σ1.2.2) ∧ Cs σ σ1 := by
    unfold stS
    split
    · exact ⟨gbS σ r, rfl, cs_gb h.1⟩
    · exact ⟨σ, rfl, Cs.rf h.1⟩
  have g1 := go_st1 (r := r) (b := b) (h.t 0).2.1 hr
  have h1 := (h.t 0).go hc1 g1
  have e0 : mSt1 (t0 N) r b 43 0 = 0 := by rw [g1.1.2.2.2.1]; exact t0_00 N
  unfold mStop
  generalize mSt1 (t0 N) r b = N1 at *
  rw [hs1]
  obtain ⟨hc, ⟨i1, i2, i3, i4, i5, i6, i7, i8⟩, q1, q2, q3, q4, q5⟩ := h1
  have o : ∀ a, a ≠ 11 → a ≠ 3 → a ≠ 4 → a ≠ 5 → mStL r 5 0 (mSt2 N1 r) a = N1 a := fun a x1 x2 x3 x4 => by
    rw [stL_o x1]
    unfold mSt2
    rw [u2_ne x4, u2_ne x3, u2_ne x2]
  have e3 : mStL r 5 0 (mSt2 N1 r) 3 = upd (N1 3) r 0 := by
    rw [stL_o (by decide)]
    rfl
  have e11 : ∀ j, mStL r 5 0 (mSt2 N1 r) 11 j = if 5 * r ≤ j ∧ j < 5 * r + 5 then 0 else N1 11 j := fun j => stL_11 5 0 _ j
  have f : ∀ κ a c, κ ≠ 5 → κ ≠ 2 → rForget σ1.1 r κ a c = σ1.1 κ a c := fun κ a c x1 x2 => by
    unfold rForget
    rw [gone_o x1, up_k x2, up_k x2, up_k x2]
  have f4 : ∀ a, rForget σ1.1 r 2 a 0 4 = if a = r then 0 else σ1.1 2 a 0 4 := fun a => by
    unfold rForget
    rw [gone_o (by decide)]
    by_cases e : a = r
    · subst e
      rw [if_pos rfl, up_self, pk_un (by decide), up_self, pk_un (by decide), up_self, pk_us]
    · rw [if_neg e, up_ne (fun z => e z.2.1), up_ne (fun z => e z.2.1), up_ne (fun z => e z.2.1)]
  have f2 : ∀ a c, rForget σ1.1 r 5 a c 2 = if a = r ∧ c < 5 then 0 else σ1.1 5 a c 2 := fun a c => by
    unfold rForget
    rw [gone_2, up_k (by decide), up_k (by decide), up_k (by decide)]
  have f3 : ∀ a c, rForget σ1.1 r 5 a c 3 = σ1.1 5 a c 3 := fun a c => by
    unfold rForget
    rw [gone_3, up_k (by decide), up_k (by decide), up_k (by decide)]
  refine ⟨⟨⟨hc.1.of (by show rForget σ1.1 r 6 0 0 2 = _; rw [f 6 0 0 (by decide) (by decide)]), hc.2⟩, ⟨i1.of (by rw [o 43 (by decide) (by decide) (by decide) (by decide)]), fun q hq => by rw [o 2 (by decide) (by decide) (by decide) (by decide)]; exact i2 q hq, fun q hq => by rw [o 31 (by decide) (by decide) (by decide) (by decide), o 35 (by decide) (by decide) (by decide) (by decide)]; exact i3 q hq, by rw [o 36 (by decide) (by decide) (by decide) (by decide)]; exact i4, by rw [o 37 (by decide) (by decide) (by decide) (by decide)]; exact i5, by rw [o 39 (by decide) (by decide) (by decide) (by decide)]; exact i6, by rw [o 41 (by decide) (by decide) (by decide) (by decide)]; exact i7, by rw [o 43 (by decide) (by decide) (by decide) (by decide)]; exact i8⟩, fun q hq => ?_, fun q s hq hs => ?_, fun q s hq hs hn => ?_, ?_, ?_⟩, by rw [o 43 (by decide) (by decide) (by decide) (by decide)]; exact e0⟩
  · show rForget σ1.1 r 2 q 0 4 = 0 ↔ _
    rw [f4, e3]
    by_cases e : q = r
    · subst e; rw [if_pos rfl, pk_us]
    · rw [if_neg e, pk_un e]; exact q1 q hq
  · show rForget σ1.1 r 5 q s 2 = 0 ↔ _
    rw [f2, e11]
    by_cases e : q = r
    · subst e; rw [if_pos ⟨rfl, hs⟩, if_pos (by omega)]
    · rw [if_neg (fun z => e z.1), if_neg (by omega)]; exact q2 q s hq hs
  · show rForget σ1.1 r 5 q s 3 = 0 ↔ _
    rw [e11] at hn
    rw [f3, o 12 (by decide) (by decide) (by decide) (by decide)]
    by_cases e : 5 * r ≤ 5 * q + s ∧ 5 * q + s < 5 * r + 5
    · rw [if_pos e] at hn; exact absurd rfl hn
    · rw [if_neg e] at hn; exact q3 q s hq hs hn
  · show rForget σ1.1 r 6 0 0 3 = _
    rw [f 6 0 0 (by decide) (by decide), o 43 (by decide) (by decide) (by decide) (by decide)]; exact q4
  · show rForget σ1.1 r 9 62 0 1 = _
    rw [f 9 62 0 (by decide) (by decide), o 43 (by decide) (by decide) (by decide) (by decide)]; exact q5
/-- ask -/
theorem rl_ask {σ : zS} {N : zR} {r : Nat} (h : RL σ N) (hr : r < 5) : RL (seS σ r 3 r 15) (mEmp (t0 N) r 3 r 15) ∧ mEmp (t0 N) r 3 r 15 43 0 = 0 := by
  have g := go_emp (r := r) (s := r) (g := 15) (what := 3) (h.t 0).2.1 hr (by omega)
  exact ⟨(h.t 0).go (cs_se h.1) g, by rw [g.1.2.2.2.1]; exact t0_00 N⟩
