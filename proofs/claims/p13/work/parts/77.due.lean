/-! THE REFERENCE: frames that are due; a tick's arrivals come to an end -/
def dn_ (q : Nat → Int32) (c : Int32) : Nat → Nat → Nat
  | 0, _ => 0
  | n + 1, k => (if q k = c then 1 else 0) + dn_ q c n (k + 1)
theorem dn_app (q : Nat → Int32) (c : Int32) : ∀ (n m k : Nat), dn_ q c (n + m) k = dn_ q c n k + dn_ q c m (k + n) := by
  intro n
  induction n with
  | zero => intro m k; simp [dn_]
  | succ n ih =>
    intro m k
    rw [show n + 1 + m = (n + m) + 1 by omega]
    show (if q k = c then 1 else 0) + dn_ q c (n + m) (k + 1) = _ + dn_ q c n (k + 1) + _
    rw [ih, show k + 1 + n = k + (n + 1) by omega]
    omega
theorem dn_eq {q q' : Nat → Int32} {c : Int32} : ∀ (n k k' : Nat), (∀ j, j < n → q' (k' + j) = q (k + j)) → dn_ q' c n k' = dn_ q c n k := by
  intro n
  induction n with
  | zero => intro k k' _; rfl
  | succ n ih =>
    intro k k' h
    show (if q' k' = c then 1 else 0) + dn_ q' c n (k' + 1) = (if q k = c then 1 else 0) + dn_ q c n (k + 1)
    rw [ih (k + 1) (k' + 1) (fun j hj => by have := h (j + 1) (by omega); rw [show k' + 1 + j = k' + (j + 1) by omega, show k + 1 + j = k + (j + 1) by omega]; exact this), show q' k' = q k from h 0 (by omega)]
theorem dn_0 {q : Nat → Int32} {c : Int32} : ∀ (n k : Nat), (∀ j, j < n → ¬ q (k + j) = c) → dn_ q c n k = 0 := by
  intro n
  induction n with
  | zero => intro k _; rfl
  | succ n ih =>
    intro k h
    show (if q k = c then 1 else 0) + dn_ q c n (k + 1) = 0
    rw [if_neg (show ¬ q k = c from h 0 (by omega)), ih (k + 1) (fun j hj => by have := h (j + 1) (by omega); rw [show k + 1 + j = k + (j + 1) by omega]; exact this)]
theorem dn_le {q : Nat → Int32} {c : Int32} : ∀ (n k : Nat), dn_ q c n k ≤ n := by
  intro n
  induction n with
  | zero => intro k; exact Nat.le_refl _
  | succ n ih =>
    intro k
    have := ih (k + 1)
    show (if q k = c then 1 else 0) + dn_ q c n (k + 1) ≤ n + 1
    split <;> omega
def dC (N : zR) (f : Nat) : Nat := dn_ (N 29) (N 43 1) (fly N - f) f
theorem dC_go {N N' : zR} {f : Nat} (h : Kp N N') (hf : f ≤ fly N) : dC N' f = dC N f := by
  obtain ⟨⟨h1, -⟩, h3, h4, h5⟩ := h
  unfold dC
  rw [h1, show fly N' - f = (fly N - f) + (fly N' - fly N) by omega, dn_app, dn_eq (fly N - f) f f (fun j hj => h4 _ (by omega)), dn_0 (fly N' - fly N) (f + (fly N - f)) (fun j hj => by have := h5 (f + (fly N - f) + j) (by omega) (by omega); exact this)]
  rfl
theorem dC_s {N : zR} {f : Nat} (hf : f < fly N) (h : ¬ N 29 f = N 43 1) : dC N (f + 1) = dC N f := by
  unfold dC
  rw [show fly N - f = (fly N - (f + 1)) + 1 by omega]
  show _ = (if N 29 f = N 43 1 then 1 else 0) + _
  rw [if_neg h, Nat.zero_add]
/-- what a place holds after those behind it have moved up -/
theorem fg1_a {a : Nat} (h : a ∉ [29, 30, 31, 32, 33, 34, 35]) (N : zR) (k : Nat) : fg1 N k a = N a := by
  simp only [List.mem_cons, List.not_mem_nil, or_false, not_or] at h
  unfold fg1
  rw [u2_ne h.2.2.2.2.2.2, u2_ne h.2.2.2.2.2.1, u2_ne h.2.2.2.2.1, u2_ne h.2.2.2.1, u2_ne h.2.2.1, u2_ne h.2.1, u2_ne h.1]
theorem fgS_o {a : Nat} (h : a ∉ [29, 30, 31, 32, 33, 34, 35, 36]) (N : zR) (k : Nat) : fgS N k a = N a := by
  simp only [List.mem_cons, List.not_mem_nil, or_false, not_or] at h
  unfold fgS
  rw [fbL_o _ _ _ _ h.2.2.2.2.2.2.2, fg1_a (by simp only [List.mem_cons, List.not_mem_nil, or_false, not_or]; exact ⟨h.1, h.2.1, h.2.2.1, h.2.2.2.1, h.2.2.2.2.1, h.2.2.2.2.2.1, h.2.2.2.2.2.2.1⟩)]
theorem fgL_o {a : Nat} (h : a ∉ [29, 30, 31, 32, 33, 34, 35, 36]) : ∀ (n k : Nat) (N : zR), fgL n k N a = N a := by
  intro n
  induction n with
  | zero => intro k N; rfl
  | succ n ih => intro k N; show fgL n (k + 1) (fgS N k) a = _; rw [ih, fgS_o h]
theorem fgS_29 (N : zR) (k : Nat) : fgS N k 29 = upd (N 29) k (N 29 (k + 1)) := by
  unfold fgS
  rw [fbL_o _ _ _ _ (by decide)]
  rfl
theorem fgS_31 (N : zR) (k : Nat) : fgS N k 31 = upd (N 31) k (N 31 (k + 1)) := by
  unfold fgS
  rw [fbL_o _ _ _ _ (by decide)]
  rfl
theorem fgS_35 (N : zR) (k : Nat) : fgS N k 35 = upd (N 35) k (N 35 (k + 1)) := by
  unfold fgS
  rw [fbL_o _ _ _ _ (by decide)]
  rfl
theorem fgL_at {a : Nat} (hS : ∀ (N : zR) (k : Nat), fgS N k a = upd (N a) k (N a (k + 1))) : ∀ (n k : Nat) (N : zR) (j : Nat), fgL n k N a j = if k ≤ j ∧ j < k + n then N a (j + 1) else N a j := by
  intro n
  induction n with
  | zero => intro k N j; rw [if_neg (by omega)]; rfl
  | succ n ih =>
    intro k N j
    show fgL n (k + 1) (fgS N k) a j = _
    rw [ih, hS]
    by_cases h : k + 1 ≤ j ∧ j < k + 1 + n
    · rw [if_pos h, if_pos (by omega), pk_un (by omega)]
    · rw [if_neg h]
      by_cases e : j = k
      · subst e; rw [pk_us, if_pos (by omega)]
      · rw [pk_un e, if_neg (by omega)]
theorem fbL_36 {k : Nat} (hk : k + 1 < 60) : ∀ (n i : Nat) (N : zR), i + n ≤ 40 → Byt (N 36) 2400 → Byt (fbL k n i N 36) 2400 := by
  intro n
  induction n with
  | zero => intro i N _ h; exact h
  | succ n ih =>
    intro i N hi h
    show Byt (fbL k n (i + 1) (u2 N 36 (40 * k + i) (N 36 (40 * (k + 1) + i))) 36) 2400
    refine ih (i + 1) _ (by omega) ?_
    rw [u2_self]
    exact h.up (h.at (by omega))
theorem fgL_36 : ∀ (n k : Nat) (N : zR), k + n < 60 → Byt (N 36) 2400 → Byt (fgL n k N 36) 2400 := by
  intro n
  induction n with
  | zero => intro k N _ h; exact h
  | succ n ih =>
    intro k N hk h
    show Byt (fgL n (k + 1) (fgS N k) 36) 2400
    refine ih (k + 1) _ (by omega) ?_
    unfold fgS
    exact fbL_36 (by omega) 40 0 _ (by omega) (by rw [fg1_a (by decide)]; exact h)
/-- as Go, but frames may go -/
def Ga (N N' : zR) : Prop := IV N' ∧ (N' 43 1 = N 43 1 ∧ N' 2 = N 2) ∧ Sm N N' ∧ ∀ r, N' 3 r = 0 ↔ N 3 r = 0
theorem Go.a {N N' : zR} (h : Go N N') : Ga N N' := ⟨h.1.1, h.1.2.1.1, h.1.2.2, h.2⟩
theorem Ga.rf {N : zR} (h : IV N) : Ga N N := (Go.rf h).a
theorem Ga.tr {N N1 N2 : zR} (h : Ga N N1) (g : Ga N1 N2) : Ga N N2 := ⟨g.1, ⟨g.2.1.1.trans h.2.1.1, g.2.1.2.trans h.2.1.2⟩, h.2.2.1.tr g.2.2.1, fun r => (g.2.2.2 r).trans (h.2.2.2 r)⟩
theorem mForget_43 {N : zR} {f c j : Nat} (h : j ≠ 28) : mForget N f c 43 j = N 43 j := by
  unfold mForget
  rw [u2_self, pk_un h, fgL_o (by decide)]
theorem mForget_o {N : zR} {f c a : Nat} (h : a ∉ [29, 30, 31, 32, 33, 34, 35, 36, 43]) : mForget N f c a = N a := by
  simp only [List.mem_cons, List.not_mem_nil, or_false, not_or] at h
  unfold mForget
  rw [u2_ne h.2.2.2.2.2.2.2.2, fgL_o (by simp only [List.mem_cons, List.not_mem_nil, or_false, not_or]; exact ⟨h.1, h.2.1, h.2.2.1, h.2.2.2.1, h.2.2.2.2.1, h.2.2.2.2.2.1, h.2.2.2.2.2.2.1, h.2.2.2.2.2.2.2.1⟩)]
theorem fly_forget {N : zR} {f c : Nat} (hc : c ≤ 60) : fly (mForget N f c) = c - 1 := by
  unfold fly mForget
  rw [u2_self, pk_us]
  exact nI_clamp (by omega)
theorem ga_forget {N : zR} {f : Nat} (h : IV N) (hf : f < fly N) : Ga N (mForget N f (fly N)) := by
  obtain ⟨i1, i2, i3, i4, i5, i6, i7, i8⟩ := h
  have hc := i1.2
  have ef := fly_forget (N := N) (f := f) hc
  refine ⟨⟨⟨?_, by omega⟩, fun r hr => by rw [mForget_o (by decide)]; exact i2 r hr, fun j hj => ?_, ?_, by rw [mForget_o (by decide)]; exact i5, by rw [mForget_o (by decide)]; exact i6, by rw [mForget_o (by decide)]; exact i7, by rw [mForget_43 (by decide)]; exact i8⟩, ⟨mForget_43 (by decide), mForget_o (by decide)⟩, ⟨mForget_43 (by decide), mForget_43 (by decide), mForget_o (by decide), fun i => by rw [mForget_o (by decide)]⟩, fun r => by rw [mForget_o (by decide)]⟩
  · rw [ef]
    unfold mForget
    rw [u2_self, pk_us]
  · have e31 : mForget N f (fly N) 31 j = if f ≤ j ∧ j < f + (fly N - 1 - f) then N 31 (j + 1) else N 31 j := by unfold mForget; rw [u2_ne (by decide), fgL_at fgS_31]
    have e35 : mForget N f (fly N) 35 j = if f ≤ j ∧ j < f + (fly N - 1 - f) then N 35 (j + 1) else N 35 j := by unfold mForget; rw [u2_ne (by decide), fgL_at fgS_35]
    rw [e31, e35]
    by_cases hq : f ≤ j ∧ j < f + (fly N - 1 - f)
    · rw [if_pos hq, if_pos hq]; exact i3 (j + 1) (by omega)
    · rw [if_neg hq, if_neg hq]; exact i3 j hj
  · unfold mForget
    rw [u2_ne (by decide)]
    exact fgL_36 _ _ _ (by omega) i4
theorem dC_forget {N : zR} {f : Nat} (h : IV N) (hf : f < fly N) (hd : N 29 f = N 43 1) : dC (mForget N f (fly N)) f + 1 = dC N f := by
  have hc := h.1.2
  unfold dC
  rw [fly_forget hc, mForget_43 (by decide), show fly N - f = (fly N - 1 - f) + 1 by omega]
  show _ = (if N 29 f = N 43 1 then 1 else 0) + dn_ _ _ _ _
  rw [if_pos hd, dn_eq (fly N - 1 - f) (f + 1) f (fun j hj => by
    unfold mForget
    rw [u2_ne (by decide), fgL_at fgS_29, if_pos (by omega), show f + 1 + j = f + j + 1 by omega])]
  omega
/-- what is heard of frame f -/
def hcL (f : Nat) : Nat → Nat → zR → zR
  | 0, _, N => N
  | n + 1, k, N => hcL f n (k + 1) (u2 N 39 k (N 36 (40 * f + k)))
theorem hcL_o {f a : Nat} (h : a ≠ 39) : ∀ (n k : Nat) (N : zR), hcL f n k N a = N a := by
  intro n
  induction n with
  | zero => intro k N; rfl
  | succ n ih => intro k N; show hcL f n (k + 1) _ a = _; rw [ih, u2_ne h]
theorem go_hcL {f : Nat} (hf : f < 60) : ∀ (n k : Nat) {N : zR}, IV N → k + n ≤ 40 → Go N (hcL f n k N) := by
  intro n
  induction n with
  | zero => intro k N h _; exact Go.rf h
  | succ n ih =>
    intro k N h hk
    have h1 := go_39 (k := k) (v := N 36 (40 * f + k)) h (h.2.2.2.1.at (by omega))
    exact h1.tr (ih (k + 1) h1.iv (by omega))
def mHeard (N : zR) (f z : Nat) : zR := hcL f z 0 (u2 N 43 40 (N 35 f))
def reL (wh what : Int32) (a : Nat) (goal by_ : Int32) : Nat → Nat → zR → zR
  | 0, _, N => N
  | n + 1, r, N => reL wh what a goal by_ n (r + 1) (if ¬ ((wh >>> (nI r &&& 31)) &&& 1) = 1 then N else mRe N r what a goal by_)
theorem go_reL {wh what : Int32} {a : Nat} {goal by_ : Int32} (ha : a < 15) : ∀ (n r : Nat) {N : zR}, IV N → r + n ≤ 5 → Go N (reL wh what a goal by_ n r N) := by
  intro n
  induction n with
  | zero => intro r N h _; exact Go.rf h
  | succ n ih =>
    intro r N h hr
    have h1 : Go N (if ¬ ((wh >>> (nI r &&& 31)) &&& 1) = 1 then N else mRe N r what a goal by_) := by
      split
      · exact Go.rf h
      · exact go_re h (by omega) ha
    exact h1.tr (ih (r + 1) h1.iv (by omega))
def mArr (N : zR) (f : Nat) : zR := reL (N 34 f) (N 30 f) (N 31 f).toNatClampNeg (N 32 f) (N 33 f) 5 0 (mForget (mHeard N f (N 35 f).toNatClampNeg) f (fly N))
theorem go_heard {N : zR} {f : Nat} (h : IV N) (hf : f < 60) : Go N (mHeard N f (N 35 f).toNatClampNeg) := by
  obtain ⟨-, z, hz, ez⟩ := h.2.2.1 f hf
  have h1 := go_f (f := 40) (v := N 35 f) h (by decide) (by decide) (by decide) (by decide)
  rw [ez, nI_clamp (by omega)]
  unfold mHeard
  exact h1.tr (go_hcL hf z 0 h1.iv (by omega))
theorem fly_heard {N : zR} {f z : Nat} : fly (mHeard N f z) = fly N := by
  apply fly_of
  unfold mHeard
  rw [hcL_o (by decide), u2_self, pk_un (by decide)]
theorem arr_ok1 {N : zR} {f : Nat} (h : IV N) (hf : f < fly N) : Ga N (mArr N f) ∧ (f ≤ fly (mArr N f)) ∧ (N 29 f = N 43 1 → dC (mArr N f) f + 1 = dC N f) := by
  have hc := h.1.2
  obtain ⟨⟨a, ha, ea⟩, z, hz, ez⟩ := h.2.2.1 f (by omega)
  have h1 := go_heard (f := f) h (by omega)
  have h2 := ga_forget (f := f) h1.iv (by rw [fly_heard]; exact hf)
  rw [fly_heard] at h2
  have h3 := go_reL (wh := N 34 f) (what := N 30 f) (a := (N 31 f).toNatClampNeg) (goal := N 32 f) (by_ := N 33 f) (by rw [ea, nI_clamp (by omega)]; exact ha) 5 0 h2.1 (by omega)
  have e1 : fly (mForget (mHeard N f (N 35 f).toNatClampNeg) f (fly N)) = fly N - 1 := fly_forget hc
  refine ⟨(h1.a.tr h2).tr h3.a, ?_, fun hd => ?_⟩
  · have := h3.1.2.1.2.1
    rw [e1] at this
    show f ≤ fly (reL _ _ _ _ _ 5 0 _)
    omega
  · have g1 := dC_go h3.1.2.1 (f := f) (by rw [e1]; omega)
    show dC (reL _ _ _ _ _ 5 0 _) f + 1 = _
    rw [g1]
    have g2 := dC_forget (f := f) h1.iv (by rw [fly_heard]; exact hf) (by rw [h1.1.2.1.2.2.1 f hf, h1.1.2.1.1.1]; exact hd)
    rw [fly_heard] at g2
    rw [g2]
    exact dC_go h1.1.2.1 (by omega)
def aL : Nat → Nat → zR → zR
  | 0, _, N => N
  | n + 1, f, N => if fly N ≤ f then N else if ¬ N 29 f = N 43 1 then aL n (f + 1) N else aL n f (mArr N f)
theorem ga_aL : ∀ (n f : Nat) {N : zR}, IV N → Ga N (aL n f N) := by
  intro n
  induction n with
  | zero => intro f N h; exact Ga.rf h
  | succ n ih =>
    intro f N h
    unfold aL
    split
    · exact Ga.rf h
    split
    · exact ih _ h
    · have h1 := (arr_ok1 (f := f) h (by omega)).1
      exact h1.tr (ih _ h1.1)
def mAA (N : zR) : zR := aL 3800 0 N
theorem fl_ge {N : zR} {f : Nat} (hI : InvR N) (hf : f ≤ 60) (h : N 43 28 ≤ nI f) : fly N ≤ f := by
  rw [hI.1] at h
  rcases Nat.lt_or_ge f (fly N) with q | q
  · exact absurd h (nI_ge (a := f) (b := fly N) q (by have := hI.2; omega))
  · exact q
theorem fl_lt {N : zR} {f : Nat} (hI : InvR N) (hf : f ≤ 60) (h : ¬ N 43 28 ≤ nI f) : f < fly N := by
  rcases Nat.lt_or_ge f (fly N) with q | q
  · exact q
  · exact absurd (by rw [hI.1]; exact nI_le q (by omega)) h
