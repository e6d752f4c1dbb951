/-! THE TWO SIDES: a session packet -/
section PACKET
variable {t : Nat} {σ : zS} {N : zR} {r s F z a : Nat} {M : zM} {st hops ad : Int32}
theorem mb_said (h : hHD M F N 2 st hops ad) (fz : ∃ z, 24 ≤ z ∧ hFX (M 9 F 0) (M 10 F 0) 2 z (N 39)) : by_ M F 1 / 64 = N 39 1 >>> ((6 : Int32) &&& 31) := by
  obtain ⟨z, hz, fx⟩ := fz
  have b1 : by_ M F 1 = N 39 1 := fx_b fx 1 (by omega) (by omega)
  rw [b1]; exact (said_div h.hb).1
/-- whole packets -/
def mWh (N : zR) (hops : Int32) : Int32 := if ¬ hops = 255 then 0 else if N 43 40 < 24 then 0 else if N 39 0 < 32 then 0 else if 63 < N 39 0 then 0 else if N 39 3 < 24 then 0 else if N 43 40 < N 39 3 then 0 else if N 39 2 = 0 then 0 else if ¬ (N 39 1 &&& 5) = 0 then 0 else if lg_cmp (mTold N 4 4) 0 = 0 then 0 else 1
theorem pkR_eq : mPkR N r hops st = if mWh N hops = 0 then 0 else if mMeant N r st = -1 then 0 else 1 := by
  unfold mPkR mWh
  by_cases c1 : hops = 255
  case neg => simp [c1]
  by_cases c2 : N 43 40 < 24
  case pos => simp [c2]
  by_cases c3 : N 39 0 < 32
  case pos => simp [c3]
  by_cases c4 : 63 < N 39 0
  case pos => simp [c4]
  by_cases c5 : N 39 3 < 24
  case pos => simp [c5]
  by_cases c6 : N 43 40 < N 39 3
  case pos => simp [c6]
  by_cases c7 : N 39 2 = 0
  case pos => simp [c7]
  by_cases c8 : (N 39 1 &&& 5) = 0
  case neg => simp [c8]
  by_cases c9 : lg_cmp (mTold N 4 4) 0 = 0
  case pos => simp [c9]
  simp [c1, c2, c3, c4, c5, c6, c7, c8, c9]
theorem whole_eq (h : hHD M F N 2 st hops ad) : rWhole M F = mWh N hops ∧ (¬ mWh N hops = 0 → ∃ z, 24 ≤ z ∧ hFX (M 9 F 0) (M 10 F 0) 2 z (N 39)) := by
  obtain ⟨z, ez, fx⟩ := h.fx
  have hz := fx.le
  unfold rWhole mWh
  rw [h.hp, fx.len, ez]
  by_cases c1 : hops = 255
  · simp only [if_neg (fun k : ¬ hops = 255 => k c1)]
    by_cases c2 : nI z < 24
    · simp only [if_pos c2]; exact ⟨trivial, fun k => absurd trivial k⟩
    · have h24 : 24 ≤ z := by
        rcases Nat.lt_or_ge z 24 with q | q
        · exact absurd (nI_lt (a := z) (b := 24) q (by decide)) c2
        · exact q
      refine ⟨?_, fun _ => ⟨z, h24, fx⟩⟩
      have b0 : by_ M F 0 = N 39 0 := fx_b fx 0 (by omega) (by omega)
      have b1 : by_ M F 1 = N 39 1 := fx_b fx 1 (by omega) (by omega)
      have b2 : by_ M F 2 = N 39 2 := fx_b fx 2 (by omega) (by omega)
      have b3 : by_ M F 3 = N 39 3 := fx_b fx 3 (by omega) (by omega)
      have hf4' : fo_ M F 4 = nI (bn (N 39) 4) := fx_f fx h.hb 4 (by omega) (by omega)
      have e4 : (lg_cmp (mTold N 4 4) 0 = 0) = (fo_ M F 4 = 0) := by
        rw [mTold4 h.hb (by decide), hf4']
        have l := bn_lt (a := 4) h.hb (by decide)
        apply propext
        exact (cmp_eq (a := bn (N 39) 4) (b := 0) (by omega) (by decide)).trans (nI_inj (a := bn (N 39) 4) (b := 0) l (by decide)).symm
      rw [b0, b1, b2, b3]
      simp only [e4]
  · simp only [if_pos c1]; exact ⟨trivial, fun k => absurd trivial k⟩
/-- the number that the packet is meant for -/
theorem num_ok (h : hFX (M 9 F 0) (M 10 F 0) 2 z (N 39)) (hz : 24 ≤ z) (hB : Byt (N 39) 40) : (fo_ M F 8 = 0 ↔ bn (N 39) 8 = 0) ∧ ∀ m, m < 100 → (nI m = fo_ M F 8 ↔ bn (N 39) 8 = m) := by
  have l := bn_lt (a := 8) hB (by decide)
  have e : fo_ M F 8 = hfour (M 10 F 0) 8 := fF_in h.len h.le 8 (by omega)
  have k := h.num rfl hz
  rw [four_n hB (by decide), (told_cap l).1] at k
  rw [e]
  generalize bn (N 39) 8 = n at *
  have e2 : ∃ x, hfour (M 10 F 0) 8 = nI x ∧ x < 2 ^ 32 ∧ ∀ m, m < 100 → (x = m ↔ n = m) := by
    rcases k with k | k
    · exact ⟨n, k, l, fun m _ => Iff.rfl⟩
    · have l2 : min n 100000 ≤ 100000 := Nat.min_le_right n 100000
      exact ⟨min n 100000, k, by omega, fun m hm => by omega⟩
  obtain ⟨x, ex, lx, hx⟩ := e2
  rw [ex]
  refine ⟨(nI_inj (a := x) (b := 0) lx (by decide)).trans (hx 0 (by decide)), fun m hm => ?_⟩
  exact ⟨fun q => (hx m hm).mp ((nI_inj (a := m) (b := x) (by omega) lx).mp q).symm, fun q => (nI_inj (a := m) (b := x) (by omega) lx).mpr ((hx m hm).mpr q).symm⟩
theorem num_l {m : Nat} (hB : Byt (N 39) 40) (hm : m < 2 ^ 31) : (lg_cmp (mNum N) (nI m).toInt64 = 0) = (bn (N 39) 8 = m) := by
  have l := bn_lt (a := 8) hB (by decide)
  unfold mNum
  rw [mTold4 hB (by decide), nI_l hm]
  exact propext (cmp_eq (a := bn (N 39) 8) (b := m) (by omega) (by omega))
theorem meant_eq (w : hWA M N) (hr : r < 5) (h : hHD M F N 2 (nI a) hops ad) (ha : a < 16) (fx : hFX (M 9 F 0) (M 10 F 0) 2 z (N 39)) (hz : 24 ≤ z) : (∃ s, s < 5 ∧ rMeant M r F 5 0 = some s ∧ mMeant N r (nI a) = nI s ∧ ¬ N 11 (5 * r + s) = 0) ∨ (rMeant M r F 5 0 = none ∧ mMeant N r (nI a) = -1) := by
  have hB := h.hb
  obtain ⟨n0, nm⟩ := num_ok fx hz hB
  have en : ∀ s, s < 5 → (16 * nI r + nI s + 1 : Int32) = nI (16 * r + s + 1) := fun s _ => by rw [show (16 : Int32) = nI 16 from rfl, pk_mul, nI_add, nI_1]
  have ml : ∀ s, s < 5 → (lg_cmp (mNum N) (16 * nI r + nI s + 1).toInt64 = 0) = (bn (N 39) 8 = 16 * r + s + 1) := fun s hs => by rw [en s hs]; exact num_l hB (by omega)
  have m0 : (lg_cmp (mNum N) 0 = 0) = (bn (N 39) 8 = 0) := num_l (m := 0) hB (by decide)
  have cl : ∀ s, s < 5 → (nI (16 * r + s + 1) = fo_ M F 8 ↔ bn (N 39) 8 = 16 * r + s + 1) := fun s hs => nm _ (by omega)
  have b1 : by_ M F 1 / 64 = N 39 1 >>> ((6 : Int32) &&& 31) := mb_said h ⟨z, hz, fx⟩
  by_cases c0 : bn (N 39) 8 = 0
  · -- a first packet, or none
    have tf : ∀ (n s : Nat), s + n ≤ 5 → mtF N r n s = none := by
      intro n
      induction n with
      | zero => intro s _; rfl
      | succ n ih =>
        intro s hs
        have k1 : ¬ lg_cmp (mNum N) (16 * nI r + nI s + 1).toInt64 = 0 := by rw [ml s (by omega)]; omega
        show (if N 11 (5 * r + s) = 0 then mtF N r n (s + 1) else if ¬ lg_cmp (mNum N) (16 * nI r + nI s + 1).toInt64 = 0 then mtF N r n (s + 1) else some s) = none
        rw [ih (s + 1) (by omega), if_pos k1]
        split <;> rfl
    have f0 : fo_ M F 8 = 0 := n0.mpr c0
    have eF : rFirst M F = if 1 < N 39 1 >>> ((6 : Int32) &&& 31) then 0 else 1 := by
      unfold rFirst
      rw [if_neg (fun k => k f0), b1]
    have eB : mBegins N r (nI a) = if 1 < N 39 1 >>> ((6 : Int32) &&& 31) then 0 else if a < 5 ∧ ¬ N 11 (5 * r + a) = 0 then 1 else 0 := by
      unfold mBegins
      rw [if_neg (by rw [m0]; exact fun k => k c0)]
      by_cases c1 : 1 < N 39 1 >>> ((6 : Int32) &&& 31)
      · rw [if_pos c1, if_pos c1]
      · rw [if_neg c1, if_neg c1]
        have eI : mIsR (nI a) = if a < 5 then 1 else 0 := by
          unfold mIsR
          rw [if_neg (nI_pos (by omega))]
          by_cases q : a < 5
          · rw [if_pos q, if_neg (show ¬ (5 : Int32) ≤ nI a from nI_ge (a := a) (b := 5) q (by decide))]
          · rw [if_neg q, if_pos (show (5 : Int32) ≤ nI a from nI_le (a := 5) (b := a) (by omega) (by omega))]
        rw [eI, nI_clamp (by omega)]
        by_cases q : a < 5
        · rw [if_pos q, if_neg (by decide)]
          by_cases q2 : N 11 (5 * r + a) = 0
          · rw [if_pos q2, if_neg (fun k => k.2 q2)]
          · rw [if_neg q2, if_pos ⟨q, q2⟩]
        · rw [if_neg q, if_pos rfl, if_neg (fun k => q k.1)]
    have eM : mMeant N r (nI a) = if mBegins N r (nI a) = 0 then -1 else nI a := by
      unfold mMeant
      rw [tf 5 0 (by decide)]
    have lp : ∀ (n s : Nat), s + n ≤ 5 → rMeant M r F n s = if rFirst M F = 0 then none else if s ≤ a ∧ a < s + n ∧ ¬ N 11 (5 * r + a) = 0 then some a else none := by
      intro n
      induction n with
      | zero =>
        intro s _
        rw [if_neg (show ¬ (s ≤ a ∧ a < s + 0 ∧ ¬ N 11 (5 * r + a) = 0) from fun k => by omega)]
        split <;> rfl
      | succ n ih =>
        intro s hs
        have k1 : ¬ nI (16 * r + s + 1) = fo_ M F 8 := fun k => by have := (cl s (by omega)).mp k; omega
        have q2 := (w.ss r s hr (by omega)).e2
        show (if M 5 r s 2 = 0 then rMeant M r F n (s + 1) else if nI (16 * r + s + 1) = fo_ M F 8 then some s else if rFirst M F = 0 then rMeant M r F n (s + 1) else if nI s = M 9 F 0 3 then some s else rMeant M r F n (s + 1)) = _
        rw [ih (s + 1) (by omega), if_neg k1, q2, h.fm]
        by_cases c1 : rFirst M F = 0
        · rw [if_pos c1, if_pos c1, if_pos c1]; split <;> rfl
        · rw [if_neg c1, if_neg c1, if_neg c1]
          by_cases c2 : s = a
          · subst c2
            by_cases c3 : N 11 (5 * r + s) = 0
            · rw [if_pos c3, if_neg (fun k => k.2.2 c3), if_neg (fun k => k.2.2 c3)]
            · rw [if_neg c3, if_pos rfl, if_pos ⟨by omega, by omega, c3⟩]
          · have c4 : ¬ nI s = nI a := fun k => c2 ((nI_eq (by omega) (by omega)).mp k)
            rw [if_neg c4]
            have e5 : (s + 1 ≤ a ∧ a < s + 1 + n ∧ ¬ N 11 (5 * r + a) = 0) ↔ (s ≤ a ∧ a < s + (n + 1) ∧ ¬ N 11 (5 * r + a) = 0) := ⟨fun k => ⟨by omega, by omega, k.2.2⟩, fun k => ⟨by omega, by omega, k.2.2⟩⟩
            by_cases c5 : s ≤ a ∧ a < s + (n + 1) ∧ ¬ N 11 (5 * r + a) = 0
            · rw [if_pos c5, if_pos (e5.mpr c5)]; split <;> rfl
            · rw [if_neg c5, if_neg (fun k => c5 (e5.mp k))]; split <;> rfl
    rw [lp 5 0 (by decide), eM, eB, eF]
    by_cases c1 : 1 < N 39 1 >>> ((6 : Int32) &&& 31)
    · rw [if_pos c1, if_pos rfl, if_pos c1, if_pos rfl]; exact Or.inr ⟨rfl, rfl⟩
    · rw [if_neg c1, if_neg (by decide), if_neg c1]
      by_cases c2 : a < 5 ∧ ¬ N 11 (5 * r + a) = 0
      · rw [if_pos c2, if_pos ⟨by omega, by omega, c2.2⟩, if_neg (by decide)]
        exact Or.inl ⟨a, c2.1, rfl, rfl, c2.2⟩
      · rw [if_neg c2, if_neg (fun k => c2 ⟨by omega, k.2.2⟩), if_pos rfl]
        exact Or.inr ⟨rfl, rfl⟩
  · -- a number is named
    have f0 : ¬ fo_ M F 8 = 0 := fun k => c0 (n0.mp k)
    have eF : rFirst M F = 0 := by unfold rFirst; rw [if_pos f0]
    have eB : mBegins N r (nI a) = 0 := by unfold mBegins; rw [if_pos (by rw [m0]; exact c0)]
    have lp : ∀ (n s : Nat), s + n ≤ 5 → rMeant M r F n s = mtF N r n s ∧ ∀ x, mtF N r n s = some x → x < 5 ∧ ¬ N 11 (5 * r + x) = 0 := by
      intro n
      induction n with
      | zero => intro s _; exact ⟨rfl, fun x k => by cases k⟩
      | succ n ih =>
        intro s hs
        obtain ⟨i1, i2⟩ := ih (s + 1) (by omega)
        have q2 := (w.ss r s hr (by omega)).e2
        have e1 : rMeant M r F (n + 1) s = if N 11 (5 * r + s) = 0 then mtF N r n (s + 1) else if bn (N 39) 8 = 16 * r + s + 1 then some s else mtF N r n (s + 1) := by
          show (if M 5 r s 2 = 0 then rMeant M r F n (s + 1) else if nI (16 * r + s + 1) = fo_ M F 8 then some s else if rFirst M F = 0 then rMeant M r F n (s + 1) else if nI s = M 9 F 0 3 then some s else rMeant M r F n (s + 1)) = _
          rw [i1, q2, if_pos eF]
          simp only [cl s (by omega)]
        have e2 : mtF N r (n + 1) s = if N 11 (5 * r + s) = 0 then mtF N r n (s + 1) else if bn (N 39) 8 = 16 * r + s + 1 then some s else mtF N r n (s + 1) := by
          show (if N 11 (5 * r + s) = 0 then mtF N r n (s + 1) else if ¬ lg_cmp (mNum N) (16 * nI r + nI s + 1).toInt64 = 0 then mtF N r n (s + 1) else some s) = _
          simp only [ml s (by omega)]
          by_cases c : N 11 (5 * r + s) = 0
          · rw [if_pos c, if_pos c]
          · rw [if_neg c, if_neg c]
            by_cases c' : bn (N 39) 8 = 16 * r + s + 1
            · rw [if_neg (fun k => k c'), if_pos c']
            · rw [if_pos c', if_neg c']
        refine ⟨e1.trans e2.symm, fun x hx => ?_⟩
        rw [e2] at hx
        by_cases c : N 11 (5 * r + s) = 0
        · rw [if_pos c] at hx; exact i2 x hx
        · rw [if_neg c] at hx
          by_cases c' : bn (N 39) 8 = 16 * r + s + 1
          · rw [if_pos c'] at hx; cases hx; exact ⟨by omega, c⟩
          · rw [if_neg c'] at hx; exact i2 x hx
    obtain ⟨l1, l2⟩ := lp 5 0 (by decide)
    rw [l1]
    unfold mMeant
    cases hm : mtF N r 5 0 with
    | some x => exact Or.inl ⟨x, (l2 x hm).1, rfl, rfl, (l2 x hm).2⟩
    | none =>
      refine Or.inr ⟨rfl, ?_⟩
      dsimp only
      rw [eB, if_pos rfl]
end PACKET
