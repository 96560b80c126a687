/-! A run depends on the replies that it uses alone: the whole run. -/
theorem aStep_u {sg : Nat → Int32} {ln sz : Nat → Nat} {r : List Nat} : ∀ {s s' : aS}, aStep sg ln sz r s = .inl s' → aU s ≤ aU s'
  | (true, pl, x, k, P, K, n, g, u, q), s', hs => by
    simp only [aStep, aBeg] at hs
    repeat' split at hs
    all_goals first | (cases hs; done) | (cases hs; exact Nat.le_refl _)
  | (false, _, v, _, [], _, n, g, u, q), s', hs => by cases hs
  | (false, pl0, v, k0, (pl, x, k, w) :: P, K, n, g, u, q), s', hs => by
    simp only [aStep, aTop, aAsk] at hs
    repeat' split at hs
    all_goals first | (cases hs; done) | (cases hs; exact Nat.le_refl _) | (cases hs; exact Nat.le_succ _)
theorem aStep_e {sg : Nat → Int32} {ln sz : Nat → Nat} {r : List Nat} : ∀ {s : aS} {e : aE}, aJ sg sz r s → aStep sg ln sz r s = .inr e → eU e = aU s ∧ (e.1 = 8 → r.length ≤ aU s)
  | (true, pl, x, k, P, K, n, g, u, q), e, hJ, hs => by
    simp only [aStep, aBeg] at hs
    repeat' split at hs
    all_goals first | (cases hs; done) | (cases hs; exact ⟨rfl, fun z => absurd z (by show ¬ ((9 : Int) = 8); decide)⟩)
  | (false, _, v, _, [], _, n, g, u, q), e, hJ, hs => by
    simp only [aStep] at hs
    cases hs
    have hv : v < 8 := hJ.1
    refine ⟨rfl, fun z => ?_⟩
    have z : (v : Int) = 8 := z
    omega
  | (false, pl0, v, k0, (pl, x, k, w) :: P, K, n, g, u, q), e, hJ, hs => by
    simp only [aStep, aTop, aAsk] at hs
    repeat' split at hs
    all_goals first | (cases hs; done) | (cases hs; exact ⟨rfl, fun z => absurd z (by show ¬ ((9 : Int) = 8); decide)⟩) | (cases hs; rename_i hu; exact ⟨rfl, fun _ => Nat.not_lt.mp hu⟩)
theorem aRun_s {sg : Nat → Int32} {ln sz : Nat → Nat} {r : List Nat} {f : Nat} {s s' : aS} (hs : aStep sg ln sz r s = .inl s') : aRun sg ln sz r (f + 1) s = aRun sg ln sz r f s' := by
  show (match aStep sg ln sz r s with | .inl s' => aRun sg ln sz r f s' | .inr e => e) = _
  rw [hs]
theorem aRun_e {sg : Nat → Int32} {ln sz : Nat → Nat} {r : List Nat} {f : Nat} {s : aS} {e : aE} (hs : aStep sg ln sz r s = .inr e) : aRun sg ln sz r (f + 1) s = e := by
  show (match aStep sg ln sz r s with | .inl s' => aRun sg ln sz r f s' | .inr e => e) = _
  rw [hs]
/-- how many replies are used; a run that doesn't end asking is the same for all rows that begin with those -/
theorem aRun_pre {sg : Nat → Int32} {ln sz : Nat → Nat} {r : List Nat} (hB : aWB sg ln sz) (hr8 : ∀ z ∈ r, z < 8) : ∀ (f : Nat) (s : aS), aMu s < f → aJ sg sz r s → aU s ≤ eU (aRun sg ln sz r f s) ∧ eU (aRun sg ln sz r f s) ≤ r.length ∧ ((aRun sg ln sz r f s).1 = 8 → eU (aRun sg ln sz r f s) = r.length) ∧ ∀ r' : List Nat, (aRun sg ln sz r f s).1 ≠ 8 → (∀ i, i < eU (aRun sg ln sz r f s) → r'.getD i 0 = r.getD i 0) → eU (aRun sg ln sz r f s) ≤ r'.length → aRun sg ln sz r' f s = aRun sg ln sz r f s := by
  intro f
  induction f with
  | zero => intro s hf; exact absurd hf (Nat.not_lt_zero _)
  | succ f ih =>
    intro s hf hJ
    have hur : aU s ≤ r.length := by
      obtain ⟨b, pl, x, k, P, K, n, g, u, q⟩ := s
      exact hJ.2.2.2.2.2.2.1
    cases hs : aStep sg ln sz r s with
    | inl s' =>
      obtain ⟨j1, j2⟩ := aJ_step hB hr8 hJ hs
      have hu := aStep_u hs
      obtain ⟨i1, i2, i3, i4⟩ := ih s' (by omega) j1
      rw [aRun_s hs]
      refine ⟨by omega, i2, i3, fun r' h8 hag hle => ?_⟩
      have hs' : aStep sg ln sz r' s = .inl s' := by
        rcases aStep_row sg ln sz s with hrow | ⟨d, v, n, g, P, K, q, hrow⟩
        · rw [hrow r' r]; exact hs
        · have h0 := hrow r
          rw [hs] at h0
          by_cases hlt : aU s < r.length
          · rw [if_pos hlt] at h0
            have e0 := Sum.inl.inj h0
            have hu1 : aU s' = aU s + 1 := by rw [e0]; rfl
            rw [hrow r', if_pos (by omega), hag _ (by omega), e0]
          · rw [if_neg hlt] at h0
            cases h0
      rw [aRun_s hs']
      exact i4 r' h8 hag hle
    | inr e =>
      obtain ⟨e1, e2⟩ := aStep_e hJ hs
      rw [aRun_e hs]
      refine ⟨by omega, by omega, fun z => by have := e2 z; omega, fun r' h8 hag hle => ?_⟩
      have hs' : aStep sg ln sz r' s = .inr e := by
        rcases aStep_row sg ln sz s with hrow | ⟨d, v, n, g, P, K, q, hrow⟩
        · rw [hrow r' r]; exact hs
        · have h0 := hrow r
          rw [hs] at h0
          by_cases hlt : aU s < r.length
          · rw [if_pos hlt] at h0
            cases h0
          · rw [if_neg hlt] at h0
            have e0 := Sum.inr.inj h0
            exact absurd (by rw [e0]) h8
      rw [aRun_e hs']
