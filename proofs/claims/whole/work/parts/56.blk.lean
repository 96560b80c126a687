/-! Runs by rows: what they end with, blocks of rows that run alike. -/
def eOk (e : aE) : Prop := 0 ≤ e.1 ∧ e.1 ≤ 9 ∧ (e.1 = 8 → 0 ≤ e.2.1 ∧ e.2.1 ≤ 2 ∧ 0 ≤ e.2.2.1 ∧ e.2.2.1 ≤ 7) ∧ (e.1 ≠ 8 → e.2.1 = -6 ∧ e.2.2.1 = -6)
theorem eOk_9 (n g u : Nat) (q : List Nat) : eOk (9, -6, -6, n, g, u, q) := ⟨by show (0 : Int) ≤ 9; decide, by show (9 : Int) ≤ 9; decide, fun z => absurd z (by show ¬ ((9 : Int) = 8); decide), fun _ => ⟨rfl, rfl⟩⟩
theorem aStep_ok {sg : Nat → Int32} {ln sz : Nat → Nat} {r : List Nat} : ∀ {s : aS} {e : aE}, aJ sg sz r s → aStep sg ln sz r s = .inr e → eOk e
  | (true, pl, x, k, P, K, n, g, u, q), e, hJ, hs => by
    simp only [aStep, aBeg] at hs
    repeat' split at hs
    all_goals first | (cases hs; done) | (cases hs; exact eOk_9 _ _ _ _)
  | (false, _, v, _, [], _, n, g, u, q), e, hJ, hs => by
    simp only [aStep] at hs
    cases hs
    have hv : v < 8 := hJ.1
    exact ⟨by show (0 : Int) ≤ (v : Int); omega, by show (v : Int) ≤ 9; omega, fun z => by have z : (v : Int) = 8 := z; omega, fun _ => ⟨rfl, rfl⟩⟩
  | (false, pl0, v, k0, (pl, x, k, w) :: P, K, n, g, u, q), e, hJ, hs => by
    have hv : v < 8 := hJ.1
    simp only [aStep, aTop, aAsk] at hs
    repeat' split at hs
    all_goals first | (cases hs; done) | (cases hs; exact eOk_9 _ _ _ _) | skip
    rename_i h5 _ _ _
    cases hs
    refine ⟨by show (0 : Int) ≤ 8; decide, by show (8 : Int) ≤ 9; decide, fun _ => ?_, fun z => absurd rfl z⟩
    show (0 : Int) ≤ (((sg pl).toInt - 112).toNat : Int) ∧ (((sg pl).toInt - 112).toNat : Int) ≤ 2 ∧ (0 : Int) ≤ (v : Int) ∧ (v : Int) ≤ 7
    omega
theorem aRun_ok {sg : Nat → Int32} {ln sz : Nat → Nat} {r : List Nat} (hB : aWB sg ln sz) (hr8 : ∀ z ∈ r, z < 8) : ∀ (f : Nat) (s : aS), aMu s < f → aJ sg sz r s → eOk (aRun sg ln sz r f s) := by
  intro f
  induction f with
  | zero => intro s hf; exact absurd hf (Nat.not_lt_zero _)
  | succ f ih =>
    intro s hf hJ
    cases hs : aStep sg ln sz r s with
    | inl s' =>
      obtain ⟨j1, j2⟩ := aJ_step hB hr8 hJ hs
      rw [aRun_s hs]
      exact ih s' (by omega) j1
    | inr e =>
      rw [aRun_e hs]
      exact aStep_ok hJ hs
theorem aMu_0 (p x : Nat) : aMu (aS0 p x) < 9000 := by
  show (600 - 3 * 0) + (8000 - 200 * 0) + 0 + 0 < 9000
  omega
section BLK
variable {sg : Nat → Int32} {ln sz : Nat → Nat}
/-- the run by a row -/
def rnR (sg : Nat → Int32) (ln sz : Nat → Nat) (p x : Nat) (r : List Nat) : aE := aRun sg ln sz r 9000 (aS0 p x)
theorem rnR_ok (hB : aWB sg ln sz) {p x : Nat} (hp : p < 4) (hz : 0 < sz p) (hx : x < 8) {r : List Nat} (hr8 : ∀ z ∈ r, z < 8) : eOk (rnR sg ln sz p x r) := aRun_ok hB hr8 9000 _ (aMu_0 p x) (aJ_0 hp hz hx)
theorem rnR_pre (hB : aWB sg ln sz) {p x : Nat} (hp : p < 4) (hz : 0 < sz p) (hx : x < 8) {r : List Nat} (hr8 : ∀ z ∈ r, z < 8) : eU (rnR sg ln sz p x r) ≤ r.length ∧ ((rnR sg ln sz p x r).1 = 8 → eU (rnR sg ln sz p x r) = r.length) ∧ ∀ r' : List Nat, (rnR sg ln sz p x r).1 ≠ 8 → (∀ i, i < eU (rnR sg ln sz p x r) → r'.getD i 0 = r.getD i 0) → eU (rnR sg ln sz p x r) ≤ r'.length → rnR sg ln sz p x r' = rnR sg ln sz p x r := (aRun_pre hB hr8 9000 _ (aMu_0 p x) (aJ_0 hp hz hx)).2
/-- by the row of that number -/
def rnC (sg : Nat → Int32) (ln sz : Nat → Nat) (p x b n code : Nat) : aE := rnR sg ln sz p x (dg b n code)
theorem dg8 {c n code : Nat} (hc : c ≤ 2) : ∀ z ∈ dg (c + 1) n code, z < 8 := fun z hz => by
  have := dg_lt (b := c + 1) (by omega) n code z hz
  omega
/-- where the own replies end, zeros follow -/
def tZ (sg : Nat → Int32) (ln sz : Nat → Nat) (p x c n : Nat) (g : Nat → Nat) : Prop := ∀ j, eU (rnC sg ln sz p x (c + 1) n (vl (c + 1) g n)) ≤ j → j < n → g j = 0
theorem rnC_le (hB : aWB sg ln sz) {p x c n : Nat} (hp : p < 4) (hz : 0 < sz p) (hx : x < 8) (hc : c ≤ 2) (code : Nat) : eU (rnC sg ln sz p x (c + 1) n code) ≤ n := by
  have h := (rnR_pre hB hp hz hx (dg8 (n := n) (code := code) hc)).1
  rw [dg_len] at h
  exact h
/-- the rows of a block run alike -/
theorem rnC_blk (hB : aWB sg ln sz) {p x c n : Nat} (hp : p < 4) (hz : 0 < sz p) (hx : x < 8) (hc : c ≤ 2) {g : Nat → Nat} (hg : ∀ j, j < n → g j ≤ c) (hZ : tZ sg ln sz p x c n g) {code : Nat} (h1 : vl (c + 1) g n ≤ code) (h2 : code < vl (c + 1) g n + (c + 1) ^ (n - eU (rnC sg ln sz p x (c + 1) n (vl (c + 1) g n)))) : rnC sg ln sz p x (c + 1) n code = rnC sg ln sz p x (c + 1) n (vl (c + 1) g n) := by
  have hle := rnC_le hB hp hz hx hc (n := n) (vl (c + 1) g n)
  unfold tZ at hZ
  obtain ⟨p1, p2, p3⟩ := rnR_pre hB hp hz hx (dg8 (n := n) (code := vl (c + 1) g n) hc)
  rw [dg_len] at p1 p2
  generalize hu : eU (rnC sg ln sz p x (c + 1) n (vl (c + 1) g n)) = u at *
  have hu' : eU (rnR sg ln sz p x (dg (c + 1) n (vl (c + 1) g n))) = u := hu
  rw [hu'] at p1 p2 p3
  by_cases h8 : (rnR sg ln sz p x (dg (c + 1) n (vl (c + 1) g n))).1 = 8
  · have e := p2 h8
    rw [e, Nat.sub_self, Nat.pow_zero] at h2
    rw [show code = vl (c + 1) g n from by omega]
  · refine p3 (dg (c + 1) n code) h8 (fun i hi => ?_) (by rw [dg_len]; exact p1)
    obtain ⟨t, rfl⟩ : ∃ t, n = u + t := ⟨n - u, by omega⟩
    rw [show u + t - u = t from by omega] at h2
    have hv := vl_tail (b := c + 1) (g := g) (u := u) t (fun j j1 j2 => hZ j j1 j2)
    rw [dg_vl (fun j hj => by have := hg j hj; omega) i (by omega)]
    exact dg_blk (fun j hj => by have := hg j (by omega); omega) (by rw [← hv]; exact h1) (by rw [← hv]; exact h2) hi
/-- the next row that is gone through has zeros behind its own replies too -/
theorem tZ_next (hB : aWB sg ln sz) {p x c n : Nat} (hp : p < 4) (hz : 0 < sz p) (hx : x < 8) (hc : c ≤ 2) {g g' : Nat → Nat} (hg : ∀ j, j < n → g j ≤ c) (hg' : ∀ j, j < n → g' j ≤ c) (hZ : tZ sg ln sz p x c n g) {i : Nat} (hi : i < eU (rnC sg ln sz p x (c + 1) n (vl (c + 1) g n))) (ha : ∀ j, j < i → g' j = g j) (hb9 : ∀ j, i < j → j < eU (rnC sg ln sz p x (c + 1) n (vl (c + 1) g n)) → g' j = 0) (hc9 : ∀ j, eU (rnC sg ln sz p x (c + 1) n (vl (c + 1) g n)) ≤ j → j < n → g' j = g j) : tZ sg ln sz p x c n g' := by
  have hle := rnC_le hB hp hz hx hc (n := n) (vl (c + 1) g n)
  have hge : i < eU (rnC sg ln sz p x (c + 1) n (vl (c + 1) g' n)) := by
    obtain ⟨p1, p2, p3⟩ := rnR_pre hB hp hz hx (dg8 (n := n) (code := vl (c + 1) g' n) hc)
    rw [dg_len] at p1 p2
    by_cases h8 : (rnR sg ln sz p x (dg (c + 1) n (vl (c + 1) g' n))).1 = 8
    · have e : eU (rnC sg ln sz p x (c + 1) n (vl (c + 1) g' n)) = n := p2 h8
      omega
    · rcases Nat.lt_or_ge i (eU (rnC sg ln sz p x (c + 1) n (vl (c + 1) g' n))) with h | h
      · exact h
      · have e := p3 (dg (c + 1) n (vl (c + 1) g n)) h8 (fun j hj => by
          have hj : j < eU (rnC sg ln sz p x (c + 1) n (vl (c + 1) g' n)) := hj
          rw [dg_vl (fun j hj => by have := hg j hj; omega) j (by omega), dg_vl (fun j hj => by have := hg' j hj; omega) j (by omega), ha j (by omega)]) (by rw [dg_len]; exact p1)
        have e2 : eU (rnC sg ln sz p x (c + 1) n (vl (c + 1) g n)) = eU (rnC sg ln sz p x (c + 1) n (vl (c + 1) g' n)) := by
          show eU (rnR sg ln sz p x (dg (c + 1) n (vl (c + 1) g n))) = eU (rnR sg ln sz p x (dg (c + 1) n (vl (c + 1) g' n)))
          rw [e]
        omega
  intro j j1 j2
  rcases Nat.lt_or_ge j (eU (rnC sg ln sz p x (c + 1) n (vl (c + 1) g n))) with h | h
  · exact hb9 j (by omega) h
  · rw [hc9 j h j2]
    exact hZ j h j2
end BLK
theorem RE_p {h : mH} : ∀ {e : aE}, RE h e → (h 6 9).toInt = e.1 ∧ (h 6 12).toInt = e.2.1 ∧ (h 6 13).toInt = e.2.2.1 ∧ h 6 11 = nI (eU e)
  | (_, _, _, _, _, _, _), q => ⟨q.1, q.2.1, q.2.2.1, q.2.2.2.2.1⟩
theorem ME_p {h : mH} : ∀ {e : aE}, ME h e → (h 10 39).toInt = e.1 ∧ (h 10 27).toInt = e.2.1 ∧ (h 10 28).toInt = e.2.2.1 ∧ h 10 25 = nI (eU e)
  | (_, _, _, _, _, _, _), q => ⟨q.1, q.2.1, q.2.2.1, q.2.2.2.2.2.1⟩
