/-! Values of texts, from the right; OFTEN. -/
def fdF (sg : Nat → Int32) (ln : Nat → Nat) (G : Nat → (Nat → Nat) → Nat) : Nat → Nat → Nat
  | 0, _ => 0
  | f + 1, pl => if 800 ≤ pl then 0 else G pl (fun i => fdF sg ln G f (pOf ln (aFs sg pl) i))
theorem fdF_ind (sg : Nat → Int32) (ln : Nat → Nat) (G : Nat → (Nat → Nat) → Nat) : ∀ (f f' pl : Nat), 800 ≤ pl + f → 800 ≤ pl + f' → fdF sg ln G f pl = fdF sg ln G f' pl := by
  intro f
  induction f with
  | zero =>
    intro f' pl h1 h2
    cases f' with
    | zero => rfl
    | succ f' => show 0 = (if 800 ≤ pl then 0 else _); rw [if_pos (by omega)]
  | succ f ih =>
    intro f' pl h1 h2
    cases f' with
    | zero => show (if 800 ≤ pl then 0 else _) = 0; rw [if_pos (by omega)]
    | succ f' =>
      show (if 800 ≤ pl then 0 else G pl (fun i => fdF sg ln G f (pOf ln (aFs sg pl) i))) = (if 800 ≤ pl then 0 else G pl (fun i => fdF sg ln G f' (pOf ln (aFs sg pl) i)))
      have h3 : (fun i => fdF sg ln G f (pOf ln (aFs sg pl) i)) = (fun i => fdF sg ln G f' (pOf ln (aFs sg pl) i)) := by
        funext i
        have := aFs_gt sg pl
        have := pOf_ge ln (aFs sg pl) i
        exact ih f' _ (by omega) (by omega)
      rw [h3]
def fdV (sg : Nat → Int32) (ln : Nat → Nat) (G : Nat → (Nat → Nat) → Nat) (pl : Nat) : Nat := fdF sg ln G 800 pl
theorem fdV_eq (sg : Nat → Int32) (ln : Nat → Nat) (G : Nat → (Nat → Nat) → Nat) {pl : Nat} (h : pl < 800) : fdV sg ln G pl = G pl (fun i => fdV sg ln G (pOf ln (aFs sg pl) i)) := by
  show (if 800 ≤ pl then 0 else G pl (fun i => fdF sg ln G 799 (pOf ln (aFs sg pl) i))) = _
  rw [if_neg (by omega)]
  have h3 : (fun i => fdF sg ln G 799 (pOf ln (aFs sg pl) i)) = (fun i => fdV sg ln G (pOf ln (aFs sg pl) i)) := by
    funext i
    have := aFs_gt sg pl
    have := pOf_ge ln (aFs sg pl) i
    unfold fdV
    exact fdF_ind sg ln G 799 800 _ (by omega) (by omega)
  rw [h3]
theorem aDig {sg : Nat → Int32} {ln sz : Nat → Nat} (hB : aWB sg ln sz) : ∀ pl, pl < 800 → pl % 40 < sz (pl / 40) → ¬ aV sg sz pl → 48 ≤ (sg pl).toInt ∧ (sg pl).toInt < 52 := by
  intro pl
  induction pl with
  | zero => intro _ h2 h3; exact absurd ⟨by omega, h2, fun z => absurd z.1 (by decide)⟩ h3
  | succ pl ih =>
    intro h1 h2 h3
    have hx : 0 < (pl + 1) % 40 ∧ (sg (pl + 1 - 1)).toInt = 64 := Classical.byContradiction (fun z => h3 ⟨h1, h2, z⟩)
    obtain ⟨x1, x2⟩ := hx
    rw [Nat.add_sub_cancel] at x2
    have e : (pl + 1) / 40 = pl / 40 := by omega
    rw [e] at h2
    by_cases hV : aV sg sz pl
    · have h9 := (hB.2 pl hV).2.2.2.2.2.2.2.2.1 x2
      exact ⟨h9.1, h9.2.1⟩
    · have := ih (by omega) (by omega) hV
      omega
/-- of each sign that is written: its own texts -/
theorem aPar {sg : Nat → Int32} {ln sz : Nat → Nat} (hB : aWB sg ln sz) {pl : Nat} (h1 : pl < 800) (h2 : pl % 40 < sz (pl / 40)) : 0 ≤ aOf (sg pl).toInt ∧ (∀ i, i < (aOf (sg pl).toInt).toNat → aV sg sz (pOf ln (aFs sg pl) i) ∧ pOf ln (aFs sg pl) i / 40 = pl / 40 ∧ pl < pOf ln (aFs sg pl) i) ∧ (¬ aV sg sz pl → (aOf (sg pl).toInt).toNat = 0 ∧ 48 ≤ (sg pl).toInt ∧ (sg pl).toInt < 52) ∧ (aV sg sz pl → pOf ln (aFs sg pl) (aOf (sg pl).toInt).toNat = pl + ln pl) := by
  have hgt := aFs_gt sg pl
  by_cases hV : aV sg sz pl
  · obtain ⟨b1, b2, b3, b4, b5, b6, b7, b8, b9, b10⟩ := hB.2 pl hV
    have hne : 2 ≤ aOf (sg pl).toInt ∨ aOf (sg pl).toInt = 0 → aFs sg pl = pl + 1 := by
      intro z
      unfold aFs
      rw [if_neg]
      intro z2
      rw [z2, aOf_64] at z
      omega
    refine ⟨b1, fun i hi => ?_, fun z => absurd hV z, fun _ => ?_⟩
    · have hge := pOf_ge ln (aFs sg pl) i
      refine ⟨?_, ?_, by omega⟩
      · have h3 := aOf_le (sg pl).toInt
        have hc : i = 0 ∨ i = 1 ∨ i = 2 := by omega
        rcases hc with rfl | rfl | rfl
        · exact (b4 (by omega)).1
        · have e := hne (Or.inl (by omega))
          show aV sg sz (aFs sg pl + ln (aFs sg pl))
          rw [e]
          exact (b6 (by omega)).1
        · have e := hne (Or.inl (by omega))
          show aV sg sz (aFs sg pl + ln (aFs sg pl) + ln (aFs sg pl + ln (aFs sg pl)))
          rw [e]
          exact (b8 (by omega)).1.1
      · have h3 := aOf_le (sg pl).toInt
        have hc : i = 0 ∨ i = 1 ∨ i = 2 := by omega
        rcases hc with rfl | rfl | rfl
        · exact (b4 (by omega)).2
        · have e := hne (Or.inl (by omega))
          show (aFs sg pl + ln (aFs sg pl)) / 40 = pl / 40
          rw [e]
          exact (b6 (by omega)).2
        · have e := hne (Or.inl (by omega))
          show (aFs sg pl + ln (aFs sg pl) + ln (aFs sg pl + ln (aFs sg pl))) / 40 = pl / 40
          rw [e]
          exact (b8 (by omega)).1.2
    · rcases aOf_cases (sg pl).toInt with z | z | z | z | z
      · rw [z, hne (Or.inr z), b3 z]; rfl
      · rw [z, b5 z]; rfl
      · rw [z, hne (Or.inl (by omega)), b7 z]; rfl
      · rw [z, hne (Or.inl (by omega)), (b8 z).2]; rfl
      · omega
  · have hd := aDig hB pl h1 h2 hV
    have h0 : aOf (sg pl).toInt = 0 := by unfold aOf; rw [if_pos (Or.inl (by omega))]
    exact ⟨by omega, fun i hi => by rw [h0] at hi; exact absurd hi (Nat.not_lt_zero _), fun _ => ⟨by rw [h0]; rfl, hd⟩, fun z => absurd z hV⟩
def oA (x : Int) (s : Nat → Nat) : Nat → Nat
  | 0 => if x = 107 then 1 else 0
  | i + 1 => if x = 63 ∧ 0 < i then oA x s i else oA x s i + s i
def oG (x : Int) (s : Nat → Nat) : Nat → Nat
  | 0 => 0
  | i + 1 => if x = 63 ∧ 0 < i ∧ oG x s i < s i then s i else oG x s i
def oW (x : Int) (t : Nat) : Nat := if 1 < t ∨ (x = 64 ∧ 0 < t) then 2 else t
def oC (x : Int) (s : Nat → Nat) : Nat := oW x (oA x s (aOf x).toNat + oG x s (aOf x).toNat)
theorem oW_le (x : Int) (t : Nat) : oW x t ≤ 2 := by
  unfold oW
  split <;> omega
theorem oAG_le {x : Int} {s : Nat → Nat} (h : ∀ i, s i ≤ 2) : ∀ i, oA x s i ≤ 1 + 2 * i ∧ oG x s i ≤ 2 := by
  intro i
  induction i with
  | zero => exact ⟨by show (if x = 107 then 1 else 0) ≤ _; split <;> omega, by show 0 ≤ 2; omega⟩
  | succ i ih =>
    have := h i
    refine ⟨?_, ?_⟩
    · have e : oA x s (i + 1) = if x = 63 ∧ 0 < i then oA x s i else oA x s i + s i := rfl
      rw [e]
      split <;> omega
    · have e : oG x s (i + 1) = if x = 63 ∧ 0 < i ∧ oG x s i < s i then s i else oG x s i := rfl
      rw [e]
      split <;> omega
/-- OFTEN of a place -/
def oV (sg : Nat → Int32) (ln : Nat → Nat) (pl : Nat) : Nat := fdV sg ln (fun p s => oC (sg p).toInt s) pl
theorem oV_eq (sg : Nat → Int32) (ln : Nat → Nat) {pl : Nat} (h : pl < 800) : oV sg ln pl = oC (sg pl).toInt (fun i => oV sg ln (pOf ln (aFs sg pl) i)) := fdV_eq sg ln _ h
theorem oV_le (sg : Nat → Int32) (ln : Nat → Nat) (pl : Nat) : oV sg ln pl ≤ 2 := by
  by_cases h : pl < 800
  · rw [oV_eq sg ln h]
    exact oW_le _ _
  · unfold oV fdV
    show (if 800 ≤ pl then 0 else _) ≤ 2
    rw [if_pos (by omega)]
    omega
/-- the class's number ahead of the cut at 2 -/
def oT (x : Int) (s : Nat → Nat) : Nat := if x = 107 then s 0 + 1 else if x = 64 then (if 0 < s 0 then 2 else 0) else if aOf x = 1 then s 0 else if aOf x = 2 then s 0 + s 1 else if aOf x = 3 then s 0 + (if s 1 < s 2 then s 2 else s 1) else 0
set_option maxHeartbeats 1000000 in
theorem oT_oC {x : Int} {s : Nat → Nat} (ha : 0 ≤ aOf x) (hs0 : ∀ i, s i ≤ 2) : (if 2 < oT x s then 2 else oT x s) = oC x s := by
  have s0 := hs0 0
  have s1 := hs0 1
  have s2 := hs0 2
  have eA0 : oA x s 0 = if x = 107 then 1 else 0 := rfl
  have eG0 : oG x s 0 = 0 := rfl
  have eAs : ∀ i, oA x s (i + 1) = if x = 63 ∧ 0 < i then oA x s i else oA x s i + s i := fun _ => rfl
  have eGs : ∀ i, oG x s (i + 1) = if x = 63 ∧ 0 < i ∧ oG x s i < s i then s i else oG x s i := fun _ => rfl
  have A1 := eAs 0
  have A2 := eAs 1
  have A3 := eAs 2
  have G1 := eGs 0
  have G2 := eGs 1
  have G3 := eGs 2
  rw [if_neg (by omega)] at A1 G1
  rw [eG0] at G1
  rw [G1] at G2
  have eC : oC x s = oW x (oA x s (aOf x).toNat + oG x s (aOf x).toNat) := rfl
  rcases aOf_cases x with z | z | z | z | z
  · have h1 : x ≠ 107 := by intro q; rw [q, aOf_107] at z; omega
    have h2 : x ≠ 64 := by intro q; rw [q, aOf_64] at z; omega
    have eT : oT x s = 0 := by unfold oT; rw [if_neg h1, if_neg h2, z, if_neg (by decide), if_neg (by decide), if_neg (by decide)]
    rw [eT, eC, z, show (0 : Int).toNat = 0 from rfl, eA0, eG0, if_neg h1]
    unfold oW
    rw [if_neg (by omega), if_neg (by omega)]
  · have h3 : x ≠ 63 := by intro q; rw [q, aOf_is3] at z; omega
    rw [eC, z, show (1 : Int).toNat = 1 from rfl, A1, G1, eA0]
    unfold oW
    by_cases k1 : x = 107
    · have eT : oT x s = s 0 + 1 := by unfold oT; rw [if_pos k1]
      rw [eT, if_pos k1]
      repeat' split
      all_goals omega
    · by_cases k2 : x = 64
      · have eT : oT x s = if 0 < s 0 then 2 else 0 := by unfold oT; rw [if_neg k1, if_pos k2]
        rw [eT, if_neg k1]
        repeat' split
        all_goals omega
      · have eT : oT x s = s 0 := by unfold oT; rw [if_neg k1, if_neg k2, if_pos z]
        rw [eT, if_neg k1]
        repeat' split
        all_goals omega
  · have h1 : x ≠ 107 := by intro q; rw [q, aOf_107] at z; omega
    have h2 : x ≠ 64 := by intro q; rw [q, aOf_64] at z; omega
    have h3 : x ≠ 63 := by intro q; rw [q, aOf_is3] at z; omega
    have eT : oT x s = s 0 + s 1 := by unfold oT; rw [if_neg h1, if_neg h2, z, if_neg (by decide), if_pos rfl]
    rw [if_neg (fun q => h3 q.1)] at A2 G2
    rw [eT, eC, z, show (2 : Int).toNat = 2 from rfl, A2, G2, A1, eA0, if_neg h1]
    unfold oW
    repeat' split
    all_goals omega
  · have h1 : x ≠ 107 := by intro q; rw [q, aOf_107] at z; omega
    have h2 : x ≠ 64 := by intro q; rw [q, aOf_64] at z; omega
    have h3 : x = 63 := aOf_3 z
    have eT : oT x s = s 0 + (if s 1 < s 2 then s 2 else s 1) := by unfold oT; rw [if_neg h1, if_neg h2, z, if_neg (by decide), if_neg (by decide), if_pos rfl]
    have g2 : oG x s 2 = s 1 := by
      rw [G2]
      split <;> omega
    rw [g2] at G3
    rw [if_pos (by omega)] at A2 A3
    have g3 : oG x s 3 = if s 1 < s 2 then s 2 else s 1 := by
      rw [G3]
      split <;> split <;> omega
    rw [eT, eC, z, show (3 : Int).toNat = 3 from rfl, A3, A2, A1, eA0, if_neg h1, g3]
    unfold oW
    repeat' split
    all_goals omega
  · omega
