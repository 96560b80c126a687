/-! The book with a new page. -/
def nSg (p0 n : Nat) (pd sg : Nat → Int32) (pl : Nat) : Int32 := if pl / 40 = p0 ∧ pl % 40 < n then pd (pl % 40) else sg pl
def nLn (p0 n : Nat) (pd : Nat → Int32) (ln : Nat → Nat) (pl : Nat) : Nat := if pl / 40 = p0 then lT pd n (pl % 40) else ln pl
def nSz (p0 n : Nat) (sz : Nat → Nat) (p : Nat) : Nat := if p = p0 then n else sz p
section NEW
variable {p0 n : Nat} {pd sg : Nat → Int32} {ln sz : Nat → Nat}
theorem nSg_at {j : Nat} (hn : n ≤ 40) (hj : j < n) : nSg p0 n pd sg (40 * p0 + j) = pd j := by
  unfold nSg
  rw [if_pos (by omega), show (40 * p0 + j) % 40 = j from by omega]
theorem nLn_at {j : Nat} (hj : j < 40) : nLn p0 n pd ln (40 * p0 + j) = lT pd n j := by
  unfold nLn
  rw [if_pos (by omega), show (40 * p0 + j) % 40 = j from by omega]
theorem nSg_ne {q : Nat} (hq : q / 40 ≠ p0) : nSg p0 n pd sg q = sg q := by
  unfold nSg
  rw [if_neg (fun z => hq z.1)]
theorem nLn_ne {q : Nat} (hq : q / 40 ≠ p0) : nLn p0 n pd ln q = ln q := if_neg hq
theorem nV_at (hn : n ≤ 40) (hp : p0 < 20) {j : Nat} (hj : j < n) : aV (nSg p0 n pd sg) (nSz p0 n sz) (40 * p0 + j) ↔ tV pd j := by
  unfold aV tV
  rw [show (40 * p0 + j) / 40 = p0 from by omega, show (40 * p0 + j) % 40 = j from by omega, show nSz p0 n sz p0 = n from if_pos rfl]
  constructor
  · rintro ⟨-, -, h3⟩ ⟨z1, z2⟩
    refine h3 ⟨z1, ?_⟩
    rw [show 40 * p0 + j - 1 = 40 * p0 + (j - 1) from by omega, nSg_at hn (by omega)]
    exact z2
  · intro h
    refine ⟨by omega, hj, ?_⟩
    rintro ⟨z1, z2⟩
    refine h ⟨z1, ?_⟩
    rw [show 40 * p0 + j - 1 = 40 * p0 + (j - 1) from by omega, nSg_at hn (by omega)] at z2
    exact z2
theorem nV_ne {q : Nat} (hq : q / 40 ≠ p0) : aV (nSg p0 n pd sg) (nSz p0 n sz) q ↔ aV sg sz q := by
  unfold aV
  rw [show nSz p0 n sz (q / 40) = sz (q / 40) from if_neg hq]
  by_cases z : 0 < q % 40
  · rw [nSg_ne (q := q - 1) (by omega)]
  · simp [z]
theorem nV_k {q : Nat} (hq : q / 40 = p0) (h : aV (nSg p0 n pd sg) (nSz p0 n sz) q) : ∃ j, j < n ∧ q = 40 * p0 + j := by
  refine ⟨q % 40, ?_, by omega⟩
  have h2 := h.2.1
  rw [hq, show nSz p0 n sz p0 = n from if_pos rfl] at h2
  exact h2
set_option maxHeartbeats 1000000 in
theorem aWB_new {g : Int} (hB : aWB sg ln sz) (hn : n ≤ 40) (hp : p0 < 20) (ok : ∀ j, j < n → tOk pd n g j) (hg : g ≠ 0 → 4 ≤ p0 ∧ p0 % 4 ≠ 3) : aWB (nSg p0 n pd sg) (nLn p0 n pd ln) (nSz p0 n sz) := by
  refine ⟨fun p hp => ?_, fun pl hV => ?_⟩
  · unfold nSz
    split
    · exact hn
    · exact hB.1 p hp
  · by_cases hpl : pl / 40 = p0
    · obtain ⟨k, hk, rfl⟩ := nV_k hpl hV
      have hVk := (nV_at (pd := pd) (sg := sg) (sz := sz) hn hp hk).mp hV
      obtain ⟨o1, o2⟩ := ok k hk
      obtain ⟨t1, t2, t3, t4⟩ := o2 hVk
      have hL := lT_eq (pd := pd) hk
      have eS : nSg p0 n pd sg (40 * p0 + k) = pd k := nSg_at hn hk
      have eL : nLn p0 n pd ln (40 * p0 + k) = lT pd n k := nLn_at (by omega)
      have eF : aFs (nSg p0 n pd sg) (40 * p0 + k) = 40 * p0 + aFs pd k := by
        unfold aFs
        rw [eS]
        split <;> omega
      have hA : ∀ j, j < n → tV pd j → aV (nSg p0 n pd sg) (nSz p0 n sz) (40 * p0 + j) ∧ (40 * p0 + j) / 40 = (40 * p0 + k) / 40 := fun j hj hv => ⟨(nV_at hn hp hj).mpr hv, by omega⟩
      have hne : 2 ≤ aOf (pd k).toInt ∨ aOf (pd k).toInt = 0 → aFs pd k = k + 1 := by
        intro z
        unfold aFs
        rw [if_neg]
        intro z2
        rw [z2, aOf_64] at z
        omega
      have s0 : 1 ≤ aOf (pd k).toInt → aFs pd k < n ∧ tV pd (aFs pd k) := fun z => t3 0 (by omega)
      have s1 : 2 ≤ aOf (pd k).toInt → aFs pd k + lT pd n (aFs pd k) < n ∧ tV pd (aFs pd k + lT pd n (aFs pd k)) := fun z => t3 1 (by omega)
      have s2 : 3 ≤ aOf (pd k).toInt → aFs pd k + lT pd n (aFs pd k) + lT pd n (aFs pd k + lT pd n (aFs pd k)) < n ∧ tV pd (aFs pd k + lT pd n (aFs pd k) + lT pd n (aFs pd k + lT pd n (aFs pd k))) := fun z => t3 2 (by omega)
      have b1 : 2 ≤ aOf (pd k).toInt → 40 * p0 + k + 1 + nLn p0 n pd ln (40 * p0 + k + 1) = 40 * p0 + (aFs pd k + lT pd n (aFs pd k)) := by
        intro z
        have e := hne (Or.inl z)
        have h9 := (s0 (by omega)).1
        rw [show 40 * p0 + k + 1 = 40 * p0 + aFs pd k from by omega, nLn_at (by omega)]
        omega
      have b2 : 2 ≤ aOf (pd k).toInt → 40 * p0 + k + 1 + nLn p0 n pd ln (40 * p0 + k + 1) + nLn p0 n pd ln (40 * p0 + k + 1 + nLn p0 n pd ln (40 * p0 + k + 1)) = 40 * p0 + (aFs pd k + lT pd n (aFs pd k) + lT pd n (aFs pd k + lT pd n (aFs pd k))) := by
        intro z
        have h9 := (s1 (by omega)).1
        rw [b1 z, nLn_at (by omega)]
        omega
      have eZ : nSz p0 n sz ((40 * p0 + k) / 40) = n := by rw [hpl]; exact if_pos rfl
      rw [eS, eL, eF, eZ]
      refine ⟨t1, by omega, fun z => ?_, fun z => hA _ (s0 z).1 (s0 z).2, fun z => ?_, fun z => ?_, fun z => ?_, fun z => ?_, fun z => ?_, fun z => ?_⟩
      · rw [z, hne (Or.inr z)] at hL
        have hL : k + lT pd n k = k + 1 := hL
        omega
      · rw [z] at hL
        have hL : k + lT pd n k = aFs pd k + lT pd n (aFs pd k) := hL
        rw [nLn_at (by have := (s0 (by omega)).1; omega)]
        omega
      · rw [b1 z]
        exact hA _ (s1 z).1 (s1 z).2
      · rw [z] at hL
        have hL : k + lT pd n k = aFs pd k + lT pd n (aFs pd k) + lT pd n (aFs pd k + lT pd n (aFs pd k)) := hL
        rw [b2 (by omega)]
        omega
      · rw [b2 (by omega)]
        refine ⟨hA _ (s2 (by omega)).1 (s2 (by omega)).2, ?_⟩
        rw [z] at hL
        have hL : k + lT pd n k = aFs pd k + lT pd n (aFs pd k) + lT pd n (aFs pd k + lT pd n (aFs pd k)) + lT pd n (aFs pd k + lT pd n (aFs pd k) + lT pd n (aFs pd k + lT pd n (aFs pd k))) := hL
        have h9 := (s2 (by omega)).1
        rw [nLn_at (by omega)]
        omega
      · obtain ⟨c1, c2, c3⟩ := o1 z
        rw [Nat.add_assoc, nSg_at hn (by omega)]
        exact ⟨c2, c3, by omega⟩
      · rw [hpl]
        exact hg (t4 z)
    · have hV0 := (nV_ne hpl).mp hV
      obtain ⟨b1, b2, b3, b4, b5, b6, b7, b8, b9, b10⟩ := hB.2 pl hV0
      have hA : ∀ q, aV sg sz q ∧ q / 40 = pl / 40 → aV (nSg p0 n pd sg) (nSz p0 n sz) q ∧ q / 40 = pl / 40 := fun q h => ⟨(nV_ne (by omega)).mpr h.1, h.2⟩
      have eF : aFs (nSg p0 n pd sg) pl = aFs sg pl := by unfold aFs; rw [nSg_ne hpl]
      have eZ : nSz p0 n sz (pl / 40) = sz (pl / 40) := if_neg hpl
      have hne : 2 ≤ aOf (sg pl).toInt → aFs sg pl = pl + 1 := by
        intro z
        unfold aFs
        rw [if_neg]
        intro z2
        rw [z2, aOf_64] at z
        omega
      have l1 : 2 ≤ aOf (sg pl).toInt → nLn p0 n pd ln (pl + 1) = ln (pl + 1) := fun z => nLn_ne (by have h1 := (b4 (by omega)).2; rw [hne z] at h1; omega)
      have l2 : 2 ≤ aOf (sg pl).toInt → nLn p0 n pd ln (pl + 1 + ln (pl + 1)) = ln (pl + 1 + ln (pl + 1)) := fun z => nLn_ne (by have h1 := (b6 z).2; omega)
      rw [nSg_ne hpl, nLn_ne hpl, eF, eZ]
      refine ⟨b1, b2, b3, fun z => hA _ (b4 z), fun z => ?_, fun z => ?_, fun z => ?_, fun z => ?_, fun z => ?_, b10⟩
      · rw [nLn_ne (by have := (b4 (by omega)).2; omega)]
        exact b5 z
      · rw [l1 z]
        exact hA _ (b6 z)
      · rw [l1 (by omega), l2 (by omega)]
        exact b7 z
      · rw [l1 (by omega), l2 (by omega), nLn_ne (by have := (b8 z).1.2; omega)]
        exact ⟨hA _ (b8 z).1, (b8 z).2⟩
      · have h4 := (b4 (by rw [z, aOf_64]; decide)).2
        have h5 : aFs sg pl = pl + 2 := by unfold aFs; rw [if_pos z]
        rw [nSg_ne (by omega)]
        exact b9 z
end NEW
