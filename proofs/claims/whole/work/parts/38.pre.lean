/-! A run depends on the replies that it uses alone. -/
def aU : aS → Nat
  | (_, _, _, _, _, _, _, _, u, _) => u
def eU (e : aE) : Nat := e.2.2.2.2.2.1
/-- a turn asks nobody, or it doesn't look at the replies -/
theorem aStep_row (sg : Nat → Int32) (ln sz : Nat → Nat) (s : aS) : (∀ r r' : List Nat, aStep sg ln sz r s = aStep sg ln sz r' s) ∨ (∃ (d v n g : Nat) (P : List aF) (K : List (List aF)) (q : List Nat), ∀ r : List Nat, aStep sg ln sz r s = if aU s < r.length then .inl (false, 0, r.getD (aU s) 0, 0, P, K, n, g, aU s + 1, q) else .inr (8, (d : Int), (v : Int), n, g, aU s, q)) := by
  obtain ⟨b, pl0, v, k0, P, K, n, g, u, q⟩ := s
  cases b with
  | true => exact Or.inl (fun r r' => rfl)
  | false =>
    cases P with
    | nil => exact Or.inl (fun r r' => rfl)
    | cons F P =>
      obtain ⟨pl, x, k, w⟩ := F
      by_cases h1 : aOf (sg pl).toInt = 2 ∧ w = 0
      · exact Or.inl (fun r r' => by show aTop sg ln sz r v pl x k w P K n g u q = aTop sg ln sz r' v pl x k w P K n g u q; unfold aTop; rw [if_pos h1, if_pos h1])
      · by_cases h2 : (sg pl).toInt = 63
        · exact Or.inl (fun r r' => by show aTop sg ln sz r v pl x k w P K n g u q = aTop sg ln sz r' v pl x k w P K n g u q; unfold aTop; rw [if_neg h1, if_neg h1, if_pos h2, if_pos h2])
        · by_cases h3 : (sg pl).toInt = 64
          · exact Or.inl (fun r r' => by show aTop sg ln sz r v pl x k w P K n g u q = aTop sg ln sz r' v pl x k w P K n g u q; unfold aTop; rw [if_neg h1, if_neg h1, if_neg h2, if_neg h2, if_pos h3, if_pos h3])
          · by_cases h4 : (sg pl).toInt = 107
            · exact Or.inl (fun r r' => by show aTop sg ln sz r v pl x k w P K n g u q = aTop sg ln sz r' v pl x k w P K n g u q; unfold aTop; rw [if_neg h1, if_neg h1, if_neg h2, if_neg h2, if_neg h3, if_neg h3, if_pos h4, if_pos h4])
            · by_cases h5 : (sg pl).toInt = 112 ∨ (sg pl).toInt = 113 ∨ (sg pl).toInt = 114
              · have e : ∀ r, aStep sg ln sz r (false, pl0, v, k0, (pl, x, k, w) :: P, K, n, g, u, q) = aAsk sg sz r ((sg pl).toInt - 112).toNat v P K n g u q := fun r => by
                  show aTop sg ln sz r v pl x k w P K n g u q = _
                  unfold aTop
                  rw [if_neg h1, if_neg h2, if_neg h3, if_neg h4, if_pos h5]
                cases hN : aNr sg sz ((sg pl).toInt - 112).toNat P with
                | some z => exact Or.inl (fun r r' => by rw [e, e]; unfold aAsk; rw [hN])
                | none => exact Or.inr ⟨((sg pl).toInt - 112).toNat, v, n, g, P, K, q ++ [100 * ((sg pl).toInt - 112).toNat + 10 * v + 9], fun r => by rw [e]; unfold aAsk; rw [hN]; rfl⟩
              · exact Or.inl (fun r r' => by show aTop sg ln sz r v pl x k w P K n g u q = aTop sg ln sz r' v pl x k w P K n g u q; unfold aTop; rw [if_neg h1, if_neg h1, if_neg h2, if_neg h2, if_neg h3, if_neg h3, if_neg h4, if_neg h4, if_neg h5, if_neg h5])
