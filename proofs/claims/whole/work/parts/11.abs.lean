/-! The run, as a machine over lists. -/
abbrev aF : Type := Nat × Nat × Nat × Nat
abbrev aS : Type := Bool × Nat × Nat × Nat × List aF × List (List aF) × Nat × Nat × Nat × List Nat
abbrev aE : Type := Int × Int × Int × Nat × Nat × Nat × List Nat
def aHd (sg : Nat → Int32) (pl : Nat) : Nat := ((sg (pl + 1)).toInt - 48).toNat
def aFs (sg : Nat → Int32) (pl : Nat) : Nat := if (sg pl).toInt = 64 then pl + 2 else pl + 1
def aNr (sg : Nat → Int32) (sz : Nat → Nat) (d : Nat) : List aF → Option (List aF × aF × List aF)
  | [] => none
  | F :: P => if (sg F.1).toInt = 64 ∧ 0 < sz (4 + 4 * aHd sg F.1 + d) then some ([], F, P) else (aNr sg sz d P).map (fun z => (F :: z.1, z.2.1, z.2.2))
theorem aNr_some {sg : Nat → Int32} {sz : Nat → Nat} {d : Nat} : ∀ {P A : List aF} {G : aF} {C : List aF}, aNr sg sz d P = some (A, G, C) → P = A ++ G :: C ∧ (sg G.1).toInt = 64 ∧ 0 < sz (4 + 4 * aHd sg G.1 + d) ∧ ∀ F ∈ A, ¬ ((sg F.1).toInt = 64 ∧ 0 < sz (4 + 4 * aHd sg F.1 + d))
  | [], A, G, C, h => by cases h
  | F :: P, A, G, C, h => by
    unfold aNr at h
    split at h
    · rename_i q
      cases h
      exact ⟨rfl, q.1, q.2, fun F h => by cases h⟩
    · rename_i q
      cases hz : aNr sg sz d P with
      | none => rw [hz] at h; cases h
      | some z =>
        obtain ⟨A', G', C'⟩ := z
        rw [hz] at h
        cases h
        obtain ⟨h1, h2, h3, h4⟩ := aNr_some hz
        refine ⟨by rw [h1]; rfl, h2, h3, fun F' hF => ?_⟩
        rcases List.mem_cons.mp hF with rfl | hF
        · exact q
        · exact h4 F' hF
theorem aNr_none {sg : Nat → Int32} {sz : Nat → Nat} {d : Nat} : ∀ {P : List aF}, aNr sg sz d P = none → ∀ F ∈ P, ¬ ((sg F.1).toInt = 64 ∧ 0 < sz (4 + 4 * aHd sg F.1 + d))
  | [], _, F, hF => by cases hF
  | F0 :: P, h, F, hF => by
    unfold aNr at h
    split at h
    · cases h
    · rename_i q
      rcases List.mem_cons.mp hF with rfl | hF
      · exact q
      · cases hz : aNr sg sz d P with
        | none => exact aNr_none hz F hF
        | some z => rw [hz] at h; cases h
def aAct (s : Int) (a b : Nat) : Nat := if s = 43 then (a + b) % 8 else if s = 45 then (a + 8 - b) % 8 else if s = 42 then (a * b) % 8 else if b < a then b else a
def aBeg (sg : Nat → Int32) (pl x k : Nat) (P : List aF) (K : List (List aF)) (n g u : Nat) (q : List Nat) : aS ⊕ aE :=
  if 200 ≤ n then .inr (9, -6, -6, n, g, u, q)
  else if (sg pl).toInt = 120 then .inl (false, 0, x, 0, P, K, n + 1, g, u, q)
  else if aOf (sg pl).toInt = 0 then .inl (false, 0, ((sg pl).toInt - 48).toNat, 0, P, K, n + 1, g, u, q)
  else .inl (true, aFs sg pl, x, k, (pl, x, k, 0) :: P, K, n + 1, g, u, q)
def aAsk (sg : Nat → Int32) (sz : Nat → Nat) (r : List Nat) (d v : Nat) (P : List aF) (K : List (List aF)) (n g u : Nat) (q : List Nat) : aS ⊕ aE :=
  match aNr sg sz d P with
  | some (A, G, C) => .inl (true, 40 * (4 + 4 * aHd sg G.1 + d), v, K.length + 1, C, K ++ [A ++ [G]], n, g, u, q ++ [100 * d + 10 * v + aHd sg G.1])
  | none => if u < r.length then .inl (false, 0, r.getD u 0, 0, P, K, n, g, u + 1, q ++ [100 * d + 10 * v + 9]) else .inr (8, d, v, n, g, u, q ++ [100 * d + 10 * v + 9])
def aTop (sg : Nat → Int32) (ln sz : Nat → Nat) (r : List Nat) (v pl x k w : Nat) (P : List aF) (K : List (List aF)) (n g u : Nat) (q : List Nat) : aS ⊕ aE :=
  if aOf (sg pl).toInt = 2 ∧ w = 0 then .inl (true, pl + 1 + ln (pl + 1), x, k, (pl, x, k, v + 1) :: P, K, n, g, u, q)
  else if (sg pl).toInt = 63 then .inl (true, if v = 0 then pl + 1 + ln (pl + 1) else pl + 1 + ln (pl + 1) + ln (pl + 1 + ln (pl + 1)), x, k, P, K, n, g, u, q)
  else if (sg pl).toInt = 64 then (if 0 < sz (4 + 4 * aHd sg pl + 3) then .inl (true, 40 * (4 + 4 * aHd sg pl + 3), v, 0, P, K, n, g, u, q) else .inl (false, 0, v, 0, P, K, n, g, u, q))
  else if (sg pl).toInt = 107 then (if 40 ≤ g then .inr (9, -6, -6, n, g, u, q) else .inl (false, 0, v, 0, K.getD (k - 1) [] ++ P, K, n, g + 1, u, q))
  else if (sg pl).toInt = 112 ∨ (sg pl).toInt = 113 ∨ (sg pl).toInt = 114 then aAsk sg sz r ((sg pl).toInt - 112).toNat v P K n g u q
  else .inl (false, 0, aAct (sg pl).toInt (w - 1) v, 0, P, K, n, g, u, q)
def aStep (sg : Nat → Int32) (ln sz : Nat → Nat) (r : List Nat) : aS → aS ⊕ aE
  | (true, pl, x, k, P, K, n, g, u, q) => aBeg sg pl x k P K n g u q
  | (false, _, v, _, [], _, n, g, u, q) => .inr (v, -6, -6, n, g, u, q)
  | (false, _, v, _, (pl, x, k, w) :: P, K, n, g, u, q) => aTop sg ln sz r v pl x k w P K n g u q
/-- a text begins at this place -/
def aV (sg : Nat → Int32) (sz : Nat → Nat) (pl : Nat) : Prop := pl < 800 ∧ pl % 40 < sz (pl / 40) ∧ ¬ (0 < pl % 40 ∧ (sg (pl - 1)).toInt = 64)
/-- what is written has no fault -/
def aWB (sg : Nat → Int32) (ln sz : Nat → Nat) : Prop := (∀ p, p < 20 → sz p ≤ 40) ∧ ∀ pl, aV sg sz pl →
  0 ≤ aOf (sg pl).toInt ∧ pl % 40 + ln pl ≤ sz (pl / 40) ∧ (aOf (sg pl).toInt = 0 → ln pl = 1) ∧
  (1 ≤ aOf (sg pl).toInt → aV sg sz (aFs sg pl) ∧ aFs sg pl / 40 = pl / 40) ∧
  (aOf (sg pl).toInt = 1 → pl + ln pl = aFs sg pl + ln (aFs sg pl)) ∧
  (2 ≤ aOf (sg pl).toInt → aV sg sz (pl + 1 + ln (pl + 1)) ∧ (pl + 1 + ln (pl + 1)) / 40 = pl / 40) ∧
  (aOf (sg pl).toInt = 2 → pl + ln pl = pl + 1 + ln (pl + 1) + ln (pl + 1 + ln (pl + 1))) ∧
  (aOf (sg pl).toInt = 3 → (aV sg sz (pl + 1 + ln (pl + 1) + ln (pl + 1 + ln (pl + 1))) ∧ (pl + 1 + ln (pl + 1) + ln (pl + 1 + ln (pl + 1))) / 40 = pl / 40) ∧ pl + ln pl = pl + 1 + ln (pl + 1) + ln (pl + 1 + ln (pl + 1)) + ln (pl + 1 + ln (pl + 1) + ln (pl + 1 + ln (pl + 1)))) ∧
  ((sg pl).toInt = 64 → 48 ≤ (sg (pl + 1)).toInt ∧ (sg (pl + 1)).toInt < 52 ∧ pl + 1 < 800) ∧
  ((sg pl).toInt = 107 → 4 ≤ pl / 40 ∧ pl / 40 % 4 ≠ 3)
/-- a place of a deed's clause -/
def aDc (pl : Nat) : Prop := 4 ≤ pl / 40 ∧ pl / 40 % 4 ≠ 3
def aFok (sg : Nat → Int32) (sz : Nat → Nat) (nK : Nat) (F : aF) : Prop := aV sg sz F.1 ∧ 1 ≤ aOf (sg F.1).toInt ∧ F.2.1 < 8 ∧ F.2.2.1 ≤ nK ∧ (aDc F.1 → 1 ≤ F.2.2.1) ∧ F.2.2.2 ≤ 8 ∧ (aOf (sg F.1).toInt ≠ 2 → F.2.2.2 = 0)
def gk (gs : List Nat) (k : Nat) : Nat := if k = 0 then 0 else gs.getD (k - 1) 0
def aPt (gs : List Nat) (m : Nat) : List aF → Prop
  | [] => True
  | F :: P => P.length + 1 + gk gs F.2.2.1 ≤ m ∧ aPt gs m P
/-- what holds of the machine's states -/
def aJ (sg : Nat → Int32) (sz : Nat → Nat) (r : List Nat) : aS → Prop
  | (b, pl, x, k, P, K, n, g, u, q) => x < 8 ∧ (b = true → aV sg sz pl ∧ k ≤ K.length ∧ (aDc pl → 1 ≤ k)) ∧ (∀ F ∈ P, aFok sg sz K.length F) ∧ (∀ L ∈ K, L ≠ [] ∧ ∀ F ∈ L, aFok sg sz K.length F) ∧
    n ≤ 200 ∧ g ≤ 40 ∧ u ≤ r.length ∧ q.length ≤ K.length + u ∧ K.length + (if b then 0 else 1) ≤ n + 1 ∧
    ∃ gs : List Nat, gs.length = K.length ∧ aPt gs n P ∧ (b = true → P.length + gk gs k ≤ n) ∧ ∀ (j : Nat) (L : List aF), K[j]? = some L → aPt gs (gs.getD j 0) L ∧ gs.getD j 0 ≤ n
theorem aPt_mono {gs : List Nat} {m m' : Nat} (h : m ≤ m') : ∀ {P : List aF}, aPt gs m P → aPt gs m' P
  | [], _ => trivial
  | F :: P, q => ⟨Nat.le_trans q.1 h, aPt_mono h q.2⟩
theorem aPt_len {gs : List Nat} {m : Nat} : ∀ {P : List aF}, aPt gs m P → P.length ≤ m
  | [], _ => Nat.zero_le _
  | F :: P, q => by have := q.1; simp only [List.length_cons]; omega
theorem aPt_right {gs : List Nat} {m : Nat} : ∀ {A C : List aF}, aPt gs m (A ++ C) → aPt gs m C
  | [], C, q => q
  | F :: A, C, q => aPt_right (A := A) q.2
theorem gk_app {gs : List Nat} {z k : Nat} (hk : k ≤ gs.length) : gk (gs ++ [z]) k = gk gs k := by
  unfold gk
  split
  · rfl
  · rw [List.getD_eq_getElem?_getD, List.getD_eq_getElem?_getD, List.getElem?_append_left (by omega)]
theorem aPt_app {gs : List Nat} {z m : Nat} : ∀ {P : List aF}, (∀ F ∈ P, F.2.2.1 ≤ gs.length) → aPt gs m P → aPt (gs ++ [z]) m P
  | [], _, _ => trivial
  | F :: P, hF, q => ⟨by rw [gk_app (hF F List.mem_cons_self)]; exact q.1, aPt_app (fun G hG => hF G (List.mem_cons_of_mem _ hG)) q.2⟩
/-- what is cut off stands that much lower -/
theorem aPt_cut {gs : List Nat} {m : Nat} : ∀ {A C : List aF}, aPt gs m (A ++ C) → aPt gs (m - C.length) A
  | [], _, _ => trivial
  | F :: A, C, q => ⟨by have h1 : (A ++ C).length + 1 + gk gs F.2.2.1 ≤ m := q.1; rw [List.length_append] at h1; omega, aPt_cut (A := A) q.2⟩
/-- what is laid down stands that much higher -/
theorem aPt_lay {gs : List Nat} {m a : Nat} {C : List aF} (hm : a + C.length ≤ m) (hC : aPt gs m C) : ∀ {A : List aF}, aPt gs a A → aPt gs m (A ++ C)
  | [], _ => hC
  | F :: A, q => ⟨by have h1 := q.1; show (A ++ C).length + 1 + gk gs F.2.2.1 ≤ m; rw [List.length_append]; omega, aPt_lay hm hC q.2⟩
theorem aFok_mono {sg : Nat → Int32} {sz : Nat → Nat} {a b : Nat} (h : a ≤ b) {F : aF} (q : aFok sg sz a F) : aFok sg sz b F := ⟨q.1, q.2.1, q.2.2.1, Nat.le_trans q.2.2.2.1 h, q.2.2.2.2⟩
def aMu : aS → Nat
  | (b, _, _, _, P, _, n, g, _, _) => (600 - 3 * n) + (8000 - 200 * g) + P.length + (if b then 0 else 1)
theorem aV_page {sg : Nat → Int32} {sz : Nat → Nat} {p : Nat} (hp : p < 20) (hz : 0 < sz p) : aV sg sz (40 * p) := by
  refine ⟨by omega, ?_, fun q => by have := q.1; omega⟩
  rw [Nat.mul_mod_right, Nat.mul_div_cancel_left p (by decide)]
  exact hz
theorem aDc_page {p : Nat} : aDc (40 * p) ↔ (4 ≤ p ∧ p % 4 ≠ 3) := by
  unfold aDc
  rw [Nat.mul_div_cancel_left p (by decide)]
theorem aDc_same {a b : Nat} (h : a / 40 = b / 40) : aDc a ↔ aDc b := by unfold aDc; rw [h]
theorem aAct_lt {s : Int} {a b : Nat} (ha : a < 8) (hb : b < 8) : aAct s a b < 8 := by
  unfold aAct
  repeat' split
  all_goals omega
theorem aOf_cases (x : Int) : aOf x = 0 ∨ aOf x = 1 ∨ aOf x = 2 ∨ aOf x = 3 ∨ aOf x = -1 := by
  unfold aOf
  repeat' split
  all_goals omega
theorem aOf_0 {x : Int} (h : aOf x = 0) (hx : x ≠ 120) : 48 ≤ x ∧ x ≤ 55 := by
  unfold aOf at h
  repeat' split at h
  all_goals omega
theorem aOf_1 {x : Int} (h : aOf x = 1) : x = 112 ∨ x = 113 ∨ x = 114 ∨ x = 107 ∨ x = 64 := by
  unfold aOf at h
  repeat' split at h
  all_goals omega
theorem aOf_2 {x : Int} (h : aOf x = 2) : x = 43 ∨ x = 45 ∨ x = 42 ∨ x = 109 := by
  unfold aOf at h
  repeat' split at h
  all_goals omega
theorem aOf_3 {x : Int} (h : aOf x = 3) : x = 63 := by
  unfold aOf at h
  repeat' split at h
  all_goals omega
theorem aOf_is3 : aOf 63 = 3 := by decide
theorem aOf_64 : aOf 64 = 1 := by decide
theorem aOf_107 : aOf 107 = 1 := by decide
/-- a turn keeps what holds, and comes nearer to the end -/
theorem aJ_beg {sg : Nat → Int32} {ln sz : Nat → Nat} {r : List Nat} (hB : aWB sg ln sz) {pl x k : Nat} {P : List aF} {K : List (List aF)} {n g u : Nat} {q : List Nat} (h : aJ sg sz r (true, pl, x, k, P, K, n, g, u, q)) {s' : aS} (hs : aBeg sg pl x k P K n g u q = .inl s') : aJ sg sz r s' ∧ aMu s' < aMu (true, pl, x, k, P, K, n, g, u, q) := by
  obtain ⟨hx, hb, hP, hK, hn, hg, hu, hq, hc, gs, g1, g2, g3, g4⟩ := h
  obtain ⟨hV, hk, hd⟩ := hb rfl
  have g3 := g3 rfl
  have g4' : ∀ (j : Nat) (L : List aF), K[j]? = some L → aPt gs (gs.getD j 0) L ∧ gs.getD j 0 ≤ n + 1 := fun j L hj => ⟨(g4 j L hj).1, Nat.le_succ_of_le (g4 j L hj).2⟩
  have hc' : K.length + 0 ≤ n + 1 := hc
  unfold aBeg at hs
  split at hs
  · cases hs
  · rename_i hn2
    split at hs
    · cases hs
      refine ⟨⟨hx, fun q => (by cases q), hP, hK, by omega, hg, hu, hq, by simp only [Bool.false_eq_true, if_false]; omega, gs, g1, aPt_mono (by omega) g2, fun q => (by cases q), g4'⟩, ?_⟩
      simp only [aMu, Bool.false_eq_true, if_false, if_true]
      omega
    · rename_i h120
      split at hs
      · rename_i h0
        cases hs
        have h9 := aOf_0 h0 h120
        refine ⟨⟨by omega, fun q => (by cases q), hP, hK, by omega, hg, hu, hq, by simp only [Bool.false_eq_true, if_false]; omega, gs, g1, aPt_mono (by omega) g2, fun q => (by cases q), g4'⟩, ?_⟩
        simp only [aMu, Bool.false_eq_true, if_false, if_true]
        omega
      · rename_i h0
        cases hs
        have h9 := hB.2 pl hV
        have h1 : 1 ≤ aOf (sg pl).toInt := by have := h9.1; omega
        have h2 := h9.2.2.2.1 h1
        have hd2 : aDc (aFs sg pl) → 1 ≤ k := fun z => hd ((aDc_same h2.2).mp z)
        refine ⟨⟨hx, fun _ => ⟨h2.1, hk, hd2⟩, ?_, hK, by omega, hg, hu, hq, by simp only [if_true]; omega, gs, g1, ⟨by show P.length + 1 + gk gs k ≤ n + 1; omega, aPt_mono (by omega) g2⟩, fun _ => by show P.length + 1 + gk gs k ≤ n + 1; omega, g4'⟩, ?_⟩
        · intro F hF
          rcases List.mem_cons.mp hF with rfl | hF
          · exact ⟨hV, h1, hx, hk, hd, Nat.zero_le _, fun _ => rfl⟩
          · exact hP F hF
        · simp only [aMu, List.length_cons, if_true]
          omega
theorem aJ_ask {sg : Nat → Int32} {ln sz : Nat → Nat} {r : List Nat} (hB : aWB sg ln sz) (hr : ∀ z ∈ r, z < 8) {d v pl0 x0 k0 w0 : Nat} (hd : d < 3) {P : List aF} {K : List (List aF)} {n g u : Nat} {q : List Nat} (h : aJ sg sz r (false, 0, v, 0, (pl0, x0, k0, w0) :: P, K, n, g, u, q)) {s' : aS} (hs : aAsk sg sz r d v P K n g u q = .inl s') : aJ sg sz r s' ∧ aMu s' < aMu (false, 0, v, 0, (pl0, x0, k0, w0) :: P, K, n, g, u, q) := by
  obtain ⟨hx, hb, hP, hK, hn, hg, hu, hq, hc, gs, g1, g2, g3, g4⟩ := h
  have hc : K.length + 1 ≤ n + 1 := hc
  have hP2 : ∀ F ∈ P, aFok sg sz K.length F := fun F hF => hP F (List.mem_cons_of_mem _ hF)
  have g2' : aPt gs n P := g2.2
  unfold aAsk at hs
  cases hN : aNr sg sz d P with
  | none =>
    rw [hN] at hs
    simp only at hs
    split at hs
    · rename_i hu2
      cases hs
      have hv : r.getD u 0 < 8 := by
        rw [List.getD_eq_getElem?_getD, List.getElem?_eq_getElem hu2]
        exact hr _ (List.getElem_mem hu2)
      refine ⟨⟨hv, fun q => (by cases q), hP2, hK, hn, hg, by omega, by rw [List.length_append]; simp only [List.length_cons, List.length_nil]; omega, by simp only [Bool.false_eq_true, if_false]; omega, gs, g1, g2', fun q => (by cases q), g4⟩, ?_⟩
      simp only [aMu, List.length_cons, Bool.false_eq_true, if_false]
      omega
    · cases hs
  | some z =>
    obtain ⟨A, G, C⟩ := z
    rw [hN] at hs
    cases hs
    obtain ⟨e1, e2, e3, e4⟩ := aNr_some hN
    subst e1
    have hG := hP2 G (List.mem_append_right _ List.mem_cons_self)
    have h9 := (hB.2 G.1 hG.1).2.2.2.2.2.2.2.2.1 e2
    have hh : aHd sg G.1 < 4 := by unfold aHd; omega
    have eAC : A ++ G :: C = (A ++ [G]) ++ C := by simp
    have gC : aPt gs n C := by rw [eAC] at g2'; exact aPt_right g2'
    have gA1 : aPt gs (n - C.length) (A ++ [G]) := by rw [eAC] at g2'; exact aPt_cut g2'
    have hCl := aPt_len gC
    have hKk : ∀ F, aFok sg sz K.length F → F.2.2.1 ≤ gs.length := fun F q => by rw [g1]; exact q.2.2.2.1
    have hKl : (K ++ [A ++ [G]]).length = K.length + 1 := by simp
    refine ⟨⟨hx, fun _ => ⟨aV_page (by omega) e3, by rw [hKl]; exact Nat.le_refl _, fun _ => Nat.le_add_left 1 _⟩, ?_, ?_, hn, hg, hu, by rw [hKl, List.length_append]; simp only [List.length_cons, List.length_nil]; omega, by rw [hKl]; simp only [if_true]; omega, gs ++ [n - C.length], by rw [hKl, List.length_append, g1]; rfl, ?_, ?_, ?_⟩, ?_⟩
    · intro F hF
      exact aFok_mono (by rw [hKl]; omega) (hP2 F (List.mem_append_right _ (List.mem_cons_of_mem _ hF)))
    · intro L hL
      rcases List.mem_append.mp hL with hL | hL
      · exact ⟨(hK L hL).1, fun F hF => aFok_mono (by rw [hKl]; omega) ((hK L hL).2 F hF)⟩
      · rw [List.mem_singleton] at hL
        subst hL
        refine ⟨by simp, fun F hF => aFok_mono (by rw [hKl]; omega) (hP2 F ?_)⟩
        rw [eAC]
        exact List.mem_append_left _ hF
    · exact aPt_app (fun F hF => hKk F (hP2 F (List.mem_append_right _ (List.mem_cons_of_mem _ hF)))) gC
    · intro _
      have : gk (gs ++ [n - C.length]) (K.length + 1) = n - C.length := by
        unfold gk
        rw [if_neg (by omega), List.getD_eq_getElem?_getD, List.getElem?_append_right (by omega)]
        simp [g1]
      rw [this]
      omega
    · intro j L hj
      by_cases hjl : j < K.length
      · rw [List.getElem?_append_left hjl] at hj
        obtain ⟨q1, q2⟩ := g4 j L hj
        have : (gs ++ [n - C.length]).getD j 0 = gs.getD j 0 := by rw [List.getD_eq_getElem?_getD, List.getD_eq_getElem?_getD, List.getElem?_append_left (by omega)]
        rw [this]
        exact ⟨aPt_app (fun F hF => hKk F ((hK L (List.mem_of_getElem? hj)).2 F hF)) q1, q2⟩
      · rw [List.getElem?_append_right (by omega)] at hj
        have hj0 : j = K.length := by
          have := (List.getElem?_eq_some_iff.mp hj).1
          simp only [List.length_cons, List.length_nil] at this
          omega
        subst hj0
        rw [Nat.sub_self] at hj
        cases hj
        have : (gs ++ [n - C.length]).getD K.length 0 = n - C.length := by
          rw [List.getD_eq_getElem?_getD, List.getElem?_append_right (by omega)]
          simp [g1]
        rw [this]
        refine ⟨aPt_app (fun F hF => hKk F (hP2 F ?_)) gA1, by omega⟩
        rw [eAC]
        exact List.mem_append_left _ hF
    · simp only [aMu, List.length_cons, List.length_append, Bool.false_eq_true, if_false, if_true]
      omega
theorem aJ_top {sg : Nat → Int32} {ln sz : Nat → Nat} {r : List Nat} (hB : aWB sg ln sz) (hr : ∀ z ∈ r, z < 8) {v pl x k w : Nat} {P : List aF} {K : List (List aF)} {n g u : Nat} {q : List Nat} (h : aJ sg sz r (false, 0, v, 0, (pl, x, k, w) :: P, K, n, g, u, q)) {s' : aS} (hs : aTop sg ln sz r v pl x k w P K n g u q = .inl s') : aJ sg sz r s' ∧ aMu s' < aMu (false, 0, v, 0, (pl, x, k, w) :: P, K, n, g, u, q) := by
  have h0 := h
  obtain ⟨hx, hb, hP, hK, hn, hg, hu, hq, hc, gs, g1, g2, g3, g4⟩ := h
  have hc : K.length + 1 ≤ n + 1 := hc
  have hP2 : ∀ F ∈ P, aFok sg sz K.length F := fun F hF => hP F (List.mem_cons_of_mem _ hF)
  obtain ⟨f1, f2, f3, f4, f5, f6, f7⟩ := hP (pl, x, k, w) List.mem_cons_self
  dsimp only at f1 f2 f3 f4 f5 f6 f7
  have g2' : aPt gs n P := g2.2
  have g2t : P.length + 1 + gk gs k ≤ n := g2.1
  have h9 := hB.2 pl f1
  unfold aTop at hs
  split at hs
  · rename_i c1
    cases hs
    have h2 := h9.2.2.2.2.2.1 (by omega)
    refine ⟨⟨f3, fun _ => ⟨h2.1, f4, fun z => f5 ((aDc_same h2.2).mp z)⟩, ?_, hK, hn, hg, hu, hq, by simp only [if_true]; omega, gs, g1, ⟨g2t, g2'⟩, fun _ => by show P.length + 1 + gk gs k ≤ n; exact g2t, g4⟩, ?_⟩
    · intro F hF
      rcases List.mem_cons.mp hF with rfl | hF
      · exact ⟨f1, f2, f3, f4, f5, by show v + 1 ≤ 8; omega, fun z => absurd c1.1 z⟩
      · exact hP2 F hF
    · simp only [aMu, List.length_cons, Bool.false_eq_true, if_false, if_true]
      omega
  · rename_i c1
    split at hs
    · rename_i c2
      cases hs
      have h3 : aOf (sg pl).toInt = 3 := by rw [c2]; exact aOf_is3
      have q2 := h9.2.2.2.2.2.1 (by omega)
      have q3 := (h9.2.2.2.2.2.2.2.1 h3).1
      refine ⟨⟨f3, fun _ => ?_, hP2, hK, hn, hg, hu, hq, by simp only [if_true]; omega, gs, g1, g2', fun _ => by show P.length + gk gs k ≤ n; omega, g4⟩, ?_⟩
      · split
        · exact ⟨q2.1, f4, fun z => f5 ((aDc_same q2.2).mp z)⟩
        · exact ⟨q3.1, f4, fun z => f5 ((aDc_same q3.2).mp z)⟩
      · simp only [aMu, List.length_cons, Bool.false_eq_true, if_false, if_true]
        omega
    · rename_i c2
      split at hs
      · rename_i c3
        have hh := h9.2.2.2.2.2.2.2.2.1 c3
        have hh4 : aHd sg pl < 4 := by unfold aHd; omega
        split at hs
        · rename_i c4
          cases hs
          refine ⟨⟨hx, fun _ => ⟨aV_page (by omega) c4, Nat.zero_le _, fun z => absurd (aDc_page.mp z).2 (by omega)⟩, hP2, hK, hn, hg, hu, hq, by simp only [if_true]; omega, gs, g1, g2', fun _ => by show P.length + gk gs 0 ≤ n; have : gk gs 0 = 0 := rfl; omega, g4⟩, ?_⟩
          simp only [aMu, List.length_cons, Bool.false_eq_true, if_false, if_true]
          omega
        · cases hs
          refine ⟨⟨hx, fun q => (by cases q), hP2, hK, hn, hg, hu, hq, by simp only [Bool.false_eq_true, if_false]; omega, gs, g1, g2', fun q => (by cases q), g4⟩, ?_⟩
          simp only [aMu, List.length_cons, Bool.false_eq_true, if_false]
          omega
      · rename_i c3
        split at hs
        · rename_i c4
          split at hs
          · cases hs
          · rename_i c5
            cases hs
            have hk1 : 1 ≤ k := f5 (h9.2.2.2.2.2.2.2.2.2 c4)
            have hkl : k - 1 < K.length := by omega
            have e1 : K.getD (k - 1) [] = K[k - 1] := by rw [List.getD_eq_getElem?_getD, List.getElem?_eq_getElem hkl]; rfl
            have e2 : K[k - 1]? = some (K.getD (k - 1) []) := by rw [e1, List.getElem?_eq_getElem hkl]
            have e3 : K.getD (k - 1) [] ∈ K := List.mem_of_getElem? e2
            obtain ⟨q1, q2⟩ := g4 _ _ e2
            have e4 : gk gs k = gs.getD (k - 1) 0 := by unfold gk; rw [if_neg (by omega)]
            have q3 := aPt_len q1
            refine ⟨⟨hx, fun q => (by cases q), ?_, hK, hn, by omega, hu, hq, by simp only [Bool.false_eq_true, if_false]; omega, gs, g1, aPt_lay (by omega) g2' q1, fun q => (by cases q), g4⟩, ?_⟩
            · intro F hF
              rcases List.mem_append.mp hF with hF | hF
              · exact (hK _ e3).2 F hF
              · exact hP2 F hF
            · simp only [aMu, List.length_cons, List.length_append, Bool.false_eq_true, if_false]
              omega
        · rename_i c4
          split at hs
          · rename_i c5
            exact aJ_ask hB hr (by omega) h0 hs
          · rename_i c5
            cases hs
            refine ⟨⟨aAct_lt (by omega) hx, fun q => (by cases q), hP2, hK, hn, hg, hu, hq, by simp only [Bool.false_eq_true, if_false]; omega, gs, g1, g2', fun q => (by cases q), g4⟩, ?_⟩
            simp only [aMu, List.length_cons, Bool.false_eq_true, if_false]
            omega
