/-! Rows of replies as numbers. -/
def dg (b : Nat) : Nat → Nat → List Nat
  | 0, _ => []
  | n + 1, code => dg b n (code / b) ++ [code % b]
theorem dg_len (b : Nat) : ∀ (n code : Nat), (dg b n code).length = n
  | 0, _ => rfl
  | n + 1, code => by show (dg b n (code / b) ++ [code % b]).length = n + 1; rw [List.length_append, dg_len b n]; rfl
theorem dg_lt {b : Nat} (hb9 : 0 < b) : ∀ (n code : Nat), ∀ z ∈ dg b n code, z < b
  | 0, _, z, h => by cases h
  | n + 1, code, z, h => by
    rcases List.mem_append.mp h with h | h
    · exact dg_lt hb9 n _ z h
    · rw [List.mem_singleton] at h
      rw [h]
      exact Nat.mod_lt _ hb9
theorem dg_l (b n code : Nat) {j : Nat} (hj : j < n) : (dg b (n + 1) code).getD j 0 = (dg b n (code / b)).getD j 0 := by
  show (dg b n (code / b) ++ [code % b]).getD j 0 = _
  rw [List.getD_eq_getElem?_getD, List.getD_eq_getElem?_getD, List.getElem?_append_left (by rw [dg_len]; exact hj)]
theorem dg_r (b n code : Nat) : (dg b (n + 1) code).getD n 0 = code % b := by
  show (dg b n (code / b) ++ [code % b]).getD n 0 = _
  rw [List.getD_eq_getElem?_getD, List.getElem?_append_right (by rw [dg_len]; exact Nat.le_refl _), dg_len, Nat.sub_self]
  rfl
theorem dg_pre (b u : Nat) {j : Nat} (hj : j < u) : ∀ (t code : Nat), (dg b (u + t) code).getD j 0 = (dg b u (code / b ^ t)).getD j 0 := by
  intro t
  induction t with
  | zero => intro code; rw [Nat.pow_zero, Nat.div_one]; rfl
  | succ t ih =>
    intro code
    show (dg b (u + t + 1) code).getD j 0 = _
    rw [dg_l b (u + t) code (by omega), ih, Nat.div_div_eq_div_mul, Nat.pow_succ, Nat.mul_comm]
def vl (b : Nat) (g : Nat → Nat) : Nat → Nat
  | 0 => 0
  | n + 1 => vl b g n * b + g n
theorem vl_congr {b : Nat} {g g' : Nat → Nat} : ∀ {n : Nat}, (∀ j, j < n → g j = g' j) → vl b g n = vl b g' n
  | 0, _ => rfl
  | n + 1, h => by
    show vl b g n * b + g n = vl b g' n * b + g' n
    rw [vl_congr (n := n) (fun j hj => h j (by omega)), h n (by omega)]
theorem vl_lt {b : Nat} {g : Nat → Nat} : ∀ {n : Nat}, (∀ j, j < n → g j < b) → vl b g n < b ^ n
  | 0, _ => by show 0 < b ^ 0; rw [Nat.pow_zero]; omega
  | n + 1, h => by
    have h1 := vl_lt (n := n) (fun j hj => h j (by omega))
    have h2 := h n (by omega)
    have h3 : (vl b g n + 1) * b ≤ b ^ n * b := Nat.mul_le_mul_right b h1
    rw [Nat.add_mul, Nat.one_mul] at h3
    show vl b g n * b + g n < b ^ (n + 1)
    rw [Nat.pow_succ]
    omega
theorem vl_tail {b : Nat} {g : Nat → Nat} {u : Nat} : ∀ t : Nat, (∀ j, u ≤ j → j < u + t → g j = 0) → vl b g (u + t) = vl b g u * b ^ t := by
  intro t
  induction t with
  | zero => intro _; rw [Nat.pow_zero, Nat.mul_one]; rfl
  | succ t ih =>
    intro h
    show vl b g (u + t) * b + g (u + t) = _
    rw [ih (fun j j1 j2 => h j j1 (by omega)), h (u + t) (by omega) (by omega), Nat.pow_succ, Nat.mul_assoc]
    rfl
theorem dg_vl {b : Nat} {g : Nat → Nat} : ∀ {n : Nat}, (∀ j, j < n → g j < b) → ∀ j, j < n → (dg b n (vl b g n)).getD j 0 = g j := by
  intro n
  induction n with
  | zero => intro _ j hj; exact absurd hj (Nat.not_lt_zero _)
  | succ n ih =>
    intro h j hj
    have hn := h n (by omega)
    have e1 : vl b g (n + 1) / b = vl b g n := by
      show (vl b g n * b + g n) / b = _
      rw [Nat.mul_comm, Nat.mul_add_div (by omega), Nat.div_eq_of_lt hn]
      rfl
    have e2 : vl b g (n + 1) % b = g n := by
      show (vl b g n * b + g n) % b = _
      rw [Nat.mul_comm, Nat.mul_add_mod, Nat.mod_eq_of_lt hn]
    by_cases e : j = n
    · subst e; rw [dg_r, e2]
    · rw [dg_l _ _ _ (by omega), e1]
      exact ih (fun j hj => h j (by omega)) j (by omega)
/-- a block of rows that begin alike -/
theorem dg_blk {b : Nat} {g : Nat → Nat} {u t code : Nat} (hg : ∀ j, j < u → g j < b) (h1 : vl b g u * b ^ t ≤ code) (h2 : code < vl b g u * b ^ t + b ^ t) {j : Nat} (hj : j < u) : (dg b (u + t) code).getD j 0 = g j := by
  have hb9 : 0 < b := by have := hg j hj; omega
  have e : code / b ^ t = vl b g u := by
    have hp : 0 < b ^ t := Nat.pow_pos hb9
    exact Nat.div_eq_of_lt_le (by rw [Nat.mul_comm] at h1; rw [Nat.mul_comm]; exact h1) (by rw [Nat.succ_mul]; exact h2)
  rw [dg_pre b u hj, e]
  exact dg_vl hg j hj
/-- the next row -/
theorem rN_ok {c : Nat} (hc : c ≤ 7) : ∀ (u : Nat) (f : Nat → Int32) (g : Nat → Nat), (∀ j, j < u → f j = nI (g j) ∧ g j ≤ c) → ((rN (nI c) u f).1 = true ∧ ∃ g' : Nat → Nat, (∀ j, j < u → (rN (nI c) u f).2 j = nI (g' j) ∧ g' j ≤ c) ∧ (∀ j, u ≤ j → (rN (nI c) u f).2 j = f j) ∧ vl (c + 1) g' u = vl (c + 1) g u + 1 ∧ ∃ i, i < u ∧ (∀ j, j < i → g' j = g j) ∧ ∀ j, i < j → j < u → g' j = 0) ∨ ((rN (nI c) u f).1 = false ∧ (∀ j, u ≤ j → (rN (nI c) u f).2 j = f j) ∧ vl (c + 1) g u + 1 = (c + 1) ^ u) := by
  intro u
  induction u with
  | zero => intro f g h; exact Or.inr ⟨rfl, fun _ _ => rfl, rfl⟩
  | succ u ih =>
    intro f g h
    obtain ⟨h1, h2⟩ := h u (by omega)
    have e0 : rN (nI c) (u + 1) f = if (f u).toInt < (nI c).toInt then (true, upd f u (f u + 1)) else rN (nI c) u (upd f u 0) := rfl
    rw [e0, h1, nI_toInt (by omega), nI_toInt (by omega)]
    by_cases z : ((g u : Nat) : Int) < (c : Int)
    · rw [if_pos z]
      refine Or.inl ⟨rfl, ud g u (g u + 1), fun j hj => ?_, fun j hj => ?_, ?_, u, by omega, fun j hj => ud_n (by omega), fun j j1 j2 => by omega⟩
      · by_cases e : j = u
        · subst e; rw [ud_s]; exact ⟨by show upd f j (nI (g j) + 1) j = _; rw [pk_us, nI_1], by omega⟩
        · rw [ud_n e]; exact ⟨by show upd f u (nI (g u) + 1) j = _; rw [pk_un e]; exact (h j hj).1, (h j hj).2⟩
      · show upd f u (nI (g u) + 1) j = _
        rw [pk_un (by omega)]
      · show vl (c + 1) (ud g u (g u + 1)) u * (c + 1) + ud g u (g u + 1) u = vl (c + 1) g u * (c + 1) + g u + 1
        rw [ud_s, vl_congr (g' := g) (fun j hj => ud_n (by omega))]
        omega
    · rw [if_neg z]
      have hgc : g u = c := by omega
      have hv : vl (c + 1) g (u + 1) = vl (c + 1) g u * (c + 1) + c := by
        show vl (c + 1) g u * (c + 1) + g u = _
        rw [hgc]
      rcases ih (upd f u 0) g (fun j hj => ⟨by rw [pk_un (by omega)]; exact (h j (by omega)).1, (h j (by omega)).2⟩) with ⟨a1, g', a2, a3, a4, i, a5, a6, a7⟩ | ⟨a1, a2, a3⟩
      · refine Or.inl ⟨a1, ud g' u 0, fun j hj => ?_, fun j hj => ?_, ?_, i, by omega, fun j hj => by rw [ud_n (by omega)]; exact a6 j hj, fun j j1 j2 => ?_⟩
        · by_cases e : j = u
          · subst e; rw [ud_s, a3 j (Nat.le_refl _), pk_us]; exact ⟨rfl, by omega⟩
          · rw [ud_n e]; exact a2 j (by omega)
        · rw [a3 j (by omega), pk_un (by omega)]
        · rw [hv]
          show vl (c + 1) (ud g' u 0) u * (c + 1) + ud g' u 0 u = _
          rw [ud_s, vl_congr (g' := g') (fun j hj => ud_n (by omega)), a4, Nat.add_mul]
          omega
        · by_cases e : j = u
          · subst e; exact ud_s
          · rw [ud_n e]; exact a7 j j1 (by omega)
      · refine Or.inr ⟨a1, fun j hj => ?_, ?_⟩
        · rw [a2 j (by omega), pk_un (by omega)]
        · rw [hv, Nat.pow_succ, ← a3, Nat.add_mul]
          omega
/-- the reference's row -/
theorem gR_ok (c : Nat) : ∀ (m code : Nat) (f : Nat → Int32), (∀ j, m ≤ j → gR c code m f j = f j) ∧ ∀ j, j < m → gR c code m f j = nI ((dg (c + 1) m code).getD j 0) := by
  intro m
  induction m with
  | zero => intro code f; exact ⟨fun _ _ => rfl, fun j hj => absurd hj (Nat.not_lt_zero _)⟩
  | succ m ih =>
    intro code f
    obtain ⟨i1, i2⟩ := ih (code / (c + 1)) (upd f m (nI (code % (c + 1))))
    refine ⟨fun j hj => ?_, fun j hj => ?_⟩
    · show gR c (code / (c + 1)) m (upd f m (nI (code % (c + 1)))) j = _
      rw [i1 j (by omega), pk_un (by omega)]
    · show gR c (code / (c + 1)) m (upd f m (nI (code % (c + 1)))) j = _
      by_cases e : j = m
      · subst e
        rw [i1 j (Nat.le_refl _), pk_us, dg_r]
      · rw [i2 j (by omega), dg_l _ _ _ (by omega)]
/-! What comes of all rows. -/
def eA (E : Nat → Nat) : Nat → Nat
  | 0 => 0
  | k + 1 => eA E k ||| 2 ^ E k
def rSo (o : Option (Nat × Nat)) (u : Nat) : Prop := match o with | none => True | some q => u < q.1
def rS (E U : Nat → Nat) (w : Nat) : Nat → Option (Nat × Nat)
  | 0 => none
  | k + 1 => if E k = w ∧ ((rS E U w k).elim true (fun q => decide (U k < q.1))) = true then some (U k, k) else rS E U w k
theorem eA_blk {E : Nat → Nat} {k : Nat} : ∀ m, (∀ j, j < m + 1 → E (k + j) = E k) → eA E (k + m + 1) = eA E k ||| 2 ^ E k := by
  intro m
  induction m with
  | zero => intro _; rfl
  | succ m ih =>
    intro h
    show eA E (k + m + 1) ||| 2 ^ E (k + (m + 1)) = _
    rw [ih (fun j hj => h j (by omega)), h (m + 1) (by omega), Nat.or_assoc, Nat.or_self]
theorem rS_s (E U : Nat → Nat) (w k : Nat) : rS E U w (k + 1) = if E k = w ∧ ((rS E U w k).elim true (fun q => decide (U k < q.1))) = true then some (U k, k) else rS E U w k := rfl
theorem rS_blk {E U : Nat → Nat} {w k : Nat} : ∀ m, (∀ j, j < m + 1 → E (k + j) = E k ∧ U (k + j) = U k) → rS E U w (k + m + 1) = rS E U w (k + 1) := by
  intro m
  induction m with
  | zero => intro _; rfl
  | succ m ih =>
    intro h
    have e := ih (fun j hj => h j (by omega))
    obtain ⟨e1, e2⟩ := h (m + 1) (by omega)
    have e3 := rS_s E U w (k + (m + 1))
    show rS E U w (k + (m + 1) + 1) = _
    rw [e3, show k + (m + 1) = k + m + 1 from rfl, e, show k + m + 1 = k + (m + 1) from rfl, e1, e2]
    by_cases z : E k = w
    · rw [if_neg]
      rintro ⟨-, z2⟩
      rw [rS_s] at z2
      by_cases y : E k = w ∧ ((rS E U w k).elim true (fun q => decide (U k < q.1))) = true
      · rw [if_pos y] at z2
        exact absurd (of_decide_eq_true z2) (Nat.lt_irrefl _)
      · rw [if_neg y] at z2
        exact y ⟨z, z2⟩
    · rw [if_neg (fun y => z y.1)]
theorem eA_bit {E U : Nat → Nat} {w : Nat} : ∀ k, (eA E k).testBit w = true ↔ rS E U w k ≠ none := by
  intro k
  induction k with
  | zero => exact ⟨fun h => by simp [eA] at h, fun h => absurd rfl h⟩
  | succ k ih =>
    rw [rS_s]
    show (eA E k ||| 2 ^ E k).testBit w = true ↔ _
    rw [Nat.testBit_or, Nat.testBit_two_pow]
    by_cases z : E k = w
    · constructor
      · intro _
        split
        · exact fun q => by cases q
        · rename_i y
          intro q
          rw [q] at y
          exact y ⟨z, rfl⟩
      · intro _
        simp [z]
    · rw [if_neg (fun y => z y.1), ← ih]
      simp [z]
theorem eA_lt {E : Nat → Nat} (h : ∀ k, E k ≤ 9) : ∀ k, eA E k < 1024
  | 0 => by show 0 < 1024; omega
  | k + 1 => Nat.or_lt_two_pow (n := 10) (eA_lt h k) (Nat.lt_of_le_of_lt (Nat.pow_le_pow_right (by omega) (h k)) (by decide))
