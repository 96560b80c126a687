/-! The reference's MAY ASK: what its passes do. -/
def yV (sg : Nat → Int32) (ln sz ma be : Nat → Nat) (pl : Nat) : Nat := fdV sg ln (fun p s => yG sg sz ma be p s) pl
section MAY
variable {sg : Nat → Int32} {ln sz : Nat → Nat}
theorem yV_eq (ma be : Nat → Nat) {pl : Nat} (h : pl < 800) : yV sg ln sz ma be pl = yG sg sz ma be pl (fun i => yV sg ln sz ma be (pOf ln (aFs sg pl) i)) := fdV_eq sg ln _ h
theorem yV_lt (hB : aWB sg ln sz) {ma be : Nat → Nat} (hm : ∀ p, p < 20 → ma p < 8) (hb9 : ∀ d, d < 4 → be d < 8) : ∀ (f pl : Nat), wr sz pl → fdF sg ln (fun p s => yG sg sz ma be p s) f pl < 8 := by
  intro f
  induction f with
  | zero => intro pl _; show 0 < 8; omega
  | succ f ih =>
    intro pl hw
    show (if 800 ≤ pl then 0 else _) < 8
    rw [if_neg (by have := hw.1; omega)]
    exact yG_lt hB hw hm hb9 (fun i hi => ih _ (wr_sub hB hw hi))
theorem yV_mono (hB : aWB sg ln sz) {ma ma' be be' : Nat → Nat} (hm : ∀ p, p < 20 → 0 < sz p → sb (ma p) (ma' p)) (hb9 : ∀ d, d < 4 → sb (be d) (be' d)) : ∀ (f pl : Nat), wr sz pl → sb (fdF sg ln (fun p s => yG sg sz ma be p s) f pl) (fdF sg ln (fun p s => yG sg sz ma' be' p s) f pl) := by
  intro f
  induction f with
  | zero => intro pl _; exact sb_refl 0
  | succ f ih =>
    intro pl hw
    show sb (if 800 ≤ pl then 0 else _) (if 800 ≤ pl then 0 else _)
    rw [if_neg (by have := hw.1; omega), if_neg (by have := hw.1; omega)]
    exact yG_mono hB hw hm hb9 (fun i hi => ih _ (wr_sub hB hw hi))
theorem yV_cl (hB : aWB sg ln sz) {ma be A W : Nat → Nat} (hc : yCl sg ln sz A W) (hm : ∀ p, p < 20 → 0 < sz p → sb (ma p) (A (40 * p))) (hb9 : ∀ d, d < 4 → sb (be d) (W d)) : ∀ (f pl : Nat), wr sz pl → sb (fdF sg ln (fun p s => yG sg sz ma be p s) f pl) (A pl) := by
  intro f
  induction f with
  | zero => intro pl _; exact sb_0 _
  | succ f ih =>
    intro pl hw
    show sb (if 800 ≤ pl then 0 else _) (A pl)
    rw [if_neg (by have := hw.1; omega)]
    exact sb_trans (yG_mono hB hw hm hb9 (fun i hi => ih _ (wr_sub hB hw hi))) (hc pl hw).1
theorem wr_at (hB : aWB sg ln sz) {p j : Nat} (hp : p < 20) (hj : j < sz p) : wr sz (40 * p + j) := by
  have := hB.1 p hp
  exact ⟨by omega, by rw [show (40 * p + j) / 40 = p from by omega, show (40 * p + j) % 40 = j from by omega]; exact hj⟩
/-- while the reference goes through a page -/
def mQ (sg : Nat → Int32) (ln sz ma W : Nat → Nat) (p : Nat) (be0 : Nat → Nat) (m : Nat) (be s : Nat → Nat) : Prop := (∀ d, d < 4 → sb (be0 d) (be d)) ∧ (∀ d, d < 4 → sb (be d) (W d)) ∧ (∀ d, be d < 8) ∧ ∀ j, m ≤ j → j < sz p → s j < 8 ∧ sb (yV sg ln sz ma be0 (40 * p + j)) (s j) ∧ sb (s j) (yV sg ln sz ma be (40 * p + j)) ∧ ((sg (40 * p + j)).toInt = 64 → sb (s j) (be (aHd sg (40 * p + j))))
def mX (sg : Nat → Int32) (ln sz ma : Nat → Nat) (p m : Nat) (be s : Nat → Nat) : Nat := yG sg sz ma be (40 * p + m) (fun i => s (pOf ln (aFs sg (40 * p + m)) i - 40 * p))
theorem mX_sub (hB : aWB sg ln sz) {p m : Nat} (hp : p < 20) (hm : m < sz p) {i : Nat} (hi : i < (aOf (sg (40 * p + m)).toInt).toNat) : m < pOf ln (aFs sg (40 * p + m)) i - 40 * p ∧ pOf ln (aFs sg (40 * p + m)) i - 40 * p < sz p ∧ 40 * p + (pOf ln (aFs sg (40 * p + m)) i - 40 * p) = pOf ln (aFs sg (40 * p + m)) i := by
  have hz := hB.1 p hp
  have hw := wr_at hB hp hm
  obtain ⟨b1, b2, b3⟩ := (aPar hB hw.1 hw.2).2.1 i hi
  have b4 := b1.2.1
  rw [b2, show (40 * p + m) / 40 = p from by omega] at b4
  omega
theorem mQ_step (hB : aWB sg ln sz) {ma A W be0 be s : Nat → Nat} {p m : Nat} (hp : p < 20) (hm : m < sz p) (hc : yCl sg ln sz A W) (hma : ∀ p, p < 20 → 0 < sz p → sb (ma p) (A (40 * p))) (hm8 : ∀ p, p < 20 → ma p < 8) (h : mQ sg ln sz ma W p be0 (m + 1) be s) : mX sg ln sz ma p m be s < 8 ∧ mQ sg ln sz ma W p be0 m (yW sg be (40 * p + m) (mX sg ln sz ma p m be s)) (ud s m (mX sg ln sz ma p m be s)) := by
  obtain ⟨q1, q2, q3, q4⟩ := h
  have hw := wr_at hB hp hm
  have hsub : ∀ i, i < (aOf (sg (40 * p + m)).toInt).toNat → s (pOf ln (aFs sg (40 * p + m)) i - 40 * p) < 8 ∧ sb (yV sg ln sz ma be0 (pOf ln (aFs sg (40 * p + m)) i)) (s (pOf ln (aFs sg (40 * p + m)) i - 40 * p)) ∧ sb (s (pOf ln (aFs sg (40 * p + m)) i - 40 * p)) (yV sg ln sz ma be (pOf ln (aFs sg (40 * p + m)) i)) := by
    intro i hi
    obtain ⟨a1, a2, a3⟩ := mX_sub hB hp hm hi
    obtain ⟨r1, r2, r3, r4⟩ := q4 _ (by omega) a2
    rw [a3] at r2 r3
    exact ⟨r1, r2, r3⟩
  have hx8 : mX sg ln sz ma p m be s < 8 := yG_lt hB hw hm8 (fun d _ => q3 d) (fun i hi => (hsub i hi).1)
  have lo : sb (yV sg ln sz ma be0 (40 * p + m)) (mX sg ln sz ma p m be s) := by
    rw [yV_eq ma be0 hw.1]
    exact yG_mono hB hw (fun _ _ _ => sb_refl _) q1 (fun i hi => (hsub i hi).2.1)
  have hi9 : sb (mX sg ln sz ma p m be s) (yV sg ln sz ma be (40 * p + m)) := by
    rw [yV_eq ma be hw.1]
    exact yG_mono hB hw (fun _ _ _ => sb_refl _) (fun _ _ => sb_refl _) (fun i hi => (hsub i hi).2.2)
  have hA := sb_trans hi9 (yV_cl hB hc hma q2 800 _ hw)
  refine ⟨hx8, ?_⟩
  generalize mX sg ln sz ma p m be s = x at hx8 lo hi9 hA
  have hW : ∀ d, sb (be d) (yW sg be (40 * p + m) x d) := fun d => by
    unfold yW
    split
    · by_cases e : d = aHd sg (40 * p + m)
      · subst e; rw [ud_s]; exact sb_l _ _
      · rw [ud_n e]; exact sb_refl _
    · exact sb_refl _
  refine ⟨fun d hd => sb_trans (q1 d hd) (hW d), fun d hd => ?_, fun d => ?_, fun j j1 j2 => ?_⟩
  · unfold yW
    split
    · rename_i z
      by_cases e : d = aHd sg (40 * p + m)
      · subst e; rw [ud_s]; exact sb_or (q2 _ hd) (sb_trans hA ((hc _ hw).2 z))
      · rw [ud_n e]; exact q2 d hd
    · exact q2 d hd
  · unfold yW
    split
    · by_cases e : d = aHd sg (40 * p + m)
      · subst e; rw [ud_s]; exact or_lt8 (q3 _) hx8
      · rw [ud_n e]; exact q3 d
    · exact q3 d
  · by_cases e : j = m
    · subst e
      rw [ud_s]
      refine ⟨hx8, lo, sb_trans hi9 (yV_mono hB (fun _ _ _ => sb_refl _) (fun d _ => hW d) 800 _ hw), fun z => ?_⟩
      unfold yW
      rw [if_pos z, ud_s]
      exact sb_r _ _
    · rw [ud_n e]
      obtain ⟨r1, r2, r3, r4⟩ := q4 j (by omega) j2
      exact ⟨r1, r2, sb_trans r3 (yV_mono hB (fun _ _ _ => sb_refl _) (fun d _ => hW d) 800 _ (wr_at hB hp j2)), fun z => sb_trans (r4 z) (hW _)⟩
/-- what holds of the reference's sets between pages -/
def rI (sg : Nat → Int32) (ln sz A W ma be : Nat → Nat) : Prop := (∀ p, p < 20 → 0 < sz p → sb (ma p) (A (40 * p))) ∧ (∀ d, d < 4 → sb (be d) (W d)) ∧ (∀ p, p < 20 → 0 < sz p → sb (ma p) (yV sg ln sz ma be (40 * p))) ∧ (∀ p, p < 20 → sz p = 0 → ma p = 0) ∧ (∀ p, ma p < 8) ∧ ∀ d, be d < 8
def rP (sg : Nat → Int32) (ln sz W ma be : Nat → Nat) (p x : Nat) (be' : Nat → Nat) : Prop := x < 8 ∧ (∀ d, d < 4 → sb (be d) (be' d)) ∧ (∀ d, d < 4 → sb (be' d) (W d)) ∧ (∀ d, be' d < 8) ∧ (sz p = 0 → x = 0) ∧ (0 < sz p → sb (yV sg ln sz ma be (40 * p)) x ∧ sb x (yV sg ln sz ma be' (40 * p))) ∧ ∀ j, j < sz p → (sg (40 * p + j)).toInt = 64 → sb (yV sg ln sz ma be (40 * p + j)) (be' (aHd sg (40 * p + j)))
def lQ (sg : Nat → Int32) (ln sz A W ma0 be0 : Nat → Nat) (i : Nat) (b : Bool) (ma be : Nat → Nat) : Prop := rI sg ln sz A W ma be ∧ (∀ p, p < 20 → sb (ma0 p) (ma p)) ∧ (∀ d, d < 4 → sb (be0 d) (be d)) ∧ (b = false → ∀ p, p < 20 → ma p = ma0 p) ∧ (b = true → ∃ p, p < 20 ∧ ma0 p ≠ ma p) ∧ (∀ q, q < i → 0 < sz q → sb (yV sg ln sz ma0 be0 (40 * q)) (ma q)) ∧ ∀ q, q < i → ∀ j, j < sz q → (sg (40 * q + j)).toInt = 64 → sb (yV sg ln sz ma0 be0 (40 * q + j)) (be (aHd sg (40 * q + j)))
theorem lQ_step (hB : aWB sg ln sz) {A W ma0 be0 ma be be' : Nat → Nat} {i x : Nat} {b : Bool} (hi : i < 20) (hc : yCl sg ln sz A W) (h : lQ sg ln sz A W ma0 be0 i b ma be) (hx : rP sg ln sz W ma be i x be') : lQ sg ln sz A W ma0 be0 (i + 1) (if x = ma i then b else true) (ud ma i x) be' := by
  obtain ⟨⟨r1, r2, r3, r4, r5, r6⟩, l1, l2, l3, l4, l5, l6⟩ := h
  obtain ⟨x1, x2, x3, x4, x5, x6, x7⟩ := hx
  have hmx : sb (ma i) x := by
    by_cases z : 0 < sz i
    · exact sb_trans (r3 i hi z) (x6 z).1
    · rw [r4 i hi (by omega)]; exact sb_0 _
  have hma : ∀ p, sb (ma p) (ud ma i x p) := fun p => by
    by_cases e : p = i
    · subst e; rw [ud_s]; exact hmx
    · rw [ud_n e]; exact sb_refl _
  have m0 : ∀ q, wr sz q → sb (yV sg ln sz ma0 be0 q) (yV sg ln sz ma be q) := fun q hq => yV_mono hB (fun p hp _ => l1 p hp) l2 800 q hq
  have hx9 : 0 < sz i → sb x (yV sg ln sz (ud ma i x) be' (40 * i)) := fun z => sb_trans (x6 z).2 (yV_mono hB (fun p _ _ => hma p) (fun _ _ => sb_refl _) 800 _ (wr_pg hB hi z))
  refine ⟨⟨fun p hp z => ?_, x3, fun p hp z => ?_, fun p hp z => ?_, fun p => ?_, x4⟩, fun p hp => sb_trans (l1 p hp) (hma p), fun d hd => sb_trans (l2 d hd) (x2 d hd), fun z p hp => ?_, fun z => ?_, fun q hq z => ?_, fun q hq j hj z => ?_⟩
  · by_cases e : p = i
    · subst e; rw [ud_s]; exact sb_trans (x6 z).2 (yV_cl hB hc r1 x3 800 _ (wr_pg hB hp z))
    · rw [ud_n e]; exact r1 p hp z
  · by_cases e : p = i
    · subst e
      have := hx9 z
      rw [ud_s]
      exact this
    · rw [ud_n e]
      exact sb_trans (r3 p hp z) (yV_mono hB (fun p _ _ => hma p) x2 800 _ (wr_pg hB hp z))
  · by_cases e : p = i
    · subst e; rw [ud_s]; exact x5 z
    · rw [ud_n e]; exact r4 p hp z
  · by_cases e : p = i
    · subst e; rw [ud_s]; exact x1
    · rw [ud_n e]; exact r5 p
  · by_cases ex : x = ma i
    · rw [if_pos ex] at z
      rw [ud_self ex.symm]
      exact l3 z p hp
    · rw [if_neg ex] at z
      cases z
  · by_cases ex : x = ma i
    · rw [if_pos ex] at z
      rw [ud_self ex.symm]
      exact l4 z
    · refine ⟨i, hi, fun e => ex ?_⟩
      rw [ud_s] at e
      exact sb_anti (by rw [← e]; exact l1 i hi) hmx
  · by_cases e : q = i
    · subst e
      rw [ud_s]
      exact sb_trans (m0 _ (wr_pg hB hi z)) (x6 z).1
    · exact sb_trans (l5 q (by omega) z) (hma q)
  · by_cases e : q = i
    · subst e
      exact sb_trans (m0 _ (wr_at hB hi hj)) (x7 j hj z)
    · exact sb_trans (l6 q (by omega) j hj z) (x2 _ (wr_hd hB (wr_at hB (by omega) hj) z).2.1)
/-- a pass that changes nothing: what the class has -/
theorem lQ_end (hB : aWB sg ln sz) {A W ma0 be0 ma be : Nat → Nat} (hl : yLe sg ln sz A W) (h : lQ sg ln sz A W ma0 be0 20 false ma be) (hbe : ∀ d, d < 4 → be d = be0 d) {p : Nat} (hp : p < 20) (hz : 0 < sz p) : ma p = A (40 * p) := by
  obtain ⟨⟨r1, r2, r3, r4, r5, r6⟩, l1, l2, l3, l4, l5, l6⟩ := h
  have hc : yCl sg ln sz (yV sg ln sz ma0 be0) be0 := by
    intro pl hw
    refine ⟨?_, fun z => ?_⟩
    · rw [yV_eq ma0 be0 hw.1]
      exact yG_mono hB hw (fun p hp hz => by rw [← l3 rfl p hp]; exact l5 p hp hz) (fun _ _ => sb_refl _) (fun _ _ => sb_refl _)
    · have h1 := hw.1
      have h2 := hw.2
      have e : pl = 40 * (pl / 40) + pl % 40 := by omega
      have hh := (wr_hd hB hw z).2.1
      have := l6 (pl / 40) (by omega) (pl % 40) h2 (by rw [← e]; exact z)
      rw [← e, hbe _ hh] at this
      exact this
  have h1 := (hl _ _ hc).1 _ (wr_pg hB hp hz)
  exact sb_anti (r1 p hp hz) (sb_trans h1 (l5 p hp hz))
end MAY
