/-! MAY ASK: sets of deeds, the least closed ones. -/
def sb (a b : Nat) : Prop := a ||| b = b
theorem sb_refl (a : Nat) : sb a a := Nat.or_self a
theorem sb_0 (a : Nat) : sb 0 a := Nat.zero_or a
theorem sb_trans {a b c : Nat} (h1 : sb a b) (h2 : sb b c) : sb a c := by
  unfold sb at *
  rw [← h2, ← Nat.or_assoc, h1]
theorem sb_anti {a b : Nat} (h1 : sb a b) (h2 : sb b a) : a = b := by
  unfold sb at *
  rw [← h1, Nat.or_comm, h2]
theorem sb_l (a b : Nat) : sb a (a ||| b) := by
  unfold sb
  rw [← Nat.or_assoc, Nat.or_self]
theorem sb_r (a b : Nat) : sb b (a ||| b) := by
  unfold sb
  rw [Nat.or_comm a b, ← Nat.or_assoc, Nat.or_self]
theorem sb_or {a b c : Nat} (h1 : sb a c) (h2 : sb b c) : sb (a ||| b) c := by
  unfold sb at *
  rw [Nat.or_assoc, h2, h1]
theorem sb_or2 {a b c d : Nat} (h1 : sb a c) (h2 : sb b d) : sb (a ||| b) (c ||| d) := sb_or (sb_trans h1 (sb_l c d)) (sb_trans h2 (sb_r c d))
theorem sb_bit {a b i : Nat} (h : sb a b) (hi : a.testBit i = true) : b.testBit i = true := by
  unfold sb at h
  rw [← h, Nat.testBit_or, hi]
  rfl
theorem or_lt8 {a b : Nat} (ha : a < 8) (hb9 : b < 8) : a ||| b < 8 := Nat.or_lt_two_pow (n := 3) ha hb9
def ud (f : Nat → Nat) (k x : Nat) : Nat → Nat := fun j => if j = k then x else f j
theorem ud_s {f : Nat → Nat} {k x : Nat} : ud f k x k = x := if_pos rfl
theorem ud_n {f : Nat → Nat} {k j x : Nat} (h : j ≠ k) : ud f k x j = f j := if_neg h
theorem ud_self {f : Nat → Nat} {k x : Nat} (h : f k = x) : ud f k x = f := by
  funext j
  by_cases e : j = k
  · subst e; rw [ud_s, h]
  · rw [ud_n e]
/-- those of the own texts together -/
def bR (s : Nat → Nat) : Nat → Nat
  | 0 => 0
  | i + 1 => bR s i ||| s i
/-- past a hand -/
def pH (sz ma : Nat → Nat) (hd bits : Nat) : Nat → Nat
  | 0 => if 0 < sz (4 + 4 * hd + 3) then ma (4 + 4 * hd + 3) else 0
  | d + 1 => pH sz ma hd bits d ||| (if bits.testBit d then (if 0 < sz (4 + 4 * hd + d) then ma (4 + 4 * hd + d) else 2 ^ d) else 0)
def yG (sg : Nat → Int32) (sz ma be : Nat → Nat) (pl : Nat) (s : Nat → Nat) : Nat :=
  if (sg pl).toInt = 112 ∨ (sg pl).toInt = 113 ∨ (sg pl).toInt = 114 then bR s (aOf (sg pl).toInt).toNat ||| 2 ^ ((sg pl).toInt - 112).toNat
  else if (sg pl).toInt = 64 then pH sz ma (aHd sg pl) (bR s (aOf (sg pl).toInt).toNat) 3
  else if (sg pl).toInt = 107 then bR s (aOf (sg pl).toInt).toNat ||| be ((pl / 40 - 4) / 4)
  else bR s (aOf (sg pl).toInt).toNat
theorem bR_mono {s s' : Nat → Nat} : ∀ {n : Nat}, (∀ i, i < n → sb (s i) (s' i)) → sb (bR s n) (bR s' n)
  | 0, _ => sb_refl _
  | n + 1, h => sb_or2 (bR_mono (fun i hi => h i (by omega))) (h n (by omega))
theorem bR_lt {s : Nat → Nat} : ∀ {n : Nat}, (∀ i, i < n → s i < 8) → bR s n < 8
  | 0, _ => by show 0 < 8; omega
  | n + 1, h => or_lt8 (bR_lt (fun i hi => h i (by omega))) (h n (by omega))
theorem pH_mono {sz ma ma' : Nat → Nat} {hd bits bits' : Nat} (hh : hd < 4) (hm : ∀ p, p < 20 → 0 < sz p → sb (ma p) (ma' p)) (hb9 : sb bits bits') : ∀ {d : Nat}, d ≤ 3 → sb (pH sz ma hd bits d) (pH sz ma' hd bits' d)
  | 0, _ => by
    show sb (if _ then _ else _) (if _ then _ else _)
    split
    · rename_i z
      exact hm _ (by omega) z
    · exact sb_refl _
  | d + 1, hd3 => by
    refine sb_or2 (pH_mono hh hm hb9 (by omega)) ?_
    by_cases z : bits.testBit d = true
    · rw [if_pos z, if_pos (sb_bit hb9 z)]
      split
      · rename_i z2
        exact hm _ (by omega) z2
      · exact sb_refl _
    · rw [if_neg z]
      exact sb_0 _
theorem pH_lt {sz ma : Nat → Nat} {hd bits : Nat} (hm : ∀ p, p < 20 → ma p < 8) (hh : hd < 4) : ∀ {d : Nat}, d ≤ 3 → pH sz ma hd bits d < 8
  | 0, _ => by
    show (if _ then _ else _) < 8
    split
    · exact hm _ (by omega)
    · omega
  | d + 1, hd3 => by
    refine or_lt8 (pH_lt hm hh (by omega)) ?_
    split
    · split
      · exact hm _ (by omega)
      · have h3 : d = 0 ∨ d = 1 ∨ d = 2 := by omega
        rcases h3 with rfl | rfl | rfl <;> decide
    · omega
/-- a sign is written here -/
def wr (sz : Nat → Nat) (pl : Nat) : Prop := pl < 800 ∧ pl % 40 < sz (pl / 40)
section MAY
variable {sg : Nat → Int32} {ln sz : Nat → Nat}
theorem wr_hd (hB : aWB sg ln sz) {pl : Nat} (h : wr sz pl) (h64 : (sg pl).toInt = 64) : aV sg sz pl ∧ aHd sg pl < 4 ∧ pl + 1 < 800 ∧ 48 ≤ (sg (pl + 1)).toInt ∧ (sg (pl + 1)).toInt < 52 := by
  have hV : aV sg sz pl := Classical.byContradiction (fun z => by
    have := aDig hB pl h.1 h.2 z
    omega)
  have h9 := (hB.2 pl hV).2.2.2.2.2.2.2.2.1 h64
  refine ⟨hV, ?_, h9.2.2, h9.1, h9.2.1⟩
  unfold aHd
  omega
theorem wr_sub (hB : aWB sg ln sz) {pl : Nat} (h : wr sz pl) {i : Nat} (hi : i < (aOf (sg pl).toInt).toNat) : wr sz (pOf ln (aFs sg pl) i) := by
  have h9 := ((aPar hB h.1 h.2).2.1 i hi).1
  exact ⟨h9.1, h9.2.1⟩
theorem wr_pg (hB : aWB sg ln sz) {p : Nat} (hp : p < 20) (hz : 0 < sz p) : wr sz (40 * p) := ⟨by omega, by rw [show 40 * p % 40 = 0 from by omega, show 40 * p / 40 = p from by omega]; exact hz⟩
theorem yG_mono (hB : aWB sg ln sz) {ma ma' be be' s s' : Nat → Nat} {pl : Nat} (hw : wr sz pl) (hm : ∀ p, p < 20 → 0 < sz p → sb (ma p) (ma' p)) (hb9 : ∀ d, d < 4 → sb (be d) (be' d)) (hs9 : ∀ i, i < (aOf (sg pl).toInt).toNat → sb (s i) (s' i)) : sb (yG sg sz ma be pl s) (yG sg sz ma' be' pl s') := by
  have h1 := bR_mono hs9
  unfold yG
  split
  · exact sb_or2 h1 (sb_refl _)
  · split
    · rename_i z
      exact pH_mono (wr_hd hB hw z).2.1 hm h1 (by omega)
    · split
      · refine sb_or2 h1 (hb9 _ ?_)
        have := hw.1
        omega
      · exact h1
theorem yG_lt (hB : aWB sg ln sz) {ma be s : Nat → Nat} {pl : Nat} (hw : wr sz pl) (hm : ∀ p, p < 20 → ma p < 8) (hb9 : ∀ d, d < 4 → be d < 8) (hs9 : ∀ i, i < (aOf (sg pl).toInt).toNat → s i < 8) : yG sg sz ma be pl s < 8 := by
  have h1 := bR_lt hs9
  unfold yG
  split
  · rename_i z
    refine or_lt8 h1 ?_
    rcases z with z | z | z <;> rw [z] <;> decide
  · split
    · rename_i z
      exact pH_lt hm (wr_hd hB hw z).2.1 (by omega)
    · split
      · refine or_lt8 h1 (hb9 _ ?_)
        have := hw.1
        omega
      · exact h1
/-- closed: what holds of MAY ASK, one way -/
def yF (sg : Nat → Int32) (ln sz : Nat → Nat) (A W : Nat → Nat) (pl : Nat) : Nat := yG sg sz (fun p => A (40 * p)) W pl (fun i => A (pOf ln (aFs sg pl) i))
def yCl (sg : Nat → Int32) (ln sz : Nat → Nat) (A W : Nat → Nat) : Prop := ∀ pl, wr sz pl → sb (yF sg ln sz A W pl) (A pl) ∧ ((sg pl).toInt = 64 → sb (A pl) (W (aHd sg pl)))
def yLe (sg : Nat → Int32) (ln sz : Nat → Nat) (A W : Nat → Nat) : Prop := ∀ A' W', yCl sg ln sz A' W' → (∀ pl, wr sz pl → sb (A pl) (A' pl)) ∧ ∀ d, d < 4 → sb (W d) (W' d)
/-- what holds of the class's sets while it gathers -/
def yI (sg : Nat → Int32) (ln sz : Nat → Nat) (A W : Nat → Nat) : Prop := (∀ pl, wr sz pl → sb (A pl) (yF sg ln sz A W pl)) ∧ yLe sg ln sz A W ∧ (∀ pl, wr sz pl → (sg pl).toInt = 64 → sb (A pl) (W (aHd sg pl))) ∧ (∀ pl, A pl < 8) ∧ ∀ d, W d < 8
def yW (sg : Nat → Int32) (W : Nat → Nat) (pl x : Nat) : Nat → Nat := if (sg pl).toInt = 64 then ud W (aHd sg pl) (W (aHd sg pl) ||| x) else W
theorem yF_mono (hB : aWB sg ln sz) {A A' W W' : Nat → Nat} {pl : Nat} (hw : wr sz pl) (hA : ∀ q, wr sz q → sb (A q) (A' q)) (hW : ∀ d, d < 4 → sb (W d) (W' d)) : sb (yF sg ln sz A W pl) (yF sg ln sz A' W' pl) := yG_mono hB hw (fun p hp hz => hA _ (wr_pg hB hp hz)) hW (fun i hi => hA _ (wr_sub hB hw hi))
theorem yF_lt (hB : aWB sg ln sz) {A W : Nat → Nat} {pl : Nat} (hw : wr sz pl) (hA : ∀ q, A q < 8) (hW : ∀ d, W d < 8) : yF sg ln sz A W pl < 8 := yG_lt hB hw (fun p _ => hA _) (fun d _ => hW d) (fun i _ => hA _)
theorem yI_step (hB : aWB sg ln sz) {A W : Nat → Nat} {pl : Nat} (hw : wr sz pl) (h : yI sg ln sz A W) : yI sg ln sz (ud A pl (yF sg ln sz A W pl)) (yW sg W pl (yF sg ln sz A W pl)) := by
  obtain ⟨y1, y2, y3, y4, y5⟩ := h
  have hA : ∀ q, wr sz q → sb (A q) (ud A pl (yF sg ln sz A W pl) q) := fun q hq => by
    by_cases e : q = pl
    · subst e; rw [ud_s]; exact y1 q hq
    · rw [ud_n e]; exact sb_refl _
  have hW : ∀ d, sb (W d) (yW sg W pl (yF sg ln sz A W pl) d) := fun d => by
    unfold yW
    split
    · by_cases e : d = aHd sg pl
      · subst e; rw [ud_s]; exact sb_l _ _
      · rw [ud_n e]; exact sb_refl _
    · exact sb_refl _
  have hx := yF_lt hB hw y4 y5
  refine ⟨fun q hq => ?_, fun A' W' hc => ?_, fun q hq z => ?_, fun q => ?_, fun d => ?_⟩
  · refine sb_trans ?_ (yF_mono hB hq hA (fun d _ => hW d))
    by_cases e : q = pl
    · subst e; rw [ud_s]; exact sb_refl _
    · rw [ud_n e]; exact y1 q hq
  · obtain ⟨l1, l2⟩ := y2 A' W' hc
    have hx' : sb (yF sg ln sz A W pl) (A' pl) := sb_trans (yF_mono hB hw l1 l2) (hc pl hw).1
    refine ⟨fun q hq => ?_, fun d hd => ?_⟩
    · by_cases e : q = pl
      · subst e; rw [ud_s]; exact hx'
      · rw [ud_n e]; exact l1 q hq
    · unfold yW
      split
      · rename_i z
        by_cases e : d = aHd sg pl
        · subst e
          rw [ud_s]
          exact sb_or (l2 _ hd) (sb_trans hx' ((hc pl hw).2 z))
        · rw [ud_n e]; exact l2 d hd
      · exact l2 d hd
  · by_cases e : q = pl
    · subst e
      rw [ud_s]
      unfold yW
      rw [if_pos z, ud_s]
      exact sb_r _ _
    · rw [ud_n e]
      exact sb_trans (y3 q hq z) (hW _)
  · by_cases e : q = pl
    · subst e; rw [ud_s]; exact hx
    · rw [ud_n e]; exact y4 q
  · unfold yW
    split
    · by_cases e : d = aHd sg pl
      · subst e; rw [ud_s]; exact or_lt8 (y5 _) hx
      · rw [ud_n e]; exact y5 d
    · exact y5 d
/-- a pass of the class, from A0, W0; D: what it has gone by -/
def yJ (sg : Nat → Int32) (ln sz : Nat → Nat) (A0 W0 : Nat → Nat) (D : Nat → Prop) (b : Bool) (A W : Nat → Nat) : Prop := yI sg ln sz A W ∧ (∀ q, sb (A0 q) (A q)) ∧ (b = false → A = A0 ∧ W = W0 ∧ ∀ q, D q → A q = yF sg ln sz A W q) ∧ (b = true → ∃ q, q < 800 ∧ A0 q ≠ A q)
theorem yJ_D {A0 W0 A W : Nat → Nat} {D D' : Nat → Prop} {b : Bool} (hD : ∀ q, D' q → D q) (h : yJ sg ln sz A0 W0 D b A W) : yJ sg ln sz A0 W0 D' b A W := ⟨h.1, h.2.1, fun z => ⟨(h.2.2.1 z).1, (h.2.2.1 z).2.1, fun q hq => (h.2.2.1 z).2.2 q (hD q hq)⟩, h.2.2.2⟩
theorem yJ_step (hB : aWB sg ln sz) {A0 W0 A W : Nat → Nat} {D : Nat → Prop} {b : Bool} {pl : Nat} (hw : wr sz pl) (h : yJ sg ln sz A0 W0 D b A W) : yJ sg ln sz A0 W0 (fun q => D q ∨ q = pl) (if A pl = yF sg ln sz A W pl then b else true) (ud A pl (yF sg ln sz A W pl)) (yW sg W pl (yF sg ln sz A W pl)) := by
  obtain ⟨j1, j2, j3, j4⟩ := h
  have y1 := j1.1 pl hw
  have hA : ∀ q, sb (A0 q) (ud A pl (yF sg ln sz A W pl) q) := fun q => by
    by_cases e : q = pl
    · subst e; rw [ud_s]; exact sb_trans (j2 q) y1
    · rw [ud_n e]; exact j2 q
  refine ⟨yI_step hB hw j1, hA, fun z => ?_, fun z => ?_⟩
  · by_cases e : A pl = yF sg ln sz A W pl
    · rw [if_pos e] at z
      obtain ⟨r1, r2, r3⟩ := j3 z
      have eA : ud A pl (yF sg ln sz A W pl) = A := ud_self e
      have eW : yW sg W pl (yF sg ln sz A W pl) = W := by
        unfold yW
        split
        · rename_i z2
          refine ud_self ?_
          rw [← e, Nat.or_comm]
          exact (j1.2.2.1 pl hw z2).symm
        · rfl
      rw [eA, eW]
      refine ⟨r1, r2, fun q hq => ?_⟩
      rcases hq with hq | rfl
      · exact r3 q hq
      · exact e
    · rw [if_neg e] at z
      cases z
  · by_cases e : A pl = yF sg ln sz A W pl
    · rw [if_pos e] at z
      obtain ⟨q, q1, q2⟩ := j4 z
      refine ⟨q, q1, ?_⟩
      rw [ud_self e]
      exact q2
    · refine ⟨pl, hw.1, fun z2 => ?_⟩
      rw [ud_s] at z2
      exact e (sb_anti y1 (by rw [← z2]; exact j2 pl))
/-- a pass that adds nothing: closed -/
theorem yJ_end {A0 W0 A W : Nat → Nat} {D : Nat → Prop} (hD : ∀ q, wr sz q → D q) (h : yJ sg ln sz A0 W0 D false A W) : yCl sg ln sz A W := fun pl hw => ⟨by rw [← (h.2.2.1 rfl).2.2 pl (hD pl hw)]; exact sb_refl _, h.1.2.2.1 pl hw⟩
end MAY
/-- how many bits -/
def pc3 (a : Nat) : Nat := a % 2 + a / 2 % 2 + a / 4 % 2
theorem pc3_le (a : Nat) : pc3 a ≤ 3 := by unfold pc3; omega
theorem pc3_mono' : ∀ a b : Fin 8, a.val ||| b.val = b.val → pc3 a.val ≤ pc3 b.val ∧ (a.val ≠ b.val → pc3 a.val < pc3 b.val) := by decide
theorem pc3_mono {a b : Nat} (ha : a < 8) (hb9 : b < 8) (h : sb a b) : pc3 a ≤ pc3 b ∧ (a ≠ b → pc3 a < pc3 b) := pc3_mono' ⟨a, ha⟩ ⟨b, hb9⟩ h
def sm (f : Nat → Nat) : Nat → Nat
  | 0 => 0
  | n + 1 => sm f n + f n
theorem sm_le {f : Nat → Nat} {c : Nat} (h : ∀ i, f i ≤ c) : ∀ n, sm f n ≤ c * n
  | 0 => Nat.le_refl _
  | n + 1 => by
    have h1 := sm_le h n
    have h2 := h n
    show sm f n + f n ≤ c * (n + 1)
    rw [Nat.mul_succ]
    omega
theorem sm_mono {f g : Nat → Nat} : ∀ {n : Nat}, (∀ i, i < n → f i ≤ g i) → sm f n ≤ sm g n
  | 0, _ => Nat.le_refl _
  | n + 1, h => by
    have h1 := sm_mono (n := n) (fun i hi => h i (by omega))
    have h2 := h n (by omega)
    show sm f n + f n ≤ sm g n + g n
    omega
theorem sm_lt {f g : Nat → Nat} : ∀ {n : Nat}, (∀ i, i < n → f i ≤ g i) → (∃ i, i < n ∧ f i < g i) → sm f n < sm g n
  | 0, _, ⟨i, hi, _⟩ => absurd hi (Nat.not_lt_zero _)
  | n + 1, h, ⟨i, hi, hl⟩ => by
    have h2 := h n (by omega)
    show sm f n + f n < sm g n + g n
    by_cases e : i = n
    · subst e
      have h1 := sm_mono (n := i) (fun j hj => h j (by omega))
      omega
    · have h1 := sm_lt (n := n) (fun j hj => h j (by omega)) ⟨i, by omega, hl⟩
      omega
def pcs (n : Nat) (A : Nat → Nat) : Nat := sm (fun q => pc3 (A q)) n
theorem pcs_lt {n : Nat} {A B : Nat → Nat} (hA : ∀ q, q < n → A q < 8) (hB : ∀ q, q < n → B q < 8) (h : ∀ q, q < n → sb (A q) (B q)) (hne : ∃ q, q < n ∧ A q ≠ B q) : pcs n A < pcs n B := by
  obtain ⟨q, q1, q2⟩ := hne
  exact sm_lt (fun i hi => (pc3_mono (hA i hi) (hB i hi) (h i hi)).1) ⟨q, q1, (pc3_mono (hA q q1) (hB q q1) (h q q1)).2 q2⟩
theorem pcs_le (n : Nat) (A : Nat → Nat) : pcs n A ≤ 3 * n := sm_le (fun q => pc3_le (A q)) n
theorem pcs_mono {n : Nat} {A B : Nat → Nat} (hA : ∀ q, q < n → A q < 8) (hB : ∀ q, q < n → B q < 8) (h : ∀ q, q < n → sb (A q) (B q)) : pcs n A ≤ pcs n B := sm_mono (fun i hi => (pc3_mono (hA i hi) (hB i hi) (h i hi)).1)
