/-! What has no fault is a whole text. -/
theorem pOf_congr {L L' : Nat → Nat} {a : Nat} (h : ∀ j, a ≤ j → L j = L' j) : ∀ i, pOf L a i = pOf L' a i ∧ a ≤ pOf L a i := by
  intro i
  induction i with
  | zero => exact ⟨rfl, Nat.le_refl _⟩
  | succ i ih =>
    refine ⟨?_, ?_⟩
    · show pOf L a i + L (pOf L a i) = pOf L' a i + L' (pOf L' a i)
      rw [← ih.1, h _ ih.2]
    · show a ≤ pOf L a i + L (pOf L a i)
      have := ih.2
      omega
theorem pOf_ge (L : Nat → Nat) (a i : Nat) : a ≤ pOf L a i := (pOf_congr (L' := L) (fun _ _ => rfl) i).2
theorem pOf_shift (L : Nat → Nat) (a : Nat) : ∀ i, pOf L (a + L a) i = pOf L a (i + 1) := by
  intro i
  induction i with
  | zero => rfl
  | succ i ih =>
    show pOf L (a + L a) i + L (pOf L (a + L a) i) = pOf L a (i + 1) + L (pOf L a (i + 1))
    rw [ih]
theorem pOf_mono (L : Nat → Nat) (a : Nat) {i j : Nat} (h : i ≤ j) : pOf L a i ≤ pOf L a j := by
  induction j with
  | zero => have : i = 0 := by omega
            subst this
            exact Nat.le_refl _
  | succ j ih =>
    by_cases e : i = j + 1
    · subst e; exact Nat.le_refl _
    · have := ih (by omega)
      show pOf L a i ≤ pOf L a j + L (pOf L a j)
      omega
theorem aFs_gt (pd : Nat → Int32) (k : Nat) : k < aFs pd k := by
  unfold aFs
  split <;> omega
/-- how many signs the text has that begins at this place of the pad -/
def tL (pd : Nat → Int32) (n : Nat) : Nat → Nat → Nat
  | 0, _ => 1
  | f + 1, k => if n ≤ k then 1 else pOf (tL pd n f) (aFs pd k) (aOf (pd k).toInt).toNat - k
theorem tL_ind (pd : Nat → Int32) (n : Nat) : ∀ (f f' k : Nat), n ≤ k + f → n ≤ k + f' → tL pd n f k = tL pd n f' k := by
  intro f
  induction f with
  | zero =>
    intro f' k h1 h2
    cases f' with
    | zero => rfl
    | succ f' => show 1 = (if n ≤ k then 1 else _); rw [if_pos (by omega)]
  | succ f ih =>
    intro f' k h1 h2
    cases f' with
    | zero => show (if n ≤ k then 1 else _) = 1; rw [if_pos (by omega)]
    | succ f' =>
      show (if n ≤ k then 1 else pOf (tL pd n f) (aFs pd k) (aOf (pd k).toInt).toNat - k) = (if n ≤ k then 1 else pOf (tL pd n f') (aFs pd k) (aOf (pd k).toInt).toNat - k)
      have := aFs_gt pd k
      rw [(pOf_congr (L := tL pd n f) (L' := tL pd n f') (fun j hj => ih f' j (by omega) (by omega)) _).1]
def lT (pd : Nat → Int32) (n k : Nat) : Nat := tL pd n n k
theorem lT_eq {pd : Nat → Int32} {n k : Nat} (hk : k < n) : k + lT pd n k = pOf (lT pd n) (aFs pd k) (aOf (pd k).toInt).toNat := by
  have h0 : lT pd n k = tL pd n (n - 1 + 1) k := tL_ind pd n _ _ k (by omega) (by omega)
  have hg := aFs_gt pd k
  have h1 : tL pd n (n - 1 + 1) k = pOf (tL pd n (n - 1)) (aFs pd k) (aOf (pd k).toInt).toNat - k := by
    show (if n ≤ k then 1 else _) = _
    rw [if_neg (by omega)]
  have h2 : pOf (tL pd n (n - 1)) (aFs pd k) (aOf (pd k).toInt).toNat = pOf (lT pd n) (aFs pd k) (aOf (pd k).toInt).toNat := (pOf_congr (fun j hj => tL_ind pd n _ _ j (by omega) (by omega)) _).1
  have h3 := pOf_ge (lT pd n) (aFs pd k) (aOf (pd k).toInt).toNat
  rw [h0, h1, h2]
  omega
/-- a text begins here -/
def tV (pd : Nat → Int32) (j : Nat) : Prop := ¬ (0 < j ∧ (pd (j - 1)).toInt = 64)
def tOk (pd : Nat → Int32) (n : Nat) (g : Int) (j : Nat) : Prop := ((pd j).toInt = 64 → j + 1 < n ∧ 48 ≤ (pd (j + 1)).toInt ∧ (pd (j + 1)).toInt < 52) ∧
  (tV pd j → 0 ≤ aOf (pd j).toInt ∧ j + lT pd n j ≤ n ∧ (∀ i, i < (aOf (pd j).toInt).toNat → pOf (lT pd n) (aFs pd j) i < n ∧ tV pd (pOf (lT pd n) (aFs pd j) i)) ∧ ((pd j).toInt = 107 → g ≠ 0))
theorem ff_lt {pd : Nat → Int32} {n : Nat} {g : Int} {f k : Nat} {st : List Nat} (h : ff pd n g f k st = -6) : k < n := by
  cases f with
  | zero => have h : ((n : Nat) : Int) = -6 := h
            omega
  | succ f =>
    unfold ff at h
    split at h
    · omega
    · omega
def tQ (pd : Nat → Int32) (n : Nat) (g : Int) (f k e : Nat) (st : List Nat) : Prop := k < e ∧ e ≤ n ∧ (pd (e - 1)).toInt ≠ 64 ∧ (popd st = [] → e = n) ∧ (popd st ≠ [] → ∃ f', f' < f ∧ ff pd n g f' e (popd st) = -6) ∧ ∀ j, k ≤ j → j < e → tOk pd n g j
theorem ff_seq {pd : Nat → Int32} {n : Nat} {g : Int} {F : Nat} (ih : ∀ f, f < F → ∀ (k : Nat) (st : List Nat), ff pd n g f k st = -6 → tV pd k → tQ pd n g f k (k + lT pd n k) st) (st : List Nat) : ∀ (m f a : Nat), f < F → ff pd n g f a ((m + 1) :: st) = -6 → tV pd a → tQ pd n g (f + 1) a (pOf (lT pd n) a (m + 1)) st ∧ ∀ i, i < m + 1 → pOf (lT pd n) a i < n ∧ tV pd (pOf (lT pd n) a i) := by
  intro m
  induction m with
  | zero =>
    intro f a hf h hV
    obtain ⟨q1, q2, q3, q4, q5, q6⟩ := ih f hf a _ h hV
    have e : popd (1 :: st) = popd st := rfl
    have h : popd ((0 + 1) :: st) = popd st := rfl
    rw [h] at q4 q5
    refine ⟨⟨q1, q2, q3, q4, fun z => ?_, q6⟩, fun i hi => ?_⟩
    · obtain ⟨f', z1, z2⟩ := q5 z
      exact ⟨f', by omega, z2⟩
    · have : i = 0 := by omega
      subst this
      exact ⟨by show a < n; omega, hV⟩
  | succ m ihm =>
    intro f a hf h hV
    obtain ⟨q1, q2, q3, q4, q5, q6⟩ := ih f hf a _ h hV
    have e : popd ((m + 1 + 1) :: st) = (m + 1) :: st := by
      show (if m + 1 + 1 = 1 then _ else _) = _
      rw [if_neg (by omega)]
      rfl
    rw [e] at q5
    obtain ⟨f1, z1, z2⟩ := q5 (by simp)
    have hV1 : tV pd (a + lT pd n a) := fun z => q3 z.2
    obtain ⟨⟨r1, r2, r3, r4, r5, r6⟩, r7⟩ := ihm f1 (a + lT pd n a) (by omega) z2 hV1
    rw [pOf_shift] at r1 r2 r3 r4 r5 r6
    refine ⟨⟨by omega, r2, r3, r4, fun z => ?_, fun j j1 j2 => ?_⟩, fun i hi => ?_⟩
    · obtain ⟨f', w1, w2⟩ := r5 z
      exact ⟨f', by omega, w2⟩
    · by_cases hj : j < a + lT pd n a
      · exact q6 j j1 hj
      · exact r6 j (by omega) j2
    · cases i with
      | zero => exact ⟨by show a < n; omega, hV⟩
      | succ i =>
        have := r7 i (by omega)
        rw [pOf_shift] at this
        exact this
set_option maxHeartbeats 1000000 in
theorem ff_ok (pd : Nat → Int32) (n : Nat) (g : Int) : ∀ (F f : Nat), f < F → ∀ (k : Nat) (st : List Nat), ff pd n g f k st = -6 → tV pd k → tQ pd n g f k (k + lT pd n k) st := by
  intro F
  induction F with
  | zero => intro f hf; exact absurd hf (Nat.not_lt_zero _)
  | succ F ih =>
    intro f hf k st h hV
    have hk := ff_lt h
    rw [lT_eq hk]
    cases f with
    | zero => have h : ((n : Nat) : Int) = -6 := h
              omega
    | succ f =>
      unfold ff at h
      rw [if_neg (by omega)] at h
      split at h
      · omega
      · rename_i hc
        have hm0 : 0 ≤ (mP (pd k).toInt g).toInt := by
          rcases Int.lt_or_le (mP (pd k).toInt g).toInt 0 with z | z
          · exact absurd (Or.inl z) hc
          · exact z
        have ho := mP_aOf hm0
        have h107 : (pd k).toInt = 107 → g ≠ 0 := by
          intro z z2
          rw [z, z2] at hm0
          exact absurd hm0 (by decide)
        have hgt := aFs_gt pd k
        split at h
        · rename_i h64
          have hfs : aFs pd k = k + 2 := by unfold aFs; rw [if_pos h64]
          split at h
          · omega
          · rename_i hh
            have hk2 := ff_lt h
            have hh2 : 48 ≤ (pd (k + 1)).toInt ∧ (pd (k + 1)).toInt ≤ 51 := by
              by_cases z : 48 ≤ (pd (k + 1)).toInt ∧ (pd (k + 1)).toInt ≤ 51
              · exact z
              · exact absurd ⟨by omega, z⟩ hh
            have ho1 : (aOf (pd k).toInt).toNat = 1 := by rw [h64]; decide
            obtain ⟨⟨q1, q2, q3, q4, q5, q6⟩, q7⟩ := ff_seq (F := F) ih st 0 f (k + 2) (by omega) h (fun z => by have := z.2; rw [show k + 2 - 1 = k + 1 from by omega] at this; omega)
            rw [hfs, ho1]
            refine ⟨by have q1 : k + 2 < pOf (lT pd n) (k + 2) 1 := q1; omega, q2, q3, q4, q5, fun j j1 j2 => ?_⟩
            by_cases ej : j = k
            · subst ej
              refine ⟨fun _ => ⟨by omega, by omega, by omega⟩, fun _ => ⟨by omega, ?_, ?_, h107⟩⟩
              · rw [lT_eq hk, hfs, ho1]; exact q2
              · intro i hi
                rw [hfs]
                exact q7 i (by omega)
            · by_cases ej2 : j = k + 1
              · subst ej2
                exact ⟨fun z => by omega, fun z => absurd ⟨Nat.succ_pos _, h64⟩ z⟩
              · exact q6 j (by omega) j2
        · rename_i h64
          have hfs : aFs pd k = k + 1 := by unfold aFs; rw [if_neg h64]
          split at h
          · rename_i hp
            obtain ⟨m, hm⟩ : ∃ m, (mP (pd k).toInt g).toInt.toNat = m + 1 := ⟨(mP (pd k).toInt g).toInt.toNat - 1, by omega⟩
            rw [hm] at h
            have ho1 : (aOf (pd k).toInt).toNat = m + 1 := by rw [ho]; exact hm
            obtain ⟨⟨q1, q2, q3, q4, q5, q6⟩, q7⟩ := ff_seq (F := F) ih st m f (k + 1) (by omega) h (fun z => h64 z.2)
            rw [hfs, ho1]
            refine ⟨by omega, q2, q3, q4, q5, fun j j1 j2 => ?_⟩
            by_cases ej : j = k
            · subst ej
              refine ⟨fun z => absurd z h64, fun _ => ⟨by omega, ?_, ?_, h107⟩⟩
              · rw [lT_eq hk, hfs, ho1]; exact q2
              · intro i hi
                rw [hfs]
                exact q7 i (by omega)
            · exact q6 j (by omega) j2
          · rename_i hp
            have ho1 : (aOf (pd k).toInt).toNat = 0 := by rw [ho]; omega
            rw [hfs, ho1]
            have hok : ∀ j, k ≤ j → j < k + 1 → tOk pd n g j := by
              intro j j1 j2
              have ej : j = k := by omega
              subst ej
              refine ⟨fun z => absurd z h64, fun _ => ⟨by omega, ?_, ?_, h107⟩⟩
              · rw [lT_eq hk, hfs, ho1]; show j + 1 ≤ n; omega
              · intro i hi
                omega
            split at h
            · rename_i hpop
              split at h
              · rename_i hn
                exact ⟨by show k < k + 1; omega, by show k + 1 ≤ n; omega, h64, fun _ => hn, fun z => absurd hpop z, hok⟩
              · omega
            · rename_i hpop
              have hk2 := ff_lt h
              exact ⟨by show k < k + 1; omega, by show k + 1 ≤ n; omega, h64, fun z => absurd z hpop, fun _ => ⟨f, by omega, h⟩, hok⟩
/-- the whole pad is one text -/
theorem ff_whole {pd : Nat → Int32} {n : Nat} {g : Int} {f : Nat} (h : ff pd n g f 0 [] = -6) : 0 < n ∧ lT pd n 0 = n ∧ ∀ j, j < n → tOk pd n g j := by
  obtain ⟨q1, q2, q3, q4, q5, q6⟩ := ff_ok pd n g (f + 1) f (by omega) 0 [] h (fun z => absurd z.1 (by decide))
  have e := q4 rfl
  refine ⟨by omega, by omega, fun j hj => q6 j (Nat.zero_le _) (by omega)⟩
theorem ff_cases (pd : Nat → Int32) (n : Nat) (g : Int) : ∀ (f k : Nat) (st : List Nat), ff pd n g f k st = -6 ∨ 0 ≤ ff pd n g f k st := by
  intro f
  induction f with
  | zero => intro k st; right; show (0 : Int) ≤ ((n : Nat) : Int); omega
  | succ f ih =>
    intro k st
    unfold ff
    repeat' split
    all_goals first | exact ih _ _ | (right; omega) | exact Or.inl rfl
