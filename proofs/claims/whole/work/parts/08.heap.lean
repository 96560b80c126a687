/-! Rows of the heap. -/
def hr (h : mH) (k : Nat) (f : Nat → Int32) : mH := fun a b => if a = k then f b else h a b
theorem hr_at (h : mH) (k : Nat) (f : Nat → Int32) : hr h k f k = f := by funext b; simp [hr]
theorem hr_ne (h : mH) {k a : Nat} (f : Nat → Int32) (hne : a ≠ k) : hr h k f a = h a := by funext b; simp [hr, hne]
theorem hr_self (h : mH) (k : Nat) : hr h k (h k) = h := by
  funext a b
  by_cases q : a = k
  · subst q; rw [hr_at]
  · rw [hr_ne _ _ q]
theorem hs_eq (h : mH) (k j : Nat) (v : Int32) : hs h k j v = hr h k (upd (h k) j v) := by
  funext a
  by_cases q : a = k
  · subst q; rw [hs_row, hr_at]
  · rw [hs_rown h j v q, hr_ne _ _ q]
theorem hr_hs (h : mH) (k j : Nat) (f : Nat → Int32) (v : Int32) : hs (hr h k f) k j v = hr h k (upd f j v) := by
  funext a
  by_cases q : a = k
  · subst q; rw [hs_row, hr_at, hr_at]
  · rw [hs_rown _ j v q, hr_ne _ _ q, hr_ne _ _ q]
theorem hr_hr (h : mH) (k : Nat) (f g : Nat → Int32) : hr (hr h k f) k g = hr h k g := by
  funext a
  by_cases q : a = k
  · subst q; rw [hr_at, hr_at]
  · rw [hr_ne _ _ q, hr_ne _ _ q, hr_ne _ _ q]
theorem hr_cm (h : mH) {k j : Nat} (f g : Nat → Int32) (hne : k ≠ j) : hr (hr h k f) j g = hr (hr h j g) k f := by
  funext a b
  simp only [hr]
  by_cases q : a = j
  · by_cases q2 : a = k
    · omega
    · simp [q, q2]; intro z; omega
  · by_cases q2 : a = k
    · simp [q2]; intro z; omega
    · simp [q, q2]
theorem sh_ne {k r ci n : Nat} {fks : List Nat} (hS : Sh0[k]? = some (.inl (ci, fks))) (hA : Sh0[r]? = some (.inr n)) : k ≠ r := by
  intro q
  subst q
  rw [hS] at hA
  cases hA
/-- zeros in the first n places -/
def zf (f : Nat → Int32) (n : Nat) : Nat → Int32 := fun j => if j < n then 0 else f j
theorem zf_0 (f : Nat → Int32) : zf f 0 = f := by funext j; simp [zf]
theorem zf_s (f : Nat → Int32) (n : Nat) : upd (zf f n) n 0 = zf f (n + 1) := by
  funext j
  by_cases q : j = n
  · subst q; rw [pk_us]; simp [zf]
  · rw [pk_un q]
    unfold zf
    by_cases q2 : j < n
    · rw [if_pos q2, if_pos (by omega)]
    · rw [if_neg q2, if_neg (by omega)]
/-- the first n places of g, then f -/
def cf (g f : Nat → Int32) (n : Nat) : Nat → Int32 := fun j => if j < n then g j else f j
theorem cf_0 (g f : Nat → Int32) : cf g f 0 = f := by funext j; simp [cf]
theorem cf_s (g f : Nat → Int32) (n : Nat) : upd (cf g f n) n (g n) = cf g f (n + 1) := by
  funext j
  by_cases q : j = n
  · subst q; rw [pk_us]; simp [cf]
  · rw [pk_un q]
    unfold cf
    by_cases q2 : j < n
    · rw [if_pos q2, if_pos (by omega)]
    · rw [if_neg q2, if_neg (by omega)]
theorem cf_in {g f : Nat → Int32} {n j : Nat} (h : j < n) : cf g f n j = g j := if_pos h
theorem cf_out {g f : Nat → Int32} {n j : Nat} (h : n ≤ j) : cf g f n j = f j := if_neg (by omega)
theorem zf_in {f : Nat → Int32} {n j : Nat} (h : j < n) : zf f n j = 0 := if_pos h
theorem zf_out {f : Nat → Int32} {n j : Nat} (h : n ≤ j) : zf f n j = f j := if_neg (by omega)
