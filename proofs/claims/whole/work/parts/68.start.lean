/-! The world at the start. -/
def hSt : mH := fun k => match k with
  | 0 => noD 4 0
  | 1 => noD 4 1
  | 2 => noD 4 4
  | 3 => noD 4 8
  | 4 => noD 4 10
  | 5 => noD 4 12
  | 6 => fun j => if j = 4 then nI 3 else noD 4 14 j
  | 7 => noD 4 15
  | 8 => noD 4 18
  | 9 => noD 4 23
  | 10 => noM 4 0
  | 11 => noD 4 2
  | 12 => noD 4 3
  | 13 => noD 4 5
  | 14 => noD 4 6
  | 15 => noD 4 7
  | 16 => noD 4 9
  | 17 => noD 4 11
  | 18 => noD 4 13
  | 19 => noD 4 22
  | 20 => noD 4 16
  | 21 => noD 4 17
  | 22 => noD 4 19
  | 23 => noD 4 20
  | 24 => noD 4 21
  | 25 => noD 4 24
  | 26 => noD 4 25
  | 27 => noD 4 26
  | 28 => noM 4 1
  | 29 => noM 4 2
  | 30 => noM 4 3
  | 31 => noM 4 4
  | 32 => noM 4 5
  | 33 => noM 4 6
  | 34 => noM 4 7
  | 35 => noM 4 8
  | 36 => noM 4 9
  | 37 => noM 4 10
  | 38 => noM 4 11
  | 39 => noM 4 12
  | 40 => noM 4 13
  | 41 => noM 4 14
  | 42 => noM 4 15
  | 43 => noM 4 16
  | 44 => noM 4 17
  | 45 => noM 4 18
  | 46 => noM 4 19
  | 47 => noM 4 20
  | 48 => noM 4 21
  | 49 => noM 4 22
  | 50 => noM 4 23
  | 51 => noM 4 24
  | 52 => noM 4 25
  | _ => fun _ => 0
def adSt (q0 q1 b : Nat) (u v : Nat → Nat) : Nat → Nat := fun k => match k with
  | 0 => q0
  | 1 => u 1
  | 2 => u 4
  | 3 => u 8
  | 4 => u 10
  | 5 => u 12
  | 6 => u 14
  | 7 => u 15
  | 8 => u 18
  | 9 => u 23
  | 10 => q1
  | 11 => u 2
  | 12 => u 3
  | 13 => u 5
  | 14 => u 6
  | 15 => u 7
  | 16 => u 9
  | 17 => u 11
  | 18 => u 13
  | 19 => u 22
  | 20 => u 16
  | 21 => u 17
  | 22 => u 19
  | 23 => u 20
  | 24 => u 21
  | 25 => u 24
  | 26 => u 25
  | 27 => u 26
  | 28 => v 1
  | 29 => v 2
  | 30 => v 3
  | 31 => v 4
  | 32 => v 5
  | 33 => v 6
  | 34 => v 7
  | 35 => v 8
  | 36 => v 9
  | 37 => v 10
  | 38 => v 11
  | 39 => v 12
  | 40 => v 13
  | 41 => v 14
  | 42 => v 15
  | 43 => v 16
  | 44 => v 17
  | 45 => v 18
  | 46 => v 19
  | 47 => v 20
  | 48 => v 21
  | 49 => v 22
  | 50 => v 23
  | 51 => v 24
  | 52 => v 25
  | 1000 => b
  | _ => 0
def szSt (p : Nat) : Nat := if p < 4 then 1 else 0
theorem st_15 : ∀ p : Fin 20, hSt 15 p.val = nI (szSt p.val) := by decide
theorem st_29 : ∀ p : Fin 20, hSt 29 p.val = nI (szSt p.val) := by decide
theorem st_sg : ∀ t : Fin 4, hSt 13 (40 * t.val) = 48 ∧ hSt 30 (40 * t.val) = 48 ∧ hSt 14 (40 * t.val) = nI (40 * t.val + 1) ∧ hSt 31 (40 * t.val) = 1 := by decide
theorem no_0D (t : Nat) (j : Nat) (h : ∀ s, s < 4 → j ≠ 40 * s) : ∀ n, n ≤ 4 → noD n 5 j = 0 := by
  intro n
  induction n with
  | zero => intro _; rfl
  | succ n ih =>
    intro hn
    show nstD (noD n) n 5 j = 0
    unfold nstD
    rw [hs_ne _ _ (fun z => absurd z.1 (by decide)), hs_ne _ _ (fun z => absurd z.1 (by decide)), hs_ne _ _ (fun z => h n (by omega) z.2)]
    exact ih (by omega)
theorem no_0M (t : Nat) (j : Nat) (h : ∀ s, s < 4 → j ≠ 40 * s) : ∀ n, n ≤ 4 → noM n 3 j = 0 := by
  intro n
  induction n with
  | zero => intro _; rfl
  | succ n ih =>
    intro hn
    show nstM (noM n) n 3 j = 0
    unfold nstM
    rw [hs_ne _ _ (fun z => absurd z.1 (by decide)), hs_ne _ _ (fun z => h n (by omega) z.2), hs_ne _ _ (fun z => absurd z.1 (by decide))]
    exact ih (by omega)
theorem st_same (pl : Nat) : hSt 30 pl = hSt 13 pl := by
  by_cases z : ∃ s, s < 4 ∧ pl = 40 * s
  · obtain ⟨s, h1, rfl⟩ := z
    have q := st_sg ⟨s, h1⟩
    rw [q.1, q.2.1]
  · have h : ∀ s, s < 4 → pl ≠ 40 * s := fun s hs e => z ⟨s, hs, e⟩
    show noM 4 3 pl = noD 4 5 pl
    rw [no_0D 0 pl h 4 (by omega), no_0M 0 pl h 4 (by omega)]
theorem st_V {pl : Nat} (h : aV (hSt 13) szSt pl) : ∃ t, t < 4 ∧ pl = 40 * t := by
  obtain ⟨h1, h2, -⟩ := h
  unfold szSt at h2
  split at h2
  · exact ⟨pl / 40, by omega, by omega⟩
  · omega
theorem st_WB : aWB (hSt 13) (fun _ => 1) szSt := by
  refine ⟨fun p hp => by unfold szSt; split <;> omega, fun pl hV => ?_⟩
  obtain ⟨t, ht, rfl⟩ := st_V hV
  have e := (st_sg ⟨t, ht⟩).1
  have e : hSt 13 (40 * t) = 48 := e
  rw [e, show (48 : Int32).toInt = 48 from by decide, show aOf 48 = 0 from by decide]
  refine ⟨by omega, ?_, fun _ => rfl, fun z => absurd z (by decide), fun z => absurd z (by decide), fun z => absurd z (by decide), fun z => absurd z (by decide), fun z => absurd z (by decide), fun z => absurd z (by decide), fun z => absurd z (by decide)⟩
  have h2 := hV.2.1
  show 40 * t % 40 + 1 ≤ szSt (40 * t / 40)
  omega
/-- the two new objects -/
theorem Inv_St : Inv hSt := by
  refine ⟨0, fun _ => 0, hSt 13, fun _ => 1, szSt, [], ⟨by omega, fun i hi => absurd hi (Nat.not_lt_zero _), st_WB, fun p hp => by unfold szSt; rw [if_pos hp]; omega, by decide, fun z hz => by cases hz⟩, ⟨by decide, fun i hi => absurd hi (Nat.not_lt_zero _), ⟨fun pl _ => rfl, fun p hp => st_15 ⟨p, hp⟩, fun pl hV => ?_⟩, by decide, by decide, fun i hi => absurd hi (Nat.not_lt_zero _)⟩, by decide, fun i hi => absurd hi (Nat.not_lt_zero _), ⟨fun pl _ => st_same pl, fun p hp => st_29 ⟨p, hp⟩, fun pl hV => ?_⟩, by decide, fun i hi => absurd hi (Nat.not_lt_zero _)⟩
  · obtain ⟨t, ht, rfl⟩ := st_V hV
    exact (st_sg ⟨t, ht⟩).2.2.1
  · obtain ⟨t, ht, rfl⟩ := st_V hV
    exact (st_sg ⟨t, ht⟩).2.2.2
theorem st_l {α : Type} {a b : List α} {i : Nat} {x : α} (h : a[i]? = some x) : (a ++ b)[i]? = some x := by
  rw [List.getElem?_append_left (List.getElem?_eq_some_iff.mp h).1]
  exact h
theorem st_r {α : Type} {a b : List α} {n i : Nat} {x : α} (hn : a.length = n) (h : b[i]? = some x) : (a ++ b)[n + i]? = some x := by
  rw [List.getElem?_append_right (by omega), show n + i - a.length = i from by omega]
  exact h
theorem wX7_len (cI : ClassId) (q0 : Nat) (u : Nat → Nat) : (wX7 cI q0 u).length = 27 := by
  unfold wX7 mws
  rw [List.length_mapIdx]
  rfl
theorem e64 : (nI 3).toNatClampNeg = 3 := by decide
def sgSt : Nat → Nat := fun k => match k with
  | 0 => 0
  | 1 => 1
  | 2 => 4
  | 3 => 8
  | 4 => 10
  | 5 => 12
  | 6 => 14
  | 7 => 15
  | 8 => 18
  | 9 => 23
  | 10 => 27 + 0
  | 11 => 2
  | 12 => 3
  | 13 => 5
  | 14 => 6
  | 15 => 7
  | 16 => 9
  | 17 => 11
  | 18 => 13
  | 19 => 22
  | 20 => 16
  | 21 => 17
  | 22 => 19
  | 23 => 20
  | 24 => 21
  | 25 => 24
  | 26 => 25
  | 27 => 26
  | 28 => 27 + 1
  | 29 => 27 + 2
  | 30 => 27 + 3
  | 31 => 27 + 4
  | 32 => 27 + 5
  | 33 => 27 + 6
  | 34 => 27 + 7
  | 35 => 27 + 8
  | 36 => 27 + 9
  | 37 => 27 + 10
  | 38 => 27 + 11
  | 39 => 27 + 12
  | 40 => 27 + 13
  | 41 => 27 + 14
  | 42 => 27 + 15
  | 43 => 27 + 16
  | 44 => 27 + 17
  | 45 => 27 + 18
  | 46 => 27 + 19
  | 47 => 27 + 20
  | 48 => 27 + 21
  | 49 => 27 + 22
  | 50 => 27 + 23
  | 51 => 27 + 24
  | 52 => 27 + 25
  | k => k
theorem mt_0 (cI : ClassId) (q0 q1 b : Nat) (u v : Nat → Nat) : ment (adSt q0 q1 b u v) cI hSt 0 (.inl (7, fk_0)) = ment (fun k => if k = 0 then q0 else u k) cI (noD 4) 0 (.inl (7, fkD_0)) := by
  show (Sum.inr (7, List.mapIdx (fun j f => mv (adSt q0 q1 b u v) (mvl hSt 0 j f)) fk_0) : va_E) = Sum.inr (7, List.mapIdx (fun j f => mv (fun k => if k = 0 then q0 else u k) (mvl (noD 4) 0 j f)) fkD_0)
  refine congrArg (fun z => (Sum.inr (7, z) : va_E)) ?_
  apply List.ext_getElem?
  intro j
  rw [List.getElem?_mapIdx, List.getElem?_mapIdx]
  match j with
  | 0 => rfl
  | 1 => rfl
  | 2 => rfl
  | 3 => rfl
  | 4 => rfl
  | 5 => rfl
  | 6 => rfl
  | j + 7 => rfl
theorem cv_0 (cI : ClassId) (q0 q1 b : Nat) (u v : Nat → Nat) : (wX7 cI q0 u ++ wX8 cI q1 v)[sgSt 0]? = some (adSt q0 q1 b u v 0, ment (adSt q0 q1 b u v) cI hSt 0 (.inl (7, fk_0))) := by
  rw [mt_0]
  exact st_l (mws_at ShD (fun k => if k = 0 then q0 else u k) cI (noD 4) 0 shD_0)
theorem mt_1 (cI : ClassId) (q0 q1 b : Nat) (u v : Nat → Nat) : ment (adSt q0 q1 b u v) cI hSt 1 (.inl (2, fk_1)) = ment (fun k => if k = 0 then q0 else u k) cI (noD 4) 1 (.inl (2, fkD_1)) := by
  show (Sum.inr (2, List.mapIdx (fun j f => mv (adSt q0 q1 b u v) (mvl hSt 1 j f)) fk_1) : va_E) = Sum.inr (2, List.mapIdx (fun j f => mv (fun k => if k = 0 then q0 else u k) (mvl (noD 4) 1 j f)) fkD_1)
  refine congrArg (fun z => (Sum.inr (2, z) : va_E)) ?_
  apply List.ext_getElem?
  intro j
  rw [List.getElem?_mapIdx, List.getElem?_mapIdx]
  match j with
  | 0 => rfl
  | 1 => rfl
  | 2 => rfl
  | j + 3 => rfl
theorem cv_1 (cI : ClassId) (q0 q1 b : Nat) (u v : Nat → Nat) : (wX7 cI q0 u ++ wX8 cI q1 v)[sgSt 1]? = some (adSt q0 q1 b u v 1, ment (adSt q0 q1 b u v) cI hSt 1 (.inl (2, fk_1))) := by
  rw [mt_1]
  exact st_l (mws_at ShD (fun k => if k = 0 then q0 else u k) cI (noD 4) 1 shD_1)
theorem mt_2 (cI : ClassId) (q0 q1 b : Nat) (u v : Nat → Nat) : ment (adSt q0 q1 b u v) cI hSt 2 (.inl (0, fk_2)) = ment (fun k => if k = 0 then q0 else u k) cI (noD 4) 4 (.inl (0, fkD_4)) := by
  show (Sum.inr (0, List.mapIdx (fun j f => mv (adSt q0 q1 b u v) (mvl hSt 2 j f)) fk_2) : va_E) = Sum.inr (0, List.mapIdx (fun j f => mv (fun k => if k = 0 then q0 else u k) (mvl (noD 4) 4 j f)) fkD_4)
  refine congrArg (fun z => (Sum.inr (0, z) : va_E)) ?_
  apply List.ext_getElem?
  intro j
  rw [List.getElem?_mapIdx, List.getElem?_mapIdx]
  match j with
  | 0 => rfl
  | 1 => rfl
  | 2 => rfl
  | j + 3 => rfl
theorem cv_2 (cI : ClassId) (q0 q1 b : Nat) (u v : Nat → Nat) : (wX7 cI q0 u ++ wX8 cI q1 v)[sgSt 2]? = some (adSt q0 q1 b u v 2, ment (adSt q0 q1 b u v) cI hSt 2 (.inl (0, fk_2))) := by
  rw [mt_2]
  exact st_l (mws_at ShD (fun k => if k = 0 then q0 else u k) cI (noD 4) 4 shD_4)
theorem mt_3 (cI : ClassId) (q0 q1 b : Nat) (u v : Nat → Nat) : ment (adSt q0 q1 b u v) cI hSt 3 (.inl (3, fk_3)) = ment (fun k => if k = 0 then q0 else u k) cI (noD 4) 8 (.inl (3, fkD_8)) := by
  show (Sum.inr (3, List.mapIdx (fun j f => mv (adSt q0 q1 b u v) (mvl hSt 3 j f)) fk_3) : va_E) = Sum.inr (3, List.mapIdx (fun j f => mv (fun k => if k = 0 then q0 else u k) (mvl (noD 4) 8 j f)) fkD_8)
  refine congrArg (fun z => (Sum.inr (3, z) : va_E)) ?_
  apply List.ext_getElem?
  intro j
  rw [List.getElem?_mapIdx, List.getElem?_mapIdx]
  match j with
  | 0 => rfl
  | 1 => rfl
  | j + 2 => rfl
theorem cv_3 (cI : ClassId) (q0 q1 b : Nat) (u v : Nat → Nat) : (wX7 cI q0 u ++ wX8 cI q1 v)[sgSt 3]? = some (adSt q0 q1 b u v 3, ment (adSt q0 q1 b u v) cI hSt 3 (.inl (3, fk_3))) := by
  rw [mt_3]
  exact st_l (mws_at ShD (fun k => if k = 0 then q0 else u k) cI (noD 4) 8 shD_8)
theorem mt_4 (cI : ClassId) (q0 q1 b : Nat) (u v : Nat → Nat) : ment (adSt q0 q1 b u v) cI hSt 4 (.inl (3, fk_4)) = ment (fun k => if k = 0 then q0 else u k) cI (noD 4) 10 (.inl (3, fkD_10)) := by
  show (Sum.inr (3, List.mapIdx (fun j f => mv (adSt q0 q1 b u v) (mvl hSt 4 j f)) fk_4) : va_E) = Sum.inr (3, List.mapIdx (fun j f => mv (fun k => if k = 0 then q0 else u k) (mvl (noD 4) 10 j f)) fkD_10)
  refine congrArg (fun z => (Sum.inr (3, z) : va_E)) ?_
  apply List.ext_getElem?
  intro j
  rw [List.getElem?_mapIdx, List.getElem?_mapIdx]
  match j with
  | 0 => rfl
  | 1 => rfl
  | j + 2 => rfl
theorem cv_4 (cI : ClassId) (q0 q1 b : Nat) (u v : Nat → Nat) : (wX7 cI q0 u ++ wX8 cI q1 v)[sgSt 4]? = some (adSt q0 q1 b u v 4, ment (adSt q0 q1 b u v) cI hSt 4 (.inl (3, fk_4))) := by
  rw [mt_4]
  exact st_l (mws_at ShD (fun k => if k = 0 then q0 else u k) cI (noD 4) 10 shD_10)
theorem mt_5 (cI : ClassId) (q0 q1 b : Nat) (u v : Nat → Nat) : ment (adSt q0 q1 b u v) cI hSt 5 (.inl (3, fk_5)) = ment (fun k => if k = 0 then q0 else u k) cI (noD 4) 12 (.inl (3, fkD_12)) := by
  show (Sum.inr (3, List.mapIdx (fun j f => mv (adSt q0 q1 b u v) (mvl hSt 5 j f)) fk_5) : va_E) = Sum.inr (3, List.mapIdx (fun j f => mv (fun k => if k = 0 then q0 else u k) (mvl (noD 4) 12 j f)) fkD_12)
  refine congrArg (fun z => (Sum.inr (3, z) : va_E)) ?_
  apply List.ext_getElem?
  intro j
  rw [List.getElem?_mapIdx, List.getElem?_mapIdx]
  match j with
  | 0 => rfl
  | 1 => rfl
  | j + 2 => rfl
theorem cv_5 (cI : ClassId) (q0 q1 b : Nat) (u v : Nat → Nat) : (wX7 cI q0 u ++ wX8 cI q1 v)[sgSt 5]? = some (adSt q0 q1 b u v 5, ment (adSt q0 q1 b u v) cI hSt 5 (.inl (3, fk_5))) := by
  rw [mt_5]
  exact st_l (mws_at ShD (fun k => if k = 0 then q0 else u k) cI (noD 4) 12 shD_12)
theorem mt_6 (cI : ClassId) (q0 q1 b : Nat) (u v : Nat → Nat) : ment (adSt q0 q1 b u v) cI hSt 6 (.inl (4, fk_6)) = ment (fun k => if k = 0 then q0 else u k) cI (noD 4) 14 (.inl (4, fkD_14)) := by
  show (Sum.inr (4, List.mapIdx (fun j f => mv (adSt q0 q1 b u v) (mvl hSt 6 j f)) fk_6) : va_E) = Sum.inr (4, List.mapIdx (fun j f => mv (fun k => if k = 0 then q0 else u k) (mvl (noD 4) 14 j f)) fkD_14)
  refine congrArg (fun z => (Sum.inr (4, z) : va_E)) ?_
  apply List.ext_getElem?
  intro j
  rw [List.getElem?_mapIdx, List.getElem?_mapIdx]
  match j with
  | 0 => rfl
  | 1 => rfl
  | 2 => rfl
  | 3 => rfl
  | 4 =>
    show some (Value.ref (adSt q0 q1 b u v (nI 3).toNatClampNeg)) = _
    rw [e64]
    rfl
  | 5 => rfl
  | 6 => rfl
  | 7 => rfl
  | 8 => rfl
  | 9 => rfl
  | 10 => rfl
  | 11 => rfl
  | 12 => rfl
  | 13 => rfl
  | 14 => rfl
  | 15 => rfl
  | j + 16 => rfl
theorem cv_6 (cI : ClassId) (q0 q1 b : Nat) (u v : Nat → Nat) : (wX7 cI q0 u ++ wX8 cI q1 v)[sgSt 6]? = some (adSt q0 q1 b u v 6, ment (adSt q0 q1 b u v) cI hSt 6 (.inl (4, fk_6))) := by
  rw [mt_6]
  exact st_l (mws_at ShD (fun k => if k = 0 then q0 else u k) cI (noD 4) 14 shD_14)
theorem mt_7 (cI : ClassId) (q0 q1 b : Nat) (u v : Nat → Nat) : ment (adSt q0 q1 b u v) cI hSt 7 (.inl (5, fk_7)) = ment (fun k => if k = 0 then q0 else u k) cI (noD 4) 15 (.inl (5, fkD_15)) := by
  show (Sum.inr (5, List.mapIdx (fun j f => mv (adSt q0 q1 b u v) (mvl hSt 7 j f)) fk_7) : va_E) = Sum.inr (5, List.mapIdx (fun j f => mv (fun k => if k = 0 then q0 else u k) (mvl (noD 4) 15 j f)) fkD_15)
  refine congrArg (fun z => (Sum.inr (5, z) : va_E)) ?_
  apply List.ext_getElem?
  intro j
  rw [List.getElem?_mapIdx, List.getElem?_mapIdx]
  match j with
  | 0 => rfl
  | 1 => rfl
  | 2 => rfl
  | 3 => rfl
  | j + 4 => rfl
theorem cv_7 (cI : ClassId) (q0 q1 b : Nat) (u v : Nat → Nat) : (wX7 cI q0 u ++ wX8 cI q1 v)[sgSt 7]? = some (adSt q0 q1 b u v 7, ment (adSt q0 q1 b u v) cI hSt 7 (.inl (5, fk_7))) := by
  rw [mt_7]
  exact st_l (mws_at ShD (fun k => if k = 0 then q0 else u k) cI (noD 4) 15 shD_15)
theorem mt_8 (cI : ClassId) (q0 q1 b : Nat) (u v : Nat → Nat) : ment (adSt q0 q1 b u v) cI hSt 8 (.inl (1, fk_8)) = ment (fun k => if k = 0 then q0 else u k) cI (noD 4) 18 (.inl (1, fkD_18)) := by
  show (Sum.inr (1, List.mapIdx (fun j f => mv (adSt q0 q1 b u v) (mvl hSt 8 j f)) fk_8) : va_E) = Sum.inr (1, List.mapIdx (fun j f => mv (fun k => if k = 0 then q0 else u k) (mvl (noD 4) 18 j f)) fkD_18)
  refine congrArg (fun z => (Sum.inr (1, z) : va_E)) ?_
  apply List.ext_getElem?
  intro j
  rw [List.getElem?_mapIdx, List.getElem?_mapIdx]
  match j with
  | 0 => rfl
  | 1 => rfl
  | 2 => rfl
  | 3 => rfl
  | j + 4 => rfl
theorem cv_8 (cI : ClassId) (q0 q1 b : Nat) (u v : Nat → Nat) : (wX7 cI q0 u ++ wX8 cI q1 v)[sgSt 8]? = some (adSt q0 q1 b u v 8, ment (adSt q0 q1 b u v) cI hSt 8 (.inl (1, fk_8))) := by
  rw [mt_8]
  exact st_l (mws_at ShD (fun k => if k = 0 then q0 else u k) cI (noD 4) 18 shD_18)
theorem mt_9 (cI : ClassId) (q0 q1 b : Nat) (u v : Nat → Nat) : ment (adSt q0 q1 b u v) cI hSt 9 (.inl (6, fk_9)) = ment (fun k => if k = 0 then q0 else u k) cI (noD 4) 23 (.inl (6, fkD_23)) := by
  show (Sum.inr (6, List.mapIdx (fun j f => mv (adSt q0 q1 b u v) (mvl hSt 9 j f)) fk_9) : va_E) = Sum.inr (6, List.mapIdx (fun j f => mv (fun k => if k = 0 then q0 else u k) (mvl (noD 4) 23 j f)) fkD_23)
  refine congrArg (fun z => (Sum.inr (6, z) : va_E)) ?_
  apply List.ext_getElem?
  intro j
  rw [List.getElem?_mapIdx, List.getElem?_mapIdx]
  match j with
  | 0 => rfl
  | 1 => rfl
  | 2 => rfl
  | 3 => rfl
  | j + 4 => rfl
theorem cv_9 (cI : ClassId) (q0 q1 b : Nat) (u v : Nat → Nat) : (wX7 cI q0 u ++ wX8 cI q1 v)[sgSt 9]? = some (adSt q0 q1 b u v 9, ment (adSt q0 q1 b u v) cI hSt 9 (.inl (6, fk_9))) := by
  rw [mt_9]
  exact st_l (mws_at ShD (fun k => if k = 0 then q0 else u k) cI (noD 4) 23 shD_23)
theorem mt_10 (cI : ClassId) (q0 q1 b : Nat) (u v : Nat → Nat) : ment (adSt q0 q1 b u v) cI hSt 10 (.inl (8, fk_10)) = ment (fun k => if k = 0 then q1 else v k) cI (noM 4) 0 (.inl (8, fkM_0)) := by
  show (Sum.inr (8, List.mapIdx (fun j f => mv (adSt q0 q1 b u v) (mvl hSt 10 j f)) fk_10) : va_E) = Sum.inr (8, List.mapIdx (fun j f => mv (fun k => if k = 0 then q1 else v k) (mvl (noM 4) 0 j f)) fkM_0)
  refine congrArg (fun z => (Sum.inr (8, z) : va_E)) ?_
  apply List.ext_getElem?
  intro j
  rw [List.getElem?_mapIdx, List.getElem?_mapIdx]
  match j with
  | 0 => rfl
  | 1 => rfl
  | 2 => rfl
  | 3 => rfl
  | 4 => rfl
  | 5 => rfl
  | 6 => rfl
  | 7 => rfl
  | 8 => rfl
  | 9 => rfl
  | 10 => rfl
  | 11 => rfl
  | 12 => rfl
  | 13 => rfl
  | 14 => rfl
  | 15 => rfl
  | 16 => rfl
  | 17 => rfl
  | 18 => rfl
  | 19 => rfl
  | 20 => rfl
  | 21 => rfl
  | 22 => rfl
  | 23 => rfl
  | 24 => rfl
  | 25 => rfl
  | 26 => rfl
  | 27 => rfl
  | 28 => rfl
  | 29 => rfl
  | 30 => rfl
  | 31 => rfl
  | 32 => rfl
  | 33 => rfl
  | 34 => rfl
  | 35 => rfl
  | 36 => rfl
  | 37 => rfl
  | 38 => rfl
  | 39 => rfl
  | 40 => rfl
  | 41 => rfl
  | 42 => rfl
  | 43 => rfl
  | j + 44 => rfl
theorem cv_10 (cI : ClassId) (q0 q1 b : Nat) (u v : Nat → Nat) : (wX7 cI q0 u ++ wX8 cI q1 v)[sgSt 10]? = some (adSt q0 q1 b u v 10, ment (adSt q0 q1 b u v) cI hSt 10 (.inl (8, fk_10))) := by
  rw [mt_10]
  exact st_r (wX7_len cI q0 u) (mws_at ShM (fun k => if k = 0 then q1 else v k) cI (noM 4) 0 shM_0)
theorem cv_11 (cI : ClassId) (q0 q1 b : Nat) (u v : Nat → Nat) : (wX7 cI q0 u ++ wX8 cI q1 v)[sgSt 11]? = some (adSt q0 q1 b u v 11, ment (adSt q0 q1 b u v) cI hSt 11 (.inr 40)) := st_l (mws_at ShD (fun k => if k = 0 then q0 else u k) cI (noD 4) 2 shD_2)
theorem cv_12 (cI : ClassId) (q0 q1 b : Nat) (u v : Nat → Nat) : (wX7 cI q0 u ++ wX8 cI q1 v)[sgSt 12]? = some (adSt q0 q1 b u v 12, ment (adSt q0 q1 b u v) cI hSt 12 (.inr 10)) := st_l (mws_at ShD (fun k => if k = 0 then q0 else u k) cI (noD 4) 3 shD_3)
theorem cv_13 (cI : ClassId) (q0 q1 b : Nat) (u v : Nat → Nat) : (wX7 cI q0 u ++ wX8 cI q1 v)[sgSt 13]? = some (adSt q0 q1 b u v 13, ment (adSt q0 q1 b u v) cI hSt 13 (.inr 800)) := st_l (mws_at ShD (fun k => if k = 0 then q0 else u k) cI (noD 4) 5 shD_5)
theorem cv_14 (cI : ClassId) (q0 q1 b : Nat) (u v : Nat → Nat) : (wX7 cI q0 u ++ wX8 cI q1 v)[sgSt 14]? = some (adSt q0 q1 b u v 14, ment (adSt q0 q1 b u v) cI hSt 14 (.inr 800)) := st_l (mws_at ShD (fun k => if k = 0 then q0 else u k) cI (noD 4) 6 shD_6)
theorem cv_15 (cI : ClassId) (q0 q1 b : Nat) (u v : Nat → Nat) : (wX7 cI q0 u ++ wX8 cI q1 v)[sgSt 15]? = some (adSt q0 q1 b u v 15, ment (adSt q0 q1 b u v) cI hSt 15 (.inr 20)) := st_l (mws_at ShD (fun k => if k = 0 then q0 else u k) cI (noD 4) 7 shD_7)
theorem cv_16 (cI : ClassId) (q0 q1 b : Nat) (u v : Nat → Nat) : (wX7 cI q0 u ++ wX8 cI q1 v)[sgSt 16]? = some (adSt q0 q1 b u v 16, ment (adSt q0 q1 b u v) cI hSt 16 (.inr 8)) := st_l (mws_at ShD (fun k => if k = 0 then q0 else u k) cI (noD 4) 9 shD_9)
theorem cv_17 (cI : ClassId) (q0 q1 b : Nat) (u v : Nat → Nat) : (wX7 cI q0 u ++ wX8 cI q1 v)[sgSt 17]? = some (adSt q0 q1 b u v 17, ment (adSt q0 q1 b u v) cI hSt 17 (.inr 8)) := st_l (mws_at ShD (fun k => if k = 0 then q0 else u k) cI (noD 4) 11 shD_11)
theorem cv_18 (cI : ClassId) (q0 q1 b : Nat) (u v : Nat → Nat) : (wX7 cI q0 u ++ wX8 cI q1 v)[sgSt 18]? = some (adSt q0 q1 b u v 18, ment (adSt q0 q1 b u v) cI hSt 18 (.inr 8)) := st_l (mws_at ShD (fun k => if k = 0 then q0 else u k) cI (noD 4) 13 shD_13)
theorem cv_19 (cI : ClassId) (q0 q1 b : Nat) (u v : Nat → Nat) : (wX7 cI q0 u ++ wX8 cI q1 v)[sgSt 19]? = some (adSt q0 q1 b u v 19, ment (adSt q0 q1 b u v) cI hSt 19 (.inr 200)) := st_l (mws_at ShD (fun k => if k = 0 then q0 else u k) cI (noD 4) 22 shD_22)
theorem cv_20 (cI : ClassId) (q0 q1 b : Nat) (u v : Nat → Nat) : (wX7 cI q0 u ++ wX8 cI q1 v)[sgSt 20]? = some (adSt q0 q1 b u v 20, ment (adSt q0 q1 b u v) cI hSt 20 (.inr 8200)) := st_l (mws_at ShD (fun k => if k = 0 then q0 else u k) cI (noD 4) 16 shD_16)
theorem cv_21 (cI : ClassId) (q0 q1 b : Nat) (u v : Nat → Nat) : (wX7 cI q0 u ++ wX8 cI q1 v)[sgSt 21]? = some (adSt q0 q1 b u v 21, ment (adSt q0 q1 b u v) cI hSt 21 (.inr 8200)) := st_l (mws_at ShD (fun k => if k = 0 then q0 else u k) cI (noD 4) 17 shD_17)
theorem cv_22 (cI : ClassId) (q0 q1 b : Nat) (u v : Nat → Nat) : (wX7 cI q0 u ++ wX8 cI q1 v)[sgSt 22]? = some (adSt q0 q1 b u v 22, ment (adSt q0 q1 b u v) cI hSt 22 (.inr 201)) := st_l (mws_at ShD (fun k => if k = 0 then q0 else u k) cI (noD 4) 19 shD_19)
theorem cv_23 (cI : ClassId) (q0 q1 b : Nat) (u v : Nat → Nat) : (wX7 cI q0 u ++ wX8 cI q1 v)[sgSt 23]? = some (adSt q0 q1 b u v 23, ment (adSt q0 q1 b u v) cI hSt 23 (.inr 201)) := st_l (mws_at ShD (fun k => if k = 0 then q0 else u k) cI (noD 4) 20 shD_20)
theorem cv_24 (cI : ClassId) (q0 q1 b : Nat) (u v : Nat → Nat) : (wX7 cI q0 u ++ wX8 cI q1 v)[sgSt 24]? = some (adSt q0 q1 b u v 24, ment (adSt q0 q1 b u v) cI hSt 24 (.inr 201)) := st_l (mws_at ShD (fun k => if k = 0 then q0 else u k) cI (noD 4) 21 shD_21)
theorem cv_25 (cI : ClassId) (q0 q1 b : Nat) (u v : Nat → Nat) : (wX7 cI q0 u ++ wX8 cI q1 v)[sgSt 25]? = some (adSt q0 q1 b u v 25, ment (adSt q0 q1 b u v) cI hSt 25 (.inr 800)) := st_l (mws_at ShD (fun k => if k = 0 then q0 else u k) cI (noD 4) 24 shD_24)
theorem cv_26 (cI : ClassId) (q0 q1 b : Nat) (u v : Nat → Nat) : (wX7 cI q0 u ++ wX8 cI q1 v)[sgSt 26]? = some (adSt q0 q1 b u v 26, ment (adSt q0 q1 b u v) cI hSt 26 (.inr 800)) := st_l (mws_at ShD (fun k => if k = 0 then q0 else u k) cI (noD 4) 25 shD_25)
theorem cv_27 (cI : ClassId) (q0 q1 b : Nat) (u v : Nat → Nat) : (wX7 cI q0 u ++ wX8 cI q1 v)[sgSt 27]? = some (adSt q0 q1 b u v 27, ment (adSt q0 q1 b u v) cI hSt 27 (.inr 4)) := st_l (mws_at ShD (fun k => if k = 0 then q0 else u k) cI (noD 4) 26 shD_26)
theorem cv_28 (cI : ClassId) (q0 q1 b : Nat) (u v : Nat → Nat) : (wX7 cI q0 u ++ wX8 cI q1 v)[sgSt 28]? = some (adSt q0 q1 b u v 28, ment (adSt q0 q1 b u v) cI hSt 28 (.inr 40)) := st_r (wX7_len cI q0 u) (mws_at ShM (fun k => if k = 0 then q1 else v k) cI (noM 4) 1 shM_1)
theorem cv_29 (cI : ClassId) (q0 q1 b : Nat) (u v : Nat → Nat) : (wX7 cI q0 u ++ wX8 cI q1 v)[sgSt 29]? = some (adSt q0 q1 b u v 29, ment (adSt q0 q1 b u v) cI hSt 29 (.inr 20)) := st_r (wX7_len cI q0 u) (mws_at ShM (fun k => if k = 0 then q1 else v k) cI (noM 4) 2 shM_2)
theorem cv_30 (cI : ClassId) (q0 q1 b : Nat) (u v : Nat → Nat) : (wX7 cI q0 u ++ wX8 cI q1 v)[sgSt 30]? = some (adSt q0 q1 b u v 30, ment (adSt q0 q1 b u v) cI hSt 30 (.inr 800)) := st_r (wX7_len cI q0 u) (mws_at ShM (fun k => if k = 0 then q1 else v k) cI (noM 4) 3 shM_3)
theorem cv_31 (cI : ClassId) (q0 q1 b : Nat) (u v : Nat → Nat) : (wX7 cI q0 u ++ wX8 cI q1 v)[sgSt 31]? = some (adSt q0 q1 b u v 31, ment (adSt q0 q1 b u v) cI hSt 31 (.inr 800)) := st_r (wX7_len cI q0 u) (mws_at ShM (fun k => if k = 0 then q1 else v k) cI (noM 4) 4 shM_4)
theorem cv_32 (cI : ClassId) (q0 q1 b : Nat) (u v : Nat → Nat) : (wX7 cI q0 u ++ wX8 cI q1 v)[sgSt 32]? = some (adSt q0 q1 b u v 32, ment (adSt q0 q1 b u v) cI hSt 32 (.inr 8)) := st_r (wX7_len cI q0 u) (mws_at ShM (fun k => if k = 0 then q1 else v k) cI (noM 4) 5 shM_5)
theorem cv_33 (cI : ClassId) (q0 q1 b : Nat) (u v : Nat → Nat) : (wX7 cI q0 u ++ wX8 cI q1 v)[sgSt 33]? = some (adSt q0 q1 b u v 33, ment (adSt q0 q1 b u v) cI hSt 33 (.inr 41)) := st_r (wX7_len cI q0 u) (mws_at ShM (fun k => if k = 0 then q1 else v k) cI (noM 4) 6 shM_6)
theorem cv_34 (cI : ClassId) (q0 q1 b : Nat) (u v : Nat → Nat) : (wX7 cI q0 u ++ wX8 cI q1 v)[sgSt 34]? = some (adSt q0 q1 b u v 34, ment (adSt q0 q1 b u v) cI hSt 34 (.inr 512)) := st_r (wX7_len cI q0 u) (mws_at ShM (fun k => if k = 0 then q1 else v k) cI (noM 4) 7 shM_7)
theorem cv_35 (cI : ClassId) (q0 q1 b : Nat) (u v : Nat → Nat) : (wX7 cI q0 u ++ wX8 cI q1 v)[sgSt 35]? = some (adSt q0 q1 b u v 35, ment (adSt q0 q1 b u v) cI hSt 35 (.inr 512)) := st_r (wX7_len cI q0 u) (mws_at ShM (fun k => if k = 0 then q1 else v k) cI (noM 4) 8 shM_8)
theorem cv_36 (cI : ClassId) (q0 q1 b : Nat) (u v : Nat → Nat) : (wX7 cI q0 u ++ wX8 cI q1 v)[sgSt 36]? = some (adSt q0 q1 b u v 36, ment (adSt q0 q1 b u v) cI hSt 36 (.inr 512)) := st_r (wX7_len cI q0 u) (mws_at ShM (fun k => if k = 0 then q1 else v k) cI (noM 4) 9 shM_9)
theorem cv_37 (cI : ClassId) (q0 q1 b : Nat) (u v : Nat → Nat) : (wX7 cI q0 u ++ wX8 cI q1 v)[sgSt 37]? = some (adSt q0 q1 b u v 37, ment (adSt q0 q1 b u v) cI hSt 37 (.inr 512)) := st_r (wX7_len cI q0 u) (mws_at ShM (fun k => if k = 0 then q1 else v k) cI (noM 4) 10 shM_10)
theorem cv_38 (cI : ClassId) (q0 q1 b : Nat) (u v : Nat → Nat) : (wX7 cI q0 u ++ wX8 cI q1 v)[sgSt 38]? = some (adSt q0 q1 b u v 38, ment (adSt q0 q1 b u v) cI hSt 38 (.inr 512)) := st_r (wX7_len cI q0 u) (mws_at ShM (fun k => if k = 0 then q1 else v k) cI (noM 4) 11 shM_11)
theorem cv_39 (cI : ClassId) (q0 q1 b : Nat) (u v : Nat → Nat) : (wX7 cI q0 u ++ wX8 cI q1 v)[sgSt 39]? = some (adSt q0 q1 b u v 39, ment (adSt q0 q1 b u v) cI hSt 39 (.inr 512)) := st_r (wX7_len cI q0 u) (mws_at ShM (fun k => if k = 0 then q1 else v k) cI (noM 4) 12 shM_12)
theorem cv_40 (cI : ClassId) (q0 q1 b : Nat) (u v : Nat → Nat) : (wX7 cI q0 u ++ wX8 cI q1 v)[sgSt 40]? = some (adSt q0 q1 b u v 40, ment (adSt q0 q1 b u v) cI hSt 40 (.inr 12000)) := st_r (wX7_len cI q0 u) (mws_at ShM (fun k => if k = 0 then q1 else v k) cI (noM 4) 13 shM_13)
theorem cv_41 (cI : ClassId) (q0 q1 b : Nat) (u v : Nat → Nat) : (wX7 cI q0 u ++ wX8 cI q1 v)[sgSt 41]? = some (adSt q0 q1 b u v 41, ment (adSt q0 q1 b u v) cI hSt 41 (.inr 12000)) := st_r (wX7_len cI q0 u) (mws_at ShM (fun k => if k = 0 then q1 else v k) cI (noM 4) 14 shM_14)
theorem cv_42 (cI : ClassId) (q0 q1 b : Nat) (u v : Nat → Nat) : (wX7 cI q0 u ++ wX8 cI q1 v)[sgSt 42]? = some (adSt q0 q1 b u v 42, ment (adSt q0 q1 b u v) cI hSt 42 (.inr 12000)) := st_r (wX7_len cI q0 u) (mws_at ShM (fun k => if k = 0 then q1 else v k) cI (noM 4) 15 shM_15)
theorem cv_43 (cI : ClassId) (q0 q1 b : Nat) (u v : Nat → Nat) : (wX7 cI q0 u ++ wX8 cI q1 v)[sgSt 43]? = some (adSt q0 q1 b u v 43, ment (adSt q0 q1 b u v) cI hSt 43 (.inr 256)) := st_r (wX7_len cI q0 u) (mws_at ShM (fun k => if k = 0 then q1 else v k) cI (noM 4) 16 shM_16)
theorem cv_44 (cI : ClassId) (q0 q1 b : Nat) (u v : Nat → Nat) : (wX7 cI q0 u ++ wX8 cI q1 v)[sgSt 44]? = some (adSt q0 q1 b u v 44, ment (adSt q0 q1 b u v) cI hSt 44 (.inr 256)) := st_r (wX7_len cI q0 u) (mws_at ShM (fun k => if k = 0 then q1 else v k) cI (noM 4) 17 shM_17)
theorem cv_45 (cI : ClassId) (q0 q1 b : Nat) (u v : Nat → Nat) : (wX7 cI q0 u ++ wX8 cI q1 v)[sgSt 45]? = some (adSt q0 q1 b u v 45, ment (adSt q0 q1 b u v) cI hSt 45 (.inr 256)) := st_r (wX7_len cI q0 u) (mws_at ShM (fun k => if k = 0 then q1 else v k) cI (noM 4) 18 shM_18)
theorem cv_46 (cI : ClassId) (q0 q1 b : Nat) (u v : Nat → Nat) : (wX7 cI q0 u ++ wX8 cI q1 v)[sgSt 46]? = some (adSt q0 q1 b u v 46, ment (adSt q0 q1 b u v) cI hSt 46 (.inr 256)) := st_r (wX7_len cI q0 u) (mws_at ShM (fun k => if k = 0 then q1 else v k) cI (noM 4) 19 shM_19)
theorem cv_47 (cI : ClassId) (q0 q1 b : Nat) (u v : Nat → Nat) : (wX7 cI q0 u ++ wX8 cI q1 v)[sgSt 47]? = some (adSt q0 q1 b u v 47, ment (adSt q0 q1 b u v) cI hSt 47 (.inr 8)) := st_r (wX7_len cI q0 u) (mws_at ShM (fun k => if k = 0 then q1 else v k) cI (noM 4) 20 shM_20)
theorem cv_48 (cI : ClassId) (q0 q1 b : Nat) (u v : Nat → Nat) : (wX7 cI q0 u ++ wX8 cI q1 v)[sgSt 48]? = some (adSt q0 q1 b u v 48, ment (adSt q0 q1 b u v) cI hSt 48 (.inr 12000)) := st_r (wX7_len cI q0 u) (mws_at ShM (fun k => if k = 0 then q1 else v k) cI (noM 4) 21 shM_21)
theorem cv_49 (cI : ClassId) (q0 q1 b : Nat) (u v : Nat → Nat) : (wX7 cI q0 u ++ wX8 cI q1 v)[sgSt 49]? = some (adSt q0 q1 b u v 49, ment (adSt q0 q1 b u v) cI hSt 49 (.inr 20)) := st_r (wX7_len cI q0 u) (mws_at ShM (fun k => if k = 0 then q1 else v k) cI (noM 4) 22 shM_22)
theorem cv_50 (cI : ClassId) (q0 q1 b : Nat) (u v : Nat → Nat) : (wX7 cI q0 u ++ wX8 cI q1 v)[sgSt 50]? = some (adSt q0 q1 b u v 50, ment (adSt q0 q1 b u v) cI hSt 50 (.inr 4)) := st_r (wX7_len cI q0 u) (mws_at ShM (fun k => if k = 0 then q1 else v k) cI (noM 4) 23 shM_23)
theorem cv_51 (cI : ClassId) (q0 q1 b : Nat) (u v : Nat → Nat) : (wX7 cI q0 u ++ wX8 cI q1 v)[sgSt 51]? = some (adSt q0 q1 b u v 51, ment (adSt q0 q1 b u v) cI hSt 51 (.inr 41)) := st_r (wX7_len cI q0 u) (mws_at ShM (fun k => if k = 0 then q1 else v k) cI (noM 4) 24 shM_24)
theorem cv_52 (cI : ClassId) (q0 q1 b : Nat) (u v : Nat → Nat) : (wX7 cI q0 u ++ wX8 cI q1 v)[sgSt 52]? = some (adSt q0 q1 b u v 52, ment (adSt q0 q1 b u v) cI hSt 52 (.inr 4)) := st_r (wX7_len cI q0 u) (mws_at ShM (fun k => if k = 0 then q1 else v k) cI (noM 4) 25 shM_25)
theorem cv_all (cI : ClassId) (q0 q1 b : Nat) (u v : Nat → Nat) (k : Nat) (e : (Nat × List Nat) ⊕ Nat) (he : Sh0[k]? = some e) : (wX7 cI q0 u ++ wX8 cI q1 v)[sgSt k]? = some (adSt q0 q1 b u v k, ment (adSt q0 q1 b u v) cI hSt k e) := by
  match k, he with
  | 0, he => cases he; exact cv_0 cI q0 q1 b u v
  | 1, he => cases he; exact cv_1 cI q0 q1 b u v
  | 2, he => cases he; exact cv_2 cI q0 q1 b u v
  | 3, he => cases he; exact cv_3 cI q0 q1 b u v
  | 4, he => cases he; exact cv_4 cI q0 q1 b u v
  | 5, he => cases he; exact cv_5 cI q0 q1 b u v
  | 6, he => cases he; exact cv_6 cI q0 q1 b u v
  | 7, he => cases he; exact cv_7 cI q0 q1 b u v
  | 8, he => cases he; exact cv_8 cI q0 q1 b u v
  | 9, he => cases he; exact cv_9 cI q0 q1 b u v
  | 10, he => cases he; exact cv_10 cI q0 q1 b u v
  | 11, he => cases he; exact cv_11 cI q0 q1 b u v
  | 12, he => cases he; exact cv_12 cI q0 q1 b u v
  | 13, he => cases he; exact cv_13 cI q0 q1 b u v
  | 14, he => cases he; exact cv_14 cI q0 q1 b u v
  | 15, he => cases he; exact cv_15 cI q0 q1 b u v
  | 16, he => cases he; exact cv_16 cI q0 q1 b u v
  | 17, he => cases he; exact cv_17 cI q0 q1 b u v
  | 18, he => cases he; exact cv_18 cI q0 q1 b u v
  | 19, he => cases he; exact cv_19 cI q0 q1 b u v
  | 20, he => cases he; exact cv_20 cI q0 q1 b u v
  | 21, he => cases he; exact cv_21 cI q0 q1 b u v
  | 22, he => cases he; exact cv_22 cI q0 q1 b u v
  | 23, he => cases he; exact cv_23 cI q0 q1 b u v
  | 24, he => cases he; exact cv_24 cI q0 q1 b u v
  | 25, he => cases he; exact cv_25 cI q0 q1 b u v
  | 26, he => cases he; exact cv_26 cI q0 q1 b u v
  | 27, he => cases he; exact cv_27 cI q0 q1 b u v
  | 28, he => cases he; exact cv_28 cI q0 q1 b u v
  | 29, he => cases he; exact cv_29 cI q0 q1 b u v
  | 30, he => cases he; exact cv_30 cI q0 q1 b u v
  | 31, he => cases he; exact cv_31 cI q0 q1 b u v
  | 32, he => cases he; exact cv_32 cI q0 q1 b u v
  | 33, he => cases he; exact cv_33 cI q0 q1 b u v
  | 34, he => cases he; exact cv_34 cI q0 q1 b u v
  | 35, he => cases he; exact cv_35 cI q0 q1 b u v
  | 36, he => cases he; exact cv_36 cI q0 q1 b u v
  | 37, he => cases he; exact cv_37 cI q0 q1 b u v
  | 38, he => cases he; exact cv_38 cI q0 q1 b u v
  | 39, he => cases he; exact cv_39 cI q0 q1 b u v
  | 40, he => cases he; exact cv_40 cI q0 q1 b u v
  | 41, he => cases he; exact cv_41 cI q0 q1 b u v
  | 42, he => cases he; exact cv_42 cI q0 q1 b u v
  | 43, he => cases he; exact cv_43 cI q0 q1 b u v
  | 44, he => cases he; exact cv_44 cI q0 q1 b u v
  | 45, he => cases he; exact cv_45 cI q0 q1 b u v
  | 46, he => cases he; exact cv_46 cI q0 q1 b u v
  | 47, he => cases he; exact cv_47 cI q0 q1 b u v
  | 48, he => cases he; exact cv_48 cI q0 q1 b u v
  | 49, he => cases he; exact cv_49 cI q0 q1 b u v
  | 50, he => cases he; exact cv_50 cI q0 q1 b u v
  | 51, he => cases he; exact cv_51 cI q0 q1 b u v
  | 52, he => cases he; exact cv_52 cI q0 q1 b u v
  | k + 53, he => cases he
theorem sg_inj : ∀ i, i < Sh0.length → ∀ j, j < Sh0.length → sgSt i = sgSt j → i = j := by decide
