/-! run and who: alike. -/
theorem tell_eq {h1 h2 : mH} : ∀ {e : aE} {w : Int}, RE h1 e → ME h2 e → mTell h2 w = cTell h1 w := by
  rintro ⟨e1, e2, e3, n, g, u, q⟩ w ⟨a1, a2, a3, a4, a5, a6, a7, -⟩ ⟨b1, b2, b3, b4, b5, b6, b7, -⟩
  have k1 : h2 10 39 = h1 6 9 := Int32.toInt_inj.mp (b1.trans a1.symm)
  have k2 : h2 10 27 = h1 6 12 := Int32.toInt_inj.mp (b2.trans a2.symm)
  have k3 : h2 10 28 = h1 6 13 := Int32.toInt_inj.mp (b3.trans a3.symm)
  unfold mTell cTell
  rw [k1, k2, k3, b4, b5, b6, b7, a4, a5, a6, a7]
theorem who_eq {h1 h2 : mH} : ∀ {e : aE} {w : Int32}, 0 ≤ w.toInt → w.toInt ≤ 199 → e.2.2.2.2.2.2.length < 2 ^ 31 → RE h1 e → ME h2 e → mWho h2 w = cWho h1 w := by
  rintro ⟨e1, e2, e3, n, g, u, q⟩ w hw0 hw1 hq ⟨a1, a2, a3, a4, a5, a6, a7, a8⟩ ⟨b1, b2, b3, b4, b5, b6, b7, b8⟩
  have hq : q.length < 2 ^ 31 := hq
  unfold mWho cWho
  rw [b7, a7, nI_toInt hq]
  by_cases hw : w.toInt < (q.length : Int)
  · rw [if_pos hw, if_pos ⟨hw0, hw, by omega⟩, b8 _ (by omega), a8 _ (by omega) (by omega)]
  · rw [if_neg hw, if_neg (fun z => hw z.2.1)]
/-- the askings of a run are few -/
theorem aRun_q {sg : Nat → Int32} {ln sz : Nat → Nat} {r : List Nat} (hB : aWB sg ln sz) (hr8 : ∀ z ∈ r, z < 8) (hl : r.length ≤ 8) : ∀ (f : Nat) (s : aS), aMu s < f → aJ sg sz r s → (aRun sg ln sz r f s).2.2.2.2.2.2.length ≤ 300 := by
  intro f
  induction f with
  | zero => intro s hf; exact absurd hf (Nat.not_lt_zero _)
  | succ f ih =>
    intro s hf hJ
    show (match aStep sg ln sz r s with | .inl s' => aRun sg ln sz r f s' | .inr e => e).2.2.2.2.2.2.length ≤ 300
    cases hs : aStep sg ln sz r s with
    | inl s' =>
      obtain ⟨j1, j2⟩ := aJ_step hB hr8 hJ hs
      exact ih s' (by omega) j1
    | inr e =>
      obtain ⟨b, pl, x, k, P, K, n, g, u, q⟩ := s
      have hq : q.length ≤ 299 := by
        obtain ⟨jx, jb, jP, jK, jn, jg, ju, jq, jc, -⟩ := hJ
        split at jc <;> omega
      show e.2.2.2.2.2.2.length ≤ 300
      cases b with
      | true =>
        simp only [aStep, aBeg] at hs
        repeat' split at hs
        all_goals first | (cases hs; done) | (cases hs; show q.length ≤ 300; omega)
      | false =>
        cases P with
        | nil =>
          simp only [aStep] at hs
          cases hs
          show q.length ≤ 300
          omega
        | cons F P =>
          obtain ⟨pl2, x2, k2, w2⟩ := F
          simp only [aStep, aTop, aAsk] at hs
          repeat' split at hs
          all_goals first | (cases hs; done) | (cases hs; show q.length ≤ 300; omega) | (cases hs; show (q ++ [_]).length ≤ 300; rw [List.length_append]; simp only [List.length_cons, List.length_nil]; omega)
theorem Inv_run {n : Nat} {pd sg : Nat → Int32} {ln sz : Nat → Nat} {r : List Nat} {h h1 h2 : mH} {k : Nat} (w : WS n pd sg ln sz r) (c : CS n pd sg ln sz r h) (m : MS n pd sg ln sz r h) (kp : KP h h1) (km : KM (MGv h1 k) h2) : Inv h2 := by
  have oo : ∀ a, a ≠ 10 → a ≠ 47 → ¬ (34 ≤ a ∧ a ≤ 46 ∨ a = 48) → ¬ (6 ≤ a ∧ a ≤ 8 ∨ 19 ≤ a ∧ a ≤ 24) → h2 a = h a := fun a h10 h47 ha hb => by
    rw [km.1 a h10 ha]
    show hr (hs h1 10 30 (nI k)) 47 (cf (h1 32) (h1 47) k) a = h a
    rw [hr_ne _ _ h47, hs_rown _ _ _ h10]
    exact kp a hb
  refine ⟨n, pd, sg, ln, sz, r, w, CS.o (oo 1 (by omega) (by omega) (by omega) (by omega)) (oo 11 (by omega) (by omega) (by omega) (by omega)) (oo 13 (by omega) (by omega) (by omega) (by omega)) (oo 14 (by omega) (by omega) (by omega) (by omega)) (oo 15 (by omega) (by omega) (by omega) (by omega)) (oo 3 (by omega) (by omega) (by omega) (by omega)) (oo 16 (by omega) (by omega) (by omega) (by omega)) c, MS.o ?_ ?_ (oo 28 (by omega) (by omega) (by omega) (by omega)) (oo 29 (by omega) (by omega) (by omega) (by omega)) (oo 30 (by omega) (by omega) (by omega) (by omega)) (oo 31 (by omega) (by omega) (by omega) (by omega)) (oo 32 (by omega) (by omega) (by omega) (by omega)) m⟩
  · rw [km.2.1]
    show h1 10 0 = h 10 0
    rw [kp 10 (by omega)]
  · rw [km.2.2.1]
    show h1 10 5 = h 10 5
    rw [kp 10 (by omega)]
theorem MS_run {n : Nat} {pd sg : Nat → Int32} {ln sz : Nat → Nat} {r : List Nat} {h h1 : mH} (m : MS n pd sg ln sz r h) (kp : KP h h1) : MS n pd sg ln sz r h1 :=
  MS.o (by rw [kp 10 (by omega)]) (by rw [kp 10 (by omega)]) (kp 28 (by omega)) (kp 29 (by omega)) (kp 30 (by omega)) (kp 31 (by omega)) (kp 32 (by omega)) m
/-- promise 11 -/
theorem j_run (l : Launch) (h : mH) (hI : Inv h) (x y w : Int32) : jP l iX7_run iX8_run [.inl x, .inl y, .inl w] h := by
  have hI0 := hI
  obtain ⟨n, pd, sg, ln, sz, r, ⟨w1, w2, w3, w4, w5, w6⟩, c, m⟩ := hI
  by_cases hx : 0 ≤ x.toInt ∧ x.toInt < 4
  · by_cases hy : 0 ≤ y.toInt ∧ y.toInt < 8
    · by_cases hw : 0 ≤ w.toInt ∧ w.toInt ≤ 6
      · have kd := k_D_run l w3 w6 h c.2.2.1 c.2.2.2 x.toInt.toNat y.toInt.toNat (by omega) (w4 _ (by omega)) (by omega) w hw
        rw [← nI_ofInt hx.1, ← nI_ofInt hy.1] at kd
        refine kd.weaken (fun v1 h1 q1 => ?_)
        obtain ⟨e1, kp, ho⟩ := q1
        have m1 := MS_run m kp
        have km := k_M_run l w3 w6 h1 m1.2.2.1 w5 m1.2.2.2.1 m1.2.2.2.2 x.toInt.toNat y.toInt.toNat (by omega) (w4 _ (by omega)) (by omega) w hw
        rw [← nI_ofInt hx.1, ← nI_ofInt hy.1] at km
        refine ⟨cTell h1 w.toInt, e1, km.weaken (fun v2 h2 q2 => ?_)⟩
        obtain ⟨e2, kk, he⟩ := q2
        exact ⟨e2.trans (congrArg some (tell_eq ho he)), Inv_run ⟨w1, w2, w3, w4, w5, w6⟩ c m kp kk⟩
      · exact jP_D (k_D_runOw l h x y w hx hy hw) (k_M_runOw l h x y w hx hy hw) hI0
    · exact jP_D (k_D_runOy l h x y w hx hy) (k_M_runOy l h x y w hx hy) hI0
  · exact jP_D (k_D_runU l h x y w hx) (k_M_runU l h x y w hx) hI0
/-- promise 12 -/
theorem j_who (l : Launch) (h : mH) (hI : Inv h) (x y w : Int32) : jP l iX7_who iX8_who [.inl x, .inl y, .inl w] h := by
  have hI0 := hI
  obtain ⟨n, pd, sg, ln, sz, r, ⟨w1, w2, w3, w4, w5, w6⟩, c, m⟩ := hI
  by_cases hx : 0 ≤ x.toInt ∧ x.toInt < 4
  · by_cases hy : 0 ≤ y.toInt ∧ y.toInt < 8
    · by_cases hw : 0 ≤ w.toInt ∧ w.toInt ≤ 199
      · have kd := k_D_who l w3 w6 h c.2.2.1 c.2.2.2 x.toInt.toNat y.toInt.toNat (by omega) (w4 _ (by omega)) (by omega) w hw
        rw [← nI_ofInt hx.1, ← nI_ofInt hy.1] at kd
        refine kd.weaken (fun v1 h1 q1 => ?_)
        obtain ⟨e1, kp, ho⟩ := q1
        have m1 := MS_run m kp
        have km := k_M_who l w3 w6 h1 m1.2.2.1 w5 m1.2.2.2.1 m1.2.2.2.2 x.toInt.toNat y.toInt.toNat (by omega) (w4 _ (by omega)) (by omega) w hw
        rw [← nI_ofInt hx.1, ← nI_ofInt hy.1] at km
        refine ⟨cWho h1 w, e1, km.weaken (fun v2 h2 q2 => ?_)⟩
        obtain ⟨e2, kk, he⟩ := q2
        exact ⟨e2.trans (congrArg some (who_eq hw.1 hw.2 (Nat.lt_of_le_of_lt (aRun_q w3 w6 w5 9000 (aS0 x.toInt.toNat y.toInt.toNat) (show 600 - 3 * 0 + (8000 - 200 * 0) + 0 + 0 < 9000 by decide) (aJ_0 (by omega) (w4 _ (by omega)) (by omega))) (by decide)) ho he)), Inv_run ⟨w1, w2, w3, w4, w5, w6⟩ c m kp kk⟩
      · exact jP_D (k_D_whoOw l h x y w hx hy hw) (k_M_whoOw l h x y w hx hy hw) hI0
    · exact jP_D (k_D_whoOy l h x y w hx hy) (k_M_whoOy l h x y w hx hy) hI0
  · exact jP_D (k_D_whoU l h x y w hx) (k_M_whoU l h x y w hx) hI0
