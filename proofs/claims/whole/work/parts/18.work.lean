/-! The class's run as a whole. -/
set_option maxHeartbeats 4000000 in
theorem t_take_nil (l : Launch) {sg : Nat → Int32} {ln sz : Nat → Nat} {r : List Nat} {rc : Nat} (h : mH) {v : Nat} {K : List (List aF)} {n g u : Nat} {q : List Nat} (hJ : aJ sg sz r (false, 0, v, 0, [], K, n, g, u, q)) (hRC : RC rc h (false, 0, v, 0, [], K, n, g, u, q)) : mG l Sh0 iX4_takeUp [.inr 6] h (fun v' h' => v' = none ∧ KP h h' ∧ RO rc h' (.inr ((v : Int), -6, -6, n, g, u, q))) := by
  obtain ⟨made, cm, nd, KS, h4, h5, hb, hb2, h9, h12, h13, ⟨h10, h11, h14, h15, h19⟩, hm, hcm, hch, hKS, hseg, hnd, hlt, hmd, hcc⟩ := hRC
  have jx : v < 8 := hJ.1
  have h68 : h 6 8 = nI v := hb2 rfl
  have h73 : h 7 3 = -1 := by
    cases nd with
    | nil => exact hch
    | cons i nd => exact hch.elim
  intro RT hR
  show mE l Sh0 none iX4_takeUp RT 0 [some (.inr 6), none, none] [] h
  refine e_aload_n (i := 0) dX4_takeUp_0 rfl rfl ?_
  refine e_getR (r := 7) dX4_takeUp_1 fl_X4_12 sh_6 fj_6_1 ?_
  refine e_getI (x := (-1)) dX4_takeUp_4 fl_X4_115 sh_7 fj_7_3 h73 ?_
  refine e_istore_n (i := 1) (ls2 := [some (.inr 6), some (.inl (-1)), none]) dX4_takeUp_7 rfl (Nat.le_of_ble_eq_true rfl) rfl ?_
  refine e_iload_n (i := 1) dX4_takeUp_8 rfl rfl ?_
  refine e_iconst (v := (-1)) dX4_takeUp_9 (by decide) ?_
  refine b_icmp_ne (X := (-1)) (Y := (-1)) (tgt := 22) (by decide) (by decide) dX4_takeUp_10 (by decide) ?_ ?_
  · intro e_10_t c_10_t
    exfalso; omega
  · intro e_10_f c_10_f
    refine e_aload_n (i := 0) dX4_takeUp_13 rfl rfl ?_
    refine e_aload_n (i := 0) dX4_takeUp_14 rfl rfl ?_
    refine e_getI (x := nI v) dX4_takeUp_15 fl_X4_89 sh_6 fj_6_8 h68 ?_
    refine e_putI dX4_takeUp_18 fl_X4_44 fp_X4_9 sh_6 fj_6_9 ?_
    refine e_ret dX4_takeUp_21 rfl ?_
    exact hR _ _ ⟨rfl, (KP.refl h).hs (by omega), (by show (nI v).toInt = (v : Int); exact nI_toInt (by omega)), toI_m6 h12, toI_m6 h13, h10, h11, h14, h15, h19⟩
theorem RC_f {rc : Nat} {h : mH} {pl v k : Nat} {P : List aF} {K : List (List aF)} {n g u : Nat} {q : List Nat} (hRC : RC rc h (false, pl, v, k, P, K, n, g, u, q)) : RC rc h (false, 0, v, 0, P, K, n, g, u, q) := by
  obtain ⟨made, cm, nd, KS, h4, h5, hb, rest⟩ := hRC
  exact ⟨made, cm, nd, KS, h4, h5, fun z => (by cases z), rest⟩
theorem aJ_f {sg : Nat → Int32} {sz : Nat → Nat} {r : List Nat} {pl v k : Nat} {P : List aF} {K : List (List aF)} {n g u : Nat} {q : List Nat} (hJ : aJ sg sz r (false, pl, v, k, P, K, n, g, u, q)) : aJ sg sz r (false, 0, v, 0, P, K, n, g, u, q) := by
  obtain ⟨jx, jb, jP, jK, jn, jg, ju, jq, jc, gs, g1, g2, g3, g4⟩ := hJ
  exact ⟨jx, fun z => (by cases z), jP, jK, jn, jg, ju, jq, jc, gs, g1, g2, fun z => (by cases z), g4⟩
def RWS (rc rr : Nat) : Prop := (rc = 3 ∧ rr = 16) ∨ (rc = 4 ∧ rr = 17)
theorem RWS.sh {rc rr : Nat} (h : RWS rc rr) : Sh0[rc]? = some (.inl (3, [rr + 3, 0])) ∧ Sh0[rr]? = some (.inr 8) ∧ (rc = 3 ∨ rc = 4 ∨ rc = 5) ∧ (16 ≤ rr ∧ rr ≤ 18) := by
  rcases h with ⟨rfl, rfl⟩ | ⟨rfl, rfl⟩
  · exact ⟨rfl, rfl, by omega, by omega⟩
  · exact ⟨rfl, rfl, by omega, by omega⟩
theorem t_take (l : Launch) {sg : Nat → Int32} {ln sz : Nat → Nat} {r : List Nat} {rc rr : Nat} (hB : aWB sg ln sz) (hrw : RWS rc rr) (h : mH) (hC : CB sg ln sz h) (hCR : CR rc rr r h) {pl0 v k0 : Nat} {P : List aF} {K : List (List aF)} {n g u : Nat} {q : List Nat} (hJ : aJ sg sz r (false, pl0, v, k0, P, K, n, g, u, q)) (hRC : RC rc h (false, pl0, v, k0, P, K, n, g, u, q)) : mG l Sh0 iX4_takeUp [.inr 6] h (fun v' h' => v' = none ∧ KP h h' ∧ RO rc h' (aStep sg ln sz r (false, pl0, v, k0, P, K, n, g, u, q))) := by
  have hRC := RC_f hRC
  have hJ := aJ_f hJ
  obtain ⟨s1, s2, s3, s4⟩ := hrw.sh
  cases P with
  | nil => exact t_take_nil (ln := ln) l h hJ hRC
  | cons F P =>
    obtain ⟨pl, x, k, w⟩ := F
    show mG l Sh0 iX4_takeUp [.inr 6] h (fun v' h' => v' = none ∧ KP h h' ∧ RO rc h' (aTop sg ln sz r v pl x k w P K n g u q))
    have f2 := (hJ.2.2.1 (pl, x, k, w) List.mem_cons_self).2.1
    have hg : g ≤ 40 := hJ.2.2.2.2.2.1
    dsimp only at f2
    rcases aOf_cases (sg pl).toInt with z | z | z | z | z
    · omega
    · rcases aOf_1 z with z1 | z1 | z1 | z1 | z1
      · cases hN : aNr sg sz 0 P with
        | none =>
          by_cases hu : u < r.length
          · exact t_take_ask0r l hB h hC hJ hRC (d := 0) (by omega) z1 hN hCR s1 s2 s3 s4 hu
          · exact t_take_ask0e l hB h hC hJ hRC (d := 0) (by omega) z1 hN hCR s1 s2 s3 s4 hu
        | some y => exact t_take_ask1 (rr := rr) l hB h hC hJ hRC (d := 0) (by omega) z1 (A := y.1) (G := y.2.1) (CC := y.2.2) hN hCR.2.1
      · cases hN : aNr sg sz 1 P with
        | none =>
          by_cases hu : u < r.length
          · exact t_take_ask0r l hB h hC hJ hRC (d := 1) (by omega) z1 hN hCR s1 s2 s3 s4 hu
          · exact t_take_ask0e l hB h hC hJ hRC (d := 1) (by omega) z1 hN hCR s1 s2 s3 s4 hu
        | some y => exact t_take_ask1 (rr := rr) l hB h hC hJ hRC (d := 1) (by omega) z1 (A := y.1) (G := y.2.1) (CC := y.2.2) hN hCR.2.1
      · cases hN : aNr sg sz 2 P with
        | none =>
          by_cases hu : u < r.length
          · exact t_take_ask0r l hB h hC hJ hRC (d := 2) (by omega) z1 hN hCR s1 s2 s3 s4 hu
          · exact t_take_ask0e l hB h hC hJ hRC (d := 2) (by omega) z1 hN hCR s1 s2 s3 s4 hu
        | some y => exact t_take_ask1 (rr := rr) l hB h hC hJ hRC (d := 2) (by omega) z1 (A := y.1) (G := y.2.1) (CC := y.2.2) hN hCR.2.1
      · by_cases hg2 : g < 40
        · exact t_take_go (rr := rr) l hB h hC hJ hRC z1 hg2
        · exact t_take_go9 (rr := rr) l hB h hC hJ hRC z1 (by omega)
      · by_cases hz : 0 < sz (4 + 4 * aHd sg pl + 3)
        · exact t_take_back1 (rr := rr) l hB h hC hJ hRC z1 hz
        · exact t_take_back0 (rr := rr) l hB h hC hJ hRC z1 (by omega)
    · by_cases hw : w = 0
      · exact t_take_hold (rr := rr) l hB h hC hJ hRC z hw
      · exact t_take_act (rr := rr) l hB h hC hJ hRC z hw
    · by_cases hv : v = 0
      · exact t_take_choose0 (rr := rr) l hB h hC hJ hRC (aOf_3 z) hv
      · exact t_take_choose1 (rr := rr) l hB h hC hJ hRC (aOf_3 z) hv
    · omega
def aRun (sg : Nat → Int32) (ln sz : Nat → Nat) (r : List Nat) : Nat → aS → aE
  | 0, (_, _, _, _, _, _, n, g, u, q) => (9, -6, -6, n, g, u, q)
  | f + 1, s => match aStep sg ln sz r s with
    | .inl s' => aRun sg ln sz r f s'
    | .inr e => e
/-- a turn of the machine keeps what holds -/
theorem aJ_step {sg : Nat → Int32} {ln sz : Nat → Nat} {r : List Nat} (hB : aWB sg ln sz) (hr : ∀ z ∈ r, z < 8) : ∀ {s s' : aS}, aJ sg sz r s → aStep sg ln sz r s = .inl s' → aJ sg sz r s' ∧ aMu s' < aMu s
  | (true, pl, x, k, P, K, n, g, u, q), s', hJ, hs => aJ_beg hB hJ hs
  | (false, _, v, _, [], _, n, g, u, q), s', hJ, hs => by cases hs
  | (false, pl0, v, k0, (pl, x, k, w) :: P, K, n, g, u, q), s', hJ, hs => aJ_top hB hr (aJ_f hJ) hs
theorem aStep_end {sg : Nat → Int32} {ln sz : Nat → Nat} {r : List Nat} : ∀ {s : aS} {e : aE}, aStep sg ln sz r s = .inr e → 0 ≤ e.1
  | (true, pl, x, k, P, K, n, g, u, q), e, hs => by
    simp only [aStep, aBeg] at hs
    repeat' split at hs
    all_goals first | (cases hs; done) | (cases hs; show (0 : Int) ≤ 9; decide) | (cases hs; show (0 : Int) ≤ 8; decide)
  | (false, _, v, _, [], _, n, g, u, q), e, hs => by
    simp only [aStep] at hs
    cases hs
    exact Int.natCast_nonneg v
  | (false, pl0, v, k0, (pl, x, k, w) :: P, K, n, g, u, q), e, hs => by
    simp only [aStep, aTop, aAsk] at hs
    repeat' split at hs
    all_goals first | (cases hs; done) | (cases hs; show (0 : Int) ≤ 9; decide) | (cases hs; show (0 : Int) ≤ 8; decide)
theorem CB.kp {sg : Nat → Int32} {ln sz : Nat → Nat} {h h' : mH} (q : KP h h') (hC : CB sg ln sz h) : CB sg ln sz h' := by
  have h13 := q 13 (by omega)
  have h14 := q 14 (by omega)
  have h15 := q 15 (by omega)
  exact ⟨fun pl hp => by rw [h13]; exact hC.1 pl hp, fun p hp => by rw [h15]; exact hC.2.1 p hp, fun pl hp => by rw [h14]; exact hC.2.2 pl hp⟩
theorem CR.kp {rc rr : Nat} {r : List Nat} {h h' : mH} (hrw : RWS rc rr) (q : KP h h') (hC : CR rc rr r h) : CR rc rr r h' := by
  obtain ⟨-, -, s3, s4⟩ := hrw.sh
  have h1 := q rc (by omega)
  have h2 := q rr (by omega)
  exact ⟨by rw [h1]; exact hC.1, hC.2.1, fun i hi => by rw [h2]; exact hC.2.2 i hi⟩
/-- when it has ended, the loop ends -/
theorem lp_end (l : Launch) (h : mH) (RT : Option Int32 → mH → Prop) (y1 y2 y3 : Option mV) (t : Nat) (ht : t ≤ 1000000) (he : 0 ≤ (h 6 9).toInt) (hR : RT none h) : mE l Sh0 none iX4_work RT 68 [some (.inr 6), y1, y2, y3, some (.inl (nI t))] [] h := by
  refine e_iload dX4_work_68 rfl ?_
  refine e_ldc (v := 1000000) dX4_work_70 kc_X4_69 ?_
  refine b_icmp_ge (X := ((t : Nat) : Int)) (Y := 1000000) (tgt := 107) (nI_toInt (by omega)) (by decide) dX4_work_72 (by decide) ?_ ?_
  · intro c_72_t
    refine e_aload_n (i := 0) dX4_work_107 rfl rfl ?_
    refine e_getI (x := h 6 9) dX4_work_108 fl_X4_44 sh_6 fj_6_9 rfl ?_
    refine e_iconst (v := (-1)) dX4_work_111 (by decide) ?_
    refine b_icmp_ne (X := (h 6 9).toInt) (Y := (-1)) (tgt := 121) rfl (by decide) dX4_work_112 (by decide) ?_ ?_
    · intro e_112_t c_112_t
      refine e_ret dX4_work_121 rfl ?_
      exact hR
    · intro e_112_f c_112_f
      exfalso; omega
  · intro c_72_f
    refine e_aload_n (i := 0) dX4_work_75 rfl rfl ?_
    refine e_getI (x := h 6 9) dX4_work_76 fl_X4_44 sh_6 fj_6_9 rfl ?_
    refine e_iconst (v := (-1)) dX4_work_79 (by decide) ?_
    refine b_icmp_ne (X := (h 6 9).toInt) (Y := (-1)) (tgt := 107) rfl (by decide) dX4_work_80 (by decide) ?_ ?_
    · intro e_80_t c_80_t
      refine e_aload_n (i := 0) dX4_work_107 rfl rfl ?_
      refine e_getI (x := h 6 9) dX4_work_108 fl_X4_44 sh_6 fj_6_9 rfl ?_
      refine e_iconst (v := (-1)) dX4_work_111 (by decide) ?_
      refine b_icmp_ne (X := (h 6 9).toInt) (Y := (-1)) (tgt := 121) rfl (by decide) dX4_work_112 (by decide) ?_ ?_
      · intro e_112_t c_112_t
        refine e_ret dX4_work_121 rfl ?_
        exact hR
      · intro e_112_f c_112_f
        exfalso; omega
    · intro e_80_f c_80_f
      exfalso; omega
set_option maxHeartbeats 4000000 in
theorem lp_work (l : Launch) {sg : Nat → Int32} {ln sz : Nat → Nat} {r : List Nat} {rc rr : Nat} (hB : aWB sg ln sz) (hr : ∀ z ∈ r, z < 8) (hrw : RWS rc rr) (y1 y2 y3 : Option mV) (RT : Option Int32 → mH → Prop) : ∀ (f : Nat) (s : aS) (h : mH) (t : Nat), aMu s < f → t + f ≤ 1000000 → CB sg ln sz h → CR rc rr r h → aJ sg sz r s → RC rc h s → (∀ h', KP h h' → RE h' (aRun sg ln sz r f s) → RT none h') → mE l Sh0 none iX4_work RT 68 [some (.inr 6), y1, y2, y3, some (.inl (nI t))] [] h
  | 0, s, h, t, hf, _, _, _, _, _, _ => absurd hf (Nat.not_lt_zero _)
  | f + 1, (b, pl, x, k, P, K, n, g, u, q), h, t, hf, ht, hC, hCR, hJ, hRC, hR => by
    have h9 : h 6 9 = -1 := by
      obtain ⟨made, cm, nd, KS, h4, h5, hb, hb2, h9, -⟩ := hRC
      exact h9
    have h5 : h 6 5 = (if b then 1 else 0) := by
      obtain ⟨made, cm, nd, KS, h4, h5, -⟩ := hRC
      exact h5
    have hend : ∀ h' : mH, KP h h' → RO rc h' (aStep sg ln sz r (b, pl, x, k, P, K, n, g, u, q)) → mE l Sh0 none iX4_work RT 68 [some (.inr 6), y1, y2, y3, some (.inl (nI (t + 1)))] [] h' := by
      intro h' hk ho
      cases hs : aStep sg ln sz r (b, pl, x, k, P, K, n, g, u, q) with
      | inl s' =>
        rw [hs] at ho
        obtain ⟨j1, j2⟩ := aJ_step hB hr hJ hs
        have er : aRun sg ln sz r (f + 1) (b, pl, x, k, P, K, n, g, u, q) = aRun sg ln sz r f s' := by
          show (match aStep sg ln sz r (b, pl, x, k, P, K, n, g, u, q) with | .inl s' => aRun sg ln sz r f s' | .inr e => e) = _
          rw [hs]
        exact lp_work l hB hr hrw y1 y2 y3 RT f s' h' (t + 1) (by omega) (by omega) (hC.kp hk) (hCR.kp hrw hk) j1 ho (fun h2 k2 e2 => hR h2 (hk.trans k2) (by rw [er]; exact e2))
      | inr e =>
        rw [hs] at ho
        have er : aRun sg ln sz r (f + 1) (b, pl, x, k, P, K, n, g, u, q) = e := by
          show (match aStep sg ln sz r (b, pl, x, k, P, K, n, g, u, q) with | .inl s' => aRun sg ln sz r f s' | .inr e => e) = _
          rw [hs]
        have he := aStep_end hs
        obtain ⟨e0, e1, e2, e3, e4, e5, e6⟩ := e
        exact lp_end l h' RT y1 y2 y3 (t + 1) (by omega) (by rw [ho.1]; exact he) (hR h' hk (by rw [er]; exact ho))
    cases b with
    | true =>
      have kb := t_begin l hB h hC hJ hRC
      have h5 : h 6 5 = 1 := h5
      refine e_iload dX4_work_68 rfl ?_
      refine e_ldc (v := 1000000) dX4_work_70 kc_X4_69 ?_
      refine b_icmp_ge (X := ((t : Nat) : Int)) (Y := 1000000) (tgt := 107) (nI_toInt (by omega)) (by decide) dX4_work_72 (by decide) ?_ ?_
      · intro c_72_t
        exfalso; omega
      · intro c_72_f
        refine e_aload_n (i := 0) dX4_work_75 rfl rfl ?_
        refine e_getI (x := (-1)) dX4_work_76 fl_X4_44 sh_6 fj_6_9 h9 ?_
        refine e_iconst (v := (-1)) dX4_work_79 (by decide) ?_
        refine b_icmp_ne (X := (-1)) (Y := (-1)) (tgt := 107) (by decide) (by decide) dX4_work_80 (by decide) ?_ ?_
        · intro e_80_t c_80_t
          exfalso; omega
        · intro e_80_f c_80_f
          refine e_aload_n (i := 0) dX4_work_83 rfl rfl ?_
          refine e_getZ (x := 1) dX4_work_84 fl_X4_70 sh_6 fj_6_5 h5 ?_
          refine b_if_eq (X := 1) (tgt := 97) (by decide) dX4_work_87 (by decide) ?_ ?_
          · intro e_87_t c_87_t
            exfalso; omega
          · intro e_87_f c_87_f
            refine e_aload_n (i := 0) dX4_work_90 rfl rfl ?_
            refine e_invVvG (As := []) (ty := .int) dX4_work_91 lk_X4_74 yv_X4_begin rfl rfl rfl (Nat.le_of_ble_eq_true rfl) sh_6 ci_X4 (Nat.le_of_ble_eq_true rfl) ⟨Nat.le_of_ble_eq_true rfl, Nat.le_of_ble_eq_true rfl⟩ kb ?_
            rintro h' ⟨-, hk, ho⟩
            refine e_goto (tgt := 101) dX4_work_94 (by decide) ?_
            refine e_iinc (v := nI (t + 1)) (ls2 := [some (.inr 6), y1, y2, y3, some (.inl (nI (t + 1)))]) dX4_work_101 rfl (nI_inc1 _) (Nat.le_of_ble_eq_true rfl) rfl ?_
            refine e_goto (tgt := 68) dX4_work_104 (by decide) ?_
            exact hend h' hk ho
    | false =>
      have kt := t_take l hB hrw h hC hCR hJ hRC
      have h5 : h 6 5 = 0 := h5
      refine e_iload dX4_work_68 rfl ?_
      refine e_ldc (v := 1000000) dX4_work_70 kc_X4_69 ?_
      refine b_icmp_ge (X := ((t : Nat) : Int)) (Y := 1000000) (tgt := 107) (nI_toInt (by omega)) (by decide) dX4_work_72 (by decide) ?_ ?_
      · intro c_72_t
        exfalso; omega
      · intro c_72_f
        refine e_aload_n (i := 0) dX4_work_75 rfl rfl ?_
        refine e_getI (x := (-1)) dX4_work_76 fl_X4_44 sh_6 fj_6_9 h9 ?_
        refine e_iconst (v := (-1)) dX4_work_79 (by decide) ?_
        refine b_icmp_ne (X := (-1)) (Y := (-1)) (tgt := 107) (by decide) (by decide) dX4_work_80 (by decide) ?_ ?_
        · intro e_80_t c_80_t
          exfalso; omega
        · intro e_80_f c_80_f
          refine e_aload_n (i := 0) dX4_work_83 rfl rfl ?_
          refine e_getZ (x := 0) dX4_work_84 fl_X4_70 sh_6 fj_6_5 h5 ?_
          refine b_if_eq (X := 0) (tgt := 97) (by decide) dX4_work_87 (by decide) ?_ ?_
          · intro e_87_t c_87_t
            refine e_aload_n (i := 0) dX4_work_97 rfl rfl ?_
            refine e_invVvG (As := []) (ty := .int) dX4_work_98 lk_X4_77 yv_X4_takeUp rfl rfl rfl (Nat.le_of_ble_eq_true rfl) sh_6 ci_X4 (Nat.le_of_ble_eq_true rfl) ⟨Nat.le_of_ble_eq_true rfl, Nat.le_of_ble_eq_true rfl⟩ kt ?_
            rintro h' ⟨-, hk, ho⟩
            refine e_iinc (v := nI (t + 1)) (ls2 := [some (.inr 6), y1, y2, y3, some (.inl (nI (t + 1)))]) dX4_work_101 rfl (nI_inc1 _) (Nat.le_of_ble_eq_true rfl) rfl ?_
            refine e_goto (tgt := 68) dX4_work_104 (by decide) ?_
            exact hend h' hk ho
          · intro e_87_f c_87_f
            exfalso; omega
/-- the start of a run -/
def aS0 (p x : Nat) : aS := (true, 40 * p, x, 0, [], [], 0, 0, 0, [])
theorem aJ_0 {sg : Nat → Int32} {sz : Nat → Nat} {r : List Nat} {p x : Nat} (hp : p < 4) (hz : 0 < sz p) (hx : x < 8) : aJ sg sz r (aS0 p x) :=
  ⟨hx, fun _ => ⟨aV_page (by omega) hz, Nat.le_refl _, fun z => absurd (aDc_page.mp z).1 (by omega)⟩, fun F h => (by cases h), fun F h => (by cases h), by omega, by omega, Nat.zero_le _, Nat.le_refl _, by decide, [], rfl, trivial, fun _ => by decide, fun j L h => by simp at h⟩
set_option maxHeartbeats 4000000 in
/-- Run.work: the class's run is the machine's -/
theorem k_X_work (l : Launch) {sg : Nat → Int32} {ln sz : Nat → Nat} {r : List Nat} {rc rr : Nat} (hB : aWB sg ln sz) (hr : ∀ z ∈ r, z < 8) (hrw : RWS rc rr) (h : mH) (hC : CB sg ln sz h) (hCR : CR rc rr r h) {p x : Nat} (hp : p < 4) (hz : 0 < sz p) (hx : x < 8) : mG l Sh0 iX4_work [.inr 6, .inl (nI p), .inl (nI x), .inr rc] h (fun v' h' => v' = none ∧ KP h h' ∧ RE h' (aRun sg ln sz r 9000 (aS0 p x))) := by
  have hrc : rc < 10 := by rcases hrw with z | z <;> omega
  intro RT hR
  show mE l Sh0 none iX4_work RT 0 [some (.inr 6), some (.inl (nI p)), some (.inl (nI x)), some (.inr rc), none] [] h
  refine e_aload_n (i := 0) dX4_work_0 rfl rfl ?_
  refine e_getR (r := 7) dX4_work_1 fl_X4_12 sh_6 fj_6_1 ?_
  refine e_invVv (As := []) (h2 := (hs (hs h 7 2 0) 7 3 (-1))) (ty := .int) (v := 0) dX4_work_4 lk_X4_37 yv_X5_clear rfl rfl rfl (Nat.le_of_ble_eq_true rfl) sh_7 ci_X5 (Nat.le_of_ble_eq_true rfl) ⟨Nat.le_of_ble_eq_true rfl, Nat.le_of_ble_eq_true rfl⟩ (k_T_clear l h) ?_
  refine e_aload_n (i := 0) dX4_work_7 rfl rfl ?_
  refine e_getR (r := 8) dX4_work_8 fl_X4_21 sh_6 fj_6_2 ?_
  refine e_iconst (v := 0) dX4_work_11 (by decide) ?_
  refine e_putI dX4_work_12 fl_X4_40 fp_X1_3 sh_8 fj_8_3 ?_
  refine e_aload_n (i := 0) dX4_work_15 rfl rfl ?_
  refine e_aload_n (i := 3) dX4_work_16 rfl rfl ?_
  refine e_putD dX4_work_17 fl_X4_33 fp_X4_4 sh_6 fj_6_4 (by first | decide | omega) ?_
  refine e_aload_n (i := 0) dX4_work_20 rfl rfl ?_
  refine e_iconst (v := (-1)) dX4_work_21 (by decide) ?_
  refine e_putI dX4_work_22 fl_X4_44 fp_X4_9 sh_6 fj_6_9 ?_
  refine e_aload_n (i := 0) dX4_work_25 rfl rfl ?_
  refine e_iconst (v := 0) dX4_work_26 (by decide) ?_
  refine e_putI dX4_work_27 fl_X4_47 fp_X4_10 sh_6 fj_6_10 ?_
  refine e_aload_n (i := 0) dX4_work_30 rfl rfl ?_
  refine e_iconst (v := 0) dX4_work_31 (by decide) ?_
  refine e_putI dX4_work_32 fl_X4_50 fp_X4_11 sh_6 fj_6_11 ?_
  refine e_aload_n (i := 0) dX4_work_35 rfl rfl ?_
  refine e_bipush (v := (-6)) dX4_work_36 (by decide) ?_
  refine e_putI dX4_work_38 fl_X4_53 fp_X4_12 sh_6 fj_6_12 ?_
  refine e_aload_n (i := 0) dX4_work_41 rfl rfl ?_
  refine e_bipush (v := (-6)) dX4_work_42 (by decide) ?_
  refine e_putI dX4_work_44 fl_X4_56 fp_X4_13 sh_6 fj_6_13 ?_
  refine e_aload_n (i := 0) dX4_work_47 rfl rfl ?_
  refine e_iconst (v := 0) dX4_work_48 (by decide) ?_
  refine e_putI dX4_work_49 fl_X4_59 fp_X4_14 sh_6 fj_6_14 ?_
  refine e_aload_n (i := 0) dX4_work_52 rfl rfl ?_
  refine e_iconst (v := 0) dX4_work_53 (by decide) ?_
  refine e_putI dX4_work_54 fl_X4_62 fp_X4_15 sh_6 fj_6_15 ?_
  refine e_aload_n (i := 0) dX4_work_57 rfl rfl ?_
  refine e_iload_n (i := 1) dX4_work_58 rfl rfl ?_
  refine e_iload_n (i := 2) dX4_work_59 rfl rfl ?_
  refine e_iconst (v := (-1)) dX4_work_60 (by decide) ?_
  refine e_iconst (v := (-1)) dX4_work_61 (by decide) ?_
  refine e_invVv (As := [.inl (nI p), .inl (nI x), .inl (-1), .inl (-1)]) (h2 := (entH (hs (hs (hs (hs (hs (hs (hs (hs (hs (hs (hs h 7 2 0) 7 3 (-1)) 8 3 0) 6 4 (nI rc)) 6 9 (-1)) 6 10 0) 6 11 0) 6 12 (-6)) 6 13 (-6)) 6 14 0) 6 15 0) 0 (nI p) (nI x) (-1) (-1))) (ty := .int) (v := 0) dX4_work_62 lk_X4_65 yv_X4_enter rfl rfl rfl (Nat.le_of_ble_eq_true rfl) sh_6 ci_X4 (Nat.le_of_ble_eq_true rfl) ⟨Nat.le_of_ble_eq_true rfl, Nat.le_of_ble_eq_true rfl⟩ (k_X_enter l (hs (hs (hs (hs (hs (hs (hs (hs (hs (hs (hs h 7 2 0) 7 3 (-1)) 8 3 0) 6 4 (nI rc)) 6 9 (-1)) 6 10 0) 6 11 0) 6 12 (-6)) 6 13 (-6)) 6 14 0) 6 15 0) 0 rfl (by omega) (nI p) (nI x) (-1) (-1)) ?_
  refine e_iconst (v := 0) dX4_work_65 (by decide) ?_
  refine e_istore (ls2 := [some (.inr 6), some (.inl (nI p)), some (.inl (nI x)), some (.inr rc), some (.inl 0)]) dX4_work_66 (Nat.le_of_ble_eq_true rfl) rfl ?_
  have hk : KP h (entH (hs (hs (hs (hs (hs (hs (hs (hs (hs (hs (hs h 7 2 0) 7 3 (-1)) 8 3 0) 6 4 (nI rc)) 6 9 (-1)) 6 10 0) 6 11 0) 6 12 (-6)) 6 13 (-6)) 6 14 0) 6 15 0) 0 (nI p) (nI x) (-1) (-1)) := ((((((((((((KP.refl h).hs (by omega)).hs (by omega)).hs (by omega)).hs (by omega)).hs (by omega)).hs (by omega)).hs (by omega)).hs (by omega)).hs (by omega)).hs (by omega)).hs (by omega)).ent
  have hrc0 : RC rc (entH (hs (hs (hs (hs (hs (hs (hs (hs (hs (hs (hs h 7 2 0) 7 3 (-1)) 8 3 0) 6 4 (nI rc)) 6 9 (-1)) 6 10 0) 6 11 0) 6 12 (-6)) 6 13 (-6)) 6 14 0) 6 15 0) 0 (nI p) (nI x) (-1) (-1)) (aS0 p x) := ⟨0, 1, [], [], rfl, rfl, fun _ => ⟨nI_page p, 0, rfl, Nat.lt_succ_self 0, (ent_at (hs (hs (hs (hs (hs (hs (hs (hs (hs (hs (hs h 7 2 0) 7 3 (-1)) 8 3 0) 6 4 (nI rc)) 6 9 (-1)) 6 10 0) 6 11 0) 6 12 (-6)) 6 13 (-6)) 6 14 0) 6 15 0) 0 (nI p) (nI x) (-1) (-1)).1, Or.inl rfl⟩, fun z => (by cases z), rfl, rfl, rfl, ⟨rfl, rfl, rfl, rfl, fun i hi => (by cases hi)⟩, rfl, rfl, rfl, rfl, fun j nj L z => (by simp at z), (by simp), fun i hi => (by cases hi), Nat.le_refl _, Nat.le_refl _⟩
  exact lp_work l hB hr hrw (some (.inl (nI p))) (some (.inl (nI x))) (some (.inr rc)) RT 9000 (aS0 p x) (entH (hs (hs (hs (hs (hs (hs (hs (hs (hs (hs (hs h 7 2 0) 7 3 (-1)) 8 3 0) 6 4 (nI rc)) 6 9 (-1)) 6 10 0) 6 11 0) 6 12 (-6)) 6 13 (-6)) 6 14 0) 6 15 0) 0 (nI p) (nI x) (-1) (-1)) 0 (show 600 - 3 * 0 + (8000 - 200 * 0) + 0 + 0 < 9000 by decide) (by omega) (hC.kp hk) (hCR.kp hrw hk) (aJ_0 hp hz hx) hrc0 (fun h2 k2 e2 => hR _ _ ⟨rfl, hk.trans k2, e2⟩)
