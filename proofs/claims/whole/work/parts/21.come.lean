/-! The reference's turns: leave, come. -/
theorem nI_page2 (a : Nat) : (40 : Int32) * nI a = nI (40 * a) := nI_mulcl 40 a
set_option maxHeartbeats 4000000 in
theorem m_leave_nil (l : Launch) {sg : Nat → Int32} {sz : Nat → Nat} {r : List Nat} (h : mH) {v : Nat} {K : List (List aF)} {n g u : Nat} {q : List Nat} (hJ : aJ sg sz r (false, 0, v, 0, [], K, n, g, u, q)) (hRM : RM sg h (false, 0, v, 0, [], K, n, g, u, q)) : mG l Sh0 iX8_leave [.inr 10] h (fun v' h' => v' = none ∧ KM h h' ∧ MO sg h' (.inr ((v : Int), -6, -6, n, g, u, q))) := by
  obtain ⟨fr, la, t, d, m8, m15, m19, m32, m33, hch, hb, hb2, m39, m27, m28, ⟨m23, m24, m25, m26, m46⟩, hkp, hfr, hla⟩ := hRM
  have hfr : fr ≤ 2 * n + 0 := hfr
  have m38 : h 10 38 = nI v := hb2 rfl
  have jx : v < 8 := hJ.1
  obtain ⟨rfl, rfl⟩ := hch
  intro RT hR
  show mE l Sh0 none iX8_leave RT 0 [some (.inr 10), none] [] h
  refine e_aload_n (i := 0) dX8_leave_0 rfl rfl ?_
  refine e_getI (x := nI 0) dX8_leave_1 fl_X8_129 sh_10 fj_10_33 m33 ?_
  refine b_if_ne (X := 0) (tgt := 16) (by decide) dX8_leave_4 (by decide) ?_ ?_
  · intro e_4_t c_4_t
    exfalso; omega
  · intro e_4_f c_4_f
    refine e_aload_n (i := 0) dX8_leave_7 rfl rfl ?_
    refine e_aload_n (i := 0) dX8_leave_8 rfl rfl ?_
    refine e_getI (x := nI v) dX8_leave_9 fl_X8_162 sh_10 fj_10_38 m38 ?_
    refine e_putI dX8_leave_12 fl_X8_165 fp_X8_39 sh_10 fj_10_39 ?_
    refine e_ret dX8_leave_15 rfl ?_
    exact hR _ _ ⟨rfl, (KM.refl h).hs (by omega), (by show (nI v).toInt = (v : Int); exact nI_toInt (by omega)), toI_m6 m27, toI_m6 m28, m23, m24, m25, m26, m46⟩
set_option maxHeartbeats 4000000 in
theorem m_leave1 (l : Launch) {sg : Nat → Int32} {ln sz : Nat → Nat} {r : List Nat} (hB : aWB sg ln sz) (h : mH) (hM : MB sg ln sz h) {v pl x k w : Nat} {P : List aF} {K : List (List aF)} {n g u : Nat} {q : List Nat} (hJ : aJ sg sz r (false, 0, v, 0, (pl, x, k, w) :: P, K, n, g, u, q)) (hRM : RM sg h (false, 0, v, 0, (pl, x, k, w) :: P, K, n, g, u, q)) (h64 : (sg pl).toInt = 64) (hz : 0 < sz (4 + 4 * aHd sg pl + 3)) : mG l Sh0 iX8_leave [.inr 10] h (fun v' h' => v' = none ∧ KM h h' ∧ MO sg h' (aTop sg ln sz r v pl x k w P K n g u q)) := by
  obtain ⟨fr, la, t, d, m8, m15, m19, m32, m33, hch, hb, hb2, m39, m27, m28, ⟨m23, m24, m25, m26, m46⟩, hkp, hfr, hla⟩ := hRM
  have hfr : fr ≤ 2 * n + 0 := hfr
  have m38 : h 10 38 = nI v := hb2 rfl
  have jx : v < 8 := hJ.1
  obtain ⟨-, jb, jP, jK, jn, jg, ju, jq, jc, gs, g1, g2, g3, g4⟩ := hJ
  obtain ⟨f1, f2, f3, f4, f5, f6, f7⟩ := jP (pl, x, k, w) List.mem_cons_self
  dsimp only at f1 f2 f3 f4 f5 f6 f7
  have hp8 : pl < 800 := f1.1
  have hsg : h 30 pl = sg pl := hM.1 pl hp8
  have hB9 := hB.2 pl f1
  have h9b := hB9.2.2.2.2.2.2.2.2.1 h64
  have hh : aHd sg pl < 4 := by unfold aHd; omega
  have hsz : h 29 (4 + 4 * aHd sg pl + 3) = nI (sz (4 + 4 * aHd sg pl + 3)) := hM.2.1 _ (by omega)
  have hsz2 := hB.1 (4 + 4 * aHd sg pl + 3) (by omega)
  have h1 : aOf (sg pl).toInt = 1 := by rw [h64]; exact aOf_64
  obtain ⟨-, q2, q3, q4, q5, t', d', q6, q7, q8, hch2⟩ : _ ∧ _ := hch.resolve_right (fun z => z.1 h64)
  dsimp only at q5
  obtain ⟨ht', hd'⟩ := mCh_le hch2
  intro RT hR
  show mE l Sh0 none iX8_leave RT 0 [some (.inr 10), none] [] h
  refine e_aload_n (i := 0) dX8_leave_0 rfl rfl ?_
  refine e_getI (x := nI d) dX8_leave_1 fl_X8_129 sh_10 fj_10_33 m33 ?_
  refine b_if_ne (X := ((d : Nat) : Int)) (tgt := 16) (nI_toInt (by omega)) dX8_leave_4 (by decide) ?_ ?_
  · intro e_4_t c_4_t
    refine e_aload_n (i := 0) dX8_leave_16 rfl rfl ?_
    refine e_getR (r := 40) dX8_leave_17 fl_X8_46 sh_10 fj_10_16 ?_
    refine e_aload_n (i := 0) dX8_leave_20 rfl rfl ?_
    refine e_getI (x := nI d) dX8_leave_21 fl_X8_129 sh_10 fj_10_33 m33 ?_
    refine e_iald (x := nI (aHd sg pl)) dX8_leave_24 sh_40 (vin_ofX (X := ((d : Nat) : Int)) (nI_toInt (by omega)) (by omega) (by omega)) (by rw [nI_clamp (by omega)]; exact q5) ?_
    refine e_istore_n (i := 1) (ls2 := [some (.inr 10), some (.inl (nI (aHd sg pl)))]) dX8_leave_25 rfl (Nat.le_of_ble_eq_true rfl) rfl ?_
    refine e_aload_n (i := 0) dX8_leave_26 rfl rfl ?_
    refine e_aload_n (i := 0) dX8_leave_27 rfl rfl ?_
    refine e_getR (r := 41) dX8_leave_28 fl_X8_49 sh_10 fj_10_17 ?_
    refine e_aload_n (i := 0) dX8_leave_31 rfl rfl ?_
    refine e_getI (x := nI d) dX8_leave_32 fl_X8_129 sh_10 fj_10_33 m33 ?_
    refine e_iald (x := nI t') dX8_leave_35 sh_41 (vin_ofX (X := ((d : Nat) : Int)) (nI_toInt (by omega)) (by omega) (by omega)) (by rw [nI_clamp (by omega)]; exact q6) ?_
    refine e_putI dX8_leave_36 fl_X8_123 fp_X8_32 sh_10 fj_10_32 ?_
    refine e_aload_n (i := 0) dX8_leave_39 rfl rfl ?_
    refine e_aload_n (i := 0) dX8_leave_40 rfl rfl ?_
    refine e_getR (r := 42) dX8_leave_41 fl_X8_52 sh_10 fj_10_18 ?_
    refine e_aload_n (i := 0) dX8_leave_44 rfl rfl ?_
    refine e_getI (x := nI d) dX8_leave_45 fl_X8_129 sh_10 fj_10_33 m33 ?_
    refine e_iald (x := nI d') dX8_leave_48 sh_42 (vin_ofX (X := ((d : Nat) : Int)) (nI_toInt (by omega)) (by omega) (by omega)) (by rw [nI_clamp (by omega)]; exact q7) ?_
    refine e_putI dX8_leave_49 fl_X8_129 fp_X8_33 sh_10 fj_10_33 ?_
    refine e_aload_n (i := 0) dX8_leave_52 rfl rfl ?_
    refine e_iload_n (i := 1) dX8_leave_53 rfl rfl ?_
    refine e_iconst (v := 3) dX8_leave_54 (by decide) ?_
    refine e_invVi (As := [.inl (nI (aHd sg pl)), .inl 3]) (v := 1) (h2 := (hs (hs h 10 32 (nI t')) 10 33 (nI d'))) dX8_leave_55 lk_X8_113 yv_X8_hasClause rfl rfl rfl (Nat.le_of_ble_eq_true rfl) sh_10 ci_X8 (Nat.le_of_ble_eq_true rfl) ⟨Nat.le_of_ble_eq_true rfl, Nat.le_of_ble_eq_true rfl⟩ (k_M_hasClause1 l (hs (hs h 10 32 (nI t')) 10 33 (nI d')) (aHd sg pl) 3 _ hh (by omega) hsz hsz2 hz) ?_
    refine b_if_eq (X := 1) (tgt := 75) (by decide) dX8_leave_58 (by decide) ?_ ?_
    · intro e_58_t c_58_t
      exfalso; omega
    · intro e_58_f c_58_f
      refine e_aload_n (i := 0) dX8_leave_61 rfl rfl ?_
      refine e_iload_n (i := 1) dX8_leave_62 rfl rfl ?_
      refine e_iconst (v := 3) dX8_leave_63 (by decide) ?_
      refine e_invSi (As := [.inl (nI (aHd sg pl)), .inl 3]) (v := nI (4 + 4 * aHd sg pl + 3)) (h2 := (hs (hs h 10 32 (nI t')) 10 33 (nI d'))) dX8_leave_64 lk_X8_109 ys_X8_clauseOf rfl rfl rfl (Nat.le_of_ble_eq_true rfl) (Nat.le_of_ble_eq_true rfl) ⟨Nat.le_of_ble_eq_true rfl, Nat.le_of_ble_eq_true rfl⟩ (k_M_clauseOf l (hs (hs h 10 32 (nI t')) 10 33 (nI d')) (aHd sg pl) 3) ?_
      refine e_aload_n (i := 0) dX8_leave_67 rfl rfl ?_
      refine e_getI (x := nI v) dX8_leave_68 fl_X8_162 sh_10 fj_10_38 m38 ?_
      refine e_iconst (v := 0) dX8_leave_71 (by decide) ?_
      refine e_invVv (As := [.inl (nI (4 + 4 * aHd sg pl + 3)), .inl (nI v), .inl 0]) (h2 := (wkH (hs (hs h 10 32 (nI t')) 10 33 (nI d')) (nI (4 + 4 * aHd sg pl + 3)) (nI v) 0)) (ty := .int) (v := 0) dX8_leave_72 lk_X8_185 yv_X8_work rfl rfl rfl (Nat.le_of_ble_eq_true rfl) sh_10 ci_X8 (Nat.le_of_ble_eq_true rfl) ⟨Nat.le_of_ble_eq_true rfl, Nat.le_of_ble_eq_true rfl⟩ (k_M_work l (hs (hs h 10 32 (nI t')) 10 33 (nI d')) (nI (4 + 4 * aHd sg pl + 3)) (nI v) 0) ?_
      refine e_ret dX8_leave_75 rfl ?_
      have e : aTop sg ln sz r v pl x k w P K n g u q = .inl (true, 40 * (4 + 4 * aHd sg pl + 3), v, 0, P, K, n, g, u, q) := by unfold aTop; rw [if_neg (by omega), if_neg (by omega), if_pos h64, if_pos hz]
      rw [e] at hR
      exact hR _ _ ⟨rfl, (((KM.refl h).hs (by omega)).hs (by omega)).wk, fr, la, t', d', m8, m15, m19, rfl, rfl, mCh_ext (mOld_s (h := h) (h' := (wkH (hs (hs h 10 32 (nI t')) 10 33 (nI d')) (nI (4 + 4 * aHd sg pl + 3)) (nI v) 0)) rfl rfl rfl rfl rfl rfl rfl rfl rfl fr la) (Nat.le_refl _) (Nat.le_refl _) hch2, fun _ => ⟨rfl, nI_page2 _, rfl, rfl⟩, fun z => (by cases z), m39, m27, m28, ⟨m23, m24, m25, m26, m46⟩, (fun j L z => (hkp j L z).imp (fun _ z => z.imp (fun _ z => z.imp (fun _ z => ⟨z.1, z.2.1, z.2.2.1, mSg_ext (mOld_s (h := h) (h' := (wkH (hs (hs h 10 32 (nI t')) 10 33 (nI d')) (nI (4 + 4 * aHd sg pl + 3)) (nI v) 0)) rfl rfl rfl rfl rfl rfl rfl rfl rfl fr la) (Nat.le_refl _) (Nat.le_refl _) z.2.2.2⟩)))), by show fr ≤ 2 * n + 1; omega, hla⟩
  · intro e_4_f c_4_f
    exfalso; omega
set_option maxHeartbeats 4000000 in
theorem m_leave0 (l : Launch) {sg : Nat → Int32} {ln sz : Nat → Nat} {r : List Nat} (hB : aWB sg ln sz) (h : mH) (hM : MB sg ln sz h) {v pl x k w : Nat} {P : List aF} {K : List (List aF)} {n g u : Nat} {q : List Nat} (hJ : aJ sg sz r (false, 0, v, 0, (pl, x, k, w) :: P, K, n, g, u, q)) (hRM : RM sg h (false, 0, v, 0, (pl, x, k, w) :: P, K, n, g, u, q)) (h64 : (sg pl).toInt = 64) (hz : sz (4 + 4 * aHd sg pl + 3) = 0) : mG l Sh0 iX8_leave [.inr 10] h (fun v' h' => v' = none ∧ KM h h' ∧ MO sg h' (aTop sg ln sz r v pl x k w P K n g u q)) := by
  obtain ⟨fr, la, t, d, m8, m15, m19, m32, m33, hch, hb, hb2, m39, m27, m28, ⟨m23, m24, m25, m26, m46⟩, hkp, hfr, hla⟩ := hRM
  have hfr : fr ≤ 2 * n + 0 := hfr
  have m38 : h 10 38 = nI v := hb2 rfl
  have jx : v < 8 := hJ.1
  obtain ⟨-, jb, jP, jK, jn, jg, ju, jq, jc, gs, g1, g2, g3, g4⟩ := hJ
  obtain ⟨f1, f2, f3, f4, f5, f6, f7⟩ := jP (pl, x, k, w) List.mem_cons_self
  dsimp only at f1 f2 f3 f4 f5 f6 f7
  have hp8 : pl < 800 := f1.1
  have hsg : h 30 pl = sg pl := hM.1 pl hp8
  have hB9 := hB.2 pl f1
  have h9b := hB9.2.2.2.2.2.2.2.2.1 h64
  have hh : aHd sg pl < 4 := by unfold aHd; omega
  have hsz : h 29 (4 + 4 * aHd sg pl + 3) = nI (sz (4 + 4 * aHd sg pl + 3)) := hM.2.1 _ (by omega)
  have hsz2 := hB.1 (4 + 4 * aHd sg pl + 3) (by omega)
  have h1 : aOf (sg pl).toInt = 1 := by rw [h64]; exact aOf_64
  obtain ⟨-, q2, q3, q4, q5, t', d', q6, q7, q8, hch2⟩ : _ ∧ _ := hch.resolve_right (fun z => z.1 h64)
  dsimp only at q5
  obtain ⟨ht', hd'⟩ := mCh_le hch2
  intro RT hR
  show mE l Sh0 none iX8_leave RT 0 [some (.inr 10), none] [] h
  refine e_aload_n (i := 0) dX8_leave_0 rfl rfl ?_
  refine e_getI (x := nI d) dX8_leave_1 fl_X8_129 sh_10 fj_10_33 m33 ?_
  refine b_if_ne (X := ((d : Nat) : Int)) (tgt := 16) (nI_toInt (by omega)) dX8_leave_4 (by decide) ?_ ?_
  · intro e_4_t c_4_t
    refine e_aload_n (i := 0) dX8_leave_16 rfl rfl ?_
    refine e_getR (r := 40) dX8_leave_17 fl_X8_46 sh_10 fj_10_16 ?_
    refine e_aload_n (i := 0) dX8_leave_20 rfl rfl ?_
    refine e_getI (x := nI d) dX8_leave_21 fl_X8_129 sh_10 fj_10_33 m33 ?_
    refine e_iald (x := nI (aHd sg pl)) dX8_leave_24 sh_40 (vin_ofX (X := ((d : Nat) : Int)) (nI_toInt (by omega)) (by omega) (by omega)) (by rw [nI_clamp (by omega)]; exact q5) ?_
    refine e_istore_n (i := 1) (ls2 := [some (.inr 10), some (.inl (nI (aHd sg pl)))]) dX8_leave_25 rfl (Nat.le_of_ble_eq_true rfl) rfl ?_
    refine e_aload_n (i := 0) dX8_leave_26 rfl rfl ?_
    refine e_aload_n (i := 0) dX8_leave_27 rfl rfl ?_
    refine e_getR (r := 41) dX8_leave_28 fl_X8_49 sh_10 fj_10_17 ?_
    refine e_aload_n (i := 0) dX8_leave_31 rfl rfl ?_
    refine e_getI (x := nI d) dX8_leave_32 fl_X8_129 sh_10 fj_10_33 m33 ?_
    refine e_iald (x := nI t') dX8_leave_35 sh_41 (vin_ofX (X := ((d : Nat) : Int)) (nI_toInt (by omega)) (by omega) (by omega)) (by rw [nI_clamp (by omega)]; exact q6) ?_
    refine e_putI dX8_leave_36 fl_X8_123 fp_X8_32 sh_10 fj_10_32 ?_
    refine e_aload_n (i := 0) dX8_leave_39 rfl rfl ?_
    refine e_aload_n (i := 0) dX8_leave_40 rfl rfl ?_
    refine e_getR (r := 42) dX8_leave_41 fl_X8_52 sh_10 fj_10_18 ?_
    refine e_aload_n (i := 0) dX8_leave_44 rfl rfl ?_
    refine e_getI (x := nI d) dX8_leave_45 fl_X8_129 sh_10 fj_10_33 m33 ?_
    refine e_iald (x := nI d') dX8_leave_48 sh_42 (vin_ofX (X := ((d : Nat) : Int)) (nI_toInt (by omega)) (by omega) (by omega)) (by rw [nI_clamp (by omega)]; exact q7) ?_
    refine e_putI dX8_leave_49 fl_X8_129 fp_X8_33 sh_10 fj_10_33 ?_
    refine e_aload_n (i := 0) dX8_leave_52 rfl rfl ?_
    refine e_iload_n (i := 1) dX8_leave_53 rfl rfl ?_
    refine e_iconst (v := 3) dX8_leave_54 (by decide) ?_
    refine e_invVi (As := [.inl (nI (aHd sg pl)), .inl 3]) (v := 0) (h2 := (hs (hs h 10 32 (nI t')) 10 33 (nI d'))) dX8_leave_55 lk_X8_113 yv_X8_hasClause rfl rfl rfl (Nat.le_of_ble_eq_true rfl) sh_10 ci_X8 (Nat.le_of_ble_eq_true rfl) ⟨Nat.le_of_ble_eq_true rfl, Nat.le_of_ble_eq_true rfl⟩ (k_M_hasClause0 l (hs (hs h 10 32 (nI t')) 10 33 (nI d')) (aHd sg pl) 3 _ hh (by omega) hsz hz) ?_
    refine b_if_eq (X := 0) (tgt := 75) (by decide) dX8_leave_58 (by decide) ?_ ?_
    · intro e_58_t c_58_t
      refine e_ret dX8_leave_75 rfl ?_
      have e : aTop sg ln sz r v pl x k w P K n g u q = .inl (false, 0, v, 0, P, K, n, g, u, q) := by unfold aTop; rw [if_neg (by omega), if_neg (by omega), if_pos h64, if_neg (by omega)]
      rw [e] at hR
      exact hR _ _ ⟨rfl, ((KM.refl h).hs (by omega)).hs (by omega), fr, la, t', d', m8, m15, m19, rfl, rfl, mCh_ext (mOld_s (h := h) (h' := (hs (hs h 10 32 (nI t')) 10 33 (nI d'))) rfl rfl rfl rfl rfl rfl rfl rfl rfl fr la) (Nat.le_refl _) (Nat.le_refl _) hch2, fun z => (by cases z), fun _ => m38, m39, m27, m28, ⟨m23, m24, m25, m26, m46⟩, (fun j L z => (hkp j L z).imp (fun _ z => z.imp (fun _ z => z.imp (fun _ z => ⟨z.1, z.2.1, z.2.2.1, mSg_ext (mOld_s (h := h) (h' := (hs (hs h 10 32 (nI t')) 10 33 (nI d'))) rfl rfl rfl rfl rfl rfl rfl rfl rfl fr la) (Nat.le_refl _) (Nat.le_refl _) z.2.2.2⟩)))), hfr, hla⟩
    · intro e_58_f c_58_f
      exfalso; omega
  · intro e_4_f c_4_f
    exfalso; omega
set_option maxHeartbeats 4000000 in
theorem m_choose0 (l : Launch) {sg : Nat → Int32} {ln sz : Nat → Nat} {r : List Nat} (hB : aWB sg ln sz) (h : mH) (hM : MB sg ln sz h) {v pl x k w : Nat} {P : List aF} {K : List (List aF)} {n g u : Nat} {q : List Nat} (hJ : aJ sg sz r (false, 0, v, 0, (pl, x, k, w) :: P, K, n, g, u, q)) (hRM : RM sg h (false, 0, v, 0, (pl, x, k, w) :: P, K, n, g, u, q)) (h63 : (sg pl).toInt = 63) (hv : v = 0) : mG l Sh0 iX8_come [.inr 10] h (fun v' h' => v' = none ∧ KM h h' ∧ MO sg h' (aTop sg ln sz r v pl x k w P K n g u q)) := by
  obtain ⟨fr, la, t, d, m8, m15, m19, m32, m33, hch, hb, hb2, m39, m27, m28, ⟨m23, m24, m25, m26, m46⟩, hkp, hfr, hla⟩ := hRM
  have hfr : fr ≤ 2 * n + 0 := hfr
  have m38 : h 10 38 = nI v := hb2 rfl
  have jx : v < 8 := hJ.1
  obtain ⟨-, jb, jP, jK, jn, jg, ju, jq, jc, gs, g1, g2, g3, g4⟩ := hJ
  obtain ⟨f1, f2, f3, f4, f5, f6, f7⟩ := jP (pl, x, k, w) List.mem_cons_self
  dsimp only at f1 f2 f3 f4 f5 f6 f7
  have hp8 : pl < 800 := f1.1
  have hsg : h 30 pl = sg pl := hM.1 pl hp8
  have hB9 := hB.2 pl f1
  have h3 : aOf (sg pl).toInt = 3 := by rw [h63]; exact aOf_is3
  have h64 : (sg pl).toInt ≠ 64 := by omega
  obtain ⟨-, q2, q3, ⟨w1, w2, w3, w4, w5⟩, t', q5, hch2⟩ : _ ∧ _ := hch.resolve_left (fun z => h64 z.1)
  dsimp only at w1 w2 w3 w4 w5
  obtain ⟨ht', hd'⟩ := mCh_le hch2
  have v1 := hB9.2.2.2.1 (by omega)
  rw [show aFs sg pl = pl + 1 from if_neg h64] at v1
  have v2 := hB9.2.2.2.2.2.1 (by omega)
  have s1 : h 31 (pl + 1) = nI (ln (pl + 1)) := hM.2.2 _ v1.1
  have s2 : h 31 (pl + 1 + ln (pl + 1)) = nI (ln (pl + 1 + ln (pl + 1))) := hM.2.2 _ v2.1
  have kP1 : ∀ h2 : mH, h2 30 = h 30 → h2 31 = h 31 → mD l Sh0 iX8_partOf [.inr 10, .inl (nI pl), .inl (nI 1)] h2 (some (nI (pl + 1 + ln (pl + 1)))) h2 := fun h2 e1 e2 => k_M_partOf l h2 sg ln pl 1 hp8 (by rw [e1]; exact hsg) h64 (by omega) (fun j hj => by
    obtain rfl : j = 0 := by omega
    exact ⟨v1.1.1, by rw [e2]; exact s1⟩)
  have kP2 : ∀ h2 : mH, h2 30 = h 30 → h2 31 = h 31 → mD l Sh0 iX8_partOf [.inr 10, .inl (nI pl), .inl (nI 2)] h2 (some (nI (pl + 1 + ln (pl + 1) + ln (pl + 1 + ln (pl + 1))))) h2 := fun h2 e1 e2 => k_M_partOf l h2 sg ln pl 2 hp8 (by rw [e1]; exact hsg) h64 (by omega) (fun j hj => by
    rcases (show j = 0 ∨ j = 1 by omega) with rfl | rfl
    · exact ⟨v1.1.1, by rw [e2]; exact s1⟩
    · exact ⟨v2.1.1, by rw [e2]; exact s2⟩)
  intro RT hR
  show mE l Sh0 none iX8_come RT 0 [some (.inr 10), none, none, none] [] h
  refine e_aload_n (i := 0) dX8_come_0 rfl rfl ?_
  refine e_getI (x := nI t) dX8_come_1 fl_X8_123 sh_10 fj_10_32 m32 ?_
  refine e_istore_n (i := 1) (ls2 := [some (.inr 10), some (.inl (nI t)), none, none]) dX8_come_4 rfl (Nat.le_of_ble_eq_true rfl) rfl ?_
  refine e_aload_n (i := 0) dX8_come_5 rfl rfl ?_
  refine e_getR (r := 34) dX8_come_6 fl_X8_28 sh_10 fj_10_9 ?_
  refine e_iload_n (i := 1) dX8_come_9 rfl rfl ?_
  refine e_iald (x := nI pl) dX8_come_10 sh_34 (vin_ofX (X := ((t : Nat) : Int)) (nI_toInt (by omega)) (by omega) (by omega)) (by rw [nI_clamp (by omega)]; exact w1) ?_
  refine e_istore_n (i := 2) (ls2 := [some (.inr 10), some (.inl (nI t)), some (.inl (nI pl)), none]) dX8_come_11 rfl (Nat.le_of_ble_eq_true rfl) rfl ?_
  refine e_aload_n (i := 0) dX8_come_12 rfl rfl ?_
  refine e_getR (r := 30) dX8_come_13 fl_X8_16 sh_10 fj_10_3 ?_
  refine e_iload_n (i := 2) dX8_come_16 rfl rfl ?_
  refine e_iald (x := sg pl) dX8_come_17 sh_30 (vin_ofX (X := ((pl : Nat) : Int)) (nI_toInt (by omega)) (by omega) (by omega)) (by rw [nI_clamp (by omega)]; exact hsg) ?_
  refine e_istore_n (i := 3) (ls2 := [some (.inr 10), some (.inl (nI t)), some (.inl (nI pl)), some (.inl (sg pl))]) dX8_come_18 rfl (Nat.le_of_ble_eq_true rfl) rfl ?_
  refine e_aload_n (i := 0) dX8_come_19 rfl rfl ?_
  refine e_aload_n (i := 0) dX8_come_20 rfl rfl ?_
  refine e_getR (r := 39) dX8_come_21 fl_X8_43 sh_10 fj_10_14 ?_
  refine e_iload_n (i := 1) dX8_come_24 rfl rfl ?_
  refine e_iald (x := nI t') dX8_come_25 sh_39 (vin_ofX (X := ((t : Nat) : Int)) (nI_toInt (by omega)) (by omega) (by omega)) (by rw [nI_clamp (by omega)]; exact q5) ?_
  refine e_putI dX8_come_26 fl_X8_123 fp_X8_32 sh_10 fj_10_32 ?_
  refine e_aload_n (i := 0) dX8_come_29 rfl rfl ?_
  refine e_aload_n (i := 0) dX8_come_30 rfl rfl ?_
  refine e_getR (r := 36) dX8_come_31 fl_X8_34 sh_10 fj_10_11 ?_
  refine e_iload_n (i := 1) dX8_come_34 rfl rfl ?_
  refine e_iald (x := nI x) dX8_come_35 sh_36 (vin_ofX (X := ((t : Nat) : Int)) (nI_toInt (by omega)) (by omega) (by omega)) (by rw [nI_clamp (by omega)]; exact w3) ?_
  refine e_putI dX8_come_36 fl_X8_156 fp_X8_36 sh_10 fj_10_36 ?_
  refine e_aload_n (i := 0) dX8_come_39 rfl rfl ?_
  refine e_aload_n (i := 0) dX8_come_40 rfl rfl ?_
  refine e_getR (r := 37) dX8_come_41 fl_X8_37 sh_10 fj_10_12 ?_
  refine e_iload_n (i := 1) dX8_come_44 rfl rfl ?_
  refine e_iald (x := nI k) dX8_come_45 sh_37 (vin_ofX (X := ((t : Nat) : Int)) (nI_toInt (by omega)) (by omega) (by omega)) (by rw [nI_clamp (by omega)]; exact w4) ?_
  refine e_putI dX8_come_46 fl_X8_159 fp_X8_37 sh_10 fj_10_37 ?_
  refine e_iload_n (i := 3) dX8_come_49 rfl rfl ?_
  refine e_bipush (v := 63) dX8_come_50 (by decide) ?_
  refine b_icmp_ne (X := (sg pl).toInt) (Y := 63) (tgt := 85) rfl (by decide) dX8_come_52 (by decide) ?_ ?_
  · intro e_52_t c_52_t
    exfalso; omega
  · intro e_52_f c_52_f
    refine e_aload_n (i := 0) dX8_come_55 rfl rfl ?_
    refine e_aload_n (i := 0) dX8_come_56 rfl rfl ?_
    refine e_iload_n (i := 2) dX8_come_57 rfl rfl ?_
    refine e_aload_n (i := 0) dX8_come_58 rfl rfl ?_
    refine e_getI (x := nI v) dX8_come_59 fl_X8_162 sh_10 fj_10_38 m38 ?_
    refine b_if_ne (X := ((v : Nat) : Int)) (tgt := 69) (nI_toInt (by omega)) dX8_come_62 (by decide) ?_ ?_
    · intro e_62_t c_62_t
      exfalso; omega
    · intro e_62_f c_62_f
      refine e_iconst (v := 1) dX8_come_65 (by decide) ?_
      refine e_goto (tgt := 70) dX8_come_66 (by decide) ?_
      refine e_invVi (As := [.inl (nI pl), .inl 1]) (v := nI (pl + 1 + ln (pl + 1))) (h2 := (hs (hs (hs h 10 32 (nI t')) 10 36 (nI x)) 10 37 (nI k))) dX8_come_70 lk_X8_189 yv_X8_partOf rfl rfl rfl (Nat.le_of_ble_eq_true rfl) sh_10 ci_X8 (Nat.le_of_ble_eq_true rfl) ⟨Nat.le_of_ble_eq_true rfl, Nat.le_of_ble_eq_true rfl⟩ (kP1 (hs (hs (hs h 10 32 (nI t')) 10 36 (nI x)) 10 37 (nI k)) rfl rfl) ?_
      refine e_putI dX8_come_73 fl_X8_153 fp_X8_35 sh_10 fj_10_35 ?_
      refine e_aload_n (i := 0) dX8_come_76 rfl rfl ?_
      refine e_bipush (v := (-6)) dX8_come_77 (by decide) ?_
      refine e_putI dX8_come_79 fl_X8_162 fp_X8_38 sh_10 fj_10_38 ?_
      refine e_goto (tgt := 229) dX8_come_82 (by decide) ?_
      refine e_ret dX8_come_229 rfl ?_
      have e : aTop sg ln sz r v pl x k w P K n g u q = .inl (true, pl + 1 + ln (pl + 1), x, k, P, K, n, g, u, q) := by unfold aTop; rw [if_neg (by omega), if_pos h63, if_pos hv]
      rw [e] at hR
      exact hR _ _ ⟨rfl, (((((KM.refl h).hs (by omega)).hs (by omega)).hs (by omega)).hs (by omega)).hs (by omega), fr, la, t', d, m8, m15, m19, rfl, m33, mCh_ext (mOld_s (h := h) (h' := (hs (hs (hs (hs (hs h 10 32 (nI t')) 10 36 (nI x)) 10 37 (nI k)) 10 35 (nI (pl + 1 + ln (pl + 1)))) 10 38 (-6))) rfl rfl rfl rfl rfl rfl rfl rfl rfl fr la) (Nat.le_refl _) (Nat.le_refl _) hch2, fun _ => ⟨rfl, rfl, rfl, rfl⟩, fun z => (by cases z), m39, m27, m28, ⟨m23, m24, m25, m26, m46⟩, (fun j L z => (hkp j L z).imp (fun _ z => z.imp (fun _ z => z.imp (fun _ z => ⟨z.1, z.2.1, z.2.2.1, mSg_ext (mOld_s (h := h) (h' := (hs (hs (hs (hs (hs h 10 32 (nI t')) 10 36 (nI x)) 10 37 (nI k)) 10 35 (nI (pl + 1 + ln (pl + 1)))) 10 38 (-6))) rfl rfl rfl rfl rfl rfl rfl rfl rfl fr la) (Nat.le_refl _) (Nat.le_refl _) z.2.2.2⟩)))), by show fr ≤ 2 * n + 1; omega, hla⟩
set_option maxHeartbeats 4000000 in
theorem m_choose1 (l : Launch) {sg : Nat → Int32} {ln sz : Nat → Nat} {r : List Nat} (hB : aWB sg ln sz) (h : mH) (hM : MB sg ln sz h) {v pl x k w : Nat} {P : List aF} {K : List (List aF)} {n g u : Nat} {q : List Nat} (hJ : aJ sg sz r (false, 0, v, 0, (pl, x, k, w) :: P, K, n, g, u, q)) (hRM : RM sg h (false, 0, v, 0, (pl, x, k, w) :: P, K, n, g, u, q)) (h63 : (sg pl).toInt = 63) (hv : v ≠ 0) : mG l Sh0 iX8_come [.inr 10] h (fun v' h' => v' = none ∧ KM h h' ∧ MO sg h' (aTop sg ln sz r v pl x k w P K n g u q)) := by
  obtain ⟨fr, la, t, d, m8, m15, m19, m32, m33, hch, hb, hb2, m39, m27, m28, ⟨m23, m24, m25, m26, m46⟩, hkp, hfr, hla⟩ := hRM
  have hfr : fr ≤ 2 * n + 0 := hfr
  have m38 : h 10 38 = nI v := hb2 rfl
  have jx : v < 8 := hJ.1
  obtain ⟨-, jb, jP, jK, jn, jg, ju, jq, jc, gs, g1, g2, g3, g4⟩ := hJ
  obtain ⟨f1, f2, f3, f4, f5, f6, f7⟩ := jP (pl, x, k, w) List.mem_cons_self
  dsimp only at f1 f2 f3 f4 f5 f6 f7
  have hp8 : pl < 800 := f1.1
  have hsg : h 30 pl = sg pl := hM.1 pl hp8
  have hB9 := hB.2 pl f1
  have h3 : aOf (sg pl).toInt = 3 := by rw [h63]; exact aOf_is3
  have h64 : (sg pl).toInt ≠ 64 := by omega
  obtain ⟨-, q2, q3, ⟨w1, w2, w3, w4, w5⟩, t', q5, hch2⟩ : _ ∧ _ := hch.resolve_left (fun z => h64 z.1)
  dsimp only at w1 w2 w3 w4 w5
  obtain ⟨ht', hd'⟩ := mCh_le hch2
  have v1 := hB9.2.2.2.1 (by omega)
  rw [show aFs sg pl = pl + 1 from if_neg h64] at v1
  have v2 := hB9.2.2.2.2.2.1 (by omega)
  have s1 : h 31 (pl + 1) = nI (ln (pl + 1)) := hM.2.2 _ v1.1
  have s2 : h 31 (pl + 1 + ln (pl + 1)) = nI (ln (pl + 1 + ln (pl + 1))) := hM.2.2 _ v2.1
  have kP1 : ∀ h2 : mH, h2 30 = h 30 → h2 31 = h 31 → mD l Sh0 iX8_partOf [.inr 10, .inl (nI pl), .inl (nI 1)] h2 (some (nI (pl + 1 + ln (pl + 1)))) h2 := fun h2 e1 e2 => k_M_partOf l h2 sg ln pl 1 hp8 (by rw [e1]; exact hsg) h64 (by omega) (fun j hj => by
    obtain rfl : j = 0 := by omega
    exact ⟨v1.1.1, by rw [e2]; exact s1⟩)
  have kP2 : ∀ h2 : mH, h2 30 = h 30 → h2 31 = h 31 → mD l Sh0 iX8_partOf [.inr 10, .inl (nI pl), .inl (nI 2)] h2 (some (nI (pl + 1 + ln (pl + 1) + ln (pl + 1 + ln (pl + 1))))) h2 := fun h2 e1 e2 => k_M_partOf l h2 sg ln pl 2 hp8 (by rw [e1]; exact hsg) h64 (by omega) (fun j hj => by
    rcases (show j = 0 ∨ j = 1 by omega) with rfl | rfl
    · exact ⟨v1.1.1, by rw [e2]; exact s1⟩
    · exact ⟨v2.1.1, by rw [e2]; exact s2⟩)
  intro RT hR
  show mE l Sh0 none iX8_come RT 0 [some (.inr 10), none, none, none] [] h
  refine e_aload_n (i := 0) dX8_come_0 rfl rfl ?_
  refine e_getI (x := nI t) dX8_come_1 fl_X8_123 sh_10 fj_10_32 m32 ?_
  refine e_istore_n (i := 1) (ls2 := [some (.inr 10), some (.inl (nI t)), none, none]) dX8_come_4 rfl (Nat.le_of_ble_eq_true rfl) rfl ?_
  refine e_aload_n (i := 0) dX8_come_5 rfl rfl ?_
  refine e_getR (r := 34) dX8_come_6 fl_X8_28 sh_10 fj_10_9 ?_
  refine e_iload_n (i := 1) dX8_come_9 rfl rfl ?_
  refine e_iald (x := nI pl) dX8_come_10 sh_34 (vin_ofX (X := ((t : Nat) : Int)) (nI_toInt (by omega)) (by omega) (by omega)) (by rw [nI_clamp (by omega)]; exact w1) ?_
  refine e_istore_n (i := 2) (ls2 := [some (.inr 10), some (.inl (nI t)), some (.inl (nI pl)), none]) dX8_come_11 rfl (Nat.le_of_ble_eq_true rfl) rfl ?_
  refine e_aload_n (i := 0) dX8_come_12 rfl rfl ?_
  refine e_getR (r := 30) dX8_come_13 fl_X8_16 sh_10 fj_10_3 ?_
  refine e_iload_n (i := 2) dX8_come_16 rfl rfl ?_
  refine e_iald (x := sg pl) dX8_come_17 sh_30 (vin_ofX (X := ((pl : Nat) : Int)) (nI_toInt (by omega)) (by omega) (by omega)) (by rw [nI_clamp (by omega)]; exact hsg) ?_
  refine e_istore_n (i := 3) (ls2 := [some (.inr 10), some (.inl (nI t)), some (.inl (nI pl)), some (.inl (sg pl))]) dX8_come_18 rfl (Nat.le_of_ble_eq_true rfl) rfl ?_
  refine e_aload_n (i := 0) dX8_come_19 rfl rfl ?_
  refine e_aload_n (i := 0) dX8_come_20 rfl rfl ?_
  refine e_getR (r := 39) dX8_come_21 fl_X8_43 sh_10 fj_10_14 ?_
  refine e_iload_n (i := 1) dX8_come_24 rfl rfl ?_
  refine e_iald (x := nI t') dX8_come_25 sh_39 (vin_ofX (X := ((t : Nat) : Int)) (nI_toInt (by omega)) (by omega) (by omega)) (by rw [nI_clamp (by omega)]; exact q5) ?_
  refine e_putI dX8_come_26 fl_X8_123 fp_X8_32 sh_10 fj_10_32 ?_
  refine e_aload_n (i := 0) dX8_come_29 rfl rfl ?_
  refine e_aload_n (i := 0) dX8_come_30 rfl rfl ?_
  refine e_getR (r := 36) dX8_come_31 fl_X8_34 sh_10 fj_10_11 ?_
  refine e_iload_n (i := 1) dX8_come_34 rfl rfl ?_
  refine e_iald (x := nI x) dX8_come_35 sh_36 (vin_ofX (X := ((t : Nat) : Int)) (nI_toInt (by omega)) (by omega) (by omega)) (by rw [nI_clamp (by omega)]; exact w3) ?_
  refine e_putI dX8_come_36 fl_X8_156 fp_X8_36 sh_10 fj_10_36 ?_
  refine e_aload_n (i := 0) dX8_come_39 rfl rfl ?_
  refine e_aload_n (i := 0) dX8_come_40 rfl rfl ?_
  refine e_getR (r := 37) dX8_come_41 fl_X8_37 sh_10 fj_10_12 ?_
  refine e_iload_n (i := 1) dX8_come_44 rfl rfl ?_
  refine e_iald (x := nI k) dX8_come_45 sh_37 (vin_ofX (X := ((t : Nat) : Int)) (nI_toInt (by omega)) (by omega) (by omega)) (by rw [nI_clamp (by omega)]; exact w4) ?_
  refine e_putI dX8_come_46 fl_X8_159 fp_X8_37 sh_10 fj_10_37 ?_
  refine e_iload_n (i := 3) dX8_come_49 rfl rfl ?_
  refine e_bipush (v := 63) dX8_come_50 (by decide) ?_
  refine b_icmp_ne (X := (sg pl).toInt) (Y := 63) (tgt := 85) rfl (by decide) dX8_come_52 (by decide) ?_ ?_
  · intro e_52_t c_52_t
    exfalso; omega
  · intro e_52_f c_52_f
    refine e_aload_n (i := 0) dX8_come_55 rfl rfl ?_
    refine e_aload_n (i := 0) dX8_come_56 rfl rfl ?_
    refine e_iload_n (i := 2) dX8_come_57 rfl rfl ?_
    refine e_aload_n (i := 0) dX8_come_58 rfl rfl ?_
    refine e_getI (x := nI v) dX8_come_59 fl_X8_162 sh_10 fj_10_38 m38 ?_
    refine b_if_ne (X := ((v : Nat) : Int)) (tgt := 69) (nI_toInt (by omega)) dX8_come_62 (by decide) ?_ ?_
    · intro e_62_t c_62_t
      refine e_iconst (v := 2) dX8_come_69 (by decide) ?_
      refine e_invVi (As := [.inl (nI pl), .inl 2]) (v := nI (pl + 1 + ln (pl + 1) + ln (pl + 1 + ln (pl + 1)))) (h2 := (hs (hs (hs h 10 32 (nI t')) 10 36 (nI x)) 10 37 (nI k))) dX8_come_70 lk_X8_189 yv_X8_partOf rfl rfl rfl (Nat.le_of_ble_eq_true rfl) sh_10 ci_X8 (Nat.le_of_ble_eq_true rfl) ⟨Nat.le_of_ble_eq_true rfl, Nat.le_of_ble_eq_true rfl⟩ (kP2 (hs (hs (hs h 10 32 (nI t')) 10 36 (nI x)) 10 37 (nI k)) rfl rfl) ?_
      refine e_putI dX8_come_73 fl_X8_153 fp_X8_35 sh_10 fj_10_35 ?_
      refine e_aload_n (i := 0) dX8_come_76 rfl rfl ?_
      refine e_bipush (v := (-6)) dX8_come_77 (by decide) ?_
      refine e_putI dX8_come_79 fl_X8_162 fp_X8_38 sh_10 fj_10_38 ?_
      refine e_goto (tgt := 229) dX8_come_82 (by decide) ?_
      refine e_ret dX8_come_229 rfl ?_
      have e : aTop sg ln sz r v pl x k w P K n g u q = .inl (true, pl + 1 + ln (pl + 1) + ln (pl + 1 + ln (pl + 1)), x, k, P, K, n, g, u, q) := by unfold aTop; rw [if_neg (by omega), if_pos h63, if_neg hv]
      rw [e] at hR
      exact hR _ _ ⟨rfl, (((((KM.refl h).hs (by omega)).hs (by omega)).hs (by omega)).hs (by omega)).hs (by omega), fr, la, t', d, m8, m15, m19, rfl, m33, mCh_ext (mOld_s (h := h) (h' := (hs (hs (hs (hs (hs h 10 32 (nI t')) 10 36 (nI x)) 10 37 (nI k)) 10 35 (nI (pl + 1 + ln (pl + 1) + ln (pl + 1 + ln (pl + 1))))) 10 38 (-6))) rfl rfl rfl rfl rfl rfl rfl rfl rfl fr la) (Nat.le_refl _) (Nat.le_refl _) hch2, fun _ => ⟨rfl, rfl, rfl, rfl⟩, fun z => (by cases z), m39, m27, m28, ⟨m23, m24, m25, m26, m46⟩, (fun j L z => (hkp j L z).imp (fun _ z => z.imp (fun _ z => z.imp (fun _ z => ⟨z.1, z.2.1, z.2.2.1, mSg_ext (mOld_s (h := h) (h' := (hs (hs (hs (hs (hs h 10 32 (nI t')) 10 36 (nI x)) 10 37 (nI k)) 10 35 (nI (pl + 1 + ln (pl + 1) + ln (pl + 1 + ln (pl + 1))))) 10 38 (-6))) rfl rfl rfl rfl rfl rfl rfl rfl rfl fr la) (Nat.le_refl _) (Nat.le_refl _) z.2.2.2⟩)))), by show fr ≤ 2 * n + 1; omega, hla⟩
    · intro e_62_f c_62_f
      exfalso; omega
set_option maxHeartbeats 4000000 in
theorem m_hold (l : Launch) {sg : Nat → Int32} {ln sz : Nat → Nat} {r : List Nat} (hB : aWB sg ln sz) (h : mH) (hM : MB sg ln sz h) {v pl x k w : Nat} {P : List aF} {K : List (List aF)} {n g u : Nat} {q : List Nat} (hJ : aJ sg sz r (false, 0, v, 0, (pl, x, k, w) :: P, K, n, g, u, q)) (hRM : RM sg h (false, 0, v, 0, (pl, x, k, w) :: P, K, n, g, u, q)) (h2 : aOf (sg pl).toInt = 2) (hw0 : w = 0) : mG l Sh0 iX8_come [.inr 10] h (fun v' h' => v' = none ∧ KM h h' ∧ MO sg h' (aTop sg ln sz r v pl x k w P K n g u q)) := by
  obtain ⟨fr, la, t, d, m8, m15, m19, m32, m33, hch, hb, hb2, m39, m27, m28, ⟨m23, m24, m25, m26, m46⟩, hkp, hfr, hla⟩ := hRM
  have hfr : fr ≤ 2 * n + 0 := hfr
  have m38 : h 10 38 = nI v := hb2 rfl
  have jx : v < 8 := hJ.1
  obtain ⟨-, jb, jP, jK, jn, jg, ju, jq, jc, gs, g1, g2, g3, g4⟩ := hJ
  obtain ⟨f1, f2, f3, f4, f5, f6, f7⟩ := jP (pl, x, k, w) List.mem_cons_self
  dsimp only at f1 f2 f3 f4 f5 f6 f7
  have hp8 : pl < 800 := f1.1
  have hsg : h 30 pl = sg pl := hM.1 pl hp8
  have hB9 := hB.2 pl f1
  have h2c := aOf_2 h2
  have h64 : (sg pl).toInt ≠ 64 := by omega
  obtain ⟨-, q2, q3, ⟨w1, w2, w3, w4, w5⟩, t', q5, hch2⟩ : _ ∧ _ := hch.resolve_left (fun z => h64 z.1)
  dsimp only at w1 w2 w3 w4 w5
  obtain ⟨ht', hd'⟩ := mCh_le hch2
  subst hw0
  have v1 := hB9.2.2.2.1 (by omega)
  rw [show aFs sg pl = pl + 1 from if_neg h64] at v1
  have v2 := hB9.2.2.2.2.2.1 (by omega)
  have s1 : h 31 (pl + 1) = nI (ln (pl + 1)) := hM.2.2 _ v1.1
  have s2 : h 31 (pl + 1 + ln (pl + 1)) = nI (ln (pl + 1 + ln (pl + 1))) := hM.2.2 _ v2.1
  have kP1 : ∀ h2 : mH, h2 30 = h 30 → h2 31 = h 31 → mD l Sh0 iX8_partOf [.inr 10, .inl (nI pl), .inl (nI 1)] h2 (some (nI (pl + 1 + ln (pl + 1)))) h2 := fun h2 e1 e2 => k_M_partOf l h2 sg ln pl 1 hp8 (by rw [e1]; exact hsg) h64 (by omega) (fun j hj => by
    obtain rfl : j = 0 := by omega
    exact ⟨v1.1.1, by rw [e2]; exact s1⟩)
  have kP2 : ∀ h2 : mH, h2 30 = h 30 → h2 31 = h 31 → mD l Sh0 iX8_partOf [.inr 10, .inl (nI pl), .inl (nI 2)] h2 (some (nI (pl + 1 + ln (pl + 1) + ln (pl + 1 + ln (pl + 1))))) h2 := fun h2 e1 e2 => k_M_partOf l h2 sg ln pl 2 hp8 (by rw [e1]; exact hsg) h64 (by omega) (fun j hj => by
    rcases (show j = 0 ∨ j = 1 by omega) with rfl | rfl
    · exact ⟨v1.1.1, by rw [e2]; exact s1⟩
    · exact ⟨v2.1.1, by rw [e2]; exact s2⟩)
  intro RT hR
  show mE l Sh0 none iX8_come RT 0 [some (.inr 10), none, none, none] [] h
  refine e_aload_n (i := 0) dX8_come_0 rfl rfl ?_
  refine e_getI (x := nI t) dX8_come_1 fl_X8_123 sh_10 fj_10_32 m32 ?_
  refine e_istore_n (i := 1) (ls2 := [some (.inr 10), some (.inl (nI t)), none, none]) dX8_come_4 rfl (Nat.le_of_ble_eq_true rfl) rfl ?_
  refine e_aload_n (i := 0) dX8_come_5 rfl rfl ?_
  refine e_getR (r := 34) dX8_come_6 fl_X8_28 sh_10 fj_10_9 ?_
  refine e_iload_n (i := 1) dX8_come_9 rfl rfl ?_
  refine e_iald (x := nI pl) dX8_come_10 sh_34 (vin_ofX (X := ((t : Nat) : Int)) (nI_toInt (by omega)) (by omega) (by omega)) (by rw [nI_clamp (by omega)]; exact w1) ?_
  refine e_istore_n (i := 2) (ls2 := [some (.inr 10), some (.inl (nI t)), some (.inl (nI pl)), none]) dX8_come_11 rfl (Nat.le_of_ble_eq_true rfl) rfl ?_
  refine e_aload_n (i := 0) dX8_come_12 rfl rfl ?_
  refine e_getR (r := 30) dX8_come_13 fl_X8_16 sh_10 fj_10_3 ?_
  refine e_iload_n (i := 2) dX8_come_16 rfl rfl ?_
  refine e_iald (x := sg pl) dX8_come_17 sh_30 (vin_ofX (X := ((pl : Nat) : Int)) (nI_toInt (by omega)) (by omega) (by omega)) (by rw [nI_clamp (by omega)]; exact hsg) ?_
  refine e_istore_n (i := 3) (ls2 := [some (.inr 10), some (.inl (nI t)), some (.inl (nI pl)), some (.inl (sg pl))]) dX8_come_18 rfl (Nat.le_of_ble_eq_true rfl) rfl ?_
  refine e_aload_n (i := 0) dX8_come_19 rfl rfl ?_
  refine e_aload_n (i := 0) dX8_come_20 rfl rfl ?_
  refine e_getR (r := 39) dX8_come_21 fl_X8_43 sh_10 fj_10_14 ?_
  refine e_iload_n (i := 1) dX8_come_24 rfl rfl ?_
  refine e_iald (x := nI t') dX8_come_25 sh_39 (vin_ofX (X := ((t : Nat) : Int)) (nI_toInt (by omega)) (by omega) (by omega)) (by rw [nI_clamp (by omega)]; exact q5) ?_
  refine e_putI dX8_come_26 fl_X8_123 fp_X8_32 sh_10 fj_10_32 ?_
  refine e_aload_n (i := 0) dX8_come_29 rfl rfl ?_
  refine e_aload_n (i := 0) dX8_come_30 rfl rfl ?_
  refine e_getR (r := 36) dX8_come_31 fl_X8_34 sh_10 fj_10_11 ?_
  refine e_iload_n (i := 1) dX8_come_34 rfl rfl ?_
  refine e_iald (x := nI x) dX8_come_35 sh_36 (vin_ofX (X := ((t : Nat) : Int)) (nI_toInt (by omega)) (by omega) (by omega)) (by rw [nI_clamp (by omega)]; exact w3) ?_
  refine e_putI dX8_come_36 fl_X8_156 fp_X8_36 sh_10 fj_10_36 ?_
  refine e_aload_n (i := 0) dX8_come_39 rfl rfl ?_
  refine e_aload_n (i := 0) dX8_come_40 rfl rfl ?_
  refine e_getR (r := 37) dX8_come_41 fl_X8_37 sh_10 fj_10_12 ?_
  refine e_iload_n (i := 1) dX8_come_44 rfl rfl ?_
  refine e_iald (x := nI k) dX8_come_45 sh_37 (vin_ofX (X := ((t : Nat) : Int)) (nI_toInt (by omega)) (by omega) (by omega)) (by rw [nI_clamp (by omega)]; exact w4) ?_
  refine e_putI dX8_come_46 fl_X8_159 fp_X8_37 sh_10 fj_10_37 ?_
  refine e_iload_n (i := 3) dX8_come_49 rfl rfl ?_
  refine e_bipush (v := 63) dX8_come_50 (by decide) ?_
  refine b_icmp_ne (X := (sg pl).toInt) (Y := 63) (tgt := 85) rfl (by decide) dX8_come_52 (by decide) ?_ ?_
  · intro e_52_t c_52_t
    refine e_iload_n (i := 3) dX8_come_85 rfl rfl ?_
    refine e_bipush (v := 107) dX8_come_86 (by decide) ?_
    refine b_icmp_ne (X := (sg pl).toInt) (Y := 107) (tgt := 136) rfl (by decide) dX8_come_88 (by decide) ?_ ?_
    · intro e_88_t c_88_t
      refine e_iload_n (i := 3) dX8_come_136 rfl rfl ?_
      refine e_bipush (v := 112) dX8_come_137 (by decide) ?_
      refine b_icmp_eq (X := (sg pl).toInt) (Y := 112) (tgt := 154) rfl (by decide) dX8_come_139 (by decide) ?_ ?_
      · intro e_139_t c_139_t
        exfalso; omega
      · intro e_139_f c_139_f
        refine e_iload_n (i := 3) dX8_come_142 rfl rfl ?_
        refine e_bipush (v := 113) dX8_come_143 (by decide) ?_
        refine b_icmp_eq (X := (sg pl).toInt) (Y := 113) (tgt := 154) rfl (by decide) dX8_come_145 (by decide) ?_ ?_
        · intro e_145_t c_145_t
          exfalso; omega
        · intro e_145_f c_145_f
          refine e_iload_n (i := 3) dX8_come_148 rfl rfl ?_
          refine e_bipush (v := 114) dX8_come_149 (by decide) ?_
          refine b_icmp_ne (X := (sg pl).toInt) (Y := 114) (tgt := 165) rfl (by decide) dX8_come_151 (by decide) ?_ ?_
          · intro e_151_t c_151_t
            refine e_aload_n (i := 0) dX8_come_165 rfl rfl ?_
            refine e_getR (r := 35) dX8_come_166 fl_X8_31 sh_10 fj_10_10 ?_
            refine e_iload_n (i := 1) dX8_come_169 rfl rfl ?_
            refine e_iald (x := nI 0) dX8_come_170 sh_35 (vin_ofX (X := ((t : Nat) : Int)) (nI_toInt (by omega)) (by omega) (by omega)) (by rw [nI_clamp (by omega)]; exact w2) ?_
            refine b_if_ne (X := 0) (tgt := 211) (by decide) dX8_come_171 (by decide) ?_ ?_
            · intro e_171_t c_171_t
              exfalso; omega
            · intro e_171_f c_171_f
              refine e_aload_n (i := 0) dX8_come_174 rfl rfl ?_
              refine e_iload_n (i := 2) dX8_come_175 rfl rfl ?_
              refine e_iconst (v := 1) dX8_come_176 (by decide) ?_
              refine e_aload_n (i := 0) dX8_come_177 rfl rfl ?_
              refine e_getI (x := nI x) dX8_come_178 fl_X8_156 sh_10 fj_10_36 rfl ?_
              refine e_aload_n (i := 0) dX8_come_181 rfl rfl ?_
              refine e_getI (x := nI k) dX8_come_182 fl_X8_159 sh_10 fj_10_37 rfl ?_
              refine e_aload_n (i := 0) dX8_come_185 rfl rfl ?_
              refine e_getI (x := nI v) dX8_come_186 fl_X8_162 sh_10 fj_10_38 m38 ?_
              refine e_invVv (As := [.inl (nI pl), .inl 1, .inl (nI x), .inl (nI k), .inl (nI v)]) (h2 := (wtH (hs (hs (hs h 10 32 (nI t')) 10 36 (nI x)) 10 37 (nI k)) fr (nI pl) 1 (nI x) (nI k) (nI v))) (ty := .int) (v := 0) dX8_come_189 lk_X8_181 yv_X8_wait rfl rfl rfl (Nat.le_of_ble_eq_true rfl) sh_10 ci_X8 (Nat.le_of_ble_eq_true rfl) ⟨Nat.le_of_ble_eq_true rfl, Nat.le_of_ble_eq_true rfl⟩ (k_M_wait l (hs (hs (hs h 10 32 (nI t')) 10 36 (nI x)) 10 37 (nI k)) fr m8 (by omega) (nI pl) 1 (nI x) (nI k) (nI v)) ?_
              refine e_aload_n (i := 0) dX8_come_192 rfl rfl ?_
              refine e_aload_n (i := 0) dX8_come_193 rfl rfl ?_
              refine e_iload_n (i := 2) dX8_come_194 rfl rfl ?_
              refine e_iconst (v := 1) dX8_come_195 (by decide) ?_
              refine e_invVi (As := [.inl (nI pl), .inl 1]) (v := nI (pl + 1 + ln (pl + 1))) (h2 := (wtH (hs (hs (hs h 10 32 (nI t')) 10 36 (nI x)) 10 37 (nI k)) fr (nI pl) 1 (nI x) (nI k) (nI v))) dX8_come_196 lk_X8_189 yv_X8_partOf rfl rfl rfl (Nat.le_of_ble_eq_true rfl) sh_10 ci_X8 (Nat.le_of_ble_eq_true rfl) ⟨Nat.le_of_ble_eq_true rfl, Nat.le_of_ble_eq_true rfl⟩ (kP1 (wtH (hs (hs (hs h 10 32 (nI t')) 10 36 (nI x)) 10 37 (nI k)) fr (nI pl) 1 (nI x) (nI k) (nI v)) rfl rfl) ?_
              refine e_putI dX8_come_199 fl_X8_153 fp_X8_35 sh_10 fj_10_35 ?_
              refine e_aload_n (i := 0) dX8_come_202 rfl rfl ?_
              refine e_bipush (v := (-6)) dX8_come_203 (by decide) ?_
              refine e_putI dX8_come_205 fl_X8_162 fp_X8_38 sh_10 fj_10_38 ?_
              refine e_goto (tgt := 229) dX8_come_208 (by decide) ?_
              refine e_ret dX8_come_229 rfl ?_
              have e : aTop sg ln sz r v pl x k 0 P K n g u q = .inl (true, pl + 1 + ln (pl + 1), x, k, (pl, x, k, v + 1) :: P, K, n, g, u, q) := if_pos ⟨h2, rfl⟩
              rw [e] at hR
              have ho : mOld h (hs (hs (wtH (hs (hs (hs h 10 32 (nI t')) 10 36 (nI x)) 10 37 (nI k)) fr (nI pl) 1 (nI x) (nI k) (nI v)) 10 35 (nI (pl + 1 + ln (pl + 1)))) 10 38 (-6)) fr la := mOld_wt (hs (hs (hs h 10 32 (nI t')) 10 36 (nI x)) 10 37 (nI k)) fr la (nI pl) 1 (nI x) (nI k) (nI v)
              obtain ⟨a1, a2, a3, a4, a5, a6⟩ := wt_at (hs (hs (hs h 10 32 (nI t')) 10 36 (nI x)) 10 37 (nI k)) fr (nI pl) 1 (nI x) (nI k) (nI v)
              exact hR _ _ ⟨rfl, (((((KM.refl h).hs (by omega)).hs (by omega)).hs (by omega)).wt.hs (by omega)).hs (by omega), fr + 1, la, fr + 1, d, rfl, m15, m19, rfl, m33, Or.inr ⟨h64, by omega, Nat.le_refl _, ⟨a1, a2, a3, a4, fun z => a5⟩, t', a6, mCh_ext ho (Nat.le_succ _) (Nat.le_refl _) hch2⟩, fun _ => ⟨rfl, rfl, rfl, rfl⟩, fun z => (by cases z), m39, m27, m28, ⟨m23, m24, m25, m26, m46⟩, (fun j L z => (hkp j L z).imp (fun _ z => z.imp (fun _ z => z.imp (fun _ z => ⟨z.1, z.2.1, z.2.2.1, mSg_ext ho (Nat.le_succ _) (Nat.le_refl _) z.2.2.2⟩)))), by show fr + 1 ≤ 2 * n + 1; omega, hla⟩
          · intro e_151_f c_151_f
            exfalso; omega
    · intro e_88_f c_88_f
      exfalso; omega
  · intro e_52_f c_52_f
    exfalso; omega
set_option maxHeartbeats 4000000 in
theorem m_act (l : Launch) {sg : Nat → Int32} {ln sz : Nat → Nat} {r : List Nat} (hB : aWB sg ln sz) (h : mH) (hM : MB sg ln sz h) {v pl x k w : Nat} {P : List aF} {K : List (List aF)} {n g u : Nat} {q : List Nat} (hJ : aJ sg sz r (false, 0, v, 0, (pl, x, k, w) :: P, K, n, g, u, q)) (hRM : RM sg h (false, 0, v, 0, (pl, x, k, w) :: P, K, n, g, u, q)) (h2 : aOf (sg pl).toInt = 2) (hw0 : w ≠ 0) : mG l Sh0 iX8_come [.inr 10] h (fun v' h' => v' = none ∧ KM h h' ∧ MO sg h' (aTop sg ln sz r v pl x k w P K n g u q)) := by
  obtain ⟨fr, la, t, d, m8, m15, m19, m32, m33, hch, hb, hb2, m39, m27, m28, ⟨m23, m24, m25, m26, m46⟩, hkp, hfr, hla⟩ := hRM
  have hfr : fr ≤ 2 * n + 0 := hfr
  have m38 : h 10 38 = nI v := hb2 rfl
  have jx : v < 8 := hJ.1
  obtain ⟨-, jb, jP, jK, jn, jg, ju, jq, jc, gs, g1, g2, g3, g4⟩ := hJ
  obtain ⟨f1, f2, f3, f4, f5, f6, f7⟩ := jP (pl, x, k, w) List.mem_cons_self
  dsimp only at f1 f2 f3 f4 f5 f6 f7
  have hp8 : pl < 800 := f1.1
  have hsg : h 30 pl = sg pl := hM.1 pl hp8
  have hB9 := hB.2 pl f1
  have h2c := aOf_2 h2
  have h64 : (sg pl).toInt ≠ 64 := by omega
  obtain ⟨-, q2, q3, ⟨w1, w2, w3, w4, w5⟩, t', q5, hch2⟩ : _ ∧ _ := hch.resolve_left (fun z => h64 z.1)
  dsimp only at w1 w2 w3 w4 w5
  obtain ⟨ht', hd'⟩ := mCh_le hch2
  rw [if_neg hw0] at w2
  have w5 := w5 hw0
  intro RT hR
  show mE l Sh0 none iX8_come RT 0 [some (.inr 10), none, none, none] [] h
  refine e_aload_n (i := 0) dX8_come_0 rfl rfl ?_
  refine e_getI (x := nI t) dX8_come_1 fl_X8_123 sh_10 fj_10_32 m32 ?_
  refine e_istore_n (i := 1) (ls2 := [some (.inr 10), some (.inl (nI t)), none, none]) dX8_come_4 rfl (Nat.le_of_ble_eq_true rfl) rfl ?_
  refine e_aload_n (i := 0) dX8_come_5 rfl rfl ?_
  refine e_getR (r := 34) dX8_come_6 fl_X8_28 sh_10 fj_10_9 ?_
  refine e_iload_n (i := 1) dX8_come_9 rfl rfl ?_
  refine e_iald (x := nI pl) dX8_come_10 sh_34 (vin_ofX (X := ((t : Nat) : Int)) (nI_toInt (by omega)) (by omega) (by omega)) (by rw [nI_clamp (by omega)]; exact w1) ?_
  refine e_istore_n (i := 2) (ls2 := [some (.inr 10), some (.inl (nI t)), some (.inl (nI pl)), none]) dX8_come_11 rfl (Nat.le_of_ble_eq_true rfl) rfl ?_
  refine e_aload_n (i := 0) dX8_come_12 rfl rfl ?_
  refine e_getR (r := 30) dX8_come_13 fl_X8_16 sh_10 fj_10_3 ?_
  refine e_iload_n (i := 2) dX8_come_16 rfl rfl ?_
  refine e_iald (x := sg pl) dX8_come_17 sh_30 (vin_ofX (X := ((pl : Nat) : Int)) (nI_toInt (by omega)) (by omega) (by omega)) (by rw [nI_clamp (by omega)]; exact hsg) ?_
  refine e_istore_n (i := 3) (ls2 := [some (.inr 10), some (.inl (nI t)), some (.inl (nI pl)), some (.inl (sg pl))]) dX8_come_18 rfl (Nat.le_of_ble_eq_true rfl) rfl ?_
  refine e_aload_n (i := 0) dX8_come_19 rfl rfl ?_
  refine e_aload_n (i := 0) dX8_come_20 rfl rfl ?_
  refine e_getR (r := 39) dX8_come_21 fl_X8_43 sh_10 fj_10_14 ?_
  refine e_iload_n (i := 1) dX8_come_24 rfl rfl ?_
  refine e_iald (x := nI t') dX8_come_25 sh_39 (vin_ofX (X := ((t : Nat) : Int)) (nI_toInt (by omega)) (by omega) (by omega)) (by rw [nI_clamp (by omega)]; exact q5) ?_
  refine e_putI dX8_come_26 fl_X8_123 fp_X8_32 sh_10 fj_10_32 ?_
  refine e_aload_n (i := 0) dX8_come_29 rfl rfl ?_
  refine e_aload_n (i := 0) dX8_come_30 rfl rfl ?_
  refine e_getR (r := 36) dX8_come_31 fl_X8_34 sh_10 fj_10_11 ?_
  refine e_iload_n (i := 1) dX8_come_34 rfl rfl ?_
  refine e_iald (x := nI x) dX8_come_35 sh_36 (vin_ofX (X := ((t : Nat) : Int)) (nI_toInt (by omega)) (by omega) (by omega)) (by rw [nI_clamp (by omega)]; exact w3) ?_
  refine e_putI dX8_come_36 fl_X8_156 fp_X8_36 sh_10 fj_10_36 ?_
  refine e_aload_n (i := 0) dX8_come_39 rfl rfl ?_
  refine e_aload_n (i := 0) dX8_come_40 rfl rfl ?_
  refine e_getR (r := 37) dX8_come_41 fl_X8_37 sh_10 fj_10_12 ?_
  refine e_iload_n (i := 1) dX8_come_44 rfl rfl ?_
  refine e_iald (x := nI k) dX8_come_45 sh_37 (vin_ofX (X := ((t : Nat) : Int)) (nI_toInt (by omega)) (by omega) (by omega)) (by rw [nI_clamp (by omega)]; exact w4) ?_
  refine e_putI dX8_come_46 fl_X8_159 fp_X8_37 sh_10 fj_10_37 ?_
  refine e_iload_n (i := 3) dX8_come_49 rfl rfl ?_
  refine e_bipush (v := 63) dX8_come_50 (by decide) ?_
  refine b_icmp_ne (X := (sg pl).toInt) (Y := 63) (tgt := 85) rfl (by decide) dX8_come_52 (by decide) ?_ ?_
  · intro e_52_t c_52_t
    refine e_iload_n (i := 3) dX8_come_85 rfl rfl ?_
    refine e_bipush (v := 107) dX8_come_86 (by decide) ?_
    refine b_icmp_ne (X := (sg pl).toInt) (Y := 107) (tgt := 136) rfl (by decide) dX8_come_88 (by decide) ?_ ?_
    · intro e_88_t c_88_t
      refine e_iload_n (i := 3) dX8_come_136 rfl rfl ?_
      refine e_bipush (v := 112) dX8_come_137 (by decide) ?_
      refine b_icmp_eq (X := (sg pl).toInt) (Y := 112) (tgt := 154) rfl (by decide) dX8_come_139 (by decide) ?_ ?_
      · intro e_139_t c_139_t
        exfalso; omega
      · intro e_139_f c_139_f
        refine e_iload_n (i := 3) dX8_come_142 rfl rfl ?_
        refine e_bipush (v := 113) dX8_come_143 (by decide) ?_
        refine b_icmp_eq (X := (sg pl).toInt) (Y := 113) (tgt := 154) rfl (by decide) dX8_come_145 (by decide) ?_ ?_
        · intro e_145_t c_145_t
          exfalso; omega
        · intro e_145_f c_145_f
          refine e_iload_n (i := 3) dX8_come_148 rfl rfl ?_
          refine e_bipush (v := 114) dX8_come_149 (by decide) ?_
          refine b_icmp_ne (X := (sg pl).toInt) (Y := 114) (tgt := 165) rfl (by decide) dX8_come_151 (by decide) ?_ ?_
          · intro e_151_t c_151_t
            refine e_aload_n (i := 0) dX8_come_165 rfl rfl ?_
            refine e_getR (r := 35) dX8_come_166 fl_X8_31 sh_10 fj_10_10 ?_
            refine e_iload_n (i := 1) dX8_come_169 rfl rfl ?_
            refine e_iald (x := nI 1) dX8_come_170 sh_35 (vin_ofX (X := ((t : Nat) : Int)) (nI_toInt (by omega)) (by omega) (by omega)) (by rw [nI_clamp (by omega)]; exact w2) ?_
            refine b_if_ne (X := 1) (tgt := 211) (by decide) dX8_come_171 (by decide) ?_ ?_
            · intro e_171_t c_171_t
              refine e_aload_n (i := 0) dX8_come_211 rfl rfl ?_
              refine e_iload_n (i := 3) dX8_come_212 rfl rfl ?_
              refine e_aload_n (i := 0) dX8_come_213 rfl rfl ?_
              refine e_getR (r := 38) dX8_come_214 fl_X8_40 sh_10 fj_10_13 ?_
              refine e_iload_n (i := 1) dX8_come_217 rfl rfl ?_
              refine e_iald (x := nI (w - 1)) dX8_come_218 sh_38 (vin_ofX (X := ((t : Nat) : Int)) (nI_toInt (by omega)) (by omega) (by omega)) (by rw [nI_clamp (by omega)]; exact w5) ?_
              refine e_aload_n (i := 0) dX8_come_219 rfl rfl ?_
              refine e_getI (x := nI v) dX8_come_220 fl_X8_162 sh_10 fj_10_38 m38 ?_
              refine e_invSi (As := [.inl (sg pl), .inl (nI (w - 1)), .inl (nI v)]) (v := nI (aAct (sg pl).toInt (w - 1) v)) (h2 := (hs (hs (hs h 10 32 (nI t')) 10 36 (nI x)) 10 37 (nI k))) dX8_come_223 lk_X8_199 ys_X8_act rfl rfl rfl (Nat.le_of_ble_eq_true rfl) (Nat.le_of_ble_eq_true rfl) ⟨Nat.le_of_ble_eq_true rfl, Nat.le_of_ble_eq_true rfl⟩ (k_M_actX l (hs (hs (hs h 10 32 (nI t')) 10 36 (nI x)) 10 37 (nI k)) (sg pl) (w - 1) v h2c (by omega) jx) ?_
              refine e_putI dX8_come_226 fl_X8_162 fp_X8_38 sh_10 fj_10_38 ?_
              refine e_ret dX8_come_229 rfl ?_
              have e : aTop sg ln sz r v pl x k w P K n g u q = .inl (false, 0, aAct (sg pl).toInt (w - 1) v, 0, P, K, n, g, u, q) := by unfold aTop; rw [if_neg (by omega), if_neg (by omega), if_neg (by omega), if_neg (by omega), if_neg (by omega)]
              rw [e] at hR
              exact hR _ _ ⟨rfl, ((((KM.refl h).hs (by omega)).hs (by omega)).hs (by omega)).hs (by omega), fr, la, t', d, m8, m15, m19, rfl, m33, mCh_ext (mOld_s (h := h) (h' := (hs (hs (hs (hs h 10 32 (nI t')) 10 36 (nI x)) 10 37 (nI k)) 10 38 (nI (aAct (sg pl).toInt (w - 1) v)))) rfl rfl rfl rfl rfl rfl rfl rfl rfl fr la) (Nat.le_refl _) (Nat.le_refl _) hch2, fun z => (by cases z), fun _ => rfl, m39, m27, m28, ⟨m23, m24, m25, m26, m46⟩, (fun j L z => (hkp j L z).imp (fun _ z => z.imp (fun _ z => z.imp (fun _ z => ⟨z.1, z.2.1, z.2.2.1, mSg_ext (mOld_s (h := h) (h' := (hs (hs (hs (hs h 10 32 (nI t')) 10 36 (nI x)) 10 37 (nI k)) 10 38 (nI (aAct (sg pl).toInt (w - 1) v)))) rfl rfl rfl rfl rfl rfl rfl rfl rfl fr la) (Nat.le_refl _) (Nat.le_refl _) z.2.2.2⟩)))), hfr, hla⟩
            · intro e_171_f c_171_f
              exfalso; omega
          · intro e_151_f c_151_f
            exfalso; omega
    · intro e_88_f c_88_f
      exfalso; omega
  · intro e_52_f c_52_f
    exfalso; omega
set_option maxHeartbeats 4000000 in
theorem m_go9 (l : Launch) {sg : Nat → Int32} {ln sz : Nat → Nat} {r : List Nat} (hB : aWB sg ln sz) (h : mH) (hM : MB sg ln sz h) {v pl x k w : Nat} {P : List aF} {K : List (List aF)} {n g u : Nat} {q : List Nat} (hJ : aJ sg sz r (false, 0, v, 0, (pl, x, k, w) :: P, K, n, g, u, q)) (hRM : RM sg h (false, 0, v, 0, (pl, x, k, w) :: P, K, n, g, u, q)) (h107 : (sg pl).toInt = 107) (hg : g = 40) : mG l Sh0 iX8_come [.inr 10] h (fun v' h' => v' = none ∧ KM h h' ∧ MO sg h' (aTop sg ln sz r v pl x k w P K n g u q)) := by
  obtain ⟨fr, la, t, d, m8, m15, m19, m32, m33, hch, hb, hb2, m39, m27, m28, ⟨m23, m24, m25, m26, m46⟩, hkp, hfr, hla⟩ := hRM
  have hfr : fr ≤ 2 * n + 0 := hfr
  have m38 : h 10 38 = nI v := hb2 rfl
  have jx : v < 8 := hJ.1
  obtain ⟨-, jb, jP, jK, jn, jg, ju, jq, jc, gs, g1, g2, g3, g4⟩ := hJ
  obtain ⟨f1, f2, f3, f4, f5, f6, f7⟩ := jP (pl, x, k, w) List.mem_cons_self
  dsimp only at f1 f2 f3 f4 f5 f6 f7
  have hp8 : pl < 800 := f1.1
  have hsg : h 30 pl = sg pl := hM.1 pl hp8
  have hB9 := hB.2 pl f1
  have h1 : aOf (sg pl).toInt = 1 := by rw [h107]; exact aOf_107
  have h64 : (sg pl).toInt ≠ 64 := by omega
  obtain ⟨-, q2, q3, ⟨w1, w2, w3, w4, w5⟩, t', q5, hch2⟩ : _ ∧ _ := hch.resolve_left (fun z => h64 z.1)
  dsimp only at w1 w2 w3 w4 w5
  obtain ⟨ht', hd'⟩ := mCh_le hch2
  intro RT hR
  show mE l Sh0 none iX8_come RT 0 [some (.inr 10), none, none, none] [] h
  refine e_aload_n (i := 0) dX8_come_0 rfl rfl ?_
  refine e_getI (x := nI t) dX8_come_1 fl_X8_123 sh_10 fj_10_32 m32 ?_
  refine e_istore_n (i := 1) (ls2 := [some (.inr 10), some (.inl (nI t)), none, none]) dX8_come_4 rfl (Nat.le_of_ble_eq_true rfl) rfl ?_
  refine e_aload_n (i := 0) dX8_come_5 rfl rfl ?_
  refine e_getR (r := 34) dX8_come_6 fl_X8_28 sh_10 fj_10_9 ?_
  refine e_iload_n (i := 1) dX8_come_9 rfl rfl ?_
  refine e_iald (x := nI pl) dX8_come_10 sh_34 (vin_ofX (X := ((t : Nat) : Int)) (nI_toInt (by omega)) (by omega) (by omega)) (by rw [nI_clamp (by omega)]; exact w1) ?_
  refine e_istore_n (i := 2) (ls2 := [some (.inr 10), some (.inl (nI t)), some (.inl (nI pl)), none]) dX8_come_11 rfl (Nat.le_of_ble_eq_true rfl) rfl ?_
  refine e_aload_n (i := 0) dX8_come_12 rfl rfl ?_
  refine e_getR (r := 30) dX8_come_13 fl_X8_16 sh_10 fj_10_3 ?_
  refine e_iload_n (i := 2) dX8_come_16 rfl rfl ?_
  refine e_iald (x := sg pl) dX8_come_17 sh_30 (vin_ofX (X := ((pl : Nat) : Int)) (nI_toInt (by omega)) (by omega) (by omega)) (by rw [nI_clamp (by omega)]; exact hsg) ?_
  refine e_istore_n (i := 3) (ls2 := [some (.inr 10), some (.inl (nI t)), some (.inl (nI pl)), some (.inl (sg pl))]) dX8_come_18 rfl (Nat.le_of_ble_eq_true rfl) rfl ?_
  refine e_aload_n (i := 0) dX8_come_19 rfl rfl ?_
  refine e_aload_n (i := 0) dX8_come_20 rfl rfl ?_
  refine e_getR (r := 39) dX8_come_21 fl_X8_43 sh_10 fj_10_14 ?_
  refine e_iload_n (i := 1) dX8_come_24 rfl rfl ?_
  refine e_iald (x := nI t') dX8_come_25 sh_39 (vin_ofX (X := ((t : Nat) : Int)) (nI_toInt (by omega)) (by omega) (by omega)) (by rw [nI_clamp (by omega)]; exact q5) ?_
  refine e_putI dX8_come_26 fl_X8_123 fp_X8_32 sh_10 fj_10_32 ?_
  refine e_aload_n (i := 0) dX8_come_29 rfl rfl ?_
  refine e_aload_n (i := 0) dX8_come_30 rfl rfl ?_
  refine e_getR (r := 36) dX8_come_31 fl_X8_34 sh_10 fj_10_11 ?_
  refine e_iload_n (i := 1) dX8_come_34 rfl rfl ?_
  refine e_iald (x := nI x) dX8_come_35 sh_36 (vin_ofX (X := ((t : Nat) : Int)) (nI_toInt (by omega)) (by omega) (by omega)) (by rw [nI_clamp (by omega)]; exact w3) ?_
  refine e_putI dX8_come_36 fl_X8_156 fp_X8_36 sh_10 fj_10_36 ?_
  refine e_aload_n (i := 0) dX8_come_39 rfl rfl ?_
  refine e_aload_n (i := 0) dX8_come_40 rfl rfl ?_
  refine e_getR (r := 37) dX8_come_41 fl_X8_37 sh_10 fj_10_12 ?_
  refine e_iload_n (i := 1) dX8_come_44 rfl rfl ?_
  refine e_iald (x := nI k) dX8_come_45 sh_37 (vin_ofX (X := ((t : Nat) : Int)) (nI_toInt (by omega)) (by omega) (by omega)) (by rw [nI_clamp (by omega)]; exact w4) ?_
  refine e_putI dX8_come_46 fl_X8_159 fp_X8_37 sh_10 fj_10_37 ?_
  refine e_iload_n (i := 3) dX8_come_49 rfl rfl ?_
  refine e_bipush (v := 63) dX8_come_50 (by decide) ?_
  refine b_icmp_ne (X := (sg pl).toInt) (Y := 63) (tgt := 85) rfl (by decide) dX8_come_52 (by decide) ?_ ?_
  · intro e_52_t c_52_t
    refine e_iload_n (i := 3) dX8_come_85 rfl rfl ?_
    refine e_bipush (v := 107) dX8_come_86 (by decide) ?_
    refine b_icmp_ne (X := (sg pl).toInt) (Y := 107) (tgt := 136) rfl (by decide) dX8_come_88 (by decide) ?_ ?_
    · intro e_88_t c_88_t
      exfalso; omega
    · intro e_88_f c_88_f
      refine e_aload_n (i := 0) dX8_come_91 rfl rfl ?_
      refine e_dup dX8_come_92 ?_
      refine e_getI (x := nI g) dX8_come_93 fl_X8_138 sh_10 fj_10_24 m24 ?_
      refine e_iconst (v := 1) dX8_come_96 (by decide) ?_
      refine z_iadd (z := nI (g + 1)) (nI_addc _ 1) dX8_come_97 ?_
      refine e_putI dX8_come_98 fl_X8_138 fp_X8_24 sh_10 fj_10_24 ?_
      refine e_aload_n (i := 0) dX8_come_101 rfl rfl ?_
      refine e_getI (x := nI (g + 1)) dX8_come_102 fl_X8_138 sh_10 fj_10_24 rfl ?_
      refine e_bipush (v := 40) dX8_come_105 (by decide) ?_
      refine b_icmp_le (X := ((g + 1 : Nat) : Int)) (Y := 40) (tgt := 125) (nI_toInt (by omega)) (by decide) dX8_come_107 (by decide) ?_ ?_
      · intro c_107_t
        exfalso; omega
      · intro c_107_f
        refine e_aload_n (i := 0) dX8_come_110 rfl rfl ?_
        refine e_bipush (v := 40) dX8_come_111 (by decide) ?_
        refine e_putI dX8_come_113 fl_X8_138 fp_X8_24 sh_10 fj_10_24 ?_
        refine e_aload_n (i := 0) dX8_come_116 rfl rfl ?_
        refine e_bipush (v := 9) dX8_come_117 (by decide) ?_
        refine e_putI dX8_come_119 fl_X8_165 fp_X8_39 sh_10 fj_10_39 ?_
        refine e_goto (tgt := 229) dX8_come_122 (by decide) ?_
        refine e_ret dX8_come_229 rfl ?_
        have e : aTop sg ln sz r v pl x k w P K n g u q = .inr (9, -6, -6, n, g, u, q) := by unfold aTop; rw [if_neg (by omega), if_neg (by omega), if_neg (by omega), if_pos h107, if_pos (by omega)]
        rw [e] at hR
        exact hR _ _ ⟨rfl, ((((((KM.refl h).hs (by omega)).hs (by omega)).hs (by omega)).hs (by omega)).hs (by omega)).hs (by omega), (by show (9 : Int32).toInt = 9; decide), toI_m6 m27, toI_m6 m28, m23, (by rw [hg]; rfl), m25, m26, m46⟩
  · intro e_52_f c_52_f
    exfalso; omega
