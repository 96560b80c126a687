/-! The reference comes to an asking. -/
set_option maxHeartbeats 4000000 in
theorem m_ask1 (l : Launch) {sg : Nat → Int32} {ln sz : Nat → Nat} {r : List Nat} (hB : aWB sg ln sz) (h : mH) (hM : MB sg ln sz h) {v pl x k w : Nat} {P : List aF} {K : List (List aF)} {n g u : Nat} {q : List Nat} (hJ : aJ sg sz r (false, 0, v, 0, (pl, x, k, w) :: P, K, n, g, u, q)) (hRM : RM sg h (false, 0, v, 0, (pl, x, k, w) :: P, K, n, g, u, q)) {dd : Nat} (hdd : dd < 3) (hsd : (sg pl).toInt = 112 + (dd : Int)) (hr8 : r.length ≤ 8) {A : List aF} {G : aF} {CC : List aF} (hN : aNr sg sz dd P = some (A, G, CC)) : mG l Sh0 iX8_come [.inr 10] h (fun v' h' => v' = none ∧ KM h h' ∧ MO sg h' (aTop sg ln sz r v pl x k w P K n g u q)) := by
  obtain ⟨fr, la, t, d, m8, m15, m19, m32, m33, hch, hb, hb2, m39, m27, m28, ⟨m23, m24, m25, m26, m46⟩, hkp, hfr, hla⟩ := hRM
  have hfr : fr ≤ 2 * n + 0 := hfr
  have m38 : h 10 38 = nI v := hb2 rfl
  have jx : v < 8 := hJ.1
  obtain ⟨-, jb, jP, jK, jn, jg, ju, jq, jc, gs, g1, g2, g3, g4⟩ := hJ
  obtain ⟨f1, f2, f3, f4, f5, f6, f7⟩ := jP (pl, x, k, w) List.mem_cons_self
  dsimp only at f1 f2 f3 f4 f5 f6 f7
  have hp8 : pl < 800 := f1.1
  have hsg : h 30 pl = sg pl := hM.1 pl hp8
  have hB9 := hB.2 pl f1
  have h1 : aOf (sg pl).toInt = 1 := by rcases (show dd = 0 ∨ dd = 1 ∨ dd = 2 by omega) with z | z | z <;> subst z <;> rw [hsd] <;> decide
  have hs3 : (sg pl).toInt = 112 ∨ (sg pl).toInt = 113 ∨ (sg pl).toInt = 114 := by omega
  have h64 : (sg pl).toInt ≠ 64 := by omega
  have hdq : ((sg pl).toInt - 112).toNat = dd := by omega
  obtain ⟨-, q2, q3, ⟨w1, w2, w3, w4, w5⟩, t', q5, hch2⟩ : _ ∧ _ := hch.resolve_left (fun z => h64 z.1)
  dsimp only at w1 w2 w3 w4 w5
  obtain ⟨ht', hd'⟩ := mCh_le hch2
  have hP2 : ∀ F ∈ P, aFok sg sz K.length F := fun F hF => jP F (List.mem_cons_of_mem _ hF)
  have jc : K.length + 1 ≤ n + 1 := jc
  have hla2 : la < 12000 := by omega
  have hql : q.length < 256 := by omega
  have hchp : mCh sg (hs (hs (hs h 10 32 (nI t')) 10 36 (nI x)) 10 37 (nI k)) fr la P t' d := mCh_ext (mOld_s (h := h) (h' := (hs (hs (hs h 10 32 (nI t')) 10 36 (nI x)) 10 37 (nI k))) rfl rfl rfl rfl rfl rfl rfl rfl rfl fr la) (Nat.le_refl _) (Nat.le_refl _) hch2
  have eT : aTop sg ln sz r v pl x k w P K n g u q = aAsk sg sz r dd v P K n g u q := by
    unfold aTop
    rw [if_neg (by omega), if_neg (by omega), if_neg (by omega), if_neg (by omega), if_pos hs3, hdq]
  have eA : aAsk sg sz r dd v P K n g u q = .inl (true, 40 * (4 + 4 * aHd sg G.1 + dd), v, K.length + 1, CC, K ++ [A ++ [G]], n, g, u, q ++ [100 * dd + 10 * v + aHd sg G.1]) := by
    unfold aAsk
    rw [hN]
  obtain ⟨e1, e2, e3, e4⟩ := aNr_some hN
  have hGm : G ∈ P := by rw [e1]; exact List.mem_append_right _ List.mem_cons_self
  have h9G := (hB.2 G.1 (hP2 G hGm).1).2.2.2.2.2.2.2.2.1 e2
  have hh : aHd sg G.1 < 4 := by unfold aHd; omega
  have hchp2 := hchp
  rw [e1] at hchp2
  obtain ⟨y, t1, d1, y1, y2, y3, y4, y5, y6⟩ := mBy_some (by omega) ⟨e2, e3⟩ e4 hchp2
  rw [← e1] at y1
  obtain ⟨z1, z2, z3, z4⟩ := mSg_le y2
  obtain ⟨z5, z6⟩ := mCh_le y6
  intro RT hR
  show mE l Sh0 none iX8_come RT 0 [some (.inr 10), none, none, none] [] h
  refine e_aload_n (i := 0) dX8_come_0 rfl rfl ?_
  refine e_getI (x := nI t) dX8_come_1 fl_X8_123 sh_10 fj_10_32 m32 ?_
  refine e_istore_n (i := 1) (ls2 := [some (.inr 10), some (.inl (nI t)), none, none]) dX8_come_4 rfl (Nat.le_of_ble_eq_true rfl) rfl ?_
  refine e_aload_n (i := 0) dX8_come_5 rfl rfl ?_
  refine e_getR (r := 34) dX8_come_6 fl_X8_28 sh_10 fj_10_9 ?_
  refine e_iload_n (i := 1) dX8_come_9 rfl rfl ?_
  refine e_iald (x := nI pl) dX8_come_10 sh_34 (vin_ofX (X := ((t : Nat) : Int)) (nI_toInt (by omega)) (by omega) (by omega)) (by rw [nI_clamp (by omega)]; exact w1) ?_
  refine e_istore_n (i := 2) (ls2 := [some (.inr 10), some (.inl (nI t)), some (.inl (nI pl)), none]) dX8_come_11 rfl (Nat.le_of_ble_eq_true rfl) rfl ?_
  refine e_aload_n (i := 0) dX8_come_12 rfl rfl ?_
  refine e_getR (r := 30) dX8_come_13 fl_X8_16 sh_10 fj_10_3 ?_
  refine e_iload_n (i := 2) dX8_come_16 rfl rfl ?_
  refine e_iald (x := sg pl) dX8_come_17 sh_30 (vin_ofX (X := ((pl : Nat) : Int)) (nI_toInt (by omega)) (by omega) (by omega)) (by rw [nI_clamp (by omega)]; exact hsg) ?_
  refine e_istore_n (i := 3) (ls2 := [some (.inr 10), some (.inl (nI t)), some (.inl (nI pl)), some (.inl (sg pl))]) dX8_come_18 rfl (Nat.le_of_ble_eq_true rfl) rfl ?_
  refine e_aload_n (i := 0) dX8_come_19 rfl rfl ?_
  refine e_aload_n (i := 0) dX8_come_20 rfl rfl ?_
  refine e_getR (r := 39) dX8_come_21 fl_X8_43 sh_10 fj_10_14 ?_
  refine e_iload_n (i := 1) dX8_come_24 rfl rfl ?_
  refine e_iald (x := nI t') dX8_come_25 sh_39 (vin_ofX (X := ((t : Nat) : Int)) (nI_toInt (by omega)) (by omega) (by omega)) (by rw [nI_clamp (by omega)]; exact q5) ?_
  refine e_putI dX8_come_26 fl_X8_123 fp_X8_32 sh_10 fj_10_32 ?_
  refine e_aload_n (i := 0) dX8_come_29 rfl rfl ?_
  refine e_aload_n (i := 0) dX8_come_30 rfl rfl ?_
  refine e_getR (r := 36) dX8_come_31 fl_X8_34 sh_10 fj_10_11 ?_
  refine e_iload_n (i := 1) dX8_come_34 rfl rfl ?_
  refine e_iald (x := nI x) dX8_come_35 sh_36 (vin_ofX (X := ((t : Nat) : Int)) (nI_toInt (by omega)) (by omega) (by omega)) (by rw [nI_clamp (by omega)]; exact w3) ?_
  refine e_putI dX8_come_36 fl_X8_156 fp_X8_36 sh_10 fj_10_36 ?_
  refine e_aload_n (i := 0) dX8_come_39 rfl rfl ?_
  refine e_aload_n (i := 0) dX8_come_40 rfl rfl ?_
  refine e_getR (r := 37) dX8_come_41 fl_X8_37 sh_10 fj_10_12 ?_
  refine e_iload_n (i := 1) dX8_come_44 rfl rfl ?_
  refine e_iald (x := nI k) dX8_come_45 sh_37 (vin_ofX (X := ((t : Nat) : Int)) (nI_toInt (by omega)) (by omega) (by omega)) (by rw [nI_clamp (by omega)]; exact w4) ?_
  refine e_putI dX8_come_46 fl_X8_159 fp_X8_37 sh_10 fj_10_37 ?_
  refine e_iload_n (i := 3) dX8_come_49 rfl rfl ?_
  refine e_bipush (v := 63) dX8_come_50 (by decide) ?_
  refine b_icmp_ne (X := (sg pl).toInt) (Y := 63) (tgt := 85) rfl (by decide) dX8_come_52 (by decide) ?_ ?_
  · intro e_52_t c_52_t
    refine e_iload_n (i := 3) dX8_come_85 rfl rfl ?_
    refine e_bipush (v := 107) dX8_come_86 (by decide) ?_
    refine b_icmp_ne (X := (sg pl).toInt) (Y := 107) (tgt := 136) rfl (by decide) dX8_come_88 (by decide) ?_ ?_
    · intro e_88_t c_88_t
      refine e_iload_n (i := 3) dX8_come_136 rfl rfl ?_
      refine e_bipush (v := 112) dX8_come_137 (by decide) ?_
      refine b_icmp_eq (X := (sg pl).toInt) (Y := 112) (tgt := 154) rfl (by decide) dX8_come_139 (by decide) ?_ ?_
      · intro e_139_t c_139_t
        refine e_aload_n (i := 0) dX8_come_154 rfl rfl ?_
        refine e_iload_n (i := 3) dX8_come_155 rfl rfl ?_
        refine e_bipush (v := 112) dX8_come_156 (by decide) ?_
        refine z_isub (z := nI dd) (sub112 hsd) dX8_come_158 ?_
        refine e_invVv (As := [.inl (nI dd)]) (h2 := (wkH (hs (hs (hs (hs (hs (hs (hs (hs (hs (hs (hs h 10 32 (nI t')) 10 36 (nI x)) 10 37 (nI k)) 46 q.length (nI (100 * dd + 10 * v + aHd sg G.1))) 10 26 (nI (q.length + 1))) 10 19 (nI (K.length + 1))) 43 (K.length + 1) (nI t')) 44 (K.length + 1) (nI d)) 45 (K.length + 1) (nI y)) 10 32 (nI t1)) 10 33 (nI d1)) (nI (4 + 4 * aHd sg G.1 + dd)) (nI v) (nI (K.length + 1)))) (ty := .int) (v := 0) dX8_come_159 lk_X8_196 yv_X8_ask rfl rfl rfl (Nat.le_of_ble_eq_true rfl) sh_10 ci_X8 (Nat.le_of_ble_eq_true rfl) ⟨Nat.le_of_ble_eq_true rfl, Nat.le_of_ble_eq_true rfl⟩ (k_M_ask1 (nK := K.length) l hB (hs (hs (hs h 10 32 (nI t')) 10 36 (nI x)) 10 37 (nI k)) hM hdd hla2 P t' d v q.length hchp hP2 rfl m33 m38 jx m26 hql y t1 d1 (aHd sg G.1) K.length y1 z3 (by omega) y3 hh y4 y5 m19 (by omega)) ?_
        refine e_goto (tgt := 229) dX8_come_162 (by decide) ?_
        refine e_ret dX8_come_229 rfl ?_
        rw [eT, eA] at hR
        have ho : mOld (hs (hs (hs h 10 32 (nI t')) 10 36 (nI x)) 10 37 (nI k)) (wkH (hs (hs (hs (hs (hs (hs (hs (hs (hs (hs (hs h 10 32 (nI t')) 10 36 (nI x)) 10 37 (nI k)) 46 q.length (nI (100 * dd + 10 * v + aHd sg G.1))) 10 26 (nI (q.length + 1))) 10 19 (nI (K.length + 1))) 43 (K.length + 1) (nI t')) 44 (K.length + 1) (nI d)) 45 (K.length + 1) (nI y)) 10 32 (nI t1)) 10 33 (nI d1)) (nI (4 + 4 * aHd sg G.1 + dd)) (nI v) (nI (K.length + 1))) fr la := mOld_s rfl rfl rfl rfl rfl rfl rfl rfl rfl fr la
        have ho2 : mOld h (wkH (hs (hs (hs (hs (hs (hs (hs (hs (hs (hs (hs h 10 32 (nI t')) 10 36 (nI x)) 10 37 (nI k)) 46 q.length (nI (100 * dd + 10 * v + aHd sg G.1))) 10 26 (nI (q.length + 1))) 10 19 (nI (K.length + 1))) 43 (K.length + 1) (nI t')) 44 (K.length + 1) (nI d)) 45 (K.length + 1) (nI y)) 10 32 (nI t1)) 10 33 (nI d1)) (nI (4 + 4 * aHd sg G.1 + dd)) (nI v) (nI (K.length + 1))) fr la := mOld_s rfl rfl rfl rfl rfl rfl rfl rfl rfl fr la
        have hKl : (K ++ [A ++ [G]]).length = K.length + 1 := by simp
        refine hR _ _ ⟨rfl, (((((((((((KM.refl h).hs (by omega)).hs (by omega)).hs (by omega)).hs (by omega)).hs (by omega)).hs (by omega)).hs (by omega)).hs (by omega)).hs (by omega)).hs (by omega)).hs (by omega) |>.wk, fr, la, t1, d1, m8, m15, by rw [hKl]; rfl, rfl, rfl, mCh_ext ho (Nat.le_refl _) (Nat.le_refl _) y6, fun _ => ⟨rfl, nI_page2 _, rfl, rfl⟩, fun z => (by cases z), m39, m27, m28, ⟨m23, m24, m25, by rw [List.length_append]; rfl, ?_⟩, fun j L z => ?_, by show fr ≤ 2 * n + 1; omega, hla⟩
        · intro i hi
          rw [List.length_append] at hi
          simp only [List.length_cons, List.length_nil] at hi
          show hs (hs (hs (hs h 10 32 (nI t')) 10 36 (nI x)) 10 37 (nI k)) 46 q.length (nI (100 * dd + 10 * v + aHd sg G.1)) 46 i = _
          by_cases hq : i < q.length
          · rw [hs_ne _ _ (by omega), List.getD_eq_getElem?_getD, List.getElem?_append_left hq, ← List.getD_eq_getElem?_getD]
            exact m46 i hq
          · obtain rfl : i = q.length := by omega
            rw [hs_at, List.getD_eq_getElem?_getD, List.getElem?_append_right (Nat.le_refl _), Nat.sub_self]
            rfl
        · by_cases hj : j < K.length
          · rw [List.getElem?_append_left hj] at z
            obtain ⟨a, b, c, r1, r2, r3, r4⟩ := hkp j L z
            refine ⟨a, b, c, ?_, ?_, ?_, mSg_ext ho2 (Nat.le_refl _) (Nat.le_refl _) r4⟩
            · exact (show (wkH (hs (hs (hs (hs (hs (hs (hs (hs (hs (hs (hs h 10 32 (nI t')) 10 36 (nI x)) 10 37 (nI k)) 46 q.length (nI (100 * dd + 10 * v + aHd sg G.1))) 10 26 (nI (q.length + 1))) 10 19 (nI (K.length + 1))) 43 (K.length + 1) (nI t')) 44 (K.length + 1) (nI d)) 45 (K.length + 1) (nI y)) 10 32 (nI t1)) 10 33 (nI d1)) (nI (4 + 4 * aHd sg G.1 + dd)) (nI v) (nI (K.length + 1))) 43 (j + 1) = hs (hs (hs (hs h 10 32 (nI t')) 10 36 (nI x)) 10 37 (nI k)) 43 (K.length + 1) (nI t') 43 (j + 1) from rfl).trans ((hs_ne _ _ (by omega)).trans r1)
            · exact (show (wkH (hs (hs (hs (hs (hs (hs (hs (hs (hs (hs (hs h 10 32 (nI t')) 10 36 (nI x)) 10 37 (nI k)) 46 q.length (nI (100 * dd + 10 * v + aHd sg G.1))) 10 26 (nI (q.length + 1))) 10 19 (nI (K.length + 1))) 43 (K.length + 1) (nI t')) 44 (K.length + 1) (nI d)) 45 (K.length + 1) (nI y)) 10 32 (nI t1)) 10 33 (nI d1)) (nI (4 + 4 * aHd sg G.1 + dd)) (nI v) (nI (K.length + 1))) 44 (j + 1) = hs (hs (hs (hs h 10 32 (nI t')) 10 36 (nI x)) 10 37 (nI k)) 44 (K.length + 1) (nI d) 44 (j + 1) from rfl).trans ((hs_ne _ _ (by omega)).trans r2)
            · exact (show (wkH (hs (hs (hs (hs (hs (hs (hs (hs (hs (hs (hs h 10 32 (nI t')) 10 36 (nI x)) 10 37 (nI k)) 46 q.length (nI (100 * dd + 10 * v + aHd sg G.1))) 10 26 (nI (q.length + 1))) 10 19 (nI (K.length + 1))) 43 (K.length + 1) (nI t')) 44 (K.length + 1) (nI d)) 45 (K.length + 1) (nI y)) 10 32 (nI t1)) 10 33 (nI d1)) (nI (4 + 4 * aHd sg G.1 + dd)) (nI v) (nI (K.length + 1))) 45 (j + 1) = hs (hs (hs (hs h 10 32 (nI t')) 10 36 (nI x)) 10 37 (nI k)) 45 (K.length + 1) (nI y) 45 (j + 1) from rfl).trans ((hs_ne _ _ (by omega)).trans r3)
          · rw [List.getElem?_append_right (by omega)] at z
            have hj0 : j = K.length := by
              have := (List.getElem?_eq_some_iff.mp z).1
              simp only [List.length_cons, List.length_nil] at this
              omega
            subst hj0
            rw [Nat.sub_self] at z
            cases z
            refine ⟨t', d, y, ?_, ?_, ?_, mSg_ext ho (Nat.le_refl _) (Nat.le_refl _) y2⟩
            · exact (show (wkH (hs (hs (hs (hs (hs (hs (hs (hs (hs (hs (hs h 10 32 (nI t')) 10 36 (nI x)) 10 37 (nI k)) 46 q.length (nI (100 * dd + 10 * v + aHd sg G.1))) 10 26 (nI (q.length + 1))) 10 19 (nI (K.length + 1))) 43 (K.length + 1) (nI t')) 44 (K.length + 1) (nI d)) 45 (K.length + 1) (nI y)) 10 32 (nI t1)) 10 33 (nI d1)) (nI (4 + 4 * aHd sg G.1 + dd)) (nI v) (nI (K.length + 1))) 43 (K.length + 1) = hs (hs (hs (hs h 10 32 (nI t')) 10 36 (nI x)) 10 37 (nI k)) 43 (K.length + 1) (nI t') 43 (K.length + 1) from rfl).trans (hs_at _ _ _ _)
            · exact (show (wkH (hs (hs (hs (hs (hs (hs (hs (hs (hs (hs (hs h 10 32 (nI t')) 10 36 (nI x)) 10 37 (nI k)) 46 q.length (nI (100 * dd + 10 * v + aHd sg G.1))) 10 26 (nI (q.length + 1))) 10 19 (nI (K.length + 1))) 43 (K.length + 1) (nI t')) 44 (K.length + 1) (nI d)) 45 (K.length + 1) (nI y)) 10 32 (nI t1)) 10 33 (nI d1)) (nI (4 + 4 * aHd sg G.1 + dd)) (nI v) (nI (K.length + 1))) 44 (K.length + 1) = hs (hs (hs (hs h 10 32 (nI t')) 10 36 (nI x)) 10 37 (nI k)) 44 (K.length + 1) (nI d) 44 (K.length + 1) from rfl).trans (hs_at _ _ _ _)
            · exact (show (wkH (hs (hs (hs (hs (hs (hs (hs (hs (hs (hs (hs h 10 32 (nI t')) 10 36 (nI x)) 10 37 (nI k)) 46 q.length (nI (100 * dd + 10 * v + aHd sg G.1))) 10 26 (nI (q.length + 1))) 10 19 (nI (K.length + 1))) 43 (K.length + 1) (nI t')) 44 (K.length + 1) (nI d)) 45 (K.length + 1) (nI y)) 10 32 (nI t1)) 10 33 (nI d1)) (nI (4 + 4 * aHd sg G.1 + dd)) (nI v) (nI (K.length + 1))) 45 (K.length + 1) = hs (hs (hs (hs h 10 32 (nI t')) 10 36 (nI x)) 10 37 (nI k)) 45 (K.length + 1) (nI y) 45 (K.length + 1) from rfl).trans (hs_at _ _ _ _)
      · intro e_139_f c_139_f
        refine e_iload_n (i := 3) dX8_come_142 rfl rfl ?_
        refine e_bipush (v := 113) dX8_come_143 (by decide) ?_
        refine b_icmp_eq (X := (sg pl).toInt) (Y := 113) (tgt := 154) rfl (by decide) dX8_come_145 (by decide) ?_ ?_
        · intro e_145_t c_145_t
          refine e_aload_n (i := 0) dX8_come_154 rfl rfl ?_
          refine e_iload_n (i := 3) dX8_come_155 rfl rfl ?_
          refine e_bipush (v := 112) dX8_come_156 (by decide) ?_
          refine z_isub (z := nI dd) (sub112 hsd) dX8_come_158 ?_
          refine e_invVv (As := [.inl (nI dd)]) (h2 := (wkH (hs (hs (hs (hs (hs (hs (hs (hs (hs (hs (hs h 10 32 (nI t')) 10 36 (nI x)) 10 37 (nI k)) 46 q.length (nI (100 * dd + 10 * v + aHd sg G.1))) 10 26 (nI (q.length + 1))) 10 19 (nI (K.length + 1))) 43 (K.length + 1) (nI t')) 44 (K.length + 1) (nI d)) 45 (K.length + 1) (nI y)) 10 32 (nI t1)) 10 33 (nI d1)) (nI (4 + 4 * aHd sg G.1 + dd)) (nI v) (nI (K.length + 1)))) (ty := .int) (v := 0) dX8_come_159 lk_X8_196 yv_X8_ask rfl rfl rfl (Nat.le_of_ble_eq_true rfl) sh_10 ci_X8 (Nat.le_of_ble_eq_true rfl) ⟨Nat.le_of_ble_eq_true rfl, Nat.le_of_ble_eq_true rfl⟩ (k_M_ask1 (nK := K.length) l hB (hs (hs (hs h 10 32 (nI t')) 10 36 (nI x)) 10 37 (nI k)) hM hdd hla2 P t' d v q.length hchp hP2 rfl m33 m38 jx m26 hql y t1 d1 (aHd sg G.1) K.length y1 z3 (by omega) y3 hh y4 y5 m19 (by omega)) ?_
          refine e_goto (tgt := 229) dX8_come_162 (by decide) ?_
          refine e_ret dX8_come_229 rfl ?_
          rw [eT, eA] at hR
          have ho : mOld (hs (hs (hs h 10 32 (nI t')) 10 36 (nI x)) 10 37 (nI k)) (wkH (hs (hs (hs (hs (hs (hs (hs (hs (hs (hs (hs h 10 32 (nI t')) 10 36 (nI x)) 10 37 (nI k)) 46 q.length (nI (100 * dd + 10 * v + aHd sg G.1))) 10 26 (nI (q.length + 1))) 10 19 (nI (K.length + 1))) 43 (K.length + 1) (nI t')) 44 (K.length + 1) (nI d)) 45 (K.length + 1) (nI y)) 10 32 (nI t1)) 10 33 (nI d1)) (nI (4 + 4 * aHd sg G.1 + dd)) (nI v) (nI (K.length + 1))) fr la := mOld_s rfl rfl rfl rfl rfl rfl rfl rfl rfl fr la
          have ho2 : mOld h (wkH (hs (hs (hs (hs (hs (hs (hs (hs (hs (hs (hs h 10 32 (nI t')) 10 36 (nI x)) 10 37 (nI k)) 46 q.length (nI (100 * dd + 10 * v + aHd sg G.1))) 10 26 (nI (q.length + 1))) 10 19 (nI (K.length + 1))) 43 (K.length + 1) (nI t')) 44 (K.length + 1) (nI d)) 45 (K.length + 1) (nI y)) 10 32 (nI t1)) 10 33 (nI d1)) (nI (4 + 4 * aHd sg G.1 + dd)) (nI v) (nI (K.length + 1))) fr la := mOld_s rfl rfl rfl rfl rfl rfl rfl rfl rfl fr la
          have hKl : (K ++ [A ++ [G]]).length = K.length + 1 := by simp
          refine hR _ _ ⟨rfl, (((((((((((KM.refl h).hs (by omega)).hs (by omega)).hs (by omega)).hs (by omega)).hs (by omega)).hs (by omega)).hs (by omega)).hs (by omega)).hs (by omega)).hs (by omega)).hs (by omega) |>.wk, fr, la, t1, d1, m8, m15, by rw [hKl]; rfl, rfl, rfl, mCh_ext ho (Nat.le_refl _) (Nat.le_refl _) y6, fun _ => ⟨rfl, nI_page2 _, rfl, rfl⟩, fun z => (by cases z), m39, m27, m28, ⟨m23, m24, m25, by rw [List.length_append]; rfl, ?_⟩, fun j L z => ?_, by show fr ≤ 2 * n + 1; omega, hla⟩
          · intro i hi
            rw [List.length_append] at hi
            simp only [List.length_cons, List.length_nil] at hi
            show hs (hs (hs (hs h 10 32 (nI t')) 10 36 (nI x)) 10 37 (nI k)) 46 q.length (nI (100 * dd + 10 * v + aHd sg G.1)) 46 i = _
            by_cases hq : i < q.length
            · rw [hs_ne _ _ (by omega), List.getD_eq_getElem?_getD, List.getElem?_append_left hq, ← List.getD_eq_getElem?_getD]
              exact m46 i hq
            · obtain rfl : i = q.length := by omega
              rw [hs_at, List.getD_eq_getElem?_getD, List.getElem?_append_right (Nat.le_refl _), Nat.sub_self]
              rfl
          · by_cases hj : j < K.length
            · rw [List.getElem?_append_left hj] at z
              obtain ⟨a, b, c, r1, r2, r3, r4⟩ := hkp j L z
              refine ⟨a, b, c, ?_, ?_, ?_, mSg_ext ho2 (Nat.le_refl _) (Nat.le_refl _) r4⟩
              · exact (show (wkH (hs (hs (hs (hs (hs (hs (hs (hs (hs (hs (hs h 10 32 (nI t')) 10 36 (nI x)) 10 37 (nI k)) 46 q.length (nI (100 * dd + 10 * v + aHd sg G.1))) 10 26 (nI (q.length + 1))) 10 19 (nI (K.length + 1))) 43 (K.length + 1) (nI t')) 44 (K.length + 1) (nI d)) 45 (K.length + 1) (nI y)) 10 32 (nI t1)) 10 33 (nI d1)) (nI (4 + 4 * aHd sg G.1 + dd)) (nI v) (nI (K.length + 1))) 43 (j + 1) = hs (hs (hs (hs h 10 32 (nI t')) 10 36 (nI x)) 10 37 (nI k)) 43 (K.length + 1) (nI t') 43 (j + 1) from rfl).trans ((hs_ne _ _ (by omega)).trans r1)
              · exact (show (wkH (hs (hs (hs (hs (hs (hs (hs (hs (hs (hs (hs h 10 32 (nI t')) 10 36 (nI x)) 10 37 (nI k)) 46 q.length (nI (100 * dd + 10 * v + aHd sg G.1))) 10 26 (nI (q.length + 1))) 10 19 (nI (K.length + 1))) 43 (K.length + 1) (nI t')) 44 (K.length + 1) (nI d)) 45 (K.length + 1) (nI y)) 10 32 (nI t1)) 10 33 (nI d1)) (nI (4 + 4 * aHd sg G.1 + dd)) (nI v) (nI (K.length + 1))) 44 (j + 1) = hs (hs (hs (hs h 10 32 (nI t')) 10 36 (nI x)) 10 37 (nI k)) 44 (K.length + 1) (nI d) 44 (j + 1) from rfl).trans ((hs_ne _ _ (by omega)).trans r2)
              · exact (show (wkH (hs (hs (hs (hs (hs (hs (hs (hs (hs (hs (hs h 10 32 (nI t')) 10 36 (nI x)) 10 37 (nI k)) 46 q.length (nI (100 * dd + 10 * v + aHd sg G.1))) 10 26 (nI (q.length + 1))) 10 19 (nI (K.length + 1))) 43 (K.length + 1) (nI t')) 44 (K.length + 1) (nI d)) 45 (K.length + 1) (nI y)) 10 32 (nI t1)) 10 33 (nI d1)) (nI (4 + 4 * aHd sg G.1 + dd)) (nI v) (nI (K.length + 1))) 45 (j + 1) = hs (hs (hs (hs h 10 32 (nI t')) 10 36 (nI x)) 10 37 (nI k)) 45 (K.length + 1) (nI y) 45 (j + 1) from rfl).trans ((hs_ne _ _ (by omega)).trans r3)
            · rw [List.getElem?_append_right (by omega)] at z
              have hj0 : j = K.length := by
                have := (List.getElem?_eq_some_iff.mp z).1
                simp only [List.length_cons, List.length_nil] at this
                omega
              subst hj0
              rw [Nat.sub_self] at z
              cases z
              refine ⟨t', d, y, ?_, ?_, ?_, mSg_ext ho (Nat.le_refl _) (Nat.le_refl _) y2⟩
              · exact (show (wkH (hs (hs (hs (hs (hs (hs (hs (hs (hs (hs (hs h 10 32 (nI t')) 10 36 (nI x)) 10 37 (nI k)) 46 q.length (nI (100 * dd + 10 * v + aHd sg G.1))) 10 26 (nI (q.length + 1))) 10 19 (nI (K.length + 1))) 43 (K.length + 1) (nI t')) 44 (K.length + 1) (nI d)) 45 (K.length + 1) (nI y)) 10 32 (nI t1)) 10 33 (nI d1)) (nI (4 + 4 * aHd sg G.1 + dd)) (nI v) (nI (K.length + 1))) 43 (K.length + 1) = hs (hs (hs (hs h 10 32 (nI t')) 10 36 (nI x)) 10 37 (nI k)) 43 (K.length + 1) (nI t') 43 (K.length + 1) from rfl).trans (hs_at _ _ _ _)
              · exact (show (wkH (hs (hs (hs (hs (hs (hs (hs (hs (hs (hs (hs h 10 32 (nI t')) 10 36 (nI x)) 10 37 (nI k)) 46 q.length (nI (100 * dd + 10 * v + aHd sg G.1))) 10 26 (nI (q.length + 1))) 10 19 (nI (K.length + 1))) 43 (K.length + 1) (nI t')) 44 (K.length + 1) (nI d)) 45 (K.length + 1) (nI y)) 10 32 (nI t1)) 10 33 (nI d1)) (nI (4 + 4 * aHd sg G.1 + dd)) (nI v) (nI (K.length + 1))) 44 (K.length + 1) = hs (hs (hs (hs h 10 32 (nI t')) 10 36 (nI x)) 10 37 (nI k)) 44 (K.length + 1) (nI d) 44 (K.length + 1) from rfl).trans (hs_at _ _ _ _)
              · exact (show (wkH (hs (hs (hs (hs (hs (hs (hs (hs (hs (hs (hs h 10 32 (nI t')) 10 36 (nI x)) 10 37 (nI k)) 46 q.length (nI (100 * dd + 10 * v + aHd sg G.1))) 10 26 (nI (q.length + 1))) 10 19 (nI (K.length + 1))) 43 (K.length + 1) (nI t')) 44 (K.length + 1) (nI d)) 45 (K.length + 1) (nI y)) 10 32 (nI t1)) 10 33 (nI d1)) (nI (4 + 4 * aHd sg G.1 + dd)) (nI v) (nI (K.length + 1))) 45 (K.length + 1) = hs (hs (hs (hs h 10 32 (nI t')) 10 36 (nI x)) 10 37 (nI k)) 45 (K.length + 1) (nI y) 45 (K.length + 1) from rfl).trans (hs_at _ _ _ _)
        · intro e_145_f c_145_f
          refine e_iload_n (i := 3) dX8_come_148 rfl rfl ?_
          refine e_bipush (v := 114) dX8_come_149 (by decide) ?_
          refine b_icmp_ne (X := (sg pl).toInt) (Y := 114) (tgt := 165) rfl (by decide) dX8_come_151 (by decide) ?_ ?_
          · intro e_151_t c_151_t
            exfalso; omega
          · intro e_151_f c_151_f
            refine e_aload_n (i := 0) dX8_come_154 rfl rfl ?_
            refine e_iload_n (i := 3) dX8_come_155 rfl rfl ?_
            refine e_bipush (v := 112) dX8_come_156 (by decide) ?_
            refine z_isub (z := nI dd) (sub112 hsd) dX8_come_158 ?_
            refine e_invVv (As := [.inl (nI dd)]) (h2 := (wkH (hs (hs (hs (hs (hs (hs (hs (hs (hs (hs (hs h 10 32 (nI t')) 10 36 (nI x)) 10 37 (nI k)) 46 q.length (nI (100 * dd + 10 * v + aHd sg G.1))) 10 26 (nI (q.length + 1))) 10 19 (nI (K.length + 1))) 43 (K.length + 1) (nI t')) 44 (K.length + 1) (nI d)) 45 (K.length + 1) (nI y)) 10 32 (nI t1)) 10 33 (nI d1)) (nI (4 + 4 * aHd sg G.1 + dd)) (nI v) (nI (K.length + 1)))) (ty := .int) (v := 0) dX8_come_159 lk_X8_196 yv_X8_ask rfl rfl rfl (Nat.le_of_ble_eq_true rfl) sh_10 ci_X8 (Nat.le_of_ble_eq_true rfl) ⟨Nat.le_of_ble_eq_true rfl, Nat.le_of_ble_eq_true rfl⟩ (k_M_ask1 (nK := K.length) l hB (hs (hs (hs h 10 32 (nI t')) 10 36 (nI x)) 10 37 (nI k)) hM hdd hla2 P t' d v q.length hchp hP2 rfl m33 m38 jx m26 hql y t1 d1 (aHd sg G.1) K.length y1 z3 (by omega) y3 hh y4 y5 m19 (by omega)) ?_
            refine e_goto (tgt := 229) dX8_come_162 (by decide) ?_
            refine e_ret dX8_come_229 rfl ?_
            rw [eT, eA] at hR
            have ho : mOld (hs (hs (hs h 10 32 (nI t')) 10 36 (nI x)) 10 37 (nI k)) (wkH (hs (hs (hs (hs (hs (hs (hs (hs (hs (hs (hs h 10 32 (nI t')) 10 36 (nI x)) 10 37 (nI k)) 46 q.length (nI (100 * dd + 10 * v + aHd sg G.1))) 10 26 (nI (q.length + 1))) 10 19 (nI (K.length + 1))) 43 (K.length + 1) (nI t')) 44 (K.length + 1) (nI d)) 45 (K.length + 1) (nI y)) 10 32 (nI t1)) 10 33 (nI d1)) (nI (4 + 4 * aHd sg G.1 + dd)) (nI v) (nI (K.length + 1))) fr la := mOld_s rfl rfl rfl rfl rfl rfl rfl rfl rfl fr la
            have ho2 : mOld h (wkH (hs (hs (hs (hs (hs (hs (hs (hs (hs (hs (hs h 10 32 (nI t')) 10 36 (nI x)) 10 37 (nI k)) 46 q.length (nI (100 * dd + 10 * v + aHd sg G.1))) 10 26 (nI (q.length + 1))) 10 19 (nI (K.length + 1))) 43 (K.length + 1) (nI t')) 44 (K.length + 1) (nI d)) 45 (K.length + 1) (nI y)) 10 32 (nI t1)) 10 33 (nI d1)) (nI (4 + 4 * aHd sg G.1 + dd)) (nI v) (nI (K.length + 1))) fr la := mOld_s rfl rfl rfl rfl rfl rfl rfl rfl rfl fr la
            have hKl : (K ++ [A ++ [G]]).length = K.length + 1 := by simp
            refine hR _ _ ⟨rfl, (((((((((((KM.refl h).hs (by omega)).hs (by omega)).hs (by omega)).hs (by omega)).hs (by omega)).hs (by omega)).hs (by omega)).hs (by omega)).hs (by omega)).hs (by omega)).hs (by omega) |>.wk, fr, la, t1, d1, m8, m15, by rw [hKl]; rfl, rfl, rfl, mCh_ext ho (Nat.le_refl _) (Nat.le_refl _) y6, fun _ => ⟨rfl, nI_page2 _, rfl, rfl⟩, fun z => (by cases z), m39, m27, m28, ⟨m23, m24, m25, by rw [List.length_append]; rfl, ?_⟩, fun j L z => ?_, by show fr ≤ 2 * n + 1; omega, hla⟩
            · intro i hi
              rw [List.length_append] at hi
              simp only [List.length_cons, List.length_nil] at hi
              show hs (hs (hs (hs h 10 32 (nI t')) 10 36 (nI x)) 10 37 (nI k)) 46 q.length (nI (100 * dd + 10 * v + aHd sg G.1)) 46 i = _
              by_cases hq : i < q.length
              · rw [hs_ne _ _ (by omega), List.getD_eq_getElem?_getD, List.getElem?_append_left hq, ← List.getD_eq_getElem?_getD]
                exact m46 i hq
              · obtain rfl : i = q.length := by omega
                rw [hs_at, List.getD_eq_getElem?_getD, List.getElem?_append_right (Nat.le_refl _), Nat.sub_self]
                rfl
            · by_cases hj : j < K.length
              · rw [List.getElem?_append_left hj] at z
                obtain ⟨a, b, c, r1, r2, r3, r4⟩ := hkp j L z
                refine ⟨a, b, c, ?_, ?_, ?_, mSg_ext ho2 (Nat.le_refl _) (Nat.le_refl _) r4⟩
                · exact (show (wkH (hs (hs (hs (hs (hs (hs (hs (hs (hs (hs (hs h 10 32 (nI t')) 10 36 (nI x)) 10 37 (nI k)) 46 q.length (nI (100 * dd + 10 * v + aHd sg G.1))) 10 26 (nI (q.length + 1))) 10 19 (nI (K.length + 1))) 43 (K.length + 1) (nI t')) 44 (K.length + 1) (nI d)) 45 (K.length + 1) (nI y)) 10 32 (nI t1)) 10 33 (nI d1)) (nI (4 + 4 * aHd sg G.1 + dd)) (nI v) (nI (K.length + 1))) 43 (j + 1) = hs (hs (hs (hs h 10 32 (nI t')) 10 36 (nI x)) 10 37 (nI k)) 43 (K.length + 1) (nI t') 43 (j + 1) from rfl).trans ((hs_ne _ _ (by omega)).trans r1)
                · exact (show (wkH (hs (hs (hs (hs (hs (hs (hs (hs (hs (hs (hs h 10 32 (nI t')) 10 36 (nI x)) 10 37 (nI k)) 46 q.length (nI (100 * dd + 10 * v + aHd sg G.1))) 10 26 (nI (q.length + 1))) 10 19 (nI (K.length + 1))) 43 (K.length + 1) (nI t')) 44 (K.length + 1) (nI d)) 45 (K.length + 1) (nI y)) 10 32 (nI t1)) 10 33 (nI d1)) (nI (4 + 4 * aHd sg G.1 + dd)) (nI v) (nI (K.length + 1))) 44 (j + 1) = hs (hs (hs (hs h 10 32 (nI t')) 10 36 (nI x)) 10 37 (nI k)) 44 (K.length + 1) (nI d) 44 (j + 1) from rfl).trans ((hs_ne _ _ (by omega)).trans r2)
                · exact (show (wkH (hs (hs (hs (hs (hs (hs (hs (hs (hs (hs (hs h 10 32 (nI t')) 10 36 (nI x)) 10 37 (nI k)) 46 q.length (nI (100 * dd + 10 * v + aHd sg G.1))) 10 26 (nI (q.length + 1))) 10 19 (nI (K.length + 1))) 43 (K.length + 1) (nI t')) 44 (K.length + 1) (nI d)) 45 (K.length + 1) (nI y)) 10 32 (nI t1)) 10 33 (nI d1)) (nI (4 + 4 * aHd sg G.1 + dd)) (nI v) (nI (K.length + 1))) 45 (j + 1) = hs (hs (hs (hs h 10 32 (nI t')) 10 36 (nI x)) 10 37 (nI k)) 45 (K.length + 1) (nI y) 45 (j + 1) from rfl).trans ((hs_ne _ _ (by omega)).trans r3)
              · rw [List.getElem?_append_right (by omega)] at z
                have hj0 : j = K.length := by
                  have := (List.getElem?_eq_some_iff.mp z).1
                  simp only [List.length_cons, List.length_nil] at this
                  omega
                subst hj0
                rw [Nat.sub_self] at z
                cases z
                refine ⟨t', d, y, ?_, ?_, ?_, mSg_ext ho (Nat.le_refl _) (Nat.le_refl _) y2⟩
                · exact (show (wkH (hs (hs (hs (hs (hs (hs (hs (hs (hs (hs (hs h 10 32 (nI t')) 10 36 (nI x)) 10 37 (nI k)) 46 q.length (nI (100 * dd + 10 * v + aHd sg G.1))) 10 26 (nI (q.length + 1))) 10 19 (nI (K.length + 1))) 43 (K.length + 1) (nI t')) 44 (K.length + 1) (nI d)) 45 (K.length + 1) (nI y)) 10 32 (nI t1)) 10 33 (nI d1)) (nI (4 + 4 * aHd sg G.1 + dd)) (nI v) (nI (K.length + 1))) 43 (K.length + 1) = hs (hs (hs (hs h 10 32 (nI t')) 10 36 (nI x)) 10 37 (nI k)) 43 (K.length + 1) (nI t') 43 (K.length + 1) from rfl).trans (hs_at _ _ _ _)
                · exact (show (wkH (hs (hs (hs (hs (hs (hs (hs (hs (hs (hs (hs h 10 32 (nI t')) 10 36 (nI x)) 10 37 (nI k)) 46 q.length (nI (100 * dd + 10 * v + aHd sg G.1))) 10 26 (nI (q.length + 1))) 10 19 (nI (K.length + 1))) 43 (K.length + 1) (nI t')) 44 (K.length + 1) (nI d)) 45 (K.length + 1) (nI y)) 10 32 (nI t1)) 10 33 (nI d1)) (nI (4 + 4 * aHd sg G.1 + dd)) (nI v) (nI (K.length + 1))) 44 (K.length + 1) = hs (hs (hs (hs h 10 32 (nI t')) 10 36 (nI x)) 10 37 (nI k)) 44 (K.length + 1) (nI d) 44 (K.length + 1) from rfl).trans (hs_at _ _ _ _)
                · exact (show (wkH (hs (hs (hs (hs (hs (hs (hs (hs (hs (hs (hs h 10 32 (nI t')) 10 36 (nI x)) 10 37 (nI k)) 46 q.length (nI (100 * dd + 10 * v + aHd sg G.1))) 10 26 (nI (q.length + 1))) 10 19 (nI (K.length + 1))) 43 (K.length + 1) (nI t')) 44 (K.length + 1) (nI d)) 45 (K.length + 1) (nI y)) 10 32 (nI t1)) 10 33 (nI d1)) (nI (4 + 4 * aHd sg G.1 + dd)) (nI v) (nI (K.length + 1))) 45 (K.length + 1) = hs (hs (hs (hs h 10 32 (nI t')) 10 36 (nI x)) 10 37 (nI k)) 45 (K.length + 1) (nI y) 45 (K.length + 1) from rfl).trans (hs_at _ _ _ _)
    · intro e_88_f c_88_f
      exfalso; omega
  · intro e_52_f c_52_f
    exfalso; omega
set_option maxHeartbeats 4000000 in
theorem m_ask0r (l : Launch) {sg : Nat → Int32} {ln sz : Nat → Nat} {r : List Nat} (hB : aWB sg ln sz) (h : mH) (hM : MB sg ln sz h) {v pl x k w : Nat} {P : List aF} {K : List (List aF)} {n g u : Nat} {q : List Nat} (hJ : aJ sg sz r (false, 0, v, 0, (pl, x, k, w) :: P, K, n, g, u, q)) (hRM : RM sg h (false, 0, v, 0, (pl, x, k, w) :: P, K, n, g, u, q)) {dd : Nat} (hdd : dd < 3) (hsd : (sg pl).toInt = 112 + (dd : Int)) (hr8 : r.length ≤ 8) (hN : aNr sg sz dd P = none) (hMR : MR r h) (hu : u < r.length) : mG l Sh0 iX8_come [.inr 10] h (fun v' h' => v' = none ∧ KM h h' ∧ MO sg h' (aTop sg ln sz r v pl x k w P K n g u q)) := by
  obtain ⟨fr, la, t, d, m8, m15, m19, m32, m33, hch, hb, hb2, m39, m27, m28, ⟨m23, m24, m25, m26, m46⟩, hkp, hfr, hla⟩ := hRM
  have hfr : fr ≤ 2 * n + 0 := hfr
  have m38 : h 10 38 = nI v := hb2 rfl
  have jx : v < 8 := hJ.1
  obtain ⟨-, jb, jP, jK, jn, jg, ju, jq, jc, gs, g1, g2, g3, g4⟩ := hJ
  obtain ⟨f1, f2, f3, f4, f5, f6, f7⟩ := jP (pl, x, k, w) List.mem_cons_self
  dsimp only at f1 f2 f3 f4 f5 f6 f7
  have hp8 : pl < 800 := f1.1
  have hsg : h 30 pl = sg pl := hM.1 pl hp8
  have hB9 := hB.2 pl f1
  have h1 : aOf (sg pl).toInt = 1 := by rcases (show dd = 0 ∨ dd = 1 ∨ dd = 2 by omega) with z | z | z <;> subst z <;> rw [hsd] <;> decide
  have hs3 : (sg pl).toInt = 112 ∨ (sg pl).toInt = 113 ∨ (sg pl).toInt = 114 := by omega
  have h64 : (sg pl).toInt ≠ 64 := by omega
  have hdq : ((sg pl).toInt - 112).toNat = dd := by omega
  obtain ⟨-, q2, q3, ⟨w1, w2, w3, w4, w5⟩, t', q5, hch2⟩ : _ ∧ _ := hch.resolve_left (fun z => h64 z.1)
  dsimp only at w1 w2 w3 w4 w5
  obtain ⟨ht', hd'⟩ := mCh_le hch2
  have hP2 : ∀ F ∈ P, aFok sg sz K.length F := fun F hF => jP F (List.mem_cons_of_mem _ hF)
  have jc : K.length + 1 ≤ n + 1 := jc
  have hla2 : la < 12000 := by omega
  have hql : q.length < 256 := by omega
  have hchp : mCh sg (hs (hs (hs h 10 32 (nI t')) 10 36 (nI x)) 10 37 (nI k)) fr la P t' d := mCh_ext (mOld_s (h := h) (h' := (hs (hs (hs h 10 32 (nI t')) 10 36 (nI x)) 10 37 (nI k))) rfl rfl rfl rfl rfl rfl rfl rfl rfl fr la) (Nat.le_refl _) (Nat.le_refl _) hch2
  have eT : aTop sg ln sz r v pl x k w P K n g u q = aAsk sg sz r dd v P K n g u q := by
    unfold aTop
    rw [if_neg (by omega), if_neg (by omega), if_neg (by omega), if_neg (by omega), if_pos hs3, hdq]
  have eA : aAsk sg sz r dd v P K n g u q = .inl (false, 0, r.getD u 0, 0, P, K, n, g, u + 1, q ++ [100 * dd + 10 * v + 9]) := by
    unfold aAsk
    rw [hN]
    exact if_pos hu
  have hy : mBy sg sz dd (hs (hs (hs h 10 32 (nI t')) 10 36 (nI x)) 10 37 (nI k)) P d = 0 := mBy_none (aNr_none hN)
  obtain ⟨r1, r2, r3⟩ := hMR
  intro RT hR
  show mE l Sh0 none iX8_come RT 0 [some (.inr 10), none, none, none] [] h
  refine e_aload_n (i := 0) dX8_come_0 rfl rfl ?_
  refine e_getI (x := nI t) dX8_come_1 fl_X8_123 sh_10 fj_10_32 m32 ?_
  refine e_istore_n (i := 1) (ls2 := [some (.inr 10), some (.inl (nI t)), none, none]) dX8_come_4 rfl (Nat.le_of_ble_eq_true rfl) rfl ?_
  refine e_aload_n (i := 0) dX8_come_5 rfl rfl ?_
  refine e_getR (r := 34) dX8_come_6 fl_X8_28 sh_10 fj_10_9 ?_
  refine e_iload_n (i := 1) dX8_come_9 rfl rfl ?_
  refine e_iald (x := nI pl) dX8_come_10 sh_34 (vin_ofX (X := ((t : Nat) : Int)) (nI_toInt (by omega)) (by omega) (by omega)) (by rw [nI_clamp (by omega)]; exact w1) ?_
  refine e_istore_n (i := 2) (ls2 := [some (.inr 10), some (.inl (nI t)), some (.inl (nI pl)), none]) dX8_come_11 rfl (Nat.le_of_ble_eq_true rfl) rfl ?_
  refine e_aload_n (i := 0) dX8_come_12 rfl rfl ?_
  refine e_getR (r := 30) dX8_come_13 fl_X8_16 sh_10 fj_10_3 ?_
  refine e_iload_n (i := 2) dX8_come_16 rfl rfl ?_
  refine e_iald (x := sg pl) dX8_come_17 sh_30 (vin_ofX (X := ((pl : Nat) : Int)) (nI_toInt (by omega)) (by omega) (by omega)) (by rw [nI_clamp (by omega)]; exact hsg) ?_
  refine e_istore_n (i := 3) (ls2 := [some (.inr 10), some (.inl (nI t)), some (.inl (nI pl)), some (.inl (sg pl))]) dX8_come_18 rfl (Nat.le_of_ble_eq_true rfl) rfl ?_
  refine e_aload_n (i := 0) dX8_come_19 rfl rfl ?_
  refine e_aload_n (i := 0) dX8_come_20 rfl rfl ?_
  refine e_getR (r := 39) dX8_come_21 fl_X8_43 sh_10 fj_10_14 ?_
  refine e_iload_n (i := 1) dX8_come_24 rfl rfl ?_
  refine e_iald (x := nI t') dX8_come_25 sh_39 (vin_ofX (X := ((t : Nat) : Int)) (nI_toInt (by omega)) (by omega) (by omega)) (by rw [nI_clamp (by omega)]; exact q5) ?_
  refine e_putI dX8_come_26 fl_X8_123 fp_X8_32 sh_10 fj_10_32 ?_
  refine e_aload_n (i := 0) dX8_come_29 rfl rfl ?_
  refine e_aload_n (i := 0) dX8_come_30 rfl rfl ?_
  refine e_getR (r := 36) dX8_come_31 fl_X8_34 sh_10 fj_10_11 ?_
  refine e_iload_n (i := 1) dX8_come_34 rfl rfl ?_
  refine e_iald (x := nI x) dX8_come_35 sh_36 (vin_ofX (X := ((t : Nat) : Int)) (nI_toInt (by omega)) (by omega) (by omega)) (by rw [nI_clamp (by omega)]; exact w3) ?_
  refine e_putI dX8_come_36 fl_X8_156 fp_X8_36 sh_10 fj_10_36 ?_
  refine e_aload_n (i := 0) dX8_come_39 rfl rfl ?_
  refine e_aload_n (i := 0) dX8_come_40 rfl rfl ?_
  refine e_getR (r := 37) dX8_come_41 fl_X8_37 sh_10 fj_10_12 ?_
  refine e_iload_n (i := 1) dX8_come_44 rfl rfl ?_
  refine e_iald (x := nI k) dX8_come_45 sh_37 (vin_ofX (X := ((t : Nat) : Int)) (nI_toInt (by omega)) (by omega) (by omega)) (by rw [nI_clamp (by omega)]; exact w4) ?_
  refine e_putI dX8_come_46 fl_X8_159 fp_X8_37 sh_10 fj_10_37 ?_
  refine e_iload_n (i := 3) dX8_come_49 rfl rfl ?_
  refine e_bipush (v := 63) dX8_come_50 (by decide) ?_
  refine b_icmp_ne (X := (sg pl).toInt) (Y := 63) (tgt := 85) rfl (by decide) dX8_come_52 (by decide) ?_ ?_
  · intro e_52_t c_52_t
    refine e_iload_n (i := 3) dX8_come_85 rfl rfl ?_
    refine e_bipush (v := 107) dX8_come_86 (by decide) ?_
    refine b_icmp_ne (X := (sg pl).toInt) (Y := 107) (tgt := 136) rfl (by decide) dX8_come_88 (by decide) ?_ ?_
    · intro e_88_t c_88_t
      refine e_iload_n (i := 3) dX8_come_136 rfl rfl ?_
      refine e_bipush (v := 112) dX8_come_137 (by decide) ?_
      refine b_icmp_eq (X := (sg pl).toInt) (Y := 112) (tgt := 154) rfl (by decide) dX8_come_139 (by decide) ?_ ?_
      · intro e_139_t c_139_t
        refine e_aload_n (i := 0) dX8_come_154 rfl rfl ?_
        refine e_iload_n (i := 3) dX8_come_155 rfl rfl ?_
        refine e_bipush (v := 112) dX8_come_156 (by decide) ?_
        refine z_isub (z := nI dd) (sub112 hsd) dX8_come_158 ?_
        refine e_invVv (As := [.inl (nI dd)]) (h2 := (hs (hs (hs (hs (hs (hs (hs h 10 32 (nI t')) 10 36 (nI x)) 10 37 (nI k)) 46 q.length (nI (100 * dd + 10 * v + 9))) 10 26 (nI (q.length + 1))) 10 38 (nI (r.getD u 0))) 10 25 (nI (u + 1)))) (ty := .int) (v := 0) dX8_come_159 lk_X8_196 yv_X8_ask rfl rfl rfl (Nat.le_of_ble_eq_true rfl) sh_10 ci_X8 (Nat.le_of_ble_eq_true rfl) ⟨Nat.le_of_ble_eq_true rfl, Nat.le_of_ble_eq_true rfl⟩ (k_M_ask0r (nK := K.length) l hB (hs (hs (hs h 10 32 (nI t')) 10 36 (nI x)) 10 37 (nI k)) hM hdd hla2 P t' d v q.length hchp hP2 rfl m33 m38 jx m26 hql hy u r.length (r.getD u 0) m25 r1 r2 hu (r3 u hu)) ?_
        refine e_goto (tgt := 229) dX8_come_162 (by decide) ?_
        refine e_ret dX8_come_229 rfl ?_
        rw [eT, eA] at hR
        have h46 : ∀ i, i < (q ++ [100 * dd + 10 * v + 9]).length → (hs (hs (hs (hs (hs (hs (hs h 10 32 (nI t')) 10 36 (nI x)) 10 37 (nI k)) 46 q.length (nI (100 * dd + 10 * v + 9))) 10 26 (nI (q.length + 1))) 10 38 (nI (r.getD u 0))) 10 25 (nI (u + 1))) 46 i = nI ((q ++ [100 * dd + 10 * v + 9]).getD i 0) := by
          intro i hi
          rw [List.length_append] at hi
          simp only [List.length_cons, List.length_nil] at hi
          show hs (hs (hs (hs h 10 32 (nI t')) 10 36 (nI x)) 10 37 (nI k)) 46 q.length (nI (100 * dd + 10 * v + 9)) 46 i = _
          by_cases hq : i < q.length
          · rw [hs_ne _ _ (by omega), List.getD_eq_getElem?_getD, List.getElem?_append_left hq, ← List.getD_eq_getElem?_getD]
            exact m46 i hq
          · obtain rfl : i = q.length := by omega
            rw [hs_at, List.getD_eq_getElem?_getD, List.getElem?_append_right (Nat.le_refl _), Nat.sub_self]
            rfl
        exact hR _ _ ⟨rfl, (((((((KM.refl h).hs (by omega)).hs (by omega)).hs (by omega)).hs (by omega)).hs (by omega)).hs (by omega)).hs (by omega), fr, la, t', d, m8, m15, m19, rfl, m33, mCh_ext (mOld_s (h := h) (h' := (hs (hs (hs (hs (hs (hs (hs h 10 32 (nI t')) 10 36 (nI x)) 10 37 (nI k)) 46 q.length (nI (100 * dd + 10 * v + 9))) 10 26 (nI (q.length + 1))) 10 38 (nI (r.getD u 0))) 10 25 (nI (u + 1)))) rfl rfl rfl rfl rfl rfl rfl rfl rfl fr la) (Nat.le_refl _) (Nat.le_refl _) hch2, fun z => (by cases z), fun _ => rfl, m39, m27, m28, ⟨m23, m24, rfl, by rw [List.length_append]; rfl, h46⟩, (fun j L z => (hkp j L z).imp (fun _ z => z.imp (fun _ z => z.imp (fun _ z => ⟨z.1, z.2.1, z.2.2.1, mSg_ext (mOld_s (h := h) (h' := (hs (hs (hs (hs (hs (hs (hs h 10 32 (nI t')) 10 36 (nI x)) 10 37 (nI k)) 46 q.length (nI (100 * dd + 10 * v + 9))) 10 26 (nI (q.length + 1))) 10 38 (nI (r.getD u 0))) 10 25 (nI (u + 1)))) rfl rfl rfl rfl rfl rfl rfl rfl rfl fr la) (Nat.le_refl _) (Nat.le_refl _) z.2.2.2⟩)))), hfr, hla⟩
      · intro e_139_f c_139_f
        refine e_iload_n (i := 3) dX8_come_142 rfl rfl ?_
        refine e_bipush (v := 113) dX8_come_143 (by decide) ?_
        refine b_icmp_eq (X := (sg pl).toInt) (Y := 113) (tgt := 154) rfl (by decide) dX8_come_145 (by decide) ?_ ?_
        · intro e_145_t c_145_t
          refine e_aload_n (i := 0) dX8_come_154 rfl rfl ?_
          refine e_iload_n (i := 3) dX8_come_155 rfl rfl ?_
          refine e_bipush (v := 112) dX8_come_156 (by decide) ?_
          refine z_isub (z := nI dd) (sub112 hsd) dX8_come_158 ?_
          refine e_invVv (As := [.inl (nI dd)]) (h2 := (hs (hs (hs (hs (hs (hs (hs h 10 32 (nI t')) 10 36 (nI x)) 10 37 (nI k)) 46 q.length (nI (100 * dd + 10 * v + 9))) 10 26 (nI (q.length + 1))) 10 38 (nI (r.getD u 0))) 10 25 (nI (u + 1)))) (ty := .int) (v := 0) dX8_come_159 lk_X8_196 yv_X8_ask rfl rfl rfl (Nat.le_of_ble_eq_true rfl) sh_10 ci_X8 (Nat.le_of_ble_eq_true rfl) ⟨Nat.le_of_ble_eq_true rfl, Nat.le_of_ble_eq_true rfl⟩ (k_M_ask0r (nK := K.length) l hB (hs (hs (hs h 10 32 (nI t')) 10 36 (nI x)) 10 37 (nI k)) hM hdd hla2 P t' d v q.length hchp hP2 rfl m33 m38 jx m26 hql hy u r.length (r.getD u 0) m25 r1 r2 hu (r3 u hu)) ?_
          refine e_goto (tgt := 229) dX8_come_162 (by decide) ?_
          refine e_ret dX8_come_229 rfl ?_
          rw [eT, eA] at hR
          have h46 : ∀ i, i < (q ++ [100 * dd + 10 * v + 9]).length → (hs (hs (hs (hs (hs (hs (hs h 10 32 (nI t')) 10 36 (nI x)) 10 37 (nI k)) 46 q.length (nI (100 * dd + 10 * v + 9))) 10 26 (nI (q.length + 1))) 10 38 (nI (r.getD u 0))) 10 25 (nI (u + 1))) 46 i = nI ((q ++ [100 * dd + 10 * v + 9]).getD i 0) := by
            intro i hi
            rw [List.length_append] at hi
            simp only [List.length_cons, List.length_nil] at hi
            show hs (hs (hs (hs h 10 32 (nI t')) 10 36 (nI x)) 10 37 (nI k)) 46 q.length (nI (100 * dd + 10 * v + 9)) 46 i = _
            by_cases hq : i < q.length
            · rw [hs_ne _ _ (by omega), List.getD_eq_getElem?_getD, List.getElem?_append_left hq, ← List.getD_eq_getElem?_getD]
              exact m46 i hq
            · obtain rfl : i = q.length := by omega
              rw [hs_at, List.getD_eq_getElem?_getD, List.getElem?_append_right (Nat.le_refl _), Nat.sub_self]
              rfl
          exact hR _ _ ⟨rfl, (((((((KM.refl h).hs (by omega)).hs (by omega)).hs (by omega)).hs (by omega)).hs (by omega)).hs (by omega)).hs (by omega), fr, la, t', d, m8, m15, m19, rfl, m33, mCh_ext (mOld_s (h := h) (h' := (hs (hs (hs (hs (hs (hs (hs h 10 32 (nI t')) 10 36 (nI x)) 10 37 (nI k)) 46 q.length (nI (100 * dd + 10 * v + 9))) 10 26 (nI (q.length + 1))) 10 38 (nI (r.getD u 0))) 10 25 (nI (u + 1)))) rfl rfl rfl rfl rfl rfl rfl rfl rfl fr la) (Nat.le_refl _) (Nat.le_refl _) hch2, fun z => (by cases z), fun _ => rfl, m39, m27, m28, ⟨m23, m24, rfl, by rw [List.length_append]; rfl, h46⟩, (fun j L z => (hkp j L z).imp (fun _ z => z.imp (fun _ z => z.imp (fun _ z => ⟨z.1, z.2.1, z.2.2.1, mSg_ext (mOld_s (h := h) (h' := (hs (hs (hs (hs (hs (hs (hs h 10 32 (nI t')) 10 36 (nI x)) 10 37 (nI k)) 46 q.length (nI (100 * dd + 10 * v + 9))) 10 26 (nI (q.length + 1))) 10 38 (nI (r.getD u 0))) 10 25 (nI (u + 1)))) rfl rfl rfl rfl rfl rfl rfl rfl rfl fr la) (Nat.le_refl _) (Nat.le_refl _) z.2.2.2⟩)))), hfr, hla⟩
        · intro e_145_f c_145_f
          refine e_iload_n (i := 3) dX8_come_148 rfl rfl ?_
          refine e_bipush (v := 114) dX8_come_149 (by decide) ?_
          refine b_icmp_ne (X := (sg pl).toInt) (Y := 114) (tgt := 165) rfl (by decide) dX8_come_151 (by decide) ?_ ?_
          · intro e_151_t c_151_t
            exfalso; omega
          · intro e_151_f c_151_f
            refine e_aload_n (i := 0) dX8_come_154 rfl rfl ?_
            refine e_iload_n (i := 3) dX8_come_155 rfl rfl ?_
            refine e_bipush (v := 112) dX8_come_156 (by decide) ?_
            refine z_isub (z := nI dd) (sub112 hsd) dX8_come_158 ?_
            refine e_invVv (As := [.inl (nI dd)]) (h2 := (hs (hs (hs (hs (hs (hs (hs h 10 32 (nI t')) 10 36 (nI x)) 10 37 (nI k)) 46 q.length (nI (100 * dd + 10 * v + 9))) 10 26 (nI (q.length + 1))) 10 38 (nI (r.getD u 0))) 10 25 (nI (u + 1)))) (ty := .int) (v := 0) dX8_come_159 lk_X8_196 yv_X8_ask rfl rfl rfl (Nat.le_of_ble_eq_true rfl) sh_10 ci_X8 (Nat.le_of_ble_eq_true rfl) ⟨Nat.le_of_ble_eq_true rfl, Nat.le_of_ble_eq_true rfl⟩ (k_M_ask0r (nK := K.length) l hB (hs (hs (hs h 10 32 (nI t')) 10 36 (nI x)) 10 37 (nI k)) hM hdd hla2 P t' d v q.length hchp hP2 rfl m33 m38 jx m26 hql hy u r.length (r.getD u 0) m25 r1 r2 hu (r3 u hu)) ?_
            refine e_goto (tgt := 229) dX8_come_162 (by decide) ?_
            refine e_ret dX8_come_229 rfl ?_
            rw [eT, eA] at hR
            have h46 : ∀ i, i < (q ++ [100 * dd + 10 * v + 9]).length → (hs (hs (hs (hs (hs (hs (hs h 10 32 (nI t')) 10 36 (nI x)) 10 37 (nI k)) 46 q.length (nI (100 * dd + 10 * v + 9))) 10 26 (nI (q.length + 1))) 10 38 (nI (r.getD u 0))) 10 25 (nI (u + 1))) 46 i = nI ((q ++ [100 * dd + 10 * v + 9]).getD i 0) := by
              intro i hi
              rw [List.length_append] at hi
              simp only [List.length_cons, List.length_nil] at hi
              show hs (hs (hs (hs h 10 32 (nI t')) 10 36 (nI x)) 10 37 (nI k)) 46 q.length (nI (100 * dd + 10 * v + 9)) 46 i = _
              by_cases hq : i < q.length
              · rw [hs_ne _ _ (by omega), List.getD_eq_getElem?_getD, List.getElem?_append_left hq, ← List.getD_eq_getElem?_getD]
                exact m46 i hq
              · obtain rfl : i = q.length := by omega
                rw [hs_at, List.getD_eq_getElem?_getD, List.getElem?_append_right (Nat.le_refl _), Nat.sub_self]
                rfl
            exact hR _ _ ⟨rfl, (((((((KM.refl h).hs (by omega)).hs (by omega)).hs (by omega)).hs (by omega)).hs (by omega)).hs (by omega)).hs (by omega), fr, la, t', d, m8, m15, m19, rfl, m33, mCh_ext (mOld_s (h := h) (h' := (hs (hs (hs (hs (hs (hs (hs h 10 32 (nI t')) 10 36 (nI x)) 10 37 (nI k)) 46 q.length (nI (100 * dd + 10 * v + 9))) 10 26 (nI (q.length + 1))) 10 38 (nI (r.getD u 0))) 10 25 (nI (u + 1)))) rfl rfl rfl rfl rfl rfl rfl rfl rfl fr la) (Nat.le_refl _) (Nat.le_refl _) hch2, fun z => (by cases z), fun _ => rfl, m39, m27, m28, ⟨m23, m24, rfl, by rw [List.length_append]; rfl, h46⟩, (fun j L z => (hkp j L z).imp (fun _ z => z.imp (fun _ z => z.imp (fun _ z => ⟨z.1, z.2.1, z.2.2.1, mSg_ext (mOld_s (h := h) (h' := (hs (hs (hs (hs (hs (hs (hs h 10 32 (nI t')) 10 36 (nI x)) 10 37 (nI k)) 46 q.length (nI (100 * dd + 10 * v + 9))) 10 26 (nI (q.length + 1))) 10 38 (nI (r.getD u 0))) 10 25 (nI (u + 1)))) rfl rfl rfl rfl rfl rfl rfl rfl rfl fr la) (Nat.le_refl _) (Nat.le_refl _) z.2.2.2⟩)))), hfr, hla⟩
    · intro e_88_f c_88_f
      exfalso; omega
  · intro e_52_f c_52_f
    exfalso; omega
set_option maxHeartbeats 4000000 in
theorem m_ask0e (l : Launch) {sg : Nat → Int32} {ln sz : Nat → Nat} {r : List Nat} (hB : aWB sg ln sz) (h : mH) (hM : MB sg ln sz h) {v pl x k w : Nat} {P : List aF} {K : List (List aF)} {n g u : Nat} {q : List Nat} (hJ : aJ sg sz r (false, 0, v, 0, (pl, x, k, w) :: P, K, n, g, u, q)) (hRM : RM sg h (false, 0, v, 0, (pl, x, k, w) :: P, K, n, g, u, q)) {dd : Nat} (hdd : dd < 3) (hsd : (sg pl).toInt = 112 + (dd : Int)) (hr8 : r.length ≤ 8) (hN : aNr sg sz dd P = none) (hMR : MR r h) (hu : ¬ u < r.length) : mG l Sh0 iX8_come [.inr 10] h (fun v' h' => v' = none ∧ KM h h' ∧ MO sg h' (aTop sg ln sz r v pl x k w P K n g u q)) := by
  obtain ⟨fr, la, t, d, m8, m15, m19, m32, m33, hch, hb, hb2, m39, m27, m28, ⟨m23, m24, m25, m26, m46⟩, hkp, hfr, hla⟩ := hRM
  have hfr : fr ≤ 2 * n + 0 := hfr
  have m38 : h 10 38 = nI v := hb2 rfl
  have jx : v < 8 := hJ.1
  obtain ⟨-, jb, jP, jK, jn, jg, ju, jq, jc, gs, g1, g2, g3, g4⟩ := hJ
  obtain ⟨f1, f2, f3, f4, f5, f6, f7⟩ := jP (pl, x, k, w) List.mem_cons_self
  dsimp only at f1 f2 f3 f4 f5 f6 f7
  have hp8 : pl < 800 := f1.1
  have hsg : h 30 pl = sg pl := hM.1 pl hp8
  have hB9 := hB.2 pl f1
  have h1 : aOf (sg pl).toInt = 1 := by rcases (show dd = 0 ∨ dd = 1 ∨ dd = 2 by omega) with z | z | z <;> subst z <;> rw [hsd] <;> decide
  have hs3 : (sg pl).toInt = 112 ∨ (sg pl).toInt = 113 ∨ (sg pl).toInt = 114 := by omega
  have h64 : (sg pl).toInt ≠ 64 := by omega
  have hdq : ((sg pl).toInt - 112).toNat = dd := by omega
  obtain ⟨-, q2, q3, ⟨w1, w2, w3, w4, w5⟩, t', q5, hch2⟩ : _ ∧ _ := hch.resolve_left (fun z => h64 z.1)
  dsimp only at w1 w2 w3 w4 w5
  obtain ⟨ht', hd'⟩ := mCh_le hch2
  have hP2 : ∀ F ∈ P, aFok sg sz K.length F := fun F hF => jP F (List.mem_cons_of_mem _ hF)
  have jc : K.length + 1 ≤ n + 1 := jc
  have hla2 : la < 12000 := by omega
  have hql : q.length < 256 := by omega
  have hchp : mCh sg (hs (hs (hs h 10 32 (nI t')) 10 36 (nI x)) 10 37 (nI k)) fr la P t' d := mCh_ext (mOld_s (h := h) (h' := (hs (hs (hs h 10 32 (nI t')) 10 36 (nI x)) 10 37 (nI k))) rfl rfl rfl rfl rfl rfl rfl rfl rfl fr la) (Nat.le_refl _) (Nat.le_refl _) hch2
  have eT : aTop sg ln sz r v pl x k w P K n g u q = aAsk sg sz r dd v P K n g u q := by
    unfold aTop
    rw [if_neg (by omega), if_neg (by omega), if_neg (by omega), if_neg (by omega), if_pos hs3, hdq]
  have eA : aAsk sg sz r dd v P K n g u q = .inr (8, (dd : Int), (v : Int), n, g, u, q ++ [100 * dd + 10 * v + 9]) := by
    unfold aAsk
    rw [hN]
    exact if_neg hu
  have hy : mBy sg sz dd (hs (hs (hs h 10 32 (nI t')) 10 36 (nI x)) 10 37 (nI k)) P d = 0 := mBy_none (aNr_none hN)
  obtain ⟨r1, r2, r3⟩ := hMR
  intro RT hR
  show mE l Sh0 none iX8_come RT 0 [some (.inr 10), none, none, none] [] h
  refine e_aload_n (i := 0) dX8_come_0 rfl rfl ?_
  refine e_getI (x := nI t) dX8_come_1 fl_X8_123 sh_10 fj_10_32 m32 ?_
  refine e_istore_n (i := 1) (ls2 := [some (.inr 10), some (.inl (nI t)), none, none]) dX8_come_4 rfl (Nat.le_of_ble_eq_true rfl) rfl ?_
  refine e_aload_n (i := 0) dX8_come_5 rfl rfl ?_
  refine e_getR (r := 34) dX8_come_6 fl_X8_28 sh_10 fj_10_9 ?_
  refine e_iload_n (i := 1) dX8_come_9 rfl rfl ?_
  refine e_iald (x := nI pl) dX8_come_10 sh_34 (vin_ofX (X := ((t : Nat) : Int)) (nI_toInt (by omega)) (by omega) (by omega)) (by rw [nI_clamp (by omega)]; exact w1) ?_
  refine e_istore_n (i := 2) (ls2 := [some (.inr 10), some (.inl (nI t)), some (.inl (nI pl)), none]) dX8_come_11 rfl (Nat.le_of_ble_eq_true rfl) rfl ?_
  refine e_aload_n (i := 0) dX8_come_12 rfl rfl ?_
  refine e_getR (r := 30) dX8_come_13 fl_X8_16 sh_10 fj_10_3 ?_
  refine e_iload_n (i := 2) dX8_come_16 rfl rfl ?_
  refine e_iald (x := sg pl) dX8_come_17 sh_30 (vin_ofX (X := ((pl : Nat) : Int)) (nI_toInt (by omega)) (by omega) (by omega)) (by rw [nI_clamp (by omega)]; exact hsg) ?_
  refine e_istore_n (i := 3) (ls2 := [some (.inr 10), some (.inl (nI t)), some (.inl (nI pl)), some (.inl (sg pl))]) dX8_come_18 rfl (Nat.le_of_ble_eq_true rfl) rfl ?_
  refine e_aload_n (i := 0) dX8_come_19 rfl rfl ?_
  refine e_aload_n (i := 0) dX8_come_20 rfl rfl ?_
  refine e_getR (r := 39) dX8_come_21 fl_X8_43 sh_10 fj_10_14 ?_
  refine e_iload_n (i := 1) dX8_come_24 rfl rfl ?_
  refine e_iald (x := nI t') dX8_come_25 sh_39 (vin_ofX (X := ((t : Nat) : Int)) (nI_toInt (by omega)) (by omega) (by omega)) (by rw [nI_clamp (by omega)]; exact q5) ?_
  refine e_putI dX8_come_26 fl_X8_123 fp_X8_32 sh_10 fj_10_32 ?_
  refine e_aload_n (i := 0) dX8_come_29 rfl rfl ?_
  refine e_aload_n (i := 0) dX8_come_30 rfl rfl ?_
  refine e_getR (r := 36) dX8_come_31 fl_X8_34 sh_10 fj_10_11 ?_
  refine e_iload_n (i := 1) dX8_come_34 rfl rfl ?_
  refine e_iald (x := nI x) dX8_come_35 sh_36 (vin_ofX (X := ((t : Nat) : Int)) (nI_toInt (by omega)) (by omega) (by omega)) (by rw [nI_clamp (by omega)]; exact w3) ?_
  refine e_putI dX8_come_36 fl_X8_156 fp_X8_36 sh_10 fj_10_36 ?_
  refine e_aload_n (i := 0) dX8_come_39 rfl rfl ?_
  refine e_aload_n (i := 0) dX8_come_40 rfl rfl ?_
  refine e_getR (r := 37) dX8_come_41 fl_X8_37 sh_10 fj_10_12 ?_
  refine e_iload_n (i := 1) dX8_come_44 rfl rfl ?_
  refine e_iald (x := nI k) dX8_come_45 sh_37 (vin_ofX (X := ((t : Nat) : Int)) (nI_toInt (by omega)) (by omega) (by omega)) (by rw [nI_clamp (by omega)]; exact w4) ?_
  refine e_putI dX8_come_46 fl_X8_159 fp_X8_37 sh_10 fj_10_37 ?_
  refine e_iload_n (i := 3) dX8_come_49 rfl rfl ?_
  refine e_bipush (v := 63) dX8_come_50 (by decide) ?_
  refine b_icmp_ne (X := (sg pl).toInt) (Y := 63) (tgt := 85) rfl (by decide) dX8_come_52 (by decide) ?_ ?_
  · intro e_52_t c_52_t
    refine e_iload_n (i := 3) dX8_come_85 rfl rfl ?_
    refine e_bipush (v := 107) dX8_come_86 (by decide) ?_
    refine b_icmp_ne (X := (sg pl).toInt) (Y := 107) (tgt := 136) rfl (by decide) dX8_come_88 (by decide) ?_ ?_
    · intro e_88_t c_88_t
      refine e_iload_n (i := 3) dX8_come_136 rfl rfl ?_
      refine e_bipush (v := 112) dX8_come_137 (by decide) ?_
      refine b_icmp_eq (X := (sg pl).toInt) (Y := 112) (tgt := 154) rfl (by decide) dX8_come_139 (by decide) ?_ ?_
      · intro e_139_t c_139_t
        refine e_aload_n (i := 0) dX8_come_154 rfl rfl ?_
        refine e_iload_n (i := 3) dX8_come_155 rfl rfl ?_
        refine e_bipush (v := 112) dX8_come_156 (by decide) ?_
        refine z_isub (z := nI dd) (sub112 hsd) dX8_come_158 ?_
        refine e_invVv (As := [.inl (nI dd)]) (h2 := (hs (hs (hs (hs (hs (hs (hs (hs h 10 32 (nI t')) 10 36 (nI x)) 10 37 (nI k)) 46 q.length (nI (100 * dd + 10 * v + 9))) 10 26 (nI (q.length + 1))) 10 27 (nI dd)) 10 28 (nI v)) 10 39 8)) (ty := .int) (v := 0) dX8_come_159 lk_X8_196 yv_X8_ask rfl rfl rfl (Nat.le_of_ble_eq_true rfl) sh_10 ci_X8 (Nat.le_of_ble_eq_true rfl) ⟨Nat.le_of_ble_eq_true rfl, Nat.le_of_ble_eq_true rfl⟩ (k_M_ask0e (nK := K.length) l hB (hs (hs (hs h 10 32 (nI t')) 10 36 (nI x)) 10 37 (nI k)) hM hdd hla2 P t' d v q.length hchp hP2 rfl m33 m38 jx m26 hql hy u r.length m25 r1 r2 (by omega)) ?_
        refine e_goto (tgt := 229) dX8_come_162 (by decide) ?_
        refine e_ret dX8_come_229 rfl ?_
        rw [eT, eA] at hR
        have h46 : ∀ i, i < (q ++ [100 * dd + 10 * v + 9]).length → (hs (hs (hs (hs (hs (hs (hs (hs h 10 32 (nI t')) 10 36 (nI x)) 10 37 (nI k)) 46 q.length (nI (100 * dd + 10 * v + 9))) 10 26 (nI (q.length + 1))) 10 27 (nI dd)) 10 28 (nI v)) 10 39 8) 46 i = nI ((q ++ [100 * dd + 10 * v + 9]).getD i 0) := by
          intro i hi
          rw [List.length_append] at hi
          simp only [List.length_cons, List.length_nil] at hi
          show hs (hs (hs (hs h 10 32 (nI t')) 10 36 (nI x)) 10 37 (nI k)) 46 q.length (nI (100 * dd + 10 * v + 9)) 46 i = _
          by_cases hq : i < q.length
          · rw [hs_ne _ _ (by omega), List.getD_eq_getElem?_getD, List.getElem?_append_left hq, ← List.getD_eq_getElem?_getD]
            exact m46 i hq
          · obtain rfl : i = q.length := by omega
            rw [hs_at, List.getD_eq_getElem?_getD, List.getElem?_append_right (Nat.le_refl _), Nat.sub_self]
            rfl
        exact hR _ _ ⟨rfl, ((((((((KM.refl h).hs (by omega)).hs (by omega)).hs (by omega)).hs (by omega)).hs (by omega)).hs (by omega)).hs (by omega)).hs (by omega), (by show (8 : Int32).toInt = 8; decide), (by show (nI dd).toInt = (dd : Int); exact nI_toInt (by omega)), (by show (nI v).toInt = (v : Int); exact nI_toInt (by omega)), m23, m24, m25, by rw [List.length_append]; rfl, h46⟩
      · intro e_139_f c_139_f
        refine e_iload_n (i := 3) dX8_come_142 rfl rfl ?_
        refine e_bipush (v := 113) dX8_come_143 (by decide) ?_
        refine b_icmp_eq (X := (sg pl).toInt) (Y := 113) (tgt := 154) rfl (by decide) dX8_come_145 (by decide) ?_ ?_
        · intro e_145_t c_145_t
          refine e_aload_n (i := 0) dX8_come_154 rfl rfl ?_
          refine e_iload_n (i := 3) dX8_come_155 rfl rfl ?_
          refine e_bipush (v := 112) dX8_come_156 (by decide) ?_
          refine z_isub (z := nI dd) (sub112 hsd) dX8_come_158 ?_
          refine e_invVv (As := [.inl (nI dd)]) (h2 := (hs (hs (hs (hs (hs (hs (hs (hs h 10 32 (nI t')) 10 36 (nI x)) 10 37 (nI k)) 46 q.length (nI (100 * dd + 10 * v + 9))) 10 26 (nI (q.length + 1))) 10 27 (nI dd)) 10 28 (nI v)) 10 39 8)) (ty := .int) (v := 0) dX8_come_159 lk_X8_196 yv_X8_ask rfl rfl rfl (Nat.le_of_ble_eq_true rfl) sh_10 ci_X8 (Nat.le_of_ble_eq_true rfl) ⟨Nat.le_of_ble_eq_true rfl, Nat.le_of_ble_eq_true rfl⟩ (k_M_ask0e (nK := K.length) l hB (hs (hs (hs h 10 32 (nI t')) 10 36 (nI x)) 10 37 (nI k)) hM hdd hla2 P t' d v q.length hchp hP2 rfl m33 m38 jx m26 hql hy u r.length m25 r1 r2 (by omega)) ?_
          refine e_goto (tgt := 229) dX8_come_162 (by decide) ?_
          refine e_ret dX8_come_229 rfl ?_
          rw [eT, eA] at hR
          have h46 : ∀ i, i < (q ++ [100 * dd + 10 * v + 9]).length → (hs (hs (hs (hs (hs (hs (hs (hs h 10 32 (nI t')) 10 36 (nI x)) 10 37 (nI k)) 46 q.length (nI (100 * dd + 10 * v + 9))) 10 26 (nI (q.length + 1))) 10 27 (nI dd)) 10 28 (nI v)) 10 39 8) 46 i = nI ((q ++ [100 * dd + 10 * v + 9]).getD i 0) := by
            intro i hi
            rw [List.length_append] at hi
            simp only [List.length_cons, List.length_nil] at hi
            show hs (hs (hs (hs h 10 32 (nI t')) 10 36 (nI x)) 10 37 (nI k)) 46 q.length (nI (100 * dd + 10 * v + 9)) 46 i = _
            by_cases hq : i < q.length
            · rw [hs_ne _ _ (by omega), List.getD_eq_getElem?_getD, List.getElem?_append_left hq, ← List.getD_eq_getElem?_getD]
              exact m46 i hq
            · obtain rfl : i = q.length := by omega
              rw [hs_at, List.getD_eq_getElem?_getD, List.getElem?_append_right (Nat.le_refl _), Nat.sub_self]
              rfl
          exact hR _ _ ⟨rfl, ((((((((KM.refl h).hs (by omega)).hs (by omega)).hs (by omega)).hs (by omega)).hs (by omega)).hs (by omega)).hs (by omega)).hs (by omega), (by show (8 : Int32).toInt = 8; decide), (by show (nI dd).toInt = (dd : Int); exact nI_toInt (by omega)), (by show (nI v).toInt = (v : Int); exact nI_toInt (by omega)), m23, m24, m25, by rw [List.length_append]; rfl, h46⟩
        · intro e_145_f c_145_f
          refine e_iload_n (i := 3) dX8_come_148 rfl rfl ?_
          refine e_bipush (v := 114) dX8_come_149 (by decide) ?_
          refine b_icmp_ne (X := (sg pl).toInt) (Y := 114) (tgt := 165) rfl (by decide) dX8_come_151 (by decide) ?_ ?_
          · intro e_151_t c_151_t
            exfalso; omega
          · intro e_151_f c_151_f
            refine e_aload_n (i := 0) dX8_come_154 rfl rfl ?_
            refine e_iload_n (i := 3) dX8_come_155 rfl rfl ?_
            refine e_bipush (v := 112) dX8_come_156 (by decide) ?_
            refine z_isub (z := nI dd) (sub112 hsd) dX8_come_158 ?_
            refine e_invVv (As := [.inl (nI dd)]) (h2 := (hs (hs (hs (hs (hs (hs (hs (hs h 10 32 (nI t')) 10 36 (nI x)) 10 37 (nI k)) 46 q.length (nI (100 * dd + 10 * v + 9))) 10 26 (nI (q.length + 1))) 10 27 (nI dd)) 10 28 (nI v)) 10 39 8)) (ty := .int) (v := 0) dX8_come_159 lk_X8_196 yv_X8_ask rfl rfl rfl (Nat.le_of_ble_eq_true rfl) sh_10 ci_X8 (Nat.le_of_ble_eq_true rfl) ⟨Nat.le_of_ble_eq_true rfl, Nat.le_of_ble_eq_true rfl⟩ (k_M_ask0e (nK := K.length) l hB (hs (hs (hs h 10 32 (nI t')) 10 36 (nI x)) 10 37 (nI k)) hM hdd hla2 P t' d v q.length hchp hP2 rfl m33 m38 jx m26 hql hy u r.length m25 r1 r2 (by omega)) ?_
            refine e_goto (tgt := 229) dX8_come_162 (by decide) ?_
            refine e_ret dX8_come_229 rfl ?_
            rw [eT, eA] at hR
            have h46 : ∀ i, i < (q ++ [100 * dd + 10 * v + 9]).length → (hs (hs (hs (hs (hs (hs (hs (hs h 10 32 (nI t')) 10 36 (nI x)) 10 37 (nI k)) 46 q.length (nI (100 * dd + 10 * v + 9))) 10 26 (nI (q.length + 1))) 10 27 (nI dd)) 10 28 (nI v)) 10 39 8) 46 i = nI ((q ++ [100 * dd + 10 * v + 9]).getD i 0) := by
              intro i hi
              rw [List.length_append] at hi
              simp only [List.length_cons, List.length_nil] at hi
              show hs (hs (hs (hs h 10 32 (nI t')) 10 36 (nI x)) 10 37 (nI k)) 46 q.length (nI (100 * dd + 10 * v + 9)) 46 i = _
              by_cases hq : i < q.length
              · rw [hs_ne _ _ (by omega), List.getD_eq_getElem?_getD, List.getElem?_append_left hq, ← List.getD_eq_getElem?_getD]
                exact m46 i hq
              · obtain rfl : i = q.length := by omega
                rw [hs_at, List.getD_eq_getElem?_getD, List.getElem?_append_right (Nat.le_refl _), Nat.sub_self]
                rfl
            exact hR _ _ ⟨rfl, ((((((((KM.refl h).hs (by omega)).hs (by omega)).hs (by omega)).hs (by omega)).hs (by omega)).hs (by omega)).hs (by omega)).hs (by omega), (by show (8 : Int32).toInt = 8; decide), (by show (nI dd).toInt = (dd : Int); exact nI_toInt (by omega)), (by show (nI v).toInt = (v : Int); exact nI_toInt (by omega)), m23, m24, m25, by rw [List.length_append]; rfl, h46⟩
    · intro e_88_f c_88_f
      exfalso; omega
  · intro e_52_f c_52_f
    exfalso; omega
