/-! The reference comes to a going on; its run as a whole. -/
theorem lkD_same {h h' : mH} (e : h' 42 = h 42) {y : Nat} : ∀ {D : List Nat}, lkD h y D → lkD h' y D
  | [], q => q
  | [a], q => q
  | a :: b :: D, q => ⟨q.1, by rw [e]; exact q.2.1, lkD_same e q.2.2⟩
theorem lkD_last {h : mH} {y : Nat} : ∀ {D : List Nat}, lkD h y D → D = (List.range (D.length - 1)).map (fun j => D.getD j 0) ++ [y] := by
  intro D
  induction D with
  | nil => intro q; exact absurd q (fun z => z)
  | cons a D ih =>
    intro q
    cases D with
    | nil =>
      have : a = y := q
      subst this
      rfl
    | cons b D =>
      have := ih q.2.2
      rw [show (a :: b :: D).length - 1 = (b :: D).length - 1 + 1 from by simp only [List.length_cons]; omega, List.range_succ_eq_map, List.map_cons, List.map_map, List.cons_append]
      show a :: (b :: D) = a :: _
      exact congrArg (a :: ·) this
theorem KM.row {h h' : mH} (q : KM h h') {f : Nat → Int32} : KM h (hr h' 48 f) :=
  ⟨fun a h1 h2 => (hr_ne _ _ (fun z => by omega)).trans (q.1 a h1 h2), q.2.1, q.2.2.1, q.2.2.2⟩
theorem KM.lyp {p : Nat → Nat} : ∀ {m : Nat} {h h' : mH} {la : Nat}, KM h h' → KM h (lyP p h' la m) := by
  intro m
  induction m with
  | zero => intro h h' la q; exact q
  | succ m ih => intro h h' la q; exact ih q.ly
set_option maxHeartbeats 4000000 in
theorem m_go (l : Launch) {sg : Nat → Int32} {ln sz : Nat → Nat} {r : List Nat} (hB : aWB sg ln sz) (h : mH) (hM : MB sg ln sz h) {v pl x k w : Nat} {P : List aF} {K : List (List aF)} {n g u : Nat} {q : List Nat} (hJ : aJ sg sz r (false, 0, v, 0, (pl, x, k, w) :: P, K, n, g, u, q)) (hRM : RM sg h (false, 0, v, 0, (pl, x, k, w) :: P, K, n, g, u, q)) (h107 : (sg pl).toInt = 107) (hg : g < 40) : mG l Sh0 iX8_come [.inr 10] h (fun v' h' => v' = none ∧ KM h h' ∧ MO sg h' (aTop sg ln sz r v pl x k w P K n g u q)) := by
  obtain ⟨fr, la, t, d, m8, m15, m19, m32, m33, hch, hb, hb2, m39, m27, m28, ⟨m23, m24, m25, m26, m46⟩, hkp, hfr, hla⟩ := hRM
  have hfr : fr ≤ 2 * n + 0 := hfr
  have m38 : h 10 38 = nI v := hb2 rfl
  have jx : v < 8 := hJ.1
  obtain ⟨-, jb, jP, jK, jn, jg, ju, jq, jc, gs, g1, g2, g3, g4⟩ := hJ
  obtain ⟨f1, f2, f3, f4, f5, f6, f7⟩ := jP (pl, x, k, w) List.mem_cons_self
  dsimp only at f1 f2 f3 f4 f5 f6 f7
  have hp8 : pl < 800 := f1.1
  have hsg : h 30 pl = sg pl := hM.1 pl hp8
  have hB9 := hB.2 pl f1
  have h1 : aOf (sg pl).toInt = 1 := by rw [h107]; exact aOf_107
  have h64 : (sg pl).toInt ≠ 64 := by omega
  obtain ⟨-, q2, q3, ⟨w1, w2, w3, w4, w5⟩, t', q5, hch2⟩ : _ ∧ _ := hch.resolve_left (fun z => h64 z.1)
  dsimp only at w1 w2 w3 w4 w5
  obtain ⟨ht', hd'⟩ := mCh_le hch2
  have jc : K.length + 1 ≤ n + 1 := jc
  have hk1 : 1 ≤ k := f5 (hB9.2.2.2.2.2.2.2.2.2 h107)
  have hkl : k - 1 < K.length := by omega
  have e2 : K[k - 1]? = some (K.getD (k - 1) []) := by rw [List.getD_eq_getElem?_getD, List.getElem?_eq_getElem hkl]; rfl
  obtain ⟨tk, dk, y, r1, r2, r3, r4⟩ := hkp (k - 1) _ e2
  rw [show k - 1 + 1 = k by omega] at r1 r2 r3
  obtain ⟨p1, p2⟩ := g4 _ _ e2
  have hLl : (K.getD (k - 1) []).length ≤ 200 := by have := aPt_len p1; omega
  obtain ⟨D', s1, s2, s3, s4⟩ := mSg_D r4
  obtain ⟨D, hDe⟩ : ∃ D, D = dk :: D' := ⟨_, rfl⟩
  have hhd : D.headD 0 = dk := by rw [hDe]; rfl
  rw [← hDe] at s1 s2 s3 s4
  have r2' : h 44 k = nI (D.headD 0) := by rw [hhd]; exact r2
  have hDl : 1 ≤ D.length := by rw [hDe]; simp
  have hy := (mSg_le r4).2.2
  have hy2 := (mSg_le r4).2.1
  have htk := (mSg_le r4).1
  intro RT hR
  show mE l Sh0 none iX8_come RT 0 [some (.inr 10), none, none, none] [] h
  refine e_aload_n (i := 0) dX8_come_0 rfl rfl ?_
  refine e_getI (x := nI t) dX8_come_1 fl_X8_123 sh_10 fj_10_32 m32 ?_
  refine e_istore_n (i := 1) (ls2 := [some (.inr 10), some (.inl (nI t)), none, none]) dX8_come_4 rfl (Nat.le_of_ble_eq_true rfl) rfl ?_
  refine e_aload_n (i := 0) dX8_come_5 rfl rfl ?_
  refine e_getR (r := 34) dX8_come_6 fl_X8_28 sh_10 fj_10_9 ?_
  refine e_iload_n (i := 1) dX8_come_9 rfl rfl ?_
  refine e_iald (x := nI pl) dX8_come_10 sh_34 (vin_ofX (X := ((t : Nat) : Int)) (nI_toInt (by omega)) (by omega) (by omega)) (by rw [nI_clamp (by omega)]; exact w1) ?_
  refine e_istore_n (i := 2) (ls2 := [some (.inr 10), some (.inl (nI t)), some (.inl (nI pl)), none]) dX8_come_11 rfl (Nat.le_of_ble_eq_true rfl) rfl ?_
  refine e_aload_n (i := 0) dX8_come_12 rfl rfl ?_
  refine e_getR (r := 30) dX8_come_13 fl_X8_16 sh_10 fj_10_3 ?_
  refine e_iload_n (i := 2) dX8_come_16 rfl rfl ?_
  refine e_iald (x := sg pl) dX8_come_17 sh_30 (vin_ofX (X := ((pl : Nat) : Int)) (nI_toInt (by omega)) (by omega) (by omega)) (by rw [nI_clamp (by omega)]; exact hsg) ?_
  refine e_istore_n (i := 3) (ls2 := [some (.inr 10), some (.inl (nI t)), some (.inl (nI pl)), some (.inl (sg pl))]) dX8_come_18 rfl (Nat.le_of_ble_eq_true rfl) rfl ?_
  refine e_aload_n (i := 0) dX8_come_19 rfl rfl ?_
  refine e_aload_n (i := 0) dX8_come_20 rfl rfl ?_
  refine e_getR (r := 39) dX8_come_21 fl_X8_43 sh_10 fj_10_14 ?_
  refine e_iload_n (i := 1) dX8_come_24 rfl rfl ?_
  refine e_iald (x := nI t') dX8_come_25 sh_39 (vin_ofX (X := ((t : Nat) : Int)) (nI_toInt (by omega)) (by omega) (by omega)) (by rw [nI_clamp (by omega)]; exact q5) ?_
  refine e_putI dX8_come_26 fl_X8_123 fp_X8_32 sh_10 fj_10_32 ?_
  refine e_aload_n (i := 0) dX8_come_29 rfl rfl ?_
  refine e_aload_n (i := 0) dX8_come_30 rfl rfl ?_
  refine e_getR (r := 36) dX8_come_31 fl_X8_34 sh_10 fj_10_11 ?_
  refine e_iload_n (i := 1) dX8_come_34 rfl rfl ?_
  refine e_iald (x := nI x) dX8_come_35 sh_36 (vin_ofX (X := ((t : Nat) : Int)) (nI_toInt (by omega)) (by omega) (by omega)) (by rw [nI_clamp (by omega)]; exact w3) ?_
  refine e_putI dX8_come_36 fl_X8_156 fp_X8_36 sh_10 fj_10_36 ?_
  refine e_aload_n (i := 0) dX8_come_39 rfl rfl ?_
  refine e_aload_n (i := 0) dX8_come_40 rfl rfl ?_
  refine e_getR (r := 37) dX8_come_41 fl_X8_37 sh_10 fj_10_12 ?_
  refine e_iload_n (i := 1) dX8_come_44 rfl rfl ?_
  refine e_iald (x := nI k) dX8_come_45 sh_37 (vin_ofX (X := ((t : Nat) : Int)) (nI_toInt (by omega)) (by omega) (by omega)) (by rw [nI_clamp (by omega)]; exact w4) ?_
  refine e_putI dX8_come_46 fl_X8_159 fp_X8_37 sh_10 fj_10_37 ?_
  refine e_iload_n (i := 3) dX8_come_49 rfl rfl ?_
  refine e_bipush (v := 63) dX8_come_50 (by decide) ?_
  refine b_icmp_ne (X := (sg pl).toInt) (Y := 63) (tgt := 85) rfl (by decide) dX8_come_52 (by decide) ?_ ?_
  · intro e_52_t c_52_t
    refine e_iload_n (i := 3) dX8_come_85 rfl rfl ?_
    refine e_bipush (v := 107) dX8_come_86 (by decide) ?_
    refine b_icmp_ne (X := (sg pl).toInt) (Y := 107) (tgt := 136) rfl (by decide) dX8_come_88 (by decide) ?_ ?_
    · intro e_88_t c_88_t
      exfalso; omega
    · intro e_88_f c_88_f
      refine e_aload_n (i := 0) dX8_come_91 rfl rfl ?_
      refine e_dup dX8_come_92 ?_
      refine e_getI (x := nI g) dX8_come_93 fl_X8_138 sh_10 fj_10_24 m24 ?_
      refine e_iconst (v := 1) dX8_come_96 (by decide) ?_
      refine z_iadd (z := nI (g + 1)) (nI_addc _ 1) dX8_come_97 ?_
      refine e_putI dX8_come_98 fl_X8_138 fp_X8_24 sh_10 fj_10_24 ?_
      refine e_aload_n (i := 0) dX8_come_101 rfl rfl ?_
      refine e_getI (x := nI (g + 1)) dX8_come_102 fl_X8_138 sh_10 fj_10_24 rfl ?_
      refine e_bipush (v := 40) dX8_come_105 (by decide) ?_
      refine b_icmp_le (X := ((g + 1 : Nat) : Int)) (Y := 40) (tgt := 125) (nI_toInt (by omega)) (by decide) dX8_come_107 (by decide) ?_ ?_
      · intro c_107_t
        refine e_aload_n (i := 0) dX8_come_125 rfl rfl ?_
        refine e_aload_n (i := 0) dX8_come_126 rfl rfl ?_
        refine e_getI (x := nI k) dX8_come_127 fl_X8_159 sh_10 fj_10_37 rfl ?_
        refine e_invVv (As := [.inl (nI k)]) (h2 := (hs (goH (hs (hs (hs (hs h 10 32 (nI t')) 10 36 (nI x)) 10 37 (nI k)) 10 24 (nI (g + 1))) la y t' D) 10 32 (nI tk))) (ty := .int) (v := 0) dX8_come_130 lk_X8_192 yv_X8_goOn rfl rfl rfl (Nat.le_of_ble_eq_true rfl) sh_10 ci_X8 (Nat.le_of_ble_eq_true rfl) ⟨Nat.le_of_ble_eq_true rfl, Nat.le_of_ble_eq_true rfl⟩ (k_M_goOn l (hs (hs (hs (hs h 10 32 (nI t')) 10 36 (nI x)) 10 37 (nI k)) 10 24 (nI (g + 1))) k y la t' tk D (by omega) (by omega) r1 r2' r3 (lkD_same (h := h) (h' := (hs (hs (hs (hs h 10 32 (nI t')) 10 36 (nI x)) 10 37 (nI k)) 10 24 (nI (g + 1)))) rfl s2) (fun a ha => (s4 a ha).2) m15 rfl (by omega)) ?_
        refine e_goto (tgt := 229) dX8_come_133 (by decide) ?_
        refine e_ret dX8_come_229 rfl ?_
        have e : aTop sg ln sz r v pl x k w P K n g u q = .inl (false, 0, v, 0, K.getD (k - 1) [] ++ P, K, n, g + 1, u, q) := by unfold aTop; rw [if_neg (by omega), if_neg (by omega), if_neg (by omega), if_pos h107, if_neg (by omega)]
        rw [e] at hR
        obtain ⟨H0, hH0⟩ : ∃ H0 : mH, H0 = (goH (hs (hs (hs (hs h 10 32 (nI t')) 10 36 (nI x)) 10 37 (nI k)) 10 24 (nI (g + 1))) la y t' D) := ⟨_, rfl⟩
        have hol1 : mOld h (lyH (hr (hs (hs (hs (hs h 10 32 (nI t')) 10 36 (nI x)) 10 37 (nI k)) 10 24 (nI (g + 1))) 48 (plF ((hs (hs (hs (hs h 10 32 (nI t')) 10 36 (nI x)) 10 37 (nI k)) 10 24 (nI (g + 1))) 48) 0 D)) la ((hs (hs (hs (hs h 10 32 (nI t')) 10 36 (nI x)) 10 37 (nI k)) 10 24 (nI (g + 1))) 40 y) (nI t')) fr la := mOld_ly (hr (hs (hs (hs (hs h 10 32 (nI t')) 10 36 (nI x)) 10 37 (nI k)) 10 24 (nI (g + 1))) 48 (plF ((hs (hs (hs (hs h 10 32 (nI t')) 10 36 (nI x)) 10 37 (nI k)) 10 24 (nI (g + 1))) 48) 0 D)) fr la ((hs (hs (hs (hs h 10 32 (nI t')) 10 36 (nI x)) 10 37 (nI k)) 10 24 (nI (g + 1))) 40 y) (nI t')
        have hol2 := lyP_old (p := fun j => D.getD j 0) (D.length - 1) (lyH (hr (hs (hs (hs (hs h 10 32 (nI t')) 10 36 (nI x)) 10 37 (nI k)) 10 24 (nI (g + 1))) 48 (plF ((hs (hs (hs (hs h 10 32 (nI t')) 10 36 (nI x)) 10 37 (nI k)) 10 24 (nI (g + 1))) 48) 0 D)) la ((hs (hs (hs (hs h 10 32 (nI t')) 10 36 (nI x)) 10 37 (nI k)) 10 24 (nI (g + 1))) 40 y) (nI t')) (la + 1) fr
        have ho : mOld h H0 fr la := by
          rw [hH0]
          refine ⟨fun i hi => ?_, fun i hi => ?_⟩
          · obtain ⟨a1, a2, a3, a4, a5, a6⟩ := hol1.1 i hi
            obtain ⟨b1, b2, b3, b4, b5, b6⟩ := hol2.1 i hi
            exact ⟨b1.trans a1, b2.trans a2, b3.trans a3, b4.trans a4, b5.trans a5, b6.trans a6⟩
          · obtain ⟨a1, a2, a3⟩ := hol1.2 i hi
            obtain ⟨b1, b2, b3⟩ := hol2.2 i (by omega)
            exact ⟨b1.trans a1, b2.trans a2, b3.trans a3⟩
        obtain ⟨c1, c2, c3⟩ := ly_at (hr (hs (hs (hs (hs h 10 32 (nI t')) 10 36 (nI x)) 10 37 (nI k)) 10 24 (nI (g + 1))) 48 (plF ((hs (hs (hs (hs h 10 32 (nI t')) 10 36 (nI x)) 10 37 (nI k)) 10 24 (nI (g + 1))) 48) 0 D)) la ((hs (hs (hs (hs h 10 32 (nI t')) 10 36 (nI x)) 10 37 (nI k)) 10 24 (nI (g + 1))) 40 y) (nI t')
        have hrep : rep H0 h t' d (la + D.length) D (la + D.length) := by
          have z := lyP_rep (p := fun j => D.getD j 0) (h0 := h) (t0 := t') (d0 := d) (la' := la + D.length) (D.length - 1) (lyH (hr (hs (hs (hs (hs h 10 32 (nI t')) 10 36 (nI x)) 10 37 (nI k)) 10 24 (nI (g + 1))) 48 (plF ((hs (hs (hs (hs h 10 32 (nI t')) 10 36 (nI x)) 10 37 (nI k)) 10 24 (nI (g + 1))) 48) 0 D)) la ((hs (hs (hs (hs h 10 32 (nI t')) 10 36 (nI x)) 10 37 (nI k)) 10 24 (nI (g + 1))) 40 y) (nI t')) (la + 1) [y] rfl (fun j hj => by
            have hjl : j < D.length := by omega
            have hja : D.getD j 0 ≤ la := by
              rw [List.getD_eq_getElem?_getD, List.getElem?_eq_getElem hjl]
              exact (s4 _ (List.getElem_mem hjl)).2
            obtain ⟨a1, a2, a3⟩ := hol1.2 _ hja
            exact ⟨by show D.getD j 0 ≤ la + 1; omega, a1, a2⟩) (by omega) (by omega) (by simp) (fun H hH => by
            obtain ⟨a1, a2, a3⟩ := hH (la + 1) (Nat.le_refl _)
            exact ⟨a1.trans c1, a2.trans c2, a3.trans (c3.trans m33), by omega, by omega⟩)
          rw [← lkD_last s2, show la + 1 + (D.length - 1) = la + D.length by omega] at z
          rw [hH0]
          exact z
        have hcP : mCh sg H0 fr (la + D.length) P t' d := mCh_ext ho (Nat.le_refl _) (by omega) hch2
        have hcL := rep_ch ho hcP s1 hrep
        obtain ⟨n1, n2⟩ := lyP_n (p := fun j => D.getD j 0) (D.length - 1) (lyH (hr (hs (hs (hs (hs h 10 32 (nI t')) 10 36 (nI x)) 10 37 (nI k)) 10 24 (nI (g + 1))) 48 (plF ((hs (hs (hs (hs h 10 32 (nI t')) 10 36 (nI x)) 10 37 (nI k)) 10 24 (nI (g + 1))) 48) 0 D)) la ((hs (hs (hs (hs h 10 32 (nI t')) 10 36 (nI x)) 10 37 (nI k)) 10 24 (nI (g + 1))) 40 y) (nI t')) (la + 1) rfl rfl
        rw [show la + 1 + (D.length - 1) = la + D.length by omega] at n1 n2
        have o10 : ∀ j, j ≠ 15 → j ≠ 33 → H0 10 j = (hs (hs (hs (hs h 10 32 (nI t')) 10 36 (nI x)) 10 37 (nI k)) 10 24 (nI (g + 1))) 10 j := fun j h1 h2 => by
          rw [hH0]
          refine (lyP_10 h1 h2 (D.length - 1) (lyH (hr (hs (hs (hs (hs h 10 32 (nI t')) 10 36 (nI x)) 10 37 (nI k)) 10 24 (nI (g + 1))) 48 (plF ((hs (hs (hs (hs h 10 32 (nI t')) 10 36 (nI x)) 10 37 (nI k)) 10 24 (nI (g + 1))) 48) 0 D)) la ((hs (hs (hs (hs h 10 32 (nI t')) 10 36 (nI x)) 10 37 (nI k)) 10 24 (nI (g + 1))) 40 y) (nI t')) (la + 1)).trans ?_
          unfold lyH
          rw [hs_ne _ _ (by omega), hs_ne _ _ (by omega), hs_ne _ _ (by omega), hs_ne _ _ (by omega), hs_ne _ _ (by omega)]
          rfl
        have oo : ∀ a, a ≠ 10 → a ≠ 40 → a ≠ 41 → a ≠ 42 → a ≠ 48 → H0 a = h a := fun a h1 h2 h3 h4 h5 => by
          rw [hH0]
          refine (lyP_o h1 h2 h3 h4 (D.length - 1) (lyH (hr (hs (hs (hs (hs h 10 32 (nI t')) 10 36 (nI x)) 10 37 (nI k)) 10 24 (nI (g + 1))) 48 (plF ((hs (hs (hs (hs h 10 32 (nI t')) 10 36 (nI x)) 10 37 (nI k)) 10 24 (nI (g + 1))) 48) 0 D)) la ((hs (hs (hs (hs h 10 32 (nI t')) 10 36 (nI x)) 10 37 (nI k)) 10 24 (nI (g + 1))) 40 y) (nI t')) (la + 1)).trans ((lyH_o _ _ _ _ h1 h2 h3 h4).trans ((hr_ne _ _ h5).trans ?_))
          rw [hs_rown _ _ _ h1, hs_rown _ _ _ h1, hs_rown _ _ _ h1, hs_rown _ _ _ h1]
        have hkm : KM h H0 := by
          rw [hH0]
          exact KM.lyp (((((KM.refl h).hs (by omega)).hs (by omega)).hs (by omega)).hs (by omega)).row.ly
        have n1' : H0 10 15 = nI (la + D.length) := by rw [hH0]; exact n1
        have n2' : H0 10 33 = nI (la + D.length) := by rw [hH0]; exact n2
        rw [← hH0]
        have hof : mOld h (hs H0 10 32 (nI tk)) fr la := ho
        exact hR _ _ ⟨rfl, hkm.hs (by omega), fr, la + D.length, tk, la + D.length, (o10 8 (by decide) (by decide)).trans m8, n1', (o10 19 (by decide) (by decide)).trans m19, rfl, n2', mCh_ext (mOld_s (h := H0) (h' := hs H0 10 32 (nI tk)) rfl rfl rfl rfl rfl rfl rfl rfl rfl fr (la + D.length)) (Nat.le_refl _) (Nat.le_refl _) hcL, fun z => (by cases z), fun _ => (o10 38 (by decide) (by decide)).trans m38, (o10 39 (by decide) (by decide)).trans m39, (o10 27 (by decide) (by decide)).trans m27, (o10 28 (by decide) (by decide)).trans m28, ⟨(o10 23 (by decide) (by decide)).trans m23, (o10 24 (by decide) (by decide)).trans rfl, (o10 25 (by decide) (by decide)).trans m25, (o10 26 (by decide) (by decide)).trans m26, fun i hi => (show hs H0 10 32 (nI tk) 46 i = H0 46 i from rfl).trans ((by rw [oo 46 (by decide) (by decide) (by decide) (by decide) (by decide)] : H0 46 i = h 46 i).trans (m46 i hi))⟩, fun j L z => (hkp j L z).imp (fun a z => z.imp (fun b z => z.imp (fun c z => ⟨(by rw [oo 43 (by decide) (by decide) (by decide) (by decide) (by decide)] : H0 43 (j + 1) = h 43 (j + 1)).trans z.1, (by rw [oo 44 (by decide) (by decide) (by decide) (by decide) (by decide)] : H0 44 (j + 1) = h 44 (j + 1)).trans z.2.1, (by rw [oo 45 (by decide) (by decide) (by decide) (by decide) (by decide)] : H0 45 (j + 1) = h 45 (j + 1)).trans z.2.2.1, mSg_ext hof (Nat.le_refl _) (by omega) z.2.2.2⟩))), hfr, by omega⟩
      · intro c_107_f
        exfalso; omega
  · intro e_52_f c_52_f
    exfalso; omega
