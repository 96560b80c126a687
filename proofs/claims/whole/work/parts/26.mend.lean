/-! The reference's run as a whole. -/
theorem RM_f {sg : Nat → Int32} {h : mH} {pl v k : Nat} {P : List aF} {K : List (List aF)} {n g u : Nat} {q : List Nat} (hRM : RM sg h (false, pl, v, k, P, K, n, g, u, q)) : RM sg h (false, 0, v, 0, P, K, n, g, u, q) := by
  obtain ⟨fr, la, t, d, m8, m15, m19, m32, m33, hch, hb, rest⟩ := hRM
  exact ⟨fr, la, t, d, m8, m15, m19, m32, m33, hch, fun z => (by cases z), rest⟩
theorem m_come (l : Launch) {sg : Nat → Int32} {ln sz : Nat → Nat} {r : List Nat} (hB : aWB sg ln sz) (h : mH) (hM : MB sg ln sz h) (hMR : MR r h) {v pl x k w : Nat} {P : List aF} {K : List (List aF)} {n g u : Nat} {q : List Nat} (hJ : aJ sg sz r (false, 0, v, 0, (pl, x, k, w) :: P, K, n, g, u, q)) (hRM : RM sg h (false, 0, v, 0, (pl, x, k, w) :: P, K, n, g, u, q)) (h64 : (sg pl).toInt ≠ 64) : mG l Sh0 iX8_come [.inr 10] h (fun v' h' => v' = none ∧ KM h h' ∧ MO sg h' (aTop sg ln sz r v pl x k w P K n g u q)) := by
  have f2 := (hJ.2.2.1 (pl, x, k, w) List.mem_cons_self).2.1
  have hg : g ≤ 40 := hJ.2.2.2.2.2.1
  dsimp only at f2
  rcases aOf_cases (sg pl).toInt with z | z | z | z | z
  · omega
  · rcases aOf_1 z with z1 | z1 | z1 | z1 | z1
    · cases hN : aNr sg sz 0 P with
      | none =>
        by_cases hu : u < r.length
        · exact m_ask0r l hB h hM hJ hRM (dd := 0) (by omega) z1 hMR.2.1 hN hMR hu
        · exact m_ask0e l hB h hM hJ hRM (dd := 0) (by omega) z1 hMR.2.1 hN hMR hu
      | some y => exact m_ask1 l hB h hM hJ hRM (dd := 0) (by omega) z1 hMR.2.1 (A := y.1) (G := y.2.1) (CC := y.2.2) hN
    · cases hN : aNr sg sz 1 P with
      | none =>
        by_cases hu : u < r.length
        · exact m_ask0r l hB h hM hJ hRM (dd := 1) (by omega) z1 hMR.2.1 hN hMR hu
        · exact m_ask0e l hB h hM hJ hRM (dd := 1) (by omega) z1 hMR.2.1 hN hMR hu
      | some y => exact m_ask1 l hB h hM hJ hRM (dd := 1) (by omega) z1 hMR.2.1 (A := y.1) (G := y.2.1) (CC := y.2.2) hN
    · cases hN : aNr sg sz 2 P with
      | none =>
        by_cases hu : u < r.length
        · exact m_ask0r l hB h hM hJ hRM (dd := 2) (by omega) z1 hMR.2.1 hN hMR hu
        · exact m_ask0e l hB h hM hJ hRM (dd := 2) (by omega) z1 hMR.2.1 hN hMR hu
      | some y => exact m_ask1 l hB h hM hJ hRM (dd := 2) (by omega) z1 hMR.2.1 (A := y.1) (G := y.2.1) (CC := y.2.2) hN
    · by_cases hg2 : g < 40
      · exact m_go l hB h hM hJ hRM z1 hg2
      · exact m_go9 l hB h hM hJ hRM z1 (by omega)
    · exact absurd z1 h64
  · by_cases hw : w = 0
    · exact m_hold l hB h hM hJ hRM z hw
    · exact m_act l hB h hM hJ hRM z hw
  · by_cases hv : v = 0
    · exact m_choose0 l hB h hM hJ hRM (aOf_3 z) hv
    · exact m_choose1 l hB h hM hJ hRM (aOf_3 z) hv
  · omega
theorem m_leave (l : Launch) {sg : Nat → Int32} {ln sz : Nat → Nat} {r : List Nat} (hB : aWB sg ln sz) (h : mH) (hM : MB sg ln sz h) {v pl x k w : Nat} {P : List aF} {K : List (List aF)} {n g u : Nat} {q : List Nat} (hJ : aJ sg sz r (false, 0, v, 0, (pl, x, k, w) :: P, K, n, g, u, q)) (hRM : RM sg h (false, 0, v, 0, (pl, x, k, w) :: P, K, n, g, u, q)) (h64 : (sg pl).toInt = 64) : mG l Sh0 iX8_leave [.inr 10] h (fun v' h' => v' = none ∧ KM h h' ∧ MO sg h' (aTop sg ln sz r v pl x k w P K n g u q)) := by
  by_cases hz : 0 < sz (4 + 4 * aHd sg pl + 3)
  · exact m_leave1 l hB h hM hJ hRM h64 hz
  · exact m_leave0 l hB h hM hJ hRM h64 (by omega)
theorem MB.km {sg : Nat → Int32} {ln sz : Nat → Nat} {h h' : mH} (q : KM h h') (hC : MB sg ln sz h) : MB sg ln sz h' := by
  have h29 := q.1 29 (by omega) (by omega)
  have h30 := q.1 30 (by omega) (by omega)
  have h31 := q.1 31 (by omega) (by omega)
  exact ⟨fun pl hp => by rw [h30]; exact hC.1 pl hp, fun p hp => by rw [h29]; exact hC.2.1 p hp, fun pl hp => by rw [h31]; exact hC.2.2 pl hp⟩
theorem MR.km {r : List Nat} {h h' : mH} (q : KM h h') (hC : MR r h) : MR r h' := by
  have h47 := q.1 47 (by omega) (by omega)
  exact ⟨by rw [q.2.2.2]; exact hC.1, hC.2.1, fun i hi => by rw [h47]; exact hC.2.2 i hi⟩
theorem lp_M_over (l : Launch) (h : mH) (RT : Option Int32 → mH → Prop) (y1 y2 : Option mV) (he : 0 ≤ (h 10 39).toInt) (hR : RT (some (h 10 39)) h) : mE l Sh0 none iX8_end RT 87 [some (.inr 10), y1, y2] [] h := by
  refine e_aload_n (i := 0) dX8_end_87 rfl rfl ?_
  refine e_getI (x := h 10 39) dX8_end_88 fl_X8_165 sh_10 fj_10_39 rfl ?_
  refine b_if_ge (X := (h 10 39).toInt) (tgt := 129) rfl dX8_end_91 (by decide) ?_ ?_
  · intro c_91_t
    refine e_aload_n (i := 0) dX8_end_129 rfl rfl ?_
    refine e_getI (x := h 10 39) dX8_end_130 fl_X8_165 sh_10 fj_10_39 rfl ?_
    refine e_iret dX8_end_133 (mret_i _) ?_
    exact hR
  · intro c_91_f
    exfalso; omega
set_option maxHeartbeats 4000000 in
theorem lp_M_end (l : Launch) {sg : Nat → Int32} {ln sz : Nat → Nat} {r : List Nat} (hB : aWB sg ln sz) (hr8 : ∀ z ∈ r, z < 8) (y1 y2 : Option mV) (RT : Option Int32 → mH → Prop) : ∀ (f : Nat) (s : aS) (h : mH), aMu s < f → MB sg ln sz h → MR r h → aJ sg sz r s → RM sg h s → (∀ h', KM h h' → ME h' (aRun sg ln sz r f s) → RT (some (h' 10 39)) h') → mE l Sh0 none iX8_end RT 87 [some (.inr 10), y1, y2] [] h := by
  intro f
  induction f with
  | zero => intro s h hf; exact absurd hf (Nat.not_lt_zero _)
  | succ f ih =>
    intro s h hf hM hMR hJ hRM hR
    have hend : ∀ h' : mH, KM h h' → MO sg h' (aStep sg ln sz r s) → mE l Sh0 none iX8_end RT 87 [some (.inr 10), y1, y2] [] h' := by
      intro h' hk ho
      cases hs : aStep sg ln sz r s with
      | inl s' =>
        rw [hs] at ho
        obtain ⟨j1, j2⟩ := aJ_step hB hr8 hJ hs
        have er : aRun sg ln sz r (f + 1) s = aRun sg ln sz r f s' := by
          show (match aStep sg ln sz r s with | .inl s' => aRun sg ln sz r f s' | .inr e => e) = _
          rw [hs]
        exact ih s' h' (by omega) (hM.km hk) (hMR.km hk) j1 ho (fun h2 k2 e2 => hR h2 (hk.trans k2) (by rw [er]; exact e2))
      | inr e =>
        rw [hs] at ho
        have er : aRun sg ln sz r (f + 1) s = e := by
          show (match aStep sg ln sz r s with | .inl s' => aRun sg ln sz r f s' | .inr e => e) = _
          rw [hs]
        have he := aStep_end hs
        obtain ⟨e0, e1, e2, e3, e4, e5, e6⟩ := e
        exact lp_M_over l h' RT y1 y2 (by rw [ho.1]; exact he) (hR h' hk (by rw [er]; exact ho))
    obtain ⟨b, pl, x, k, P, K, n, g, u, q⟩ := s
    have m39 : h 10 39 = -6 := by
      obtain ⟨fr, la, t, d, m8, m15, m19, m32, m33, hch, hb, hb2, m39, -⟩ := hRM
      exact m39
    cases b with
    | true =>
      have kb := m_begin l hB h hM hJ hRM
      have m38 : h 10 38 = -6 := by
        obtain ⟨fr, la, t, d, m8, m15, m19, m32, m33, hch, hb, -⟩ := hRM
        exact (hb rfl).1
      refine e_aload_n (i := 0) dX8_end_87 rfl rfl ?_
      refine e_getI (x := (-6)) dX8_end_88 fl_X8_165 sh_10 fj_10_39 m39 ?_
      refine b_if_ge (X := (-6)) (tgt := 129) (by decide) dX8_end_91 (by decide) ?_ ?_
      · intro c_91_t
        exfalso; omega
      · intro c_91_f
        refine e_aload_n (i := 0) dX8_end_94 rfl rfl ?_
        refine e_getI (x := (-6)) dX8_end_95 fl_X8_162 sh_10 fj_10_38 m38 ?_
        refine b_if_ge (X := (-6)) (tgt := 108) (by decide) dX8_end_98 (by decide) ?_ ?_
        · intro c_98_t
          exfalso; omega
        · intro c_98_f
          refine e_aload_n (i := 0) dX8_end_101 rfl rfl ?_
          refine e_invVvG (As := []) (ty := .int) dX8_end_102 lk_X8_168 yv_X8_begin rfl rfl rfl (Nat.le_of_ble_eq_true rfl) sh_10 ci_X8 (Nat.le_of_ble_eq_true rfl) ⟨Nat.le_of_ble_eq_true rfl, Nat.le_of_ble_eq_true rfl⟩ kb ?_
          rintro h' ⟨-, hk, ho⟩
          refine e_goto (tgt := 87) dX8_end_105 (by decide) ?_
          exact hend h' hk ho
    | false =>
      have hRM := RM_f hRM
      have hJ := aJ_f hJ
      have jx : x < 8 := hJ.1
      have m38 : h 10 38 = nI x := by
        obtain ⟨fr, la, t, d, m8, m15, m19, m32, m33, hch, hb, hb2, -⟩ := hRM
        exact hb2 rfl
      cases P with
      | nil =>
        have kt := m_leave_nil l h hJ hRM
        have m32 : h 10 32 = nI 0 := by
          obtain ⟨fr, la, t, d, m8, m15, m19, m32, m33, hch, -⟩ := hRM
          rw [hch.1] at m32
          exact m32
        refine e_aload_n (i := 0) dX8_end_87 rfl rfl ?_
        refine e_getI (x := (-6)) dX8_end_88 fl_X8_165 sh_10 fj_10_39 m39 ?_
        refine b_if_ge (X := (-6)) (tgt := 129) (by decide) dX8_end_91 (by decide) ?_ ?_
        · intro c_91_t
          exfalso; omega
        · intro c_91_f
          refine e_aload_n (i := 0) dX8_end_94 rfl rfl ?_
          refine e_getI (x := nI x) dX8_end_95 fl_X8_162 sh_10 fj_10_38 m38 ?_
          refine b_if_ge (X := ((x : Nat) : Int)) (tgt := 108) (nI_toInt (by omega)) dX8_end_98 (by decide) ?_ ?_
          · intro c_98_t
            refine e_aload_n (i := 0) dX8_end_108 rfl rfl ?_
            refine e_getI (x := nI 0) dX8_end_109 fl_X8_123 sh_10 fj_10_32 m32 ?_
            refine b_if_ne (X := 0) (tgt := 122) (by decide) dX8_end_112 (by decide) ?_ ?_
            · intro e_112_t c_112_t
              exfalso; omega
            · intro e_112_f c_112_f
              refine e_aload_n (i := 0) dX8_end_115 rfl rfl ?_
              refine e_invVvG (As := []) (ty := .int) dX8_end_116 lk_X8_171 yv_X8_leave rfl rfl rfl (Nat.le_of_ble_eq_true rfl) sh_10 ci_X8 (Nat.le_of_ble_eq_true rfl) ⟨Nat.le_of_ble_eq_true rfl, Nat.le_of_ble_eq_true rfl⟩ kt ?_
              rintro h' ⟨-, hk, ho⟩
              refine e_goto (tgt := 87) dX8_end_119 (by decide) ?_
              exact hend h' hk ho
          · intro c_98_f
            exfalso; omega
      | cons F P =>
        obtain ⟨pl2, x2, k2, w2⟩ := F
        by_cases h64 : (sg pl2).toInt = 64
        · have kt := m_leave l hB h hM hJ hRM h64
          have m32 : h 10 32 = nI 0 := by
            obtain ⟨fr, la, t, d, m8, m15, m19, m32, m33, hch, -⟩ := hRM
            rcases hch with q1 | q1
            · rw [q1.2.1] at m32; exact m32
            · exact absurd h64 q1.1
          refine e_aload_n (i := 0) dX8_end_87 rfl rfl ?_
          refine e_getI (x := (-6)) dX8_end_88 fl_X8_165 sh_10 fj_10_39 m39 ?_
          refine b_if_ge (X := (-6)) (tgt := 129) (by decide) dX8_end_91 (by decide) ?_ ?_
          · intro c_91_t
            exfalso; omega
          · intro c_91_f
            refine e_aload_n (i := 0) dX8_end_94 rfl rfl ?_
            refine e_getI (x := nI x) dX8_end_95 fl_X8_162 sh_10 fj_10_38 m38 ?_
            refine b_if_ge (X := ((x : Nat) : Int)) (tgt := 108) (nI_toInt (by omega)) dX8_end_98 (by decide) ?_ ?_
            · intro c_98_t
              refine e_aload_n (i := 0) dX8_end_108 rfl rfl ?_
              refine e_getI (x := nI 0) dX8_end_109 fl_X8_123 sh_10 fj_10_32 m32 ?_
              refine b_if_ne (X := 0) (tgt := 122) (by decide) dX8_end_112 (by decide) ?_ ?_
              · intro e_112_t c_112_t
                exfalso; omega
              · intro e_112_f c_112_f
                refine e_aload_n (i := 0) dX8_end_115 rfl rfl ?_
                refine e_invVvG (As := []) (ty := .int) dX8_end_116 lk_X8_171 yv_X8_leave rfl rfl rfl (Nat.le_of_ble_eq_true rfl) sh_10 ci_X8 (Nat.le_of_ble_eq_true rfl) ⟨Nat.le_of_ble_eq_true rfl, Nat.le_of_ble_eq_true rfl⟩ kt ?_
                rintro h' ⟨-, hk, ho⟩
                refine e_goto (tgt := 87) dX8_end_119 (by decide) ?_
                exact hend h' hk ho
            · intro c_98_f
              exfalso; omega
        · have kt := m_come l hB h hM hMR hJ hRM h64
          obtain ⟨t, m32, ht1, ht2⟩ : ∃ t : Nat, h 10 32 = nI t ∧ 1 ≤ t ∧ t < 1000 := by
            have jn : n ≤ 200 := hJ.2.2.2.2.1
            obtain ⟨fr, la, t, d, m8, m15, m19, m32, m33, hch, hb, hb2, m39, m27, m28, hmg, hkp, hfr, hla⟩ := hRM
            have hfr : fr ≤ 2 * n + 0 := hfr
            rcases hch with q1 | q1
            · exact absurd q1.1 h64
            · exact ⟨t, m32, q1.2.1, by have := q1.2.2.1; omega⟩
          refine e_aload_n (i := 0) dX8_end_87 rfl rfl ?_
          refine e_getI (x := (-6)) dX8_end_88 fl_X8_165 sh_10 fj_10_39 m39 ?_
          refine b_if_ge (X := (-6)) (tgt := 129) (by decide) dX8_end_91 (by decide) ?_ ?_
          · intro c_91_t
            exfalso; omega
          · intro c_91_f
            refine e_aload_n (i := 0) dX8_end_94 rfl rfl ?_
            refine e_getI (x := nI x) dX8_end_95 fl_X8_162 sh_10 fj_10_38 m38 ?_
            refine b_if_ge (X := ((x : Nat) : Int)) (tgt := 108) (nI_toInt (by omega)) dX8_end_98 (by decide) ?_ ?_
            · intro c_98_t
              refine e_aload_n (i := 0) dX8_end_108 rfl rfl ?_
              refine e_getI (x := nI t) dX8_end_109 fl_X8_123 sh_10 fj_10_32 m32 ?_
              refine b_if_ne (X := ((t : Nat) : Int)) (tgt := 122) (nI_toInt (by omega)) dX8_end_112 (by decide) ?_ ?_
              · intro e_112_t c_112_t
                refine e_aload_n (i := 0) dX8_end_122 rfl rfl ?_
                refine e_invVvG (As := []) (ty := .int) dX8_end_123 lk_X8_174 yv_X8_come rfl rfl rfl (Nat.le_of_ble_eq_true rfl) sh_10 ci_X8 (Nat.le_of_ble_eq_true rfl) ⟨Nat.le_of_ble_eq_true rfl, Nat.le_of_ble_eq_true rfl⟩ kt ?_
                rintro h' ⟨-, hk, ho⟩
                refine e_goto (tgt := 87) dX8_end_126 (by decide) ?_
                exact hend h' hk ho
              · intro e_112_f c_112_f
                exfalso; omega
            · intro c_98_f
              exfalso; omega
set_option maxHeartbeats 4000000 in
/-- end: the reference's run is the machine's -/
theorem k_M_end (l : Launch) {sg : Nat → Int32} {ln sz : Nat → Nat} {r : List Nat} (hB : aWB sg ln sz) (hr8 : ∀ z ∈ r, z < 8) (h : mH) (hM : MB sg ln sz h) (hMR : MR r h) {p x : Nat} (hp : p < 4) (hz : 0 < sz p) (hx : x < 8) : mG l Sh0 iX8_end [.inr 10, .inl (nI p), .inl (nI x)] h (fun v' h' => v' = some (h' 10 39) ∧ KM h h' ∧ ME h' (aRun sg ln sz r 9000 (aS0 p x))) := by
  intro RT hR
  show mE l Sh0 none iX8_end RT 0 [some (.inr 10), some (.inl (nI p)), some (.inl (nI x))] [] h
  refine e_aload_n (i := 0) dX8_end_0 rfl rfl ?_
  refine e_iconst (v := 0) dX8_end_1 (by decide) ?_
  refine e_putI dX8_end_2 fl_X8_120 fp_X8_8 sh_10 fj_10_8 ?_
  refine e_aload_n (i := 0) dX8_end_5 rfl rfl ?_
  refine e_iconst (v := 0) dX8_end_6 (by decide) ?_
  refine e_putI dX8_end_7 fl_X8_126 fp_X8_15 sh_10 fj_10_15 ?_
  refine e_aload_n (i := 0) dX8_end_10 rfl rfl ?_
  refine e_iconst (v := 0) dX8_end_11 (by decide) ?_
  refine e_putI dX8_end_12 fl_X8_132 fp_X8_19 sh_10 fj_10_19 ?_
  refine e_aload_n (i := 0) dX8_end_15 rfl rfl ?_
  refine e_iconst (v := 0) dX8_end_16 (by decide) ?_
  refine e_putI dX8_end_17 fl_X8_135 fp_X8_23 sh_10 fj_10_23 ?_
  refine e_aload_n (i := 0) dX8_end_20 rfl rfl ?_
  refine e_iconst (v := 0) dX8_end_21 (by decide) ?_
  refine e_putI dX8_end_22 fl_X8_138 fp_X8_24 sh_10 fj_10_24 ?_
  refine e_aload_n (i := 0) dX8_end_25 rfl rfl ?_
  refine e_iconst (v := 0) dX8_end_26 (by decide) ?_
  refine e_putI dX8_end_27 fl_X8_141 fp_X8_25 sh_10 fj_10_25 ?_
  refine e_aload_n (i := 0) dX8_end_30 rfl rfl ?_
  refine e_iconst (v := 0) dX8_end_31 (by decide) ?_
  refine e_putI dX8_end_32 fl_X8_144 fp_X8_26 sh_10 fj_10_26 ?_
  refine e_aload_n (i := 0) dX8_end_35 rfl rfl ?_
  refine e_bipush (v := (-6)) dX8_end_36 (by decide) ?_
  refine e_putI dX8_end_38 fl_X8_147 fp_X8_27 sh_10 fj_10_27 ?_
  refine e_aload_n (i := 0) dX8_end_41 rfl rfl ?_
  refine e_bipush (v := (-6)) dX8_end_42 (by decide) ?_
  refine e_putI dX8_end_44 fl_X8_150 fp_X8_28 sh_10 fj_10_28 ?_
  refine e_aload_n (i := 0) dX8_end_47 rfl rfl ?_
  refine e_iconst (v := 0) dX8_end_48 (by decide) ?_
  refine e_putI dX8_end_49 fl_X8_123 fp_X8_32 sh_10 fj_10_32 ?_
  refine e_aload_n (i := 0) dX8_end_52 rfl rfl ?_
  refine e_iconst (v := 0) dX8_end_53 (by decide) ?_
  refine e_putI dX8_end_54 fl_X8_129 fp_X8_33 sh_10 fj_10_33 ?_
  refine e_aload_n (i := 0) dX8_end_57 rfl rfl ?_
  refine e_bipush (v := 40) dX8_end_58 (by decide) ?_
  refine e_iload_n (i := 1) dX8_end_60 rfl rfl ?_
  refine z_imul (z := nI (40 * p)) (nI_mulcl 40 _) dX8_end_61 ?_
  refine e_putI dX8_end_62 fl_X8_153 fp_X8_35 sh_10 fj_10_35 ?_
  refine e_aload_n (i := 0) dX8_end_65 rfl rfl ?_
  refine e_iload_n (i := 2) dX8_end_66 rfl rfl ?_
  refine e_putI dX8_end_67 fl_X8_156 fp_X8_36 sh_10 fj_10_36 ?_
  refine e_aload_n (i := 0) dX8_end_70 rfl rfl ?_
  refine e_iconst (v := 0) dX8_end_71 (by decide) ?_
  refine e_putI dX8_end_72 fl_X8_159 fp_X8_37 sh_10 fj_10_37 ?_
  refine e_aload_n (i := 0) dX8_end_75 rfl rfl ?_
  refine e_bipush (v := (-6)) dX8_end_76 (by decide) ?_
  refine e_putI dX8_end_78 fl_X8_162 fp_X8_38 sh_10 fj_10_38 ?_
  refine e_aload_n (i := 0) dX8_end_81 rfl rfl ?_
  refine e_bipush (v := (-6)) dX8_end_82 (by decide) ?_
  refine e_putI dX8_end_84 fl_X8_165 fp_X8_39 sh_10 fj_10_39 ?_
  have hk : KM h (hs (hs (hs (hs (hs (hs (hs (hs (hs (hs (hs (hs (hs (hs (hs (hs h 10 8 0) 10 15 0) 10 19 0) 10 23 0) 10 24 0) 10 25 0) 10 26 0) 10 27 (-6)) 10 28 (-6)) 10 32 0) 10 33 0) 10 35 (nI (40 * p))) 10 36 (nI x)) 10 37 0) 10 38 (-6)) 10 39 (-6)) := (((((((((((((((((KM.refl h).hs (by omega)).hs (by omega)).hs (by omega)).hs (by omega)).hs (by omega)).hs (by omega)).hs (by omega)).hs (by omega)).hs (by omega)).hs (by omega)).hs (by omega)).hs (by omega)).hs (by omega)).hs (by omega)).hs (by omega)).hs (by omega))
  have hrm0 : RM sg (hs (hs (hs (hs (hs (hs (hs (hs (hs (hs (hs (hs (hs (hs (hs (hs h 10 8 0) 10 15 0) 10 19 0) 10 23 0) 10 24 0) 10 25 0) 10 26 0) 10 27 (-6)) 10 28 (-6)) 10 32 0) 10 33 0) 10 35 (nI (40 * p))) 10 36 (nI x)) 10 37 0) 10 38 (-6)) 10 39 (-6)) (aS0 p x) := ⟨0, 0, 0, 0, rfl, rfl, rfl, rfl, rfl, ⟨rfl, rfl⟩, fun _ => ⟨rfl, rfl, rfl, rfl⟩, fun z => (by cases z), rfl, rfl, rfl, ⟨rfl, rfl, rfl, rfl, fun i hi => (by cases hi)⟩, fun j L z => (by simp at z), Nat.zero_le _, Nat.zero_le _⟩
  exact lp_M_end l hB hr8 (some (.inl (nI p))) (some (.inl (nI x))) RT 9000 (aS0 p x) (hs (hs (hs (hs (hs (hs (hs (hs (hs (hs (hs (hs (hs (hs (hs (hs h 10 8 0) 10 15 0) 10 19 0) 10 23 0) 10 24 0) 10 25 0) 10 26 0) 10 27 (-6)) 10 28 (-6)) 10 32 0) 10 33 0) 10 35 (nI (40 * p))) 10 36 (nI x)) 10 37 0) 10 38 (-6)) 10 39 (-6)) (show 600 - 3 * 0 + (8000 - 200 * 0) + 0 + 0 < 9000 by decide) (hM.km hk) (hMR.km hk) (aJ_0 hp hz hx) hrm0 (fun h2 k2 e2 => hR _ _ ⟨rfl, hk.trans k2, e2⟩)
