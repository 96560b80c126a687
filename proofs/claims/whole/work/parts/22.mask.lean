/-! The reference's asking. -/
def mBy (sg : Nat → Int32) (sz : Nat → Nat) (dd : Nat) (h : mH) : List aF → Nat → Nat
  | [], _ => 0
  | F :: P, d => if (sg F.1).toInt = 64 then (if 0 < sz (4 + 4 * aHd sg F.1 + dd) then d else mBy sg sz dd h P (h 42 d).toNatClampNeg) else mBy sg sz dd h P d
theorem mBy_none {sg : Nat → Int32} {sz : Nat → Nat} {dd : Nat} {h : mH} : ∀ {P : List aF} {d : Nat}, (∀ F ∈ P, ¬ ((sg F.1).toInt = 64 ∧ 0 < sz (4 + 4 * aHd sg F.1 + dd))) → mBy sg sz dd h P d = 0
  | [], _, _ => rfl
  | F :: P, d, q => by
    have q1 := q F List.mem_cons_self
    have ih : ∀ d, mBy sg sz dd h P d = 0 := fun d => mBy_none (fun G hG => q G (List.mem_cons_of_mem _ hG))
    unfold mBy
    split
    · rw [if_neg (by omega)]; exact ih _
    · exact ih _
theorem mBy_some {sg : Nat → Int32} {sz : Nat → Nat} {dd : Nat} {h : mH} {fr la : Nat} (hla : la < 2 ^ 31) {G : aF} {C : List aF} (hG : (sg G.1).toInt = 64 ∧ 0 < sz (4 + 4 * aHd sg G.1 + dd)) : ∀ {A : List aF} {t d : Nat}, (∀ F ∈ A, ¬ ((sg F.1).toInt = 64 ∧ 0 < sz (4 + 4 * aHd sg F.1 + dd))) → mCh sg h fr la (A ++ G :: C) t d → ∃ y t1 d1, mBy sg sz dd h (A ++ G :: C) d = y ∧ mSg sg h fr la (A ++ [G]) t d y ∧ h 40 y = nI (aHd sg G.1) ∧ h 41 y = nI t1 ∧ h 42 y = nI d1 ∧ mCh sg h fr la C t1 d1
  | [], t, d, _, q => by
    obtain ⟨q1, q2, q3, q4, q5, t', d', q6, q7, q8, q9⟩ : _ ∧ _ := q.resolve_right (fun z => z.1 hG.1)
    refine ⟨d, t', d', ?_, Or.inl ⟨q1, q2, q3, q4, q5, Or.inl ⟨rfl, rfl⟩⟩, q5, q6, q7, q9⟩
    show mBy sg sz dd h (G :: C) d = d
    unfold mBy
    rw [if_pos hG.1, if_pos hG.2]
  | F :: A, t, d, hA, q => by
    have hF := hA F List.mem_cons_self
    have hA2 : ∀ F ∈ A, ¬ ((sg F.1).toInt = 64 ∧ 0 < sz (4 + 4 * aHd sg F.1 + dd)) := fun F hF => hA F (List.mem_cons_of_mem _ hF)
    rcases q with ⟨q1, q2, q3, q4, q5, t', d', q6, q7, q8, q9⟩ | ⟨q1, q2, q3, q4, t', q5, q6⟩
    · obtain ⟨y, t1, d1, e1, e2, e3, e4, e5, e6⟩ := mBy_some hla hG hA2 q9
      refine ⟨y, t1, d1, ?_, Or.inl ⟨q1, q2, q3, q4, q5, Or.inr ⟨t', d', q6, q7, q8, e2⟩⟩, e3, e4, e5, e6⟩
      show mBy sg sz dd h (F :: (A ++ G :: C)) d = y
      unfold mBy
      rw [if_pos q1, if_neg (fun z => hF ⟨q1, z⟩), q7, nI_clamp (by omega)]
      exact e1
    · obtain ⟨y, t1, d1, e1, e2, e3, e4, e5, e6⟩ := mBy_some hla hG hA2 q6
      refine ⟨y, t1, d1, ?_, Or.inr ⟨q1, q2, q3, q4, t', q5, e2⟩, e3, e4, e5, e6⟩
      show mBy sg sz dd h (F :: (A ++ G :: C)) d = y
      unfold mBy
      rw [if_neg q1]
      exact e1
set_option maxHeartbeats 2000000 in
theorem lp_M_by (l : Launch) {sg : Nat → Int32} {ln sz : Nat → Nat} (hB : aWB sg ln sz) (h : mH) (hM : MB sg ln sz h) {fr la nK dd : Nat} (hdd : dd < 3) (hla : la < 12000) (RT : Option Int32 → mH → Prop) : ∀ (P : List aF) (t d : Nat), mCh sg h fr la P t d → (∀ F ∈ P, aFok sg sz nK F) → mE l Sh0 none iX8_ask RT 33 [some (.inr 10), some (.inl (nI dd)), some (.inl (nI (mBy sg sz dd h P d)))] [] h → mE l Sh0 none iX8_ask RT 5 [some (.inr 10), some (.inl (nI dd)), some (.inl (nI d))] [] h
  | [], t, d, hch, hF, hk => by
    obtain ⟨-, rfl⟩ := hch
    refine e_iload_n (i := 2) dX8_ask_5 rfl rfl ?_
    refine b_if_le (X := 0) (tgt := 33) (by decide) dX8_ask_6 (by decide) ?_ ?_
    · intro c_6_t
      exact hk
    · intro c_6_f
      exfalso; omega
  | F :: P, t, d, hch, hF, hk => by
    have hF2 : ∀ G ∈ P, aFok sg sz nK G := fun G hG => hF G (List.mem_cons_of_mem _ hG)
    rcases hch with ⟨q1, q2, q3, q4, q5, t', d', q6, q7, q8, q9⟩ | ⟨q1, q2, q3, q4, t', q5, q6⟩
    · have h9 := (hB.2 F.1 (hF F List.mem_cons_self).1).2.2.2.2.2.2.2.2.1 q1
      have hh : aHd sg F.1 < 4 := by unfold aHd; omega
      have hsz : h 29 (4 + 4 * aHd sg F.1 + dd) = nI (sz (4 + 4 * aHd sg F.1 + dd)) := hM.2.1 _ (by omega)
      have hsz2 := hB.1 (4 + 4 * aHd sg F.1 + dd) (by omega)
      have e0 : mBy sg sz dd h (F :: P) d = if 0 < sz (4 + 4 * aHd sg F.1 + dd) then d else mBy sg sz dd h P d' := by
        show (if (sg F.1).toInt = 64 then _ else _) = _
        rw [if_pos q1, q7, nI_clamp (by omega)]
      by_cases hz : 0 < sz (4 + 4 * aHd sg F.1 + dd)
      · rw [e0, if_pos hz] at hk
        refine e_iload_n (i := 2) dX8_ask_5 rfl rfl ?_
        refine b_if_le (X := ((d : Nat) : Int)) (tgt := 33) (nI_toInt (by omega)) dX8_ask_6 (by decide) ?_ ?_
        · intro c_6_t
          exfalso; omega
        · intro c_6_f
          refine e_aload_n (i := 0) dX8_ask_9 rfl rfl ?_
          refine e_aload_n (i := 0) dX8_ask_10 rfl rfl ?_
          refine e_getR (r := 40) dX8_ask_11 fl_X8_46 sh_10 fj_10_16 ?_
          refine e_iload_n (i := 2) dX8_ask_14 rfl rfl ?_
          refine e_iald (x := nI (aHd sg F.1)) dX8_ask_15 sh_40 (vin_ofX (X := ((d : Nat) : Int)) (nI_toInt (by omega)) (by omega) (by omega)) (by rw [nI_clamp (by omega)]; exact q5) ?_
          refine e_iload_n (i := 1) dX8_ask_16 rfl rfl ?_
          refine e_invVi (As := [.inl (nI (aHd sg F.1)), .inl (nI dd)]) (v := 1) (h2 := h) dX8_ask_17 lk_X8_113 yv_X8_hasClause rfl rfl rfl (Nat.le_of_ble_eq_true rfl) sh_10 ci_X8 (Nat.le_of_ble_eq_true rfl) ⟨Nat.le_of_ble_eq_true rfl, Nat.le_of_ble_eq_true rfl⟩ (k_M_hasClause1 l h (aHd sg F.1) dd _ hh (by omega) hsz hsz2 hz) ?_
          refine b_if_ne (X := 1) (tgt := 33) (by decide) dX8_ask_20 (by decide) ?_ ?_
          · intro e_20_t c_20_t
            exact hk
          · intro e_20_f c_20_f
            exfalso; omega
      · rw [e0, if_neg hz] at hk
        refine e_iload_n (i := 2) dX8_ask_5 rfl rfl ?_
        refine b_if_le (X := ((d : Nat) : Int)) (tgt := 33) (nI_toInt (by omega)) dX8_ask_6 (by decide) ?_ ?_
        · intro c_6_t
          exfalso; omega
        · intro c_6_f
          refine e_aload_n (i := 0) dX8_ask_9 rfl rfl ?_
          refine e_aload_n (i := 0) dX8_ask_10 rfl rfl ?_
          refine e_getR (r := 40) dX8_ask_11 fl_X8_46 sh_10 fj_10_16 ?_
          refine e_iload_n (i := 2) dX8_ask_14 rfl rfl ?_
          refine e_iald (x := nI (aHd sg F.1)) dX8_ask_15 sh_40 (vin_ofX (X := ((d : Nat) : Int)) (nI_toInt (by omega)) (by omega) (by omega)) (by rw [nI_clamp (by omega)]; exact q5) ?_
          refine e_iload_n (i := 1) dX8_ask_16 rfl rfl ?_
          refine e_invVi (As := [.inl (nI (aHd sg F.1)), .inl (nI dd)]) (v := 0) (h2 := h) dX8_ask_17 lk_X8_113 yv_X8_hasClause rfl rfl rfl (Nat.le_of_ble_eq_true rfl) sh_10 ci_X8 (Nat.le_of_ble_eq_true rfl) ⟨Nat.le_of_ble_eq_true rfl, Nat.le_of_ble_eq_true rfl⟩ (k_M_hasClause0 l h (aHd sg F.1) dd _ hh (by omega) hsz (by omega)) ?_
          refine b_if_ne (X := 0) (tgt := 33) (by decide) dX8_ask_20 (by decide) ?_ ?_
          · intro e_20_t c_20_t
            exfalso; omega
          · intro e_20_f c_20_f
            refine e_aload_n (i := 0) dX8_ask_23 rfl rfl ?_
            refine e_getR (r := 42) dX8_ask_24 fl_X8_52 sh_10 fj_10_18 ?_
            refine e_iload_n (i := 2) dX8_ask_27 rfl rfl ?_
            refine e_iald (x := nI d') dX8_ask_28 sh_42 (vin_ofX (X := ((d : Nat) : Int)) (nI_toInt (by omega)) (by omega) (by omega)) (by rw [nI_clamp (by omega)]; exact q7) ?_
            refine e_istore_n (i := 2) (ls2 := [some (.inr 10), some (.inl (nI dd)), some (.inl (nI d'))]) dX8_ask_29 rfl (Nat.le_of_ble_eq_true rfl) rfl ?_
            refine e_goto (tgt := 5) dX8_ask_30 (by decide) ?_
            exact lp_M_by l hB h hM hdd hla RT P t' d' q9 hF2 hk
    · have e0 : mBy sg sz dd h (F :: P) d = mBy sg sz dd h P d := by
        show (if (sg F.1).toInt = 64 then _ else _) = _
        rw [if_neg q1]
      rw [e0] at hk
      exact lp_M_by l hB h hM hdd hla RT P t' d q6 hF2 hk
set_option maxHeartbeats 2000000 in
theorem k_M_ask1 (l : Launch) {sg : Nat → Int32} {ln sz : Nat → Nat} (hB : aWB sg ln sz) (h : mH) (hM : MB sg ln sz h) {fr la nK dd : Nat} (hdd : dd < 3) (hla : la < 12000) (P : List aF) (t d v ql : Nat) (hch : mCh sg h fr la P t d) (hF : ∀ F ∈ P, aFok sg sz nK F) (m32 : h 10 32 = nI t) (m33 : h 10 33 = nI d) (m38 : h 10 38 = nI v) (hv : v < 8) (m26 : h 10 26 = nI ql) (hq : ql < 256) (y t1 d1 hd2 kp : Nat) (hy : mBy sg sz dd h P d = y) (hy1 : 1 ≤ y) (hy2 : y ≤ la) (y40 : h 40 y = nI hd2) (hh : hd2 < 4) (y41 : h 41 y = nI t1) (y42 : h 42 y = nI d1) (m19 : h 10 19 = nI kp) (hkp : kp < 255) : mD l Sh0 iX8_ask [.inr 10, .inl (nI dd)] h none (wkH (hs (hs (hs (hs (hs (hs (hs (hs h 46 ql (nI (100 * dd + 10 * v + hd2))) 10 26 (nI (ql + 1))) 10 19 (nI (kp + 1))) 43 (kp + 1) (nI t)) 44 (kp + 1) (nI d)) 45 (kp + 1) (nI y)) 10 32 (nI t1)) 10 33 (nI d1)) (nI (4 + 4 * hd2 + dd)) (nI v) (nI (kp + 1))) := by
  intro RT hR
  show mE l Sh0 none iX8_ask RT 0 [some (.inr 10), some (.inl (nI dd)), none] [] h
  refine e_aload_n (i := 0) dX8_ask_0 rfl rfl ?_
  refine e_getI (x := nI d) dX8_ask_1 fl_X8_129 sh_10 fj_10_33 m33 ?_
  refine e_istore_n (i := 2) (ls2 := [some (.inr 10), some (.inl (nI dd)), some (.inl (nI d))]) dX8_ask_4 rfl (Nat.le_of_ble_eq_true rfl) rfl ?_
  refine lp_M_by l hB h hM hdd hla RT P t d hch hF ?_
  rw [hy]
  refine e_aload_n (i := 0) dX8_ask_33 rfl rfl ?_
  refine e_getR (r := 46) dX8_ask_34 fl_X8_64 sh_10 fj_10_29 ?_
  refine e_aload_n (i := 0) dX8_ask_37 rfl rfl ?_
  refine e_getI (x := nI ql) dX8_ask_38 fl_X8_144 sh_10 fj_10_26 m26 ?_
  refine e_bipush (v := 100) dX8_ask_41 (by decide) ?_
  refine e_iload_n (i := 1) dX8_ask_43 rfl rfl ?_
  refine z_imul (z := nI (100 * dd)) (nI_mulcl 100 _) dX8_ask_44 ?_
  refine e_bipush (v := 10) dX8_ask_45 (by decide) ?_
  refine e_aload_n (i := 0) dX8_ask_47 rfl rfl ?_
  refine e_getI (x := nI v) dX8_ask_48 fl_X8_162 sh_10 fj_10_38 m38 ?_
  refine z_imul (z := nI (10 * v)) (nI_mulcl 10 _) dX8_ask_51 ?_
  refine z_iadd (z := nI (100 * dd + 10 * v)) (nI_add _ _) dX8_ask_52 ?_
  refine e_iload_n (i := 2) dX8_ask_53 rfl rfl ?_
  refine b_if_le (X := ((y : Nat) : Int)) (tgt := 66) (nI_toInt (by omega)) dX8_ask_54 (by decide) ?_ ?_
  · intro c_54_t
    exfalso; omega
  · intro c_54_f
    refine e_aload_n (i := 0) dX8_ask_57 rfl rfl ?_
    refine e_getR (r := 40) dX8_ask_58 fl_X8_46 sh_10 fj_10_16 ?_
    refine e_iload_n (i := 2) dX8_ask_61 rfl rfl ?_
    refine e_iald (x := nI hd2) dX8_ask_62 sh_40 (vin_ofX (X := ((y : Nat) : Int)) (nI_toInt (by omega)) (by omega) (by omega)) (by rw [nI_clamp (by omega)]; exact y40) ?_
    refine e_goto (tgt := 68) dX8_ask_63 (by decide) ?_
    refine z_iadd (z := nI (100 * dd + 10 * v + hd2)) (nI_add _ _) dX8_ask_68 ?_
    refine e_iast dX8_ask_69 sh_46 (vin_ofX (X := ((ql : Nat) : Int)) (nI_toInt (by omega)) (by omega) (by omega)) ?_
    rw [nI_clamp (by omega)]
    refine e_aload_n (i := 0) dX8_ask_70 rfl rfl ?_
    refine e_dup dX8_ask_71 ?_
    refine e_getI (x := nI ql) dX8_ask_72 fl_X8_144 sh_10 fj_10_26 m26 ?_
    refine e_iconst (v := 1) dX8_ask_75 (by decide) ?_
    refine z_iadd (z := nI (ql + 1)) (nI_addc _ 1) dX8_ask_76 ?_
    refine e_putI dX8_ask_77 fl_X8_144 fp_X8_26 sh_10 fj_10_26 ?_
    refine e_iload_n (i := 2) dX8_ask_80 rfl rfl ?_
    refine b_if_le (X := ((y : Nat) : Int)) (tgt := 175) (nI_toInt (by omega)) dX8_ask_81 (by decide) ?_ ?_
    · intro c_81_t
      exfalso; omega
    · intro c_81_f
      refine e_aload_n (i := 0) dX8_ask_84 rfl rfl ?_
      refine e_dup dX8_ask_85 ?_
      refine e_getI (x := nI kp) dX8_ask_86 fl_X8_132 sh_10 fj_10_19 m19 ?_
      refine e_iconst (v := 1) dX8_ask_89 (by decide) ?_
      refine z_iadd (z := nI (kp + 1)) (nI_addc _ 1) dX8_ask_90 ?_
      refine e_putI dX8_ask_91 fl_X8_132 fp_X8_19 sh_10 fj_10_19 ?_
      refine e_aload_n (i := 0) dX8_ask_94 rfl rfl ?_
      refine e_getR (r := 43) dX8_ask_95 fl_X8_55 sh_10 fj_10_20 ?_
      refine e_aload_n (i := 0) dX8_ask_98 rfl rfl ?_
      refine e_getI (x := nI (kp + 1)) dX8_ask_99 fl_X8_132 sh_10 fj_10_19 rfl ?_
      refine e_aload_n (i := 0) dX8_ask_102 rfl rfl ?_
      refine e_getI (x := nI t) dX8_ask_103 fl_X8_123 sh_10 fj_10_32 m32 ?_
      refine e_iast dX8_ask_106 sh_43 (vin_ofX (X := ((kp + 1 : Nat) : Int)) (nI_toInt (by omega)) (by omega) (by omega)) ?_
      rw [nI_clamp (by omega)]
      refine e_aload_n (i := 0) dX8_ask_107 rfl rfl ?_
      refine e_getR (r := 44) dX8_ask_108 fl_X8_58 sh_10 fj_10_21 ?_
      refine e_aload_n (i := 0) dX8_ask_111 rfl rfl ?_
      refine e_getI (x := nI (kp + 1)) dX8_ask_112 fl_X8_132 sh_10 fj_10_19 rfl ?_
      refine e_aload_n (i := 0) dX8_ask_115 rfl rfl ?_
      refine e_getI (x := nI d) dX8_ask_116 fl_X8_129 sh_10 fj_10_33 m33 ?_
      refine e_iast dX8_ask_119 sh_44 (vin_ofX (X := ((kp + 1 : Nat) : Int)) (nI_toInt (by omega)) (by omega) (by omega)) ?_
      rw [nI_clamp (by omega)]
      refine e_aload_n (i := 0) dX8_ask_120 rfl rfl ?_
      refine e_getR (r := 45) dX8_ask_121 fl_X8_61 sh_10 fj_10_22 ?_
      refine e_aload_n (i := 0) dX8_ask_124 rfl rfl ?_
      refine e_getI (x := nI (kp + 1)) dX8_ask_125 fl_X8_132 sh_10 fj_10_19 rfl ?_
      refine e_iload_n (i := 2) dX8_ask_128 rfl rfl ?_
      refine e_iast dX8_ask_129 sh_45 (vin_ofX (X := ((kp + 1 : Nat) : Int)) (nI_toInt (by omega)) (by omega) (by omega)) ?_
      rw [nI_clamp (by omega)]
      refine e_aload_n (i := 0) dX8_ask_130 rfl rfl ?_
      refine e_aload_n (i := 0) dX8_ask_131 rfl rfl ?_
      refine e_getR (r := 41) dX8_ask_132 fl_X8_49 sh_10 fj_10_17 ?_
      refine e_iload_n (i := 2) dX8_ask_135 rfl rfl ?_
      refine e_iald (x := nI t1) dX8_ask_136 sh_41 (vin_ofX (X := ((y : Nat) : Int)) (nI_toInt (by omega)) (by omega) (by omega)) (by rw [nI_clamp (by omega)]; exact y41) ?_
      refine e_putI dX8_ask_137 fl_X8_123 fp_X8_32 sh_10 fj_10_32 ?_
      refine e_aload_n (i := 0) dX8_ask_140 rfl rfl ?_
      refine e_aload_n (i := 0) dX8_ask_141 rfl rfl ?_
      refine e_getR (r := 42) dX8_ask_142 fl_X8_52 sh_10 fj_10_18 ?_
      refine e_iload_n (i := 2) dX8_ask_145 rfl rfl ?_
      refine e_iald (x := nI d1) dX8_ask_146 sh_42 (vin_ofX (X := ((y : Nat) : Int)) (nI_toInt (by omega)) (by omega) (by omega)) (by rw [nI_clamp (by omega)]; exact y42) ?_
      refine e_putI dX8_ask_147 fl_X8_129 fp_X8_33 sh_10 fj_10_33 ?_
      refine e_aload_n (i := 0) dX8_ask_150 rfl rfl ?_
      refine e_aload_n (i := 0) dX8_ask_151 rfl rfl ?_
      refine e_getR (r := 40) dX8_ask_152 fl_X8_46 sh_10 fj_10_16 ?_
      refine e_iload_n (i := 2) dX8_ask_155 rfl rfl ?_
      refine e_iald (x := nI hd2) dX8_ask_156 sh_40 (vin_ofX (X := ((y : Nat) : Int)) (nI_toInt (by omega)) (by omega) (by omega)) (by rw [nI_clamp (by omega)]; exact y40) ?_
      refine e_iload_n (i := 1) dX8_ask_157 rfl rfl ?_
      refine e_invSi (As := [.inl (nI hd2), .inl (nI dd)]) (v := nI (4 + 4 * hd2 + dd)) (h2 := (hs (hs (hs (hs (hs (hs (hs (hs h 46 ql (nI (100 * dd + 10 * v + hd2))) 10 26 (nI (ql + 1))) 10 19 (nI (kp + 1))) 43 (kp + 1) (nI t)) 44 (kp + 1) (nI d)) 45 (kp + 1) (nI y)) 10 32 (nI t1)) 10 33 (nI d1))) dX8_ask_158 lk_X8_109 ys_X8_clauseOf rfl rfl rfl (Nat.le_of_ble_eq_true rfl) (Nat.le_of_ble_eq_true rfl) ⟨Nat.le_of_ble_eq_true rfl, Nat.le_of_ble_eq_true rfl⟩ (k_M_clauseOf l (hs (hs (hs (hs (hs (hs (hs (hs h 46 ql (nI (100 * dd + 10 * v + hd2))) 10 26 (nI (ql + 1))) 10 19 (nI (kp + 1))) 43 (kp + 1) (nI t)) 44 (kp + 1) (nI d)) 45 (kp + 1) (nI y)) 10 32 (nI t1)) 10 33 (nI d1)) hd2 dd) ?_
      refine e_aload_n (i := 0) dX8_ask_161 rfl rfl ?_
      refine e_getI (x := nI v) dX8_ask_162 fl_X8_162 sh_10 fj_10_38 m38 ?_
      refine e_aload_n (i := 0) dX8_ask_165 rfl rfl ?_
      refine e_getI (x := nI (kp + 1)) dX8_ask_166 fl_X8_132 sh_10 fj_10_19 rfl ?_
      refine e_invVv (As := [.inl (nI (4 + 4 * hd2 + dd)), .inl (nI v), .inl (nI (kp + 1))]) (h2 := (wkH (hs (hs (hs (hs (hs (hs (hs (hs h 46 ql (nI (100 * dd + 10 * v + hd2))) 10 26 (nI (ql + 1))) 10 19 (nI (kp + 1))) 43 (kp + 1) (nI t)) 44 (kp + 1) (nI d)) 45 (kp + 1) (nI y)) 10 32 (nI t1)) 10 33 (nI d1)) (nI (4 + 4 * hd2 + dd)) (nI v) (nI (kp + 1)))) (ty := .int) (v := 0) dX8_ask_169 lk_X8_185 yv_X8_work rfl rfl rfl (Nat.le_of_ble_eq_true rfl) sh_10 ci_X8 (Nat.le_of_ble_eq_true rfl) ⟨Nat.le_of_ble_eq_true rfl, Nat.le_of_ble_eq_true rfl⟩ (k_M_work l (hs (hs (hs (hs (hs (hs (hs (hs h 46 ql (nI (100 * dd + 10 * v + hd2))) 10 26 (nI (ql + 1))) 10 19 (nI (kp + 1))) 43 (kp + 1) (nI t)) 44 (kp + 1) (nI d)) 45 (kp + 1) (nI y)) 10 32 (nI t1)) 10 33 (nI d1)) (nI (4 + 4 * hd2 + dd)) (nI v) (nI (kp + 1))) ?_
      refine e_goto (tgt := 231) dX8_ask_172 (by decide) ?_
      refine e_ret dX8_ask_231 rfl ?_
      exact hR
set_option maxHeartbeats 2000000 in
theorem k_M_ask0r (l : Launch) {sg : Nat → Int32} {ln sz : Nat → Nat} (hB : aWB sg ln sz) (h : mH) (hM : MB sg ln sz h) {fr la nK dd : Nat} (hdd : dd < 3) (hla : la < 12000) (P : List aF) (t d v ql : Nat) (hch : mCh sg h fr la P t d) (hF : ∀ F ∈ P, aFok sg sz nK F) (m32 : h 10 32 = nI t) (m33 : h 10 33 = nI d) (m38 : h 10 38 = nI v) (hv : v < 8) (m26 : h 10 26 = nI ql) (hq : ql < 256) (hy : mBy sg sz dd h P d = 0) (u rl w : Nat) (m25 : h 10 25 = nI u) (m30 : h 10 30 = nI rl) (hrl : rl ≤ 8) (hu : u < rl) (hw : h 47 u = nI w) : mD l Sh0 iX8_ask [.inr 10, .inl (nI dd)] h none (hs (hs (hs (hs h 46 ql (nI (100 * dd + 10 * v + 9))) 10 26 (nI (ql + 1))) 10 38 (nI w)) 10 25 (nI (u + 1))) := by
  intro RT hR
  show mE l Sh0 none iX8_ask RT 0 [some (.inr 10), some (.inl (nI dd)), none] [] h
  refine e_aload_n (i := 0) dX8_ask_0 rfl rfl ?_
  refine e_getI (x := nI d) dX8_ask_1 fl_X8_129 sh_10 fj_10_33 m33 ?_
  refine e_istore_n (i := 2) (ls2 := [some (.inr 10), some (.inl (nI dd)), some (.inl (nI d))]) dX8_ask_4 rfl (Nat.le_of_ble_eq_true rfl) rfl ?_
  refine lp_M_by l hB h hM hdd hla RT P t d hch hF ?_
  rw [hy]
  refine e_aload_n (i := 0) dX8_ask_33 rfl rfl ?_
  refine e_getR (r := 46) dX8_ask_34 fl_X8_64 sh_10 fj_10_29 ?_
  refine e_aload_n (i := 0) dX8_ask_37 rfl rfl ?_
  refine e_getI (x := nI ql) dX8_ask_38 fl_X8_144 sh_10 fj_10_26 m26 ?_
  refine e_bipush (v := 100) dX8_ask_41 (by decide) ?_
  refine e_iload_n (i := 1) dX8_ask_43 rfl rfl ?_
  refine z_imul (z := nI (100 * dd)) (nI_mulcl 100 _) dX8_ask_44 ?_
  refine e_bipush (v := 10) dX8_ask_45 (by decide) ?_
  refine e_aload_n (i := 0) dX8_ask_47 rfl rfl ?_
  refine e_getI (x := nI v) dX8_ask_48 fl_X8_162 sh_10 fj_10_38 m38 ?_
  refine z_imul (z := nI (10 * v)) (nI_mulcl 10 _) dX8_ask_51 ?_
  refine z_iadd (z := nI (100 * dd + 10 * v)) (nI_add _ _) dX8_ask_52 ?_
  refine e_iload_n (i := 2) dX8_ask_53 rfl rfl ?_
  refine b_if_le (X := 0) (tgt := 66) (by decide) dX8_ask_54 (by decide) ?_ ?_
  · intro c_54_t
    refine e_bipush (v := 9) dX8_ask_66 (by decide) ?_
    refine z_iadd (z := nI (100 * dd + 10 * v + 9)) (nI_addc _ 9) dX8_ask_68 ?_
    refine e_iast dX8_ask_69 sh_46 (vin_ofX (X := ((ql : Nat) : Int)) (nI_toInt (by omega)) (by omega) (by omega)) ?_
    rw [nI_clamp (by omega)]
    refine e_aload_n (i := 0) dX8_ask_70 rfl rfl ?_
    refine e_dup dX8_ask_71 ?_
    refine e_getI (x := nI ql) dX8_ask_72 fl_X8_144 sh_10 fj_10_26 m26 ?_
    refine e_iconst (v := 1) dX8_ask_75 (by decide) ?_
    refine z_iadd (z := nI (ql + 1)) (nI_addc _ 1) dX8_ask_76 ?_
    refine e_putI dX8_ask_77 fl_X8_144 fp_X8_26 sh_10 fj_10_26 ?_
    refine e_iload_n (i := 2) dX8_ask_80 rfl rfl ?_
    refine b_if_le (X := 0) (tgt := 175) (by decide) dX8_ask_81 (by decide) ?_ ?_
    · intro c_81_t
      refine e_aload_n (i := 0) dX8_ask_175 rfl rfl ?_
      refine e_getI (x := nI u) dX8_ask_176 fl_X8_141 sh_10 fj_10_25 m25 ?_
      refine e_aload_n (i := 0) dX8_ask_179 rfl rfl ?_
      refine e_getI (x := nI rl) dX8_ask_180 fl_X8_203 sh_10 fj_10_30 m30 ?_
      refine b_icmp_ne (X := ((u : Nat) : Int)) (Y := ((rl : Nat) : Int)) (tgt := 208) (nI_toInt (by omega)) (nI_toInt (by omega)) dX8_ask_183 (by decide) ?_ ?_
      · intro e_183_t c_183_t
        refine e_aload_n (i := 0) dX8_ask_208 rfl rfl ?_
        refine e_aload_n (i := 0) dX8_ask_209 rfl rfl ?_
        refine e_getR (r := 47) dX8_ask_210 fl_X8_67 sh_10 fj_10_31 ?_
        refine e_aload_n (i := 0) dX8_ask_213 rfl rfl ?_
        refine e_getI (x := nI u) dX8_ask_214 fl_X8_141 sh_10 fj_10_25 m25 ?_
        refine e_iald (x := nI w) dX8_ask_217 sh_47 (vin_ofX (X := ((u : Nat) : Int)) (nI_toInt (by omega)) (by omega) (by omega)) (by rw [nI_clamp (by omega)]; exact hw) ?_
        refine e_putI dX8_ask_218 fl_X8_162 fp_X8_38 sh_10 fj_10_38 ?_
        refine e_aload_n (i := 0) dX8_ask_221 rfl rfl ?_
        refine e_dup dX8_ask_222 ?_
        refine e_getI (x := nI u) dX8_ask_223 fl_X8_141 sh_10 fj_10_25 m25 ?_
        refine e_iconst (v := 1) dX8_ask_226 (by decide) ?_
        refine z_iadd (z := nI (u + 1)) (nI_addc _ 1) dX8_ask_227 ?_
        refine e_putI dX8_ask_228 fl_X8_141 fp_X8_25 sh_10 fj_10_25 ?_
        refine e_ret dX8_ask_231 rfl ?_
        exact hR
      · intro e_183_f c_183_f
        exfalso; omega
    · intro c_81_f
      exfalso; omega
  · intro c_54_f
    exfalso; omega
set_option maxHeartbeats 2000000 in
theorem k_M_ask0e (l : Launch) {sg : Nat → Int32} {ln sz : Nat → Nat} (hB : aWB sg ln sz) (h : mH) (hM : MB sg ln sz h) {fr la nK dd : Nat} (hdd : dd < 3) (hla : la < 12000) (P : List aF) (t d v ql : Nat) (hch : mCh sg h fr la P t d) (hF : ∀ F ∈ P, aFok sg sz nK F) (m32 : h 10 32 = nI t) (m33 : h 10 33 = nI d) (m38 : h 10 38 = nI v) (hv : v < 8) (m26 : h 10 26 = nI ql) (hq : ql < 256) (hy : mBy sg sz dd h P d = 0) (u rl : Nat) (m25 : h 10 25 = nI u) (m30 : h 10 30 = nI rl) (hrl : rl ≤ 8) (hu : u = rl) : mD l Sh0 iX8_ask [.inr 10, .inl (nI dd)] h none (hs (hs (hs (hs (hs h 46 ql (nI (100 * dd + 10 * v + 9))) 10 26 (nI (ql + 1))) 10 27 (nI dd)) 10 28 (nI v)) 10 39 8) := by
  intro RT hR
  show mE l Sh0 none iX8_ask RT 0 [some (.inr 10), some (.inl (nI dd)), none] [] h
  refine e_aload_n (i := 0) dX8_ask_0 rfl rfl ?_
  refine e_getI (x := nI d) dX8_ask_1 fl_X8_129 sh_10 fj_10_33 m33 ?_
  refine e_istore_n (i := 2) (ls2 := [some (.inr 10), some (.inl (nI dd)), some (.inl (nI d))]) dX8_ask_4 rfl (Nat.le_of_ble_eq_true rfl) rfl ?_
  refine lp_M_by l hB h hM hdd hla RT P t d hch hF ?_
  rw [hy]
  refine e_aload_n (i := 0) dX8_ask_33 rfl rfl ?_
  refine e_getR (r := 46) dX8_ask_34 fl_X8_64 sh_10 fj_10_29 ?_
  refine e_aload_n (i := 0) dX8_ask_37 rfl rfl ?_
  refine e_getI (x := nI ql) dX8_ask_38 fl_X8_144 sh_10 fj_10_26 m26 ?_
  refine e_bipush (v := 100) dX8_ask_41 (by decide) ?_
  refine e_iload_n (i := 1) dX8_ask_43 rfl rfl ?_
  refine z_imul (z := nI (100 * dd)) (nI_mulcl 100 _) dX8_ask_44 ?_
  refine e_bipush (v := 10) dX8_ask_45 (by decide) ?_
  refine e_aload_n (i := 0) dX8_ask_47 rfl rfl ?_
  refine e_getI (x := nI v) dX8_ask_48 fl_X8_162 sh_10 fj_10_38 m38 ?_
  refine z_imul (z := nI (10 * v)) (nI_mulcl 10 _) dX8_ask_51 ?_
  refine z_iadd (z := nI (100 * dd + 10 * v)) (nI_add _ _) dX8_ask_52 ?_
  refine e_iload_n (i := 2) dX8_ask_53 rfl rfl ?_
  refine b_if_le (X := 0) (tgt := 66) (by decide) dX8_ask_54 (by decide) ?_ ?_
  · intro c_54_t
    refine e_bipush (v := 9) dX8_ask_66 (by decide) ?_
    refine z_iadd (z := nI (100 * dd + 10 * v + 9)) (nI_addc _ 9) dX8_ask_68 ?_
    refine e_iast dX8_ask_69 sh_46 (vin_ofX (X := ((ql : Nat) : Int)) (nI_toInt (by omega)) (by omega) (by omega)) ?_
    rw [nI_clamp (by omega)]
    refine e_aload_n (i := 0) dX8_ask_70 rfl rfl ?_
    refine e_dup dX8_ask_71 ?_
    refine e_getI (x := nI ql) dX8_ask_72 fl_X8_144 sh_10 fj_10_26 m26 ?_
    refine e_iconst (v := 1) dX8_ask_75 (by decide) ?_
    refine z_iadd (z := nI (ql + 1)) (nI_addc _ 1) dX8_ask_76 ?_
    refine e_putI dX8_ask_77 fl_X8_144 fp_X8_26 sh_10 fj_10_26 ?_
    refine e_iload_n (i := 2) dX8_ask_80 rfl rfl ?_
    refine b_if_le (X := 0) (tgt := 175) (by decide) dX8_ask_81 (by decide) ?_ ?_
    · intro c_81_t
      refine e_aload_n (i := 0) dX8_ask_175 rfl rfl ?_
      refine e_getI (x := nI u) dX8_ask_176 fl_X8_141 sh_10 fj_10_25 m25 ?_
      refine e_aload_n (i := 0) dX8_ask_179 rfl rfl ?_
      refine e_getI (x := nI rl) dX8_ask_180 fl_X8_203 sh_10 fj_10_30 m30 ?_
      refine b_icmp_ne (X := ((u : Nat) : Int)) (Y := ((rl : Nat) : Int)) (tgt := 208) (nI_toInt (by omega)) (nI_toInt (by omega)) dX8_ask_183 (by decide) ?_ ?_
      · intro e_183_t c_183_t
        exfalso; omega
      · intro e_183_f c_183_f
        refine e_aload_n (i := 0) dX8_ask_186 rfl rfl ?_
        refine e_iload_n (i := 1) dX8_ask_187 rfl rfl ?_
        refine e_putI dX8_ask_188 fl_X8_147 fp_X8_27 sh_10 fj_10_27 ?_
        refine e_aload_n (i := 0) dX8_ask_191 rfl rfl ?_
        refine e_aload_n (i := 0) dX8_ask_192 rfl rfl ?_
        refine e_getI (x := nI v) dX8_ask_193 fl_X8_162 sh_10 fj_10_38 m38 ?_
        refine e_putI dX8_ask_196 fl_X8_150 fp_X8_28 sh_10 fj_10_28 ?_
        refine e_aload_n (i := 0) dX8_ask_199 rfl rfl ?_
        refine e_bipush (v := 8) dX8_ask_200 (by decide) ?_
        refine e_putI dX8_ask_202 fl_X8_165 fp_X8_39 sh_10 fj_10_39 ?_
        refine e_goto (tgt := 231) dX8_ask_205 (by decide) ?_
        refine e_ret dX8_ask_231 rfl ?_
        exact hR
    · intro c_81_f
      exfalso; omega
  · intro c_54_f
    exfalso; omega
