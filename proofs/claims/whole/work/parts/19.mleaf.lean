/-! The reference: its small methods. -/
def wtH (h : mH) (fr : Nat) (a b c d e : Int32) : mH := hs (hs (hs (hs (hs (hs (hs (hs h 10 8 (nI (fr + 1))) 34 (fr + 1) a) 35 (fr + 1) b) 36 (fr + 1) c) 37 (fr + 1) d) 38 (fr + 1) e) 39 (fr + 1) (h 10 32)) 10 32 (nI (fr + 1))
set_option maxHeartbeats 1000000 in
theorem k_M_wait (l : Launch) (h : mH) (fr : Nat) (hf : h 10 8 = nI fr) (hfr : fr < 511) (a b c d e : Int32) : mD l Sh0 iX8_wait [.inr 10, .inl a, .inl b, .inl c, .inl d, .inl e] h (none) (wtH h fr a b c d e) := by
  intro RT hR
  show mE l Sh0 none iX8_wait RT 0 [some (.inr 10), some (.inl a), some (.inl b), some (.inl c), some (.inl d), some (.inl e)] [] h
  refine e_aload_n (i := 0) dX8_wait_0 rfl rfl ?_
  refine e_dup dX8_wait_1 ?_
  refine e_getI (x := nI fr) dX8_wait_2 fl_X8_120 sh_10 fj_10_8 hf ?_
  refine e_iconst (v := 1) dX8_wait_5 (by decide) ?_
  refine z_iadd (z := nI (fr + 1)) (nI_addc _ 1) dX8_wait_6 ?_
  refine e_putI dX8_wait_7 fl_X8_120 fp_X8_8 sh_10 fj_10_8 ?_
  refine e_aload_n (i := 0) dX8_wait_10 rfl rfl ?_
  refine e_getR (r := 34) dX8_wait_11 fl_X8_28 sh_10 fj_10_9 ?_
  refine e_aload_n (i := 0) dX8_wait_14 rfl rfl ?_
  refine e_getI (x := nI (fr + 1)) dX8_wait_15 fl_X8_120 sh_10 fj_10_8 rfl ?_
  refine e_iload_n (i := 1) dX8_wait_18 rfl rfl ?_
  refine e_iast dX8_wait_19 sh_34 (vin_ofX (X := ((fr + 1 : Nat) : Int)) (nI_toInt (by omega)) (by omega) (by omega)) ?_
  rw [nI_clamp (by omega)]
  refine e_aload_n (i := 0) dX8_wait_20 rfl rfl ?_
  refine e_getR (r := 35) dX8_wait_21 fl_X8_31 sh_10 fj_10_10 ?_
  refine e_aload_n (i := 0) dX8_wait_24 rfl rfl ?_
  refine e_getI (x := nI (fr + 1)) dX8_wait_25 fl_X8_120 sh_10 fj_10_8 rfl ?_
  refine e_iload_n (i := 2) dX8_wait_28 rfl rfl ?_
  refine e_iast dX8_wait_29 sh_35 (vin_ofX (X := ((fr + 1 : Nat) : Int)) (nI_toInt (by omega)) (by omega) (by omega)) ?_
  rw [nI_clamp (by omega)]
  refine e_aload_n (i := 0) dX8_wait_30 rfl rfl ?_
  refine e_getR (r := 36) dX8_wait_31 fl_X8_34 sh_10 fj_10_11 ?_
  refine e_aload_n (i := 0) dX8_wait_34 rfl rfl ?_
  refine e_getI (x := nI (fr + 1)) dX8_wait_35 fl_X8_120 sh_10 fj_10_8 rfl ?_
  refine e_iload_n (i := 3) dX8_wait_38 rfl rfl ?_
  refine e_iast dX8_wait_39 sh_36 (vin_ofX (X := ((fr + 1 : Nat) : Int)) (nI_toInt (by omega)) (by omega) (by omega)) ?_
  rw [nI_clamp (by omega)]
  refine e_aload_n (i := 0) dX8_wait_40 rfl rfl ?_
  refine e_getR (r := 37) dX8_wait_41 fl_X8_37 sh_10 fj_10_12 ?_
  refine e_aload_n (i := 0) dX8_wait_44 rfl rfl ?_
  refine e_getI (x := nI (fr + 1)) dX8_wait_45 fl_X8_120 sh_10 fj_10_8 rfl ?_
  refine e_iload dX8_wait_48 rfl ?_
  refine e_iast dX8_wait_50 sh_37 (vin_ofX (X := ((fr + 1 : Nat) : Int)) (nI_toInt (by omega)) (by omega) (by omega)) ?_
  rw [nI_clamp (by omega)]
  refine e_aload_n (i := 0) dX8_wait_51 rfl rfl ?_
  refine e_getR (r := 38) dX8_wait_52 fl_X8_40 sh_10 fj_10_13 ?_
  refine e_aload_n (i := 0) dX8_wait_55 rfl rfl ?_
  refine e_getI (x := nI (fr + 1)) dX8_wait_56 fl_X8_120 sh_10 fj_10_8 rfl ?_
  refine e_iload dX8_wait_59 rfl ?_
  refine e_iast dX8_wait_61 sh_38 (vin_ofX (X := ((fr + 1 : Nat) : Int)) (nI_toInt (by omega)) (by omega) (by omega)) ?_
  rw [nI_clamp (by omega)]
  refine e_aload_n (i := 0) dX8_wait_62 rfl rfl ?_
  refine e_getR (r := 39) dX8_wait_63 fl_X8_43 sh_10 fj_10_14 ?_
  refine e_aload_n (i := 0) dX8_wait_66 rfl rfl ?_
  refine e_getI (x := nI (fr + 1)) dX8_wait_67 fl_X8_120 sh_10 fj_10_8 rfl ?_
  refine e_aload_n (i := 0) dX8_wait_70 rfl rfl ?_
  refine e_getI (x := h 10 32) dX8_wait_71 fl_X8_123 sh_10 fj_10_32 rfl ?_
  refine e_iast dX8_wait_74 sh_39 (vin_ofX (X := ((fr + 1 : Nat) : Int)) (nI_toInt (by omega)) (by omega) (by omega)) ?_
  rw [nI_clamp (by omega)]
  refine e_aload_n (i := 0) dX8_wait_75 rfl rfl ?_
  refine e_aload_n (i := 0) dX8_wait_76 rfl rfl ?_
  refine e_getI (x := nI (fr + 1)) dX8_wait_77 fl_X8_120 sh_10 fj_10_8 rfl ?_
  refine e_putI dX8_wait_80 fl_X8_123 fp_X8_32 sh_10 fj_10_32 ?_
  refine e_ret dX8_wait_83 rfl ?_
  exact hR
def lyH (h : mH) (la : Nat) (a b : Int32) : mH := hs (hs (hs (hs (hs h 10 15 (nI (la + 1))) 40 (la + 1) a) 41 (la + 1) b) 42 (la + 1) (h 10 33)) 10 33 (nI (la + 1))
set_option maxHeartbeats 1000000 in
theorem k_M_lay (l : Launch) (h : mH) (la : Nat) (hf : h 10 15 = nI la) (hfr : la < 11999) (a b : Int32) : mD l Sh0 iX8_lay [.inr 10, .inl a, .inl b] h (none) (lyH h la a b) := by
  intro RT hR
  show mE l Sh0 none iX8_lay RT 0 [some (.inr 10), some (.inl a), some (.inl b)] [] h
  refine e_aload_n (i := 0) dX8_lay_0 rfl rfl ?_
  refine e_dup dX8_lay_1 ?_
  refine e_getI (x := nI la) dX8_lay_2 fl_X8_126 sh_10 fj_10_15 hf ?_
  refine e_iconst (v := 1) dX8_lay_5 (by decide) ?_
  refine z_iadd (z := nI (la + 1)) (nI_addc _ 1) dX8_lay_6 ?_
  refine e_putI dX8_lay_7 fl_X8_126 fp_X8_15 sh_10 fj_10_15 ?_
  refine e_aload_n (i := 0) dX8_lay_10 rfl rfl ?_
  refine e_getR (r := 40) dX8_lay_11 fl_X8_46 sh_10 fj_10_16 ?_
  refine e_aload_n (i := 0) dX8_lay_14 rfl rfl ?_
  refine e_getI (x := nI (la + 1)) dX8_lay_15 fl_X8_126 sh_10 fj_10_15 rfl ?_
  refine e_iload_n (i := 1) dX8_lay_18 rfl rfl ?_
  refine e_iast dX8_lay_19 sh_40 (vin_ofX (X := ((la + 1 : Nat) : Int)) (nI_toInt (by omega)) (by omega) (by omega)) ?_
  rw [nI_clamp (by omega)]
  refine e_aload_n (i := 0) dX8_lay_20 rfl rfl ?_
  refine e_getR (r := 41) dX8_lay_21 fl_X8_49 sh_10 fj_10_17 ?_
  refine e_aload_n (i := 0) dX8_lay_24 rfl rfl ?_
  refine e_getI (x := nI (la + 1)) dX8_lay_25 fl_X8_126 sh_10 fj_10_15 rfl ?_
  refine e_iload_n (i := 2) dX8_lay_28 rfl rfl ?_
  refine e_iast dX8_lay_29 sh_41 (vin_ofX (X := ((la + 1 : Nat) : Int)) (nI_toInt (by omega)) (by omega) (by omega)) ?_
  rw [nI_clamp (by omega)]
  refine e_aload_n (i := 0) dX8_lay_30 rfl rfl ?_
  refine e_getR (r := 42) dX8_lay_31 fl_X8_52 sh_10 fj_10_18 ?_
  refine e_aload_n (i := 0) dX8_lay_34 rfl rfl ?_
  refine e_getI (x := nI (la + 1)) dX8_lay_35 fl_X8_126 sh_10 fj_10_15 rfl ?_
  refine e_aload_n (i := 0) dX8_lay_38 rfl rfl ?_
  refine e_getI (x := h 10 33) dX8_lay_39 fl_X8_129 sh_10 fj_10_33 rfl ?_
  refine e_iast dX8_lay_42 sh_42 (vin_ofX (X := ((la + 1 : Nat) : Int)) (nI_toInt (by omega)) (by omega) (by omega)) ?_
  rw [nI_clamp (by omega)]
  refine e_aload_n (i := 0) dX8_lay_43 rfl rfl ?_
  refine e_aload_n (i := 0) dX8_lay_44 rfl rfl ?_
  refine e_getI (x := nI (la + 1)) dX8_lay_45 fl_X8_126 sh_10 fj_10_15 rfl ?_
  refine e_putI dX8_lay_48 fl_X8_129 fp_X8_33 sh_10 fj_10_33 ?_
  refine e_ret dX8_lay_51 rfl ?_
  exact hR
set_option maxHeartbeats 1000000 in
theorem k_M_clauseOf (l : Launch) (h : mH) (a b : Nat) : mD l Sh0 iX8_clauseOf [.inl (nI a), .inl (nI b)] h (some (nI (4 + 4 * a + b))) h := by
  intro RT hR
  show mE l Sh0 none iX8_clauseOf RT 0 [some (.inl (nI a)), some (.inl (nI b))] [] h
  refine e_iconst (v := 4) dX8_clauseOf_0 (by decide) ?_
  refine e_iconst (v := 4) dX8_clauseOf_1 (by decide) ?_
  refine e_iload_n (i := 0) dX8_clauseOf_2 rfl rfl ?_
  refine z_imul (z := nI (4 * a)) (nI_mulcl 4 _) dX8_clauseOf_3 ?_
  refine z_iadd (z := nI (4 + (4 * a))) (nI_addcl 4 _) dX8_clauseOf_4 ?_
  refine e_iload_n (i := 1) dX8_clauseOf_5 rfl rfl ?_
  refine z_iadd (z := nI (4 + (4 * a) + b)) (nI_add _ _) dX8_clauseOf_6 ?_
  refine e_iret dX8_clauseOf_7 (mret_i _) ?_
  exact hR
set_option maxHeartbeats 1000000 in
theorem k_M_hasClause1 (l : Launch) (h : mH) (a b z : Nat) (ha : a < 4) (hb : b < 4) (e : h 29 (4 + 4 * a + b) = nI z) (hz : z ≤ 40) (hp : 0 < z) : mD l Sh0 iX8_hasClause [.inr 10, .inl (nI a), .inl (nI b)] h (some 1) h := by
  intro RT hR
  show mE l Sh0 none iX8_hasClause RT 0 [some (.inr 10), some (.inl (nI a)), some (.inl (nI b))] [] h
  refine e_aload_n (i := 0) dX8_hasClause_0 rfl rfl ?_
  refine e_getR (r := 29) dX8_hasClause_1 fl_X8_13 sh_10 fj_10_2 ?_
  refine e_iload_n (i := 1) dX8_hasClause_4 rfl rfl ?_
  refine e_iload_n (i := 2) dX8_hasClause_5 rfl rfl ?_
  refine e_invSi (As := [.inl (nI a), .inl (nI b)]) (v := nI (4 + 4 * a + b)) (h2 := h) dX8_hasClause_6 lk_X8_109 ys_X8_clauseOf rfl rfl rfl (Nat.le_of_ble_eq_true rfl) (Nat.le_of_ble_eq_true rfl) ⟨Nat.le_of_ble_eq_true rfl, Nat.le_of_ble_eq_true rfl⟩ (k_M_clauseOf l h a b) ?_
  refine e_iald (x := nI z) dX8_hasClause_9 sh_29 (vin_ofX (X := ((4 + 4 * a + b : Nat) : Int)) (nI_toInt (by omega)) (by omega) (by omega)) (by rw [nI_clamp (by omega)]; exact e) ?_
  refine b_if_le (X := ((z : Nat) : Int)) (tgt := 17) (nI_toInt (by omega)) dX8_hasClause_10 (by decide) ?_ ?_
  · intro c_10_t
    exfalso; omega
  · intro c_10_f
    refine e_iconst (v := 1) dX8_hasClause_13 (by decide) ?_
    refine e_goto (tgt := 18) dX8_hasClause_14 (by decide) ?_
    refine e_iret dX8_hasClause_18 (mret_z (by first | decide | (simp only []; split <;> decide))) ?_
    exact hR
set_option maxHeartbeats 1000000 in
theorem k_M_hasClause0 (l : Launch) (h : mH) (a b z : Nat) (ha : a < 4) (hb : b < 4) (e : h 29 (4 + 4 * a + b) = nI z) (hp : z = 0) : mD l Sh0 iX8_hasClause [.inr 10, .inl (nI a), .inl (nI b)] h (some 0) h := by
  intro RT hR
  show mE l Sh0 none iX8_hasClause RT 0 [some (.inr 10), some (.inl (nI a)), some (.inl (nI b))] [] h
  refine e_aload_n (i := 0) dX8_hasClause_0 rfl rfl ?_
  refine e_getR (r := 29) dX8_hasClause_1 fl_X8_13 sh_10 fj_10_2 ?_
  refine e_iload_n (i := 1) dX8_hasClause_4 rfl rfl ?_
  refine e_iload_n (i := 2) dX8_hasClause_5 rfl rfl ?_
  refine e_invSi (As := [.inl (nI a), .inl (nI b)]) (v := nI (4 + 4 * a + b)) (h2 := h) dX8_hasClause_6 lk_X8_109 ys_X8_clauseOf rfl rfl rfl (Nat.le_of_ble_eq_true rfl) (Nat.le_of_ble_eq_true rfl) ⟨Nat.le_of_ble_eq_true rfl, Nat.le_of_ble_eq_true rfl⟩ (k_M_clauseOf l h a b) ?_
  refine e_iald (x := nI z) dX8_hasClause_9 sh_29 (vin_ofX (X := ((4 + 4 * a + b : Nat) : Int)) (nI_toInt (by omega)) (by omega) (by omega)) (by rw [nI_clamp (by omega)]; exact e) ?_
  refine b_if_le (X := ((z : Nat) : Int)) (tgt := 17) (nI_toInt (by omega)) dX8_hasClause_10 (by decide) ?_ ?_
  · intro c_10_t
    refine e_iconst (v := 0) dX8_hasClause_17 (by decide) ?_
    refine e_iret dX8_hasClause_18 (mret_z (by first | decide | (simp only []; split <;> decide))) ?_
    exact hR
  · intro c_10_f
    exfalso; omega
def wkH (h : mH) (a b c : Int32) : mH := hs (hs (hs (hs h 10 35 (40 * a)) 10 36 b) 10 37 c) 10 38 (-6)
set_option maxHeartbeats 1000000 in
theorem k_M_work (l : Launch) (h : mH) (a b c : Int32) : mD l Sh0 iX8_work [.inr 10, .inl a, .inl b, .inl c] h (none) (wkH h a b c) := by
  intro RT hR
  show mE l Sh0 none iX8_work RT 0 [some (.inr 10), some (.inl a), some (.inl b), some (.inl c)] [] h
  refine e_aload_n (i := 0) dX8_work_0 rfl rfl ?_
  refine e_bipush (v := 40) dX8_work_1 (by decide) ?_
  refine e_iload_n (i := 1) dX8_work_3 rfl rfl ?_
  refine e_imul dX8_work_4 ?_
  refine e_putI dX8_work_5 fl_X8_153 fp_X8_35 sh_10 fj_10_35 ?_
  refine e_aload_n (i := 0) dX8_work_8 rfl rfl ?_
  refine e_iload_n (i := 2) dX8_work_9 rfl rfl ?_
  refine e_putI dX8_work_10 fl_X8_156 fp_X8_36 sh_10 fj_10_36 ?_
  refine e_aload_n (i := 0) dX8_work_13 rfl rfl ?_
  refine e_iload_n (i := 3) dX8_work_14 rfl rfl ?_
  refine e_putI dX8_work_15 fl_X8_159 fp_X8_37 sh_10 fj_10_37 ?_
  refine e_aload_n (i := 0) dX8_work_18 rfl rfl ?_
  refine e_bipush (v := (-6)) dX8_work_19 (by decide) ?_
  refine e_putI dX8_work_21 fl_X8_162 fp_X8_38 sh_10 fj_10_38 ?_
  refine e_ret dX8_work_24 rfl ?_
  exact hR
def mAct (s a b : Int32) : Int32 := if s.toInt = 43 then (a + b) - (a + b) / 8 * 8 else if s.toInt = 45 then (a + 8 - b) - (a + 8 - b) / 8 * 8 else if s.toInt = 42 then (a * b) - (a * b) / 8 * 8 else if a.toInt < b.toInt then a else b
set_option maxHeartbeats 1000000 in
theorem k_M_act (l : Launch) (h : mH) (s a b : Int32) : mD l Sh0 iX8_act [.inl s, .inl a, .inl b] h (some (mAct s a b)) h := by
  intro RT hR
  show mE l Sh0 none iX8_act RT 0 [some (.inl s), some (.inl a), some (.inl b)] [] h
  refine e_iload_n (i := 0) dX8_act_0 rfl rfl ?_
  refine e_bipush (v := 43) dX8_act_1 (by decide) ?_
  refine b_icmp_ne (X := s.toInt) (Y := 43) (tgt := 15) rfl (by decide) dX8_act_3 (by decide) ?_ ?_
  · intro e_3_t c_3_t
    refine e_iload_n (i := 0) dX8_act_15 rfl rfl ?_
    refine e_bipush (v := 45) dX8_act_16 (by decide) ?_
    refine b_icmp_ne (X := s.toInt) (Y := 45) (tgt := 33) rfl (by decide) dX8_act_18 (by decide) ?_ ?_
    · intro e_18_t c_18_t
      refine e_iload_n (i := 0) dX8_act_33 rfl rfl ?_
      refine e_bipush (v := 42) dX8_act_34 (by decide) ?_
      refine b_icmp_ne (X := s.toInt) (Y := 42) (tgt := 48) rfl (by decide) dX8_act_36 (by decide) ?_ ?_
      · intro e_36_t c_36_t
        refine e_iload_n (i := 1) dX8_act_48 rfl rfl ?_
        refine e_iload_n (i := 2) dX8_act_49 rfl rfl ?_
        refine b_icmp_ge (X := a.toInt) (Y := b.toInt) (tgt := 57) rfl rfl dX8_act_50 (by decide) ?_ ?_
        · intro c_50_t
          refine e_iload_n (i := 2) dX8_act_57 rfl rfl ?_
          refine e_iret dX8_act_58 (mret_i _) ?_
          unfold mAct at hR; first | exact hR | ((repeat' (split at hR)) <;> first | exact hR | (exfalso; omega))
        · intro c_50_f
          refine e_iload_n (i := 1) dX8_act_53 rfl rfl ?_
          refine e_goto (tgt := 58) dX8_act_54 (by decide) ?_
          refine e_iret dX8_act_58 (mret_i _) ?_
          unfold mAct at hR; first | exact hR | ((repeat' (split at hR)) <;> first | exact hR | (exfalso; omega))
      · intro e_36_f c_36_f
        refine e_iload_n (i := 1) dX8_act_39 rfl rfl ?_
        refine e_iload_n (i := 2) dX8_act_40 rfl rfl ?_
        refine e_imul dX8_act_41 ?_
        refine e_bipush (v := 8) dX8_act_42 (by decide) ?_
        refine e_irem dX8_act_44 (by decide) ?_
        refine e_goto (tgt := 58) dX8_act_45 (by decide) ?_
        refine e_iret dX8_act_58 (mret_i _) ?_
        unfold mAct at hR; first | exact hR | ((repeat' (split at hR)) <;> first | exact hR | (exfalso; omega))
    · intro e_18_f c_18_f
      refine e_iload_n (i := 1) dX8_act_21 rfl rfl ?_
      refine e_bipush (v := 8) dX8_act_22 (by decide) ?_
      refine e_iadd dX8_act_24 ?_
      refine e_iload_n (i := 2) dX8_act_25 rfl rfl ?_
      refine e_isub dX8_act_26 ?_
      refine e_bipush (v := 8) dX8_act_27 (by decide) ?_
      refine e_irem dX8_act_29 (by decide) ?_
      refine e_goto (tgt := 58) dX8_act_30 (by decide) ?_
      refine e_iret dX8_act_58 (mret_i _) ?_
      unfold mAct at hR; first | exact hR | ((repeat' (split at hR)) <;> first | exact hR | (exfalso; omega))
  · intro e_3_f c_3_f
    refine e_iload_n (i := 1) dX8_act_6 rfl rfl ?_
    refine e_iload_n (i := 2) dX8_act_7 rfl rfl ?_
    refine e_iadd dX8_act_8 ?_
    refine e_bipush (v := 8) dX8_act_9 (by decide) ?_
    refine e_irem dX8_act_11 (by decide) ?_
    refine e_goto (tgt := 58) dX8_act_12 (by decide) ?_
    refine e_iret dX8_act_58 (mret_i _) ?_
    unfold mAct at hR; first | exact hR | ((repeat' (split at hR)) <;> first | exact hR | (exfalso; omega))
theorem mact_eq {s : Int32} {a b : Nat} (h2 : s.toInt = 43 ∨ s.toInt = 45 ∨ s.toInt = 42 ∨ s.toInt = 109) (ha : a < 8) (hb : b < 8) : mAct s (nI a) (nI b) = nI (aAct s.toInt a b) := by
  have key : ∀ a : Fin 8, ∀ b : Fin 8, (nI a.val + nI b.val) - (nI a.val + nI b.val) / 8 * 8 = nI ((a.val + b.val) % 8) ∧ (nI a.val + 8 - nI b.val) - (nI a.val + 8 - nI b.val) / 8 * 8 = nI ((a.val + 8 - b.val) % 8) ∧ (nI a.val * nI b.val) - (nI a.val * nI b.val) / 8 * 8 = nI ((a.val * b.val) % 8) ∧ (if (nI a.val).toInt < (nI b.val).toInt then nI a.val else nI b.val) = nI (if b.val < a.val then b.val else a.val) := by decide +kernel
  obtain ⟨k1, k2, k3, k4⟩ := key ⟨a, ha⟩ ⟨b, hb⟩
  unfold mAct aAct
  rcases h2 with q | q | q | q
  · rw [if_pos q, if_pos q]; exact k1
  · rw [if_neg (by omega), if_pos q, if_neg (by omega), if_pos q]; exact k2
  · rw [if_neg (by omega), if_neg (by omega), if_pos q, if_neg (by omega), if_neg (by omega), if_pos q]; exact k3
  · have n1 : ¬ s.toInt = 43 := by omega
    have n2 : ¬ s.toInt = 45 := by omega
    have n3 : ¬ s.toInt = 42 := by omega
    rw [if_neg n1, if_neg n2, if_neg n3, if_neg n1, if_neg n2, if_neg n3]; exact k4
theorem k_M_actX (l : Launch) (h : mH) (s : Int32) (a b : Nat) (h2 : s.toInt = 43 ∨ s.toInt = 45 ∨ s.toInt = 42 ∨ s.toInt = 109) (ha : a < 8) (hb : b < 8) : mD l Sh0 iX8_act [.inl s, .inl (nI a), .inl (nI b)] h (some (nI (aAct s.toInt a b))) h := by
  have q := k_M_act l h s (nI a) (nI b)
  rw [mact_eq h2 ha hb] at q
  exact q
/-- the place of a text's k-th own text -/
def pOf (ln : Nat → Nat) (at0 : Nat) : Nat → Nat
  | 0 => at0
  | k + 1 => pOf ln at0 k + ln (pOf ln at0 k)
set_option maxHeartbeats 1000000 in
theorem lp_M_partOf (l : Launch) (h : mH) (ln : Nat → Nat) (a0 k : Nat) (hk : k ≤ 3) (he : ∀ j, j < k → pOf ln a0 j < 800 ∧ h 31 (pOf ln a0 j) = nI (ln (pOf ln a0 j))) (RT : Option Int32 → mH → Prop) (y : Option mV) (hR : RT (some (nI (pOf ln a0 k))) h) : ∀ (d i : Nat), i + d = k → mE l Sh0 none iX8_partOf RT 22 [some (.inr 10), y, some (.inl (nI k)), some (.inl (nI (pOf ln a0 i))), some (.inl (nI i))] [] h
  | 0, i, hd => by
    refine e_iload dX8_partOf_22 rfl ?_
    refine e_iload_n (i := 2) dX8_partOf_24 rfl rfl ?_
    refine b_icmp_ge (X := ((i : Nat) : Int)) (Y := ((k : Nat) : Int)) (tgt := 43) (nI_toInt (by omega)) (nI_toInt (by omega)) dX8_partOf_25 (by decide) ?_ ?_
    · intro c_25_t
      refine e_iload_n (i := 3) dX8_partOf_43 rfl rfl ?_
      refine e_iret dX8_partOf_44 (mret_i _) ?_
      have e : i = k := by omega
      subst e
      exact hR
    · intro c_25_f
      exfalso; omega
  | d + 1, i, hd => by
    obtain ⟨e1, e2⟩ := he i (by omega)
    refine e_iload dX8_partOf_22 rfl ?_
    refine e_iload_n (i := 2) dX8_partOf_24 rfl rfl ?_
    refine b_icmp_ge (X := ((i : Nat) : Int)) (Y := ((k : Nat) : Int)) (tgt := 43) (nI_toInt (by omega)) (nI_toInt (by omega)) dX8_partOf_25 (by decide) ?_ ?_
    · intro c_25_t
      exfalso; omega
    · intro c_25_f
      refine e_iload_n (i := 3) dX8_partOf_28 rfl rfl ?_
      refine e_aload_n (i := 0) dX8_partOf_29 rfl rfl ?_
      refine e_getR (r := 31) dX8_partOf_30 fl_X8_19 sh_10 fj_10_4 ?_
      refine e_iload_n (i := 3) dX8_partOf_33 rfl rfl ?_
      refine e_iald (x := nI (ln (pOf ln a0 i))) dX8_partOf_34 sh_31 (vin_ofX (X := ((pOf ln a0 i : Nat) : Int)) (nI_toInt (by omega)) (by omega) (by omega)) (by rw [nI_clamp (by omega)]; exact e2) ?_
      refine z_iadd (z := nI (pOf ln a0 i + (ln (pOf ln a0 i)))) (nI_add _ _) dX8_partOf_35 ?_
      refine e_istore_n (i := 3) (ls2 := [some (.inr 10), y, some (.inl (nI k)), some (.inl (nI (pOf ln a0 i + (ln (pOf ln a0 i))))), some (.inl (nI i))]) dX8_partOf_36 rfl (Nat.le_of_ble_eq_true rfl) rfl ?_
      refine e_iinc (v := nI (i + 1)) (ls2 := [some (.inr 10), y, some (.inl (nI k)), some (.inl (nI (pOf ln a0 i + (ln (pOf ln a0 i))))), some (.inl (nI (i + 1)))]) dX8_partOf_37 rfl (nI_inc1 _) (Nat.le_of_ble_eq_true rfl) rfl ?_
      refine e_goto (tgt := 22) dX8_partOf_40 (by decide) ?_
      exact lp_M_partOf l h ln a0 k hk he RT y hR d (i + 1) (by omega)
set_option maxHeartbeats 1000000 in
theorem k_M_partOf (l : Launch) (h : mH) (sg : Nat → Int32) (ln : Nat → Nat) (p k : Nat) (hp : p < 800) (e : h 30 p = sg p) (hne : (sg p).toInt ≠ 64) (hk : k ≤ 3) (he : ∀ j, j < k → pOf ln (p + 1) j < 800 ∧ h 31 (pOf ln (p + 1) j) = nI (ln (pOf ln (p + 1) j))) : mD l Sh0 iX8_partOf [.inr 10, .inl (nI p), .inl (nI k)] h (some (nI (pOf ln (p + 1) k))) h := by
  intro RT hR
  show mE l Sh0 none iX8_partOf RT 0 [some (.inr 10), some (.inl (nI p)), some (.inl (nI k)), none, none] [] h
  refine e_iload_n (i := 1) dX8_partOf_0 rfl rfl ?_
  refine e_aload_n (i := 0) dX8_partOf_1 rfl rfl ?_
  refine e_getR (r := 30) dX8_partOf_2 fl_X8_16 sh_10 fj_10_3 ?_
  refine e_iload_n (i := 1) dX8_partOf_5 rfl rfl ?_
  refine e_iald (x := sg p) dX8_partOf_6 sh_30 (vin_ofX (X := ((p : Nat) : Int)) (nI_toInt (by omega)) (by omega) (by omega)) (by rw [nI_clamp (by omega)]; exact e) ?_
  refine e_bipush (v := 64) dX8_partOf_7 (by decide) ?_
  refine b_icmp_ne (X := (sg p).toInt) (Y := 64) (tgt := 16) rfl (by decide) dX8_partOf_9 (by decide) ?_ ?_
  · intro e_9_t c_9_t
    refine e_iconst (v := 1) dX8_partOf_16 (by decide) ?_
    refine z_iadd (z := nI (p + 1)) (nI_addc _ 1) dX8_partOf_17 ?_
    refine e_istore_n (i := 3) (ls2 := [some (.inr 10), some (.inl (nI p)), some (.inl (nI k)), some (.inl (nI (p + 1))), none]) dX8_partOf_18 rfl (Nat.le_of_ble_eq_true rfl) rfl ?_
    refine e_iconst (v := 0) dX8_partOf_19 (by decide) ?_
    refine e_istore (ls2 := [some (.inr 10), some (.inl (nI p)), some (.inl (nI k)), some (.inl (nI (p + 1))), some (.inl 0)]) dX8_partOf_20 (Nat.le_of_ble_eq_true rfl) rfl ?_
    exact lp_M_partOf l h ln (p + 1) k hk he RT _ hR k 0 (by omega)
  · intro e_9_f c_9_f
    exfalso; omega
