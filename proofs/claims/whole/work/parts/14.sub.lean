set_option maxHeartbeats 1000000 in
theorem k_X_choose0 (l : Launch) (h : mH) (sg : Nat → Int32) (pl v q2 q3 : Nat) (hp : pl + 1 < 800) (hq2 : q2 < 800) (h66 : h 6 6 = nI pl) (h68 : h 6 8 = nI v) (hv8 : v < 8) (e1 : h 13 pl = sg pl) (h63 : (sg pl).toInt = 63) (e2 : h 14 (pl + 1) = nI q2) (e3 : h 14 q2 = nI q3) (hv : v = 0) : mD l Sh0 iX4_choose [.inr 6] h (none) (hs (hs h 6 6 (nI q2)) 6 5 1) := by
  have eF : aFs sg pl = pl + 1 := by unfold aFs; rw [if_neg (by omega)]
  have kF := k_B_firstX l h sg pl (by omega) e1
  rw [eF] at kF
  intro RT hR
  show mE l Sh0 none iX4_choose RT 0 [some (.inr 6), none] [] h
  refine e_aload_n (i := 0) dX4_choose_0 rfl rfl ?_
  refine e_getR (r := 2) dX4_choose_1 fl_X4_29 sh_6 fj_6_0 ?_
  refine e_aload_n (i := 0) dX4_choose_4 rfl rfl ?_
  refine e_getR (r := 2) dX4_choose_5 fl_X4_29 sh_6 fj_6_0 ?_
  refine e_aload_n (i := 0) dX4_choose_8 rfl rfl ?_
  refine e_getI (x := nI pl) dX4_choose_9 fl_X4_86 sh_6 fj_6_6 h66 ?_
  refine e_invVi (As := [.inl (nI pl)]) (v := nI (pl + 1)) (h2 := h) dX4_choose_12 lk_X4_112 yv_X0_first rfl rfl rfl (Nat.le_of_ble_eq_true rfl) sh_2 ci_X0 (Nat.le_of_ble_eq_true rfl) ⟨Nat.le_of_ble_eq_true rfl, Nat.le_of_ble_eq_true rfl⟩ kF ?_
  refine e_invVi (As := [.inl (nI (pl + 1))]) (v := nI q2) (h2 := h) dX4_choose_15 lk_X4_129 yv_X0_after rfl rfl rfl (Nat.le_of_ble_eq_true rfl) sh_2 ci_X0 (Nat.le_of_ble_eq_true rfl) ⟨Nat.le_of_ble_eq_true rfl, Nat.le_of_ble_eq_true rfl⟩ (k_B_afterX l h (pl + 1) hp e2) ?_
  refine e_istore_n (i := 1) (ls2 := [some (.inr 6), some (.inl (nI q2))]) dX4_choose_18 rfl (Nat.le_of_ble_eq_true rfl) rfl ?_
  refine e_aload_n (i := 0) dX4_choose_19 rfl rfl ?_
  refine e_aload_n (i := 0) dX4_choose_20 rfl rfl ?_
  refine e_getI (x := nI v) dX4_choose_21 fl_X4_89 sh_6 fj_6_8 h68 ?_
  refine b_if_ne (X := ((v : Nat) : Int)) (tgt := 31) (nI_toInt (by omega)) dX4_choose_24 (by decide) ?_ ?_
  · intro e_24_t c_24_t
    exfalso; omega
  · intro e_24_f c_24_f
    refine e_iload_n (i := 1) dX4_choose_27 rfl rfl ?_
    refine e_goto (tgt := 39) dX4_choose_28 (by decide) ?_
    refine e_putI dX4_choose_39 fl_X4_86 fp_X4_6 sh_6 fj_6_6 ?_
    refine e_aload_n (i := 0) dX4_choose_42 rfl rfl ?_
    refine e_iconst (v := 1) dX4_choose_43 (by decide) ?_
    refine e_putZ dX4_choose_44 fl_X4_70 fp_X4_5 sh_6 fj_6_5 (by decide) ?_
    refine e_ret dX4_choose_47 rfl ?_
    exact hR
set_option maxHeartbeats 1000000 in
theorem k_X_choose1 (l : Launch) (h : mH) (sg : Nat → Int32) (pl v q2 q3 : Nat) (hp : pl + 1 < 800) (hq2 : q2 < 800) (h66 : h 6 6 = nI pl) (h68 : h 6 8 = nI v) (hv8 : v < 8) (e1 : h 13 pl = sg pl) (h63 : (sg pl).toInt = 63) (e2 : h 14 (pl + 1) = nI q2) (e3 : h 14 q2 = nI q3) (hv : v ≠ 0) : mD l Sh0 iX4_choose [.inr 6] h (none) (hs (hs h 6 6 (nI q3)) 6 5 1) := by
  have eF : aFs sg pl = pl + 1 := by unfold aFs; rw [if_neg (by omega)]
  have kF := k_B_firstX l h sg pl (by omega) e1
  rw [eF] at kF
  intro RT hR
  show mE l Sh0 none iX4_choose RT 0 [some (.inr 6), none] [] h
  refine e_aload_n (i := 0) dX4_choose_0 rfl rfl ?_
  refine e_getR (r := 2) dX4_choose_1 fl_X4_29 sh_6 fj_6_0 ?_
  refine e_aload_n (i := 0) dX4_choose_4 rfl rfl ?_
  refine e_getR (r := 2) dX4_choose_5 fl_X4_29 sh_6 fj_6_0 ?_
  refine e_aload_n (i := 0) dX4_choose_8 rfl rfl ?_
  refine e_getI (x := nI pl) dX4_choose_9 fl_X4_86 sh_6 fj_6_6 h66 ?_
  refine e_invVi (As := [.inl (nI pl)]) (v := nI (pl + 1)) (h2 := h) dX4_choose_12 lk_X4_112 yv_X0_first rfl rfl rfl (Nat.le_of_ble_eq_true rfl) sh_2 ci_X0 (Nat.le_of_ble_eq_true rfl) ⟨Nat.le_of_ble_eq_true rfl, Nat.le_of_ble_eq_true rfl⟩ kF ?_
  refine e_invVi (As := [.inl (nI (pl + 1))]) (v := nI q2) (h2 := h) dX4_choose_15 lk_X4_129 yv_X0_after rfl rfl rfl (Nat.le_of_ble_eq_true rfl) sh_2 ci_X0 (Nat.le_of_ble_eq_true rfl) ⟨Nat.le_of_ble_eq_true rfl, Nat.le_of_ble_eq_true rfl⟩ (k_B_afterX l h (pl + 1) hp e2) ?_
  refine e_istore_n (i := 1) (ls2 := [some (.inr 6), some (.inl (nI q2))]) dX4_choose_18 rfl (Nat.le_of_ble_eq_true rfl) rfl ?_
  refine e_aload_n (i := 0) dX4_choose_19 rfl rfl ?_
  refine e_aload_n (i := 0) dX4_choose_20 rfl rfl ?_
  refine e_getI (x := nI v) dX4_choose_21 fl_X4_89 sh_6 fj_6_8 h68 ?_
  refine b_if_ne (X := ((v : Nat) : Int)) (tgt := 31) (nI_toInt (by omega)) dX4_choose_24 (by decide) ?_ ?_
  · intro e_24_t c_24_t
    refine e_aload_n (i := 0) dX4_choose_31 rfl rfl ?_
    refine e_getR (r := 2) dX4_choose_32 fl_X4_29 sh_6 fj_6_0 ?_
    refine e_iload_n (i := 1) dX4_choose_35 rfl rfl ?_
    refine e_invVi (As := [.inl (nI q2)]) (v := nI q3) (h2 := h) dX4_choose_36 lk_X4_129 yv_X0_after rfl rfl rfl (Nat.le_of_ble_eq_true rfl) sh_2 ci_X0 (Nat.le_of_ble_eq_true rfl) ⟨Nat.le_of_ble_eq_true rfl, Nat.le_of_ble_eq_true rfl⟩ (k_B_afterX l h q2 hq2 e3) ?_
    refine e_putI dX4_choose_39 fl_X4_86 fp_X4_6 sh_6 fj_6_6 ?_
    refine e_aload_n (i := 0) dX4_choose_42 rfl rfl ?_
    refine e_iconst (v := 1) dX4_choose_43 (by decide) ?_
    refine e_putZ dX4_choose_44 fl_X4_70 fp_X4_5 sh_6 fj_6_5 (by decide) ?_
    refine e_ret dX4_choose_47 rfl ?_
    exact hR
  · intro e_24_f c_24_f
    exfalso; omega
set_option maxHeartbeats 1000000 in
theorem k_X_back1 (l : Launch) (h : mH) (hd v z cm : Nat) (hh : hd < 4) (h68 : h 6 8 = nI v) (hz : h 15 (4 + 4 * hd + 3) = nI z) (hz2 : z ≤ 40) (hcm : h 8 3 = nI cm) (hc : cm < 201) (hz3 : 0 < z) : mD l Sh0 iX4_comeBack [.inr 6, .inl (nI hd)] h (none) (entH h cm (nI (4 + 4 * hd + 3)) (nI v) (-1) (-1)) := by
  intro RT hR
  show mE l Sh0 none iX4_comeBack RT 0 [some (.inr 6), some (.inl (nI hd)), none] [] h
  refine e_iload_n (i := 1) dX4_comeBack_0 rfl rfl ?_
  refine e_iconst (v := 3) dX4_comeBack_1 (by decide) ?_
  refine e_invSi (As := [.inl (nI hd), .inl 3]) (v := nI (4 + 4 * hd + 3)) (h2 := h) dX4_comeBack_2 lk_X4_162 ys_X7_pageOf rfl rfl rfl (Nat.le_of_ble_eq_true rfl) (Nat.le_of_ble_eq_true rfl) ⟨Nat.le_of_ble_eq_true rfl, Nat.le_of_ble_eq_true rfl⟩ (k_pageOfX l h hd 3) ?_
  refine e_istore_n (i := 2) (ls2 := [some (.inr 6), some (.inl (nI hd)), some (.inl (nI (4 + 4 * hd + 3)))]) dX4_comeBack_5 rfl (Nat.le_of_ble_eq_true rfl) rfl ?_
  refine e_aload_n (i := 0) dX4_comeBack_6 rfl rfl ?_
  refine e_getR (r := 2) dX4_comeBack_7 fl_X4_29 sh_6 fj_6_0 ?_
  refine e_iload_n (i := 2) dX4_comeBack_10 rfl rfl ?_
  refine e_invVi (As := [.inl (nI (4 + 4 * hd + 3))]) (v := nI z) (h2 := h) dX4_comeBack_11 lk_X4_165 yv_X0_size rfl rfl rfl (Nat.le_of_ble_eq_true rfl) sh_2 ci_X0 (Nat.le_of_ble_eq_true rfl) ⟨Nat.le_of_ble_eq_true rfl, Nat.le_of_ble_eq_true rfl⟩ (k_B_sizeX l h (4 + 4 * hd + 3) (by omega) hz) ?_
  refine b_if_le (X := ((z : Nat) : Int)) (tgt := 28) (nI_toInt (by omega)) dX4_comeBack_14 (by decide) ?_ ?_
  · intro c_14_t
    exfalso; omega
  · intro c_14_f
    refine e_aload_n (i := 0) dX4_comeBack_17 rfl rfl ?_
    refine e_iload_n (i := 2) dX4_comeBack_18 rfl rfl ?_
    refine e_aload_n (i := 0) dX4_comeBack_19 rfl rfl ?_
    refine e_getI (x := nI v) dX4_comeBack_20 fl_X4_89 sh_6 fj_6_8 h68 ?_
    refine e_iconst (v := (-1)) dX4_comeBack_23 (by decide) ?_
    refine e_iconst (v := (-1)) dX4_comeBack_24 (by decide) ?_
    refine e_invVv (As := [.inl (nI (4 + 4 * hd + 3)), .inl (nI v), .inl (-1), .inl (-1)]) (h2 := (entH h cm (nI (4 + 4 * hd + 3)) (nI v) (-1) (-1))) (ty := .int) (v := 0) dX4_comeBack_25 lk_X4_65 yv_X4_enter rfl rfl rfl (Nat.le_of_ble_eq_true rfl) sh_6 ci_X4 (Nat.le_of_ble_eq_true rfl) ⟨Nat.le_of_ble_eq_true rfl, Nat.le_of_ble_eq_true rfl⟩ (k_X_enter l h cm hcm (by omega) (nI (4 + 4 * hd + 3)) (nI v) (-1) (-1)) ?_
    refine e_ret dX4_comeBack_28 rfl ?_
    exact hR
set_option maxHeartbeats 1000000 in
theorem k_X_back0 (l : Launch) (h : mH) (hd v z cm : Nat) (hh : hd < 4) (h68 : h 6 8 = nI v) (hz : h 15 (4 + 4 * hd + 3) = nI z) (hz2 : z ≤ 40) (hz3 : z = 0) : mD l Sh0 iX4_comeBack [.inr 6, .inl (nI hd)] h (none) h := by
  intro RT hR
  show mE l Sh0 none iX4_comeBack RT 0 [some (.inr 6), some (.inl (nI hd)), none] [] h
  refine e_iload_n (i := 1) dX4_comeBack_0 rfl rfl ?_
  refine e_iconst (v := 3) dX4_comeBack_1 (by decide) ?_
  refine e_invSi (As := [.inl (nI hd), .inl 3]) (v := nI (4 + 4 * hd + 3)) (h2 := h) dX4_comeBack_2 lk_X4_162 ys_X7_pageOf rfl rfl rfl (Nat.le_of_ble_eq_true rfl) (Nat.le_of_ble_eq_true rfl) ⟨Nat.le_of_ble_eq_true rfl, Nat.le_of_ble_eq_true rfl⟩ (k_pageOfX l h hd 3) ?_
  refine e_istore_n (i := 2) (ls2 := [some (.inr 6), some (.inl (nI hd)), some (.inl (nI (4 + 4 * hd + 3)))]) dX4_comeBack_5 rfl (Nat.le_of_ble_eq_true rfl) rfl ?_
  refine e_aload_n (i := 0) dX4_comeBack_6 rfl rfl ?_
  refine e_getR (r := 2) dX4_comeBack_7 fl_X4_29 sh_6 fj_6_0 ?_
  refine e_iload_n (i := 2) dX4_comeBack_10 rfl rfl ?_
  refine e_invVi (As := [.inl (nI (4 + 4 * hd + 3))]) (v := nI z) (h2 := h) dX4_comeBack_11 lk_X4_165 yv_X0_size rfl rfl rfl (Nat.le_of_ble_eq_true rfl) sh_2 ci_X0 (Nat.le_of_ble_eq_true rfl) ⟨Nat.le_of_ble_eq_true rfl, Nat.le_of_ble_eq_true rfl⟩ (k_B_sizeX l h (4 + 4 * hd + 3) (by omega) hz) ?_
  refine b_if_le (X := ((z : Nat) : Int)) (tgt := 28) (nI_toInt (by omega)) dX4_comeBack_14 (by decide) ?_ ?_
  · intro c_14_t
    refine e_ret dX4_comeBack_28 rfl ?_
    exact hR
  · intro c_14_f
    exfalso; omega
theorem lnk_same {h h' : mH} (e : h' 21 = h 21) {kh : Nat} : ∀ {nd : List Nat}, lnk h kh nd → lnk h' kh nd
  | [], q => q
  | [i], q => q
  | i :: j :: nd, q => ⟨q.1, by rw [e]; exact q.2.1, lnk_same e q.2.2⟩
set_option maxHeartbeats 1000000 in
theorem k_X_go9 (l : Launch) (h : mH) (g : Nat) (h14 : h 6 14 = nI g) (hg : g = 40) : mD l Sh0 iX4_goOn [.inr 6] h (none) (hs h 6 9 9) := by
  intro RT hR
  show mE l Sh0 none iX4_goOn RT 0 [some (.inr 6)] [] h
  refine e_aload_n (i := 0) dX4_goOn_0 rfl rfl ?_
  refine e_getI (x := nI g) dX4_goOn_1 fl_X4_59 sh_6 fj_6_14 h14 ?_
  refine e_bipush (v := 40) dX4_goOn_4 (by decide) ?_
  refine b_icmp_lt (X := ((g : Nat) : Int)) (Y := 40) (tgt := 16) (nI_toInt (by omega)) (by decide) dX4_goOn_6 (by decide) ?_ ?_
  · intro c_6_t
    exfalso; omega
  · intro c_6_f
    refine e_aload_n (i := 0) dX4_goOn_9 rfl rfl ?_
    refine e_bipush (v := 9) dX4_goOn_10 (by decide) ?_
    refine e_putI dX4_goOn_12 fl_X4_44 fp_X4_9 sh_6 fj_6_9 ?_
    refine e_ret dX4_goOn_15 rfl ?_
    exact hR
set_option maxHeartbeats 1000000 in
theorem k_X_go (l : Launch) (h : mH) (g : Nat) (h14 : h 6 14 = nI g) (hg : g < 40) (c cm m kh : Nat) (nd : List Nat) (h67 : h 6 7 = nI c) (hcm : h 8 3 = nI cm) (hc : c < cm) (hc2 : cm ≤ 201) (hm : h 7 2 = nI m) (hkh : kh < 2 ^ 30) (e1 : h 23 c = nI (nd.headD 0)) (e2 : h 24 c = nI kh) (hn : ∀ i ∈ nd, i < m) (hl : m + nd.length ≤ 8200) (hk : lnk h kh nd) : mD l Sh0 iX4_goOn [.inr 6] h (none) (lay (h 7 3) (hs (hs h 6 14 (nI (g + 1))) 7 3 (nI m)) m nd) := by
  intro RT hR
  show mE l Sh0 none iX4_goOn RT 0 [some (.inr 6)] [] h
  refine e_aload_n (i := 0) dX4_goOn_0 rfl rfl ?_
  refine e_getI (x := nI g) dX4_goOn_1 fl_X4_59 sh_6 fj_6_14 h14 ?_
  refine e_bipush (v := 40) dX4_goOn_4 (by decide) ?_
  refine b_icmp_lt (X := ((g : Nat) : Int)) (Y := 40) (tgt := 16) (nI_toInt (by omega)) (by decide) dX4_goOn_6 (by decide) ?_ ?_
  · intro c_6_t
    refine e_aload_n (i := 0) dX4_goOn_16 rfl rfl ?_
    refine e_dup dX4_goOn_17 ?_
    refine e_getI (x := nI g) dX4_goOn_18 fl_X4_59 sh_6 fj_6_14 h14 ?_
    refine e_iconst (v := 1) dX4_goOn_21 (by decide) ?_
    refine z_iadd (z := nI (g + 1)) (nI_addc _ 1) dX4_goOn_22 ?_
    refine e_putI dX4_goOn_23 fl_X4_59 fp_X4_14 sh_6 fj_6_14 ?_
    refine e_aload_n (i := 0) dX4_goOn_26 rfl rfl ?_
    refine e_getR (r := 7) dX4_goOn_27 fl_X4_12 sh_6 fj_6_1 ?_
    refine e_aload_n (i := 0) dX4_goOn_30 rfl rfl ?_
    refine e_getR (r := 8) dX4_goOn_31 fl_X4_21 sh_6 fj_6_2 ?_
    refine e_aload_n (i := 0) dX4_goOn_34 rfl rfl ?_
    refine e_getI (x := nI c) dX4_goOn_35 fl_X4_83 sh_6 fj_6_7 h67 ?_
    refine e_invVi (As := [.inl (nI c)]) (v := nI (nd.headD 0)) (h2 := (hs h 6 14 (nI (g + 1)))) dX4_goOn_38 lk_X4_168 yv_X1_keptTop rfl rfl rfl (Nat.le_of_ble_eq_true rfl) sh_8 ci_X1 (Nat.le_of_ble_eq_true rfl) ⟨Nat.le_of_ble_eq_true rfl, Nat.le_of_ble_eq_true rfl⟩ (k_C_keptTopX l (hs h 6 14 (nI (g + 1))) c cm hcm hc hc2 e1) ?_
    refine e_aload_n (i := 0) dX4_goOn_41 rfl rfl ?_
    refine e_getR (r := 8) dX4_goOn_42 fl_X4_21 sh_6 fj_6_2 ?_
    refine e_aload_n (i := 0) dX4_goOn_45 rfl rfl ?_
    refine e_getI (x := nI c) dX4_goOn_46 fl_X4_83 sh_6 fj_6_7 h67 ?_
    refine e_invVi (As := [.inl (nI c)]) (v := nI kh) (h2 := (hs h 6 14 (nI (g + 1)))) dX4_goOn_49 lk_X4_171 yv_X1_keptHand rfl rfl rfl (Nat.le_of_ble_eq_true rfl) sh_8 ci_X1 (Nat.le_of_ble_eq_true rfl) ⟨Nat.le_of_ble_eq_true rfl, Nat.le_of_ble_eq_true rfl⟩ (k_C_keptHandX l (hs h 6 14 (nI (g + 1))) c cm hcm hc hc2 e2) ?_
    refine e_invVi (As := [.inl (nI (nd.headD 0)), .inl (nI kh)]) (v := 1) (h2 := (lay (h 7 3) (hs (hs h 6 14 (nI (g + 1))) 7 3 (nI m)) m nd)) dX4_goOn_52 lk_X4_174 yv_X5_layDown rfl rfl rfl (Nat.le_of_ble_eq_true rfl) sh_7 ci_X5 (Nat.le_of_ble_eq_true rfl) ⟨Nat.le_of_ble_eq_true rfl, Nat.le_of_ble_eq_true rfl⟩ (k_T_layDown l (hs h 6 14 (nI (g + 1))) m hm kh hkh nd hn hl (lnk_same (h := h) (h' := (hs h 6 14 (nI (g + 1)))) rfl hk)) ?_
    refine b_if_ne (X := 1) (tgt := 64) (by decide) dX4_goOn_55 (by decide) ?_ ?_
    · intro e_55_t c_55_t
      refine e_ret dX4_goOn_64 rfl ?_
      exact hR
    · intro e_55_f c_55_f
      exfalso; omega
  · intro c_6_f
    exfalso; omega
def nrN (sg : Nat → Int32) (sz : Nat → Nat) (d : Nat) : List Nat → List aF → Int32
  | i :: nd, F :: P => if (sg F.1).toInt = 64 ∧ 0 < sz (4 + 4 * aHd sg F.1 + d) then nI i else nrN sg sz d nd P
  | _, _ => -1
theorem nrN_none {sg : Nat → Int32} {sz : Nat → Nat} {d : Nat} : ∀ {nd : List Nat} {P : List aF}, (∀ F ∈ P, ¬ ((sg F.1).toInt = 64 ∧ 0 < sz (4 + 4 * aHd sg F.1 + d))) → nrN sg sz d nd P = -1
  | [], [], _ => rfl
  | [], _ :: _, _ => rfl
  | _ :: _, [], _ => rfl
  | i :: nd, F :: P, q => by
    unfold nrN
    rw [if_neg (q F List.mem_cons_self)]
    exact nrN_none (fun G hG => q G (List.mem_cons_of_mem _ hG))
theorem nrN_some {sg : Nat → Int32} {sz : Nat → Nat} {d i : Nat} {G : aF} {nC : List Nat} {C : List aF} (hG : (sg G.1).toInt = 64 ∧ 0 < sz (4 + 4 * aHd sg G.1 + d)) : ∀ {nA : List Nat} {A : List aF}, nA.length = A.length → (∀ F ∈ A, ¬ ((sg F.1).toInt = 64 ∧ 0 < sz (4 + 4 * aHd sg F.1 + d))) → nrN sg sz d (nA ++ i :: nC) (A ++ G :: C) = nI i
  | [], [], _, _ => by
    show nrN sg sz d (i :: nC) (G :: C) = nI i
    unfold nrN
    rw [if_pos hG]
  | [], _ :: _, e, _ => by cases e
  | _ :: _, [], e, _ => by cases e
  | j :: nA, F :: A, e, q => by
    show nrN sg sz d (j :: (nA ++ i :: nC)) (F :: (A ++ G :: C)) = nI i
    unfold nrN
    rw [if_neg (q F List.mem_cons_self)]
    exact nrN_some hG (by simpa using e) (fun G hG => q G (List.mem_cons_of_mem _ hG))
set_option maxHeartbeats 2000000 in
theorem lp_nearest (l : Launch) {sg : Nat → Int32} {ln sz : Nat → Nat} (hB : aWB sg ln sz) (h : mH) (hC : CB sg ln sz h) {KS : List (List Nat)} {cm made nK d : Nat} (hd : d < 3) (hm : h 7 2 = nI made) (hM : made ≤ 8200) (hcm : cm ≤ 201) (RT : Option Int32 → mH → Prop) : ∀ (nd : List Nat) (P : List aF) (t : Int32) (z : Nat) (y : Option mV), chn h KS cm nd P t (-1) → (∀ i ∈ nd, i < made) → (∀ F ∈ P, aFok sg sz nK F) → z + P.length ≤ 8000 → RT (some (nrN sg sz d nd P)) h → mE l Sh0 none iX4_nearest RT 10 [some (.inr 6), some (.inl (nI d)), some (.inl t), some (.inl (nI z)), y] [] h
  | [], [], t, z, y, hch, hn, hF, hz, hR => by
    have e : t = -1 := hch
    subst e
    have hz : z + 0 ≤ 8000 := hz
    show mE l Sh0 none iX4_nearest RT 10 [some (.inr 6), some (.inl (nI d)), some (.inl (-1)), some (.inl (nI z)), y] [] h
    refine e_iload_n (i := 3) dX4_nearest_10 rfl rfl ?_
    refine e_sipush (v := 8200) dX4_nearest_11 (by decide) ?_
    refine b_icmp_ge (X := ((z : Nat) : Int)) (Y := 8200) (tgt := 78) (nI_toInt (by omega)) (by decide) dX4_nearest_14 (by decide) ?_ ?_
    · intro c_14_t
      exfalso; omega
    · intro c_14_f
      refine e_iload_n (i := 2) dX4_nearest_17 rfl rfl ?_
      refine e_iconst (v := (-1)) dX4_nearest_18 (by decide) ?_
      refine b_icmp_eq (X := (-1)) (Y := (-1)) (tgt := 78) (by decide) (by decide) dX4_nearest_19 (by decide) ?_ ?_
      · intro e_19_t c_19_t
        refine e_iconst (v := (-1)) dX4_nearest_78 (by decide) ?_
        refine e_iret dX4_nearest_79 (mret_i _) ?_
        exact hR
      · intro e_19_f c_19_f
        exfalso; omega
  | [], _ :: _, _, _, _, hch, _, _, _, _ => hch.elim
  | _ :: _, [], _, _, _, hch, _, _, _, _ => hch.elim
  | i :: nd, F :: P, t, z, y, hch, hn, hF, hz, hR => by
    obtain ⟨rfl, ⟨c, hc, hmk, har, hck⟩, hch2⟩ := hch
    obtain ⟨f1, f2, f3, f4, f5, f6, f7⟩ := hF F List.mem_cons_self
    have hi : i < made := hn i List.mem_cons_self
    have hz : z + (P.length + 1) ≤ 8000 := hz
    have hp8 : F.1 < 800 := f1.1
    have hsg : h 13 F.1 = sg F.1 := hC.1 _ hp8
    have kP := k_T_placeX l h i made hm hi hM hmk hp8 (by omega) (by omega)
    have hrest : ¬ ((sg F.1).toInt = 64 ∧ 0 < sz (4 + 4 * aHd sg F.1 + d)) → mE l Sh0 none iX4_nearest RT 10 [some (.inr 6), some (.inl (nI d)), some (.inl (h 21 i)), some (.inl (nI (z + 1))), y] [] h → True := fun _ _ => trivial
    by_cases h64 : (sg F.1).toInt = 64
    · have h9 := (hB.2 F.1 f1).2.2.2.2.2.2.2.2.1 h64
      have hh : aHd sg F.1 < 4 := by unfold aHd; omega
      have kH := k_B_handX l h sg F.1 h9.2.2 hsg (hC.1 _ h9.2.2) h64 h9.1
      have hsz : h 15 (4 + 4 * aHd sg F.1 + d) = nI (sz (4 + 4 * aHd sg F.1 + d)) := hC.2.1 _ (by omega)
      have hsz2 := hB.1 (4 + 4 * aHd sg F.1 + d) (by omega)
      refine e_iload_n (i := 3) dX4_nearest_10 rfl rfl ?_
      refine e_sipush (v := 8200) dX4_nearest_11 (by decide) ?_
      refine b_icmp_ge (X := ((z : Nat) : Int)) (Y := 8200) (tgt := 78) (nI_toInt (by omega)) (by decide) dX4_nearest_14 (by decide) ?_ ?_
      · intro c_14_t
        exfalso; omega
      · intro c_14_f
        refine e_iload_n (i := 2) dX4_nearest_17 rfl rfl ?_
        refine e_iconst (v := (-1)) dX4_nearest_18 (by decide) ?_
        refine b_icmp_eq (X := ((i : Nat) : Int)) (Y := (-1)) (tgt := 78) (nI_toInt (by omega)) (by decide) dX4_nearest_19 (by decide) ?_ ?_
        · intro e_19_t c_19_t
          exfalso; omega
        · intro e_19_f c_19_f
          refine e_aload_n (i := 0) dX4_nearest_22 rfl rfl ?_
          refine e_getR (r := 2) dX4_nearest_23 fl_X4_29 sh_6 fj_6_0 ?_
          refine e_aload_n (i := 0) dX4_nearest_26 rfl rfl ?_
          refine e_getR (r := 7) dX4_nearest_27 fl_X4_12 sh_6 fj_6_1 ?_
          refine e_iload_n (i := 2) dX4_nearest_30 rfl rfl ?_
          refine e_invVi (As := [.inl (nI i)]) (v := nI F.1) (h2 := h) dX4_nearest_31 lk_X4_118 yv_X5_place rfl rfl rfl (Nat.le_of_ble_eq_true rfl) sh_7 ci_X5 (Nat.le_of_ble_eq_true rfl) ⟨Nat.le_of_ble_eq_true rfl, Nat.le_of_ble_eq_true rfl⟩ kP ?_
          refine e_invVi (As := [.inl (nI F.1)]) (v := nI (aHd sg F.1)) (h2 := h) dX4_nearest_34 lk_X4_138 yv_X0_hand rfl rfl rfl (Nat.le_of_ble_eq_true rfl) sh_2 ci_X0 (Nat.le_of_ble_eq_true rfl) ⟨Nat.le_of_ble_eq_true rfl, Nat.le_of_ble_eq_true rfl⟩ kH ?_
          refine e_istore (ls2 := [some (.inr 6), some (.inl (nI d)), some (.inl (nI i)), some (.inl (nI z)), some (.inl (nI (aHd sg F.1)))]) dX4_nearest_37 (Nat.le_of_ble_eq_true rfl) rfl ?_
          refine e_iload dX4_nearest_39 rfl ?_
          refine e_iconst (v := (-1)) dX4_nearest_41 (by decide) ?_
          refine b_icmp_eq (X := ((aHd sg F.1 : Nat) : Int)) (Y := (-1)) (tgt := 63) (nI_toInt (by omega)) (by decide) dX4_nearest_42 (by decide) ?_ ?_
          · intro e_42_t c_42_t
            exfalso; omega
          · intro e_42_f c_42_f
            refine e_aload_n (i := 0) dX4_nearest_45 rfl rfl ?_
            refine e_getR (r := 2) dX4_nearest_46 fl_X4_29 sh_6 fj_6_0 ?_
            refine e_iload dX4_nearest_49 rfl ?_
            refine e_iload_n (i := 1) dX4_nearest_51 rfl rfl ?_
            refine e_invSi (As := [.inl (nI (aHd sg F.1)), .inl (nI d)]) (v := nI (4 + 4 * aHd sg F.1 + d)) (h2 := h) dX4_nearest_52 lk_X4_162 ys_X7_pageOf rfl rfl rfl (Nat.le_of_ble_eq_true rfl) (Nat.le_of_ble_eq_true rfl) ⟨Nat.le_of_ble_eq_true rfl, Nat.le_of_ble_eq_true rfl⟩ (k_pageOfX l h (aHd sg F.1) d) ?_
            refine e_invVi (As := [.inl (nI (4 + 4 * aHd sg F.1 + d))]) (v := nI (sz (4 + 4 * aHd sg F.1 + d))) (h2 := h) dX4_nearest_55 lk_X4_165 yv_X0_size rfl rfl rfl (Nat.le_of_ble_eq_true rfl) sh_2 ci_X0 (Nat.le_of_ble_eq_true rfl) ⟨Nat.le_of_ble_eq_true rfl, Nat.le_of_ble_eq_true rfl⟩ (k_B_sizeX l h (4 + 4 * aHd sg F.1 + d) (by omega) hsz) ?_
            refine b_if_le (X := ((sz (4 + 4 * aHd sg F.1 + d) : Nat) : Int)) (tgt := 63) (nI_toInt (by omega)) dX4_nearest_58 (by decide) ?_ ?_
            · intro c_58_t
              refine e_aload_n (i := 0) dX4_nearest_63 rfl rfl ?_
              refine e_getR (r := 7) dX4_nearest_64 fl_X4_12 sh_6 fj_6_1 ?_
              refine e_iload_n (i := 2) dX4_nearest_67 rfl rfl ?_
              refine e_invVi (As := [.inl (nI i)]) (v := h 21 i) (h2 := h) dX4_nearest_68 lk_X4_132 yv_X5_below rfl rfl rfl (Nat.le_of_ble_eq_true rfl) sh_7 ci_X5 (Nat.le_of_ble_eq_true rfl) ⟨Nat.le_of_ble_eq_true rfl, Nat.le_of_ble_eq_true rfl⟩ (k_T_belowX l h i made hm hi hM rfl) ?_
              refine e_istore_n (i := 2) (ls2 := [some (.inr 6), some (.inl (nI d)), some (.inl (h 21 i)), some (.inl (nI z)), some (.inl (nI (aHd sg F.1)))]) dX4_nearest_71 rfl (Nat.le_of_ble_eq_true rfl) rfl ?_
              refine e_iinc (v := nI (z + 1)) (ls2 := [some (.inr 6), some (.inl (nI d)), some (.inl (h 21 i)), some (.inl (nI (z + 1))), some (.inl (nI (aHd sg F.1)))]) dX4_nearest_72 rfl (nI_inc1 _) (Nat.le_of_ble_eq_true rfl) rfl ?_
              refine e_goto (tgt := 10) dX4_nearest_75 (by decide) ?_
              have e : nrN sg sz d (i :: nd) (F :: P) = nrN sg sz d nd P := if_neg (by omega)
              rw [e] at hR
              exact lp_nearest l hB h hC hd hm hM hcm RT nd P (h 21 i) (z + 1) (some (.inl (nI (aHd sg F.1)))) hch2 (fun j hj => hn j (List.mem_cons_of_mem _ hj)) (fun G hG => hF G (List.mem_cons_of_mem _ hG)) (by omega) hR
            · intro c_58_f
              refine e_iload_n (i := 2) dX4_nearest_61 rfl rfl ?_
              refine e_iret dX4_nearest_62 (mret_i _) ?_
              have e : nrN sg sz d (i :: nd) (F :: P) = nI i := if_pos ⟨h64, by omega⟩
              rw [e] at hR
              exact hR
    · have kH := k_B_handN l h sg F.1 hp8 hsg h64
      refine e_iload_n (i := 3) dX4_nearest_10 rfl rfl ?_
      refine e_sipush (v := 8200) dX4_nearest_11 (by decide) ?_
      refine b_icmp_ge (X := ((z : Nat) : Int)) (Y := 8200) (tgt := 78) (nI_toInt (by omega)) (by decide) dX4_nearest_14 (by decide) ?_ ?_
      · intro c_14_t
        exfalso; omega
      · intro c_14_f
        refine e_iload_n (i := 2) dX4_nearest_17 rfl rfl ?_
        refine e_iconst (v := (-1)) dX4_nearest_18 (by decide) ?_
        refine b_icmp_eq (X := ((i : Nat) : Int)) (Y := (-1)) (tgt := 78) (nI_toInt (by omega)) (by decide) dX4_nearest_19 (by decide) ?_ ?_
        · intro e_19_t c_19_t
          exfalso; omega
        · intro e_19_f c_19_f
          refine e_aload_n (i := 0) dX4_nearest_22 rfl rfl ?_
          refine e_getR (r := 2) dX4_nearest_23 fl_X4_29 sh_6 fj_6_0 ?_
          refine e_aload_n (i := 0) dX4_nearest_26 rfl rfl ?_
          refine e_getR (r := 7) dX4_nearest_27 fl_X4_12 sh_6 fj_6_1 ?_
          refine e_iload_n (i := 2) dX4_nearest_30 rfl rfl ?_
          refine e_invVi (As := [.inl (nI i)]) (v := nI F.1) (h2 := h) dX4_nearest_31 lk_X4_118 yv_X5_place rfl rfl rfl (Nat.le_of_ble_eq_true rfl) sh_7 ci_X5 (Nat.le_of_ble_eq_true rfl) ⟨Nat.le_of_ble_eq_true rfl, Nat.le_of_ble_eq_true rfl⟩ kP ?_
          refine e_invVi (As := [.inl (nI F.1)]) (v := (-1)) (h2 := h) dX4_nearest_34 lk_X4_138 yv_X0_hand rfl rfl rfl (Nat.le_of_ble_eq_true rfl) sh_2 ci_X0 (Nat.le_of_ble_eq_true rfl) ⟨Nat.le_of_ble_eq_true rfl, Nat.le_of_ble_eq_true rfl⟩ kH ?_
          refine e_istore (ls2 := [some (.inr 6), some (.inl (nI d)), some (.inl (nI i)), some (.inl (nI z)), some (.inl (-1))]) dX4_nearest_37 (Nat.le_of_ble_eq_true rfl) rfl ?_
          refine e_iload dX4_nearest_39 rfl ?_
          refine e_iconst (v := (-1)) dX4_nearest_41 (by decide) ?_
          refine b_icmp_eq (X := (-1)) (Y := (-1)) (tgt := 63) (by decide) (by decide) dX4_nearest_42 (by decide) ?_ ?_
          · intro e_42_t c_42_t
            refine e_aload_n (i := 0) dX4_nearest_63 rfl rfl ?_
            refine e_getR (r := 7) dX4_nearest_64 fl_X4_12 sh_6 fj_6_1 ?_
            refine e_iload_n (i := 2) dX4_nearest_67 rfl rfl ?_
            refine e_invVi (As := [.inl (nI i)]) (v := h 21 i) (h2 := h) dX4_nearest_68 lk_X4_132 yv_X5_below rfl rfl rfl (Nat.le_of_ble_eq_true rfl) sh_7 ci_X5 (Nat.le_of_ble_eq_true rfl) ⟨Nat.le_of_ble_eq_true rfl, Nat.le_of_ble_eq_true rfl⟩ (k_T_belowX l h i made hm hi hM rfl) ?_
            refine e_istore_n (i := 2) (ls2 := [some (.inr 6), some (.inl (nI d)), some (.inl (h 21 i)), some (.inl (nI z)), some (.inl (-1))]) dX4_nearest_71 rfl (Nat.le_of_ble_eq_true rfl) rfl ?_
            refine e_iinc (v := nI (z + 1)) (ls2 := [some (.inr 6), some (.inl (nI d)), some (.inl (h 21 i)), some (.inl (nI (z + 1))), some (.inl (-1))]) dX4_nearest_72 rfl (nI_inc1 _) (Nat.le_of_ble_eq_true rfl) rfl ?_
            refine e_goto (tgt := 10) dX4_nearest_75 (by decide) ?_
            have e : nrN sg sz d (i :: nd) (F :: P) = nrN sg sz d nd P := if_neg (by omega)
            rw [e] at hR
            exact lp_nearest l hB h hC hd hm hM hcm RT nd P (h 21 i) (z + 1) (some (.inl (-1))) hch2 (fun j hj => hn j (List.mem_cons_of_mem _ hj)) (fun G hG => hF G (List.mem_cons_of_mem _ hG)) (by omega) hR
          · intro e_42_f c_42_f
            exfalso; omega
set_option maxHeartbeats 2000000 in
theorem k_X_nearest (l : Launch) {sg : Nat → Int32} {ln sz : Nat → Nat} (hB : aWB sg ln sz) (h : mH) (hC : CB sg ln sz h) {KS : List (List Nat)} {cm made nK d : Nat} (hd : d < 3) (hm : h 7 2 = nI made) (hM : made ≤ 8200) (hcm : cm ≤ 201) (nd : List Nat) (P : List aF) (hch : chn h KS cm nd P (h 7 3) (-1)) (hn : ∀ i ∈ nd, i < made) (hF : ∀ F ∈ P, aFok sg sz nK F) (hz : P.length ≤ 8000) : mD l Sh0 iX4_nearest [.inr 6, .inl (nI d)] h (some (nrN sg sz d nd P)) h := by
  intro RT hR
  show mE l Sh0 none iX4_nearest RT 0 [some (.inr 6), some (.inl (nI d)), none, none, none] [] h
  refine e_aload_n (i := 0) dX4_nearest_0 rfl rfl ?_
  refine e_getR (r := 7) dX4_nearest_1 fl_X4_12 sh_6 fj_6_1 ?_
  refine e_getI (x := h 7 3) dX4_nearest_4 fl_X4_115 sh_7 fj_7_3 rfl ?_
  refine e_istore_n (i := 2) (ls2 := [some (.inr 6), some (.inl (nI d)), some (.inl (h 7 3)), none, none]) dX4_nearest_7 rfl (Nat.le_of_ble_eq_true rfl) rfl ?_
  refine e_iconst (v := 0) dX4_nearest_8 (by decide) ?_
  refine e_istore_n (i := 3) (ls2 := [some (.inr 6), some (.inl (nI d)), some (.inl (h 7 3)), some (.inl 0), none]) dX4_nearest_9 rfl (Nat.le_of_ble_eq_true rfl) rfl ?_
  exact lp_nearest l hB h hC hd hm hM hcm RT nd P (h 7 3) 0 none hch hn hF (by omega) hR
def anH (h : mH) (ql : Nat) (a : Int32) : mH := if ql < 200 then hs h 19 ql a else h
theorem anH_1 (h : mH) {ql : Nat} (a : Int32) (q : ql < 200) : anH h ql a = hs h 19 ql a := if_pos q
theorem anH_0 (h : mH) {ql : Nat} (a : Int32) (q : ¬ ql < 200) : anH h ql a = h := if_neg q
set_option maxHeartbeats 1000000 in
theorem k_X_ask1s (l : Launch) (h : mH) (d v ql : Nat) (hd : d < 3) (hv : v < 8) (hq : ql < 100000) (h68 : h 6 8 = nI v) (h15 : h 6 15 = nI ql) (hql : ql < 200) (sg : Nat → Int32) (i made cm pl w c hd2 : Nat) (hm : h 7 2 = nI made) (hi : i < made) (hM : made ≤ 8200) (hmk : h 20 i = nI (pl + 1024 * w + 16384 * c)) (hp8 : pl + 1 < 800) (hw : w < 16) (hc : c < 65536) (kH : ∀ h2 : mH, h2 13 = h 13 → mD l Sh0 iX0_hand [.inr 2, .inl (nI pl)] h2 (some (nI hd2)) h2) (hcm : h 8 3 = nI cm) (hc2 : cm < 201) : mD l Sh0 iX4_ask [.inr 6, .inl (nI d), .inl (nI i)] h (none) (entH (hs (hs (anH h ql (nI (100 * d + 10 * v + hd2))) 6 15 (nI (ql + 1))) 7 3 (h 21 i)) cm (nI (4 + 4 * hd2 + d)) (nI v) (h 7 3) (nI i)) := by
  intro RT hR
  show mE l Sh0 none iX4_ask RT 0 [some (.inr 6), some (.inl (nI d)), some (.inl (nI i)), none, none] [] h
  refine e_iload_n (i := 2) dX4_ask_0 rfl rfl ?_
  refine e_iconst (v := (-1)) dX4_ask_1 (by decide) ?_
  refine b_icmp_ne (X := ((i : Nat) : Int)) (Y := (-1)) (tgt := 10) (nI_toInt (by omega)) (by decide) dX4_ask_2 (by decide) ?_ ?_
  · intro e_2_t c_2_t
    refine e_aload_n (i := 0) dX4_ask_10 rfl rfl ?_
    refine e_getR (r := 2) dX4_ask_11 fl_X4_29 sh_6 fj_6_0 ?_
    refine e_aload_n (i := 0) dX4_ask_14 rfl rfl ?_
    refine e_getR (r := 7) dX4_ask_15 fl_X4_12 sh_6 fj_6_1 ?_
    refine e_iload_n (i := 2) dX4_ask_18 rfl rfl ?_
    refine e_invVi (As := [.inl (nI i)]) (v := nI pl) (h2 := h) dX4_ask_19 lk_X4_118 yv_X5_place rfl rfl rfl (Nat.le_of_ble_eq_true rfl) sh_7 ci_X5 (Nat.le_of_ble_eq_true rfl) ⟨Nat.le_of_ble_eq_true rfl, Nat.le_of_ble_eq_true rfl⟩ (k_T_placeX l h i made hm hi hM hmk (by omega) hw hc) ?_
    refine e_invVi (As := [.inl (nI pl)]) (v := nI hd2) (h2 := h) dX4_ask_22 lk_X4_138 yv_X0_hand rfl rfl rfl (Nat.le_of_ble_eq_true rfl) sh_2 ci_X0 (Nat.le_of_ble_eq_true rfl) ⟨Nat.le_of_ble_eq_true rfl, Nat.le_of_ble_eq_true rfl⟩ (kH h rfl) ?_
    refine e_istore_n (i := 3) (ls2 := [some (.inr 6), some (.inl (nI d)), some (.inl (nI i)), some (.inl (nI hd2)), none]) dX4_ask_25 rfl (Nat.le_of_ble_eq_true rfl) rfl ?_
    refine e_aload_n (i := 0) dX4_ask_26 rfl rfl ?_
    refine e_getI (x := nI ql) dX4_ask_27 fl_X4_62 sh_6 fj_6_15 h15 ?_
    refine b_if_lt (X := ((ql : Nat) : Int)) (tgt := 66) (nI_toInt (by omega)) dX4_ask_30 (by decide) ?_ ?_
    · intro c_30_t
      exfalso; omega
    · intro c_30_f
      refine e_aload_n (i := 0) dX4_ask_33 rfl rfl ?_
      refine e_getI (x := nI ql) dX4_ask_34 fl_X4_62 sh_6 fj_6_15 h15 ?_
      refine e_sipush (v := 200) dX4_ask_37 (by decide) ?_
      refine b_icmp_ge (X := ((ql : Nat) : Int)) (Y := 200) (tgt := 66) (nI_toInt (by omega)) (by decide) dX4_ask_40 (by decide) ?_ ?_
      · intro c_40_t
        exfalso; omega
      · intro c_40_f
        refine e_aload_n (i := 0) dX4_ask_43 rfl rfl ?_
        refine e_getR (r := 19) dX4_ask_44 fl_X4_25 sh_6 fj_6_3 ?_
        refine e_aload_n (i := 0) dX4_ask_47 rfl rfl ?_
        refine e_getI (x := nI ql) dX4_ask_48 fl_X4_62 sh_6 fj_6_15 h15 ?_
        refine e_iload_n (i := 1) dX4_ask_51 rfl rfl ?_
        refine e_bipush (v := 100) dX4_ask_52 (by decide) ?_
        refine z_imul (z := nI (100 * d)) (by rw [nI_mulc, Nat.mul_comm]) dX4_ask_54 ?_
        refine e_aload_n (i := 0) dX4_ask_55 rfl rfl ?_
        refine e_getI (x := nI v) dX4_ask_56 fl_X4_89 sh_6 fj_6_8 h68 ?_
        refine e_bipush (v := 10) dX4_ask_59 (by decide) ?_
        refine z_imul (z := nI (10 * v)) (by rw [nI_mulc, Nat.mul_comm]) dX4_ask_61 ?_
        refine z_iadd (z := nI (100 * d + 10 * v)) (nI_add _ _) dX4_ask_62 ?_
        refine e_iload_n (i := 3) dX4_ask_63 rfl rfl ?_
        refine z_iadd (z := nI (100 * d + 10 * v + hd2)) (nI_add _ _) dX4_ask_64 ?_
        refine e_iast dX4_ask_65 sh_19 (vin_ofX (X := ((ql : Nat) : Int)) (nI_toInt (by omega)) (by omega) (by omega)) ?_
        rw [nI_clamp (by omega)]
        refine e_aload_n (i := 0) dX4_ask_66 rfl rfl ?_
        refine e_dup dX4_ask_67 ?_
        refine e_getI (x := nI ql) dX4_ask_68 fl_X4_62 sh_6 fj_6_15 h15 ?_
        refine e_iconst (v := 1) dX4_ask_71 (by decide) ?_
        refine z_iadd (z := nI (ql + 1)) (nI_addc _ 1) dX4_ask_72 ?_
        refine e_putI dX4_ask_73 fl_X4_62 fp_X4_15 sh_6 fj_6_15 ?_
        refine e_iload_n (i := 2) dX4_ask_76 rfl rfl ?_
        refine e_iconst (v := (-1)) dX4_ask_77 (by decide) ?_
        refine b_icmp_eq (X := ((i : Nat) : Int)) (Y := (-1)) (tgt := 124) (nI_toInt (by omega)) (by decide) dX4_ask_78 (by decide) ?_ ?_
        · intro e_78_t c_78_t
          exfalso; omega
        · intro e_78_f c_78_f
          refine e_aload_n (i := 0) dX4_ask_81 rfl rfl ?_
          refine e_getR (r := 7) dX4_ask_82 fl_X4_12 sh_6 fj_6_1 ?_
          refine e_getI (x := h 7 3) dX4_ask_85 fl_X4_115 sh_7 fj_7_3 rfl ?_
          refine e_istore (ls2 := [some (.inr 6), some (.inl (nI d)), some (.inl (nI i)), some (.inl (nI hd2)), some (.inl (h 7 3))]) dX4_ask_88 (Nat.le_of_ble_eq_true rfl) rfl ?_
          refine e_aload_n (i := 0) dX4_ask_90 rfl rfl ?_
          refine e_getR (r := 7) dX4_ask_91 fl_X4_12 sh_6 fj_6_1 ?_
          refine e_aload_n (i := 0) dX4_ask_94 rfl rfl ?_
          refine e_getR (r := 7) dX4_ask_95 fl_X4_12 sh_6 fj_6_1 ?_
          refine e_iload_n (i := 2) dX4_ask_98 rfl rfl ?_
          refine e_invVi (As := [.inl (nI i)]) (v := h 21 i) (h2 := (hs (hs h 19 ql (nI (100 * d + 10 * v + hd2))) 6 15 (nI (ql + 1)))) dX4_ask_99 lk_X4_132 yv_X5_below rfl rfl rfl (Nat.le_of_ble_eq_true rfl) sh_7 ci_X5 (Nat.le_of_ble_eq_true rfl) ⟨Nat.le_of_ble_eq_true rfl, Nat.le_of_ble_eq_true rfl⟩ (k_T_belowX l (hs (hs h 19 ql (nI (100 * d + 10 * v + hd2))) 6 15 (nI (ql + 1))) i made hm hi hM rfl) ?_
          refine e_putI dX4_ask_102 fl_X4_115 fp_X5_3 sh_7 fj_7_3 ?_
          refine e_aload_n (i := 0) dX4_ask_105 rfl rfl ?_
          refine e_iload_n (i := 3) dX4_ask_106 rfl rfl ?_
          refine e_iload_n (i := 1) dX4_ask_107 rfl rfl ?_
          refine e_invSi (As := [.inl (nI hd2), .inl (nI d)]) (v := nI (4 + 4 * hd2 + d)) (h2 := (hs (hs (hs h 19 ql (nI (100 * d + 10 * v + hd2))) 6 15 (nI (ql + 1))) 7 3 (h 21 i))) dX4_ask_108 lk_X4_162 ys_X7_pageOf rfl rfl rfl (Nat.le_of_ble_eq_true rfl) (Nat.le_of_ble_eq_true rfl) ⟨Nat.le_of_ble_eq_true rfl, Nat.le_of_ble_eq_true rfl⟩ (k_pageOfX l (hs (hs (hs h 19 ql (nI (100 * d + 10 * v + hd2))) 6 15 (nI (ql + 1))) 7 3 (h 21 i)) hd2 d) ?_
          refine e_aload_n (i := 0) dX4_ask_111 rfl rfl ?_
          refine e_getI (x := nI v) dX4_ask_112 fl_X4_89 sh_6 fj_6_8 h68 ?_
          refine e_iload dX4_ask_115 rfl ?_
          refine e_iload_n (i := 2) dX4_ask_117 rfl rfl ?_
          refine e_invVv (As := [.inl (nI (4 + 4 * hd2 + d)), .inl (nI v), .inl (h 7 3), .inl (nI i)]) (h2 := (entH (hs (hs (hs h 19 ql (nI (100 * d + 10 * v + hd2))) 6 15 (nI (ql + 1))) 7 3 (h 21 i)) cm (nI (4 + 4 * hd2 + d)) (nI v) (h 7 3) (nI i))) (ty := .int) (v := 0) dX4_ask_118 lk_X4_65 yv_X4_enter rfl rfl rfl (Nat.le_of_ble_eq_true rfl) sh_6 ci_X4 (Nat.le_of_ble_eq_true rfl) ⟨Nat.le_of_ble_eq_true rfl, Nat.le_of_ble_eq_true rfl⟩ (k_X_enter l (hs (hs (hs h 19 ql (nI (100 * d + 10 * v + hd2))) 6 15 (nI (ql + 1))) 7 3 (h 21 i)) cm hcm hc2 (nI (4 + 4 * hd2 + d)) (nI v) (h 7 3) (nI i)) ?_
          refine e_goto (tgt := 185) dX4_ask_121 (by decide) ?_
          refine e_ret dX4_ask_185 rfl ?_
          rw [anH_1 _ _ hql] at hR
          exact hR
  · intro e_2_f c_2_f
    exfalso; omega
set_option maxHeartbeats 1000000 in
theorem k_X_ask0rs (l : Launch) (h : mH) (d v ql : Nat) (hd : d < 3) (hv : v < 8) (hq : ql < 100000) (h68 : h 6 8 = nI v) (h15 : h 6 15 = nI ql) (hql : ql < 200) (rc rr u rl : Nat) (hS : Sh0[rc]? = some (.inl (3, [rr + 3, 0]))) (hA : Sh0[rr]? = some (.inr 8)) (hrc : rc = 3 ∨ rc = 4 ∨ rc = 5) (hrr : 16 ≤ rr ∧ rr ≤ 18) (h64 : h 6 4 = nI rc) (h11 : h 6 11 = nI u) (hrl : h rc 1 = nI rl) (hrl8 : rl ≤ 8) (hu8 : u ≤ rl) (w : Nat) (hw : h rr u = nI w) (hu : u < rl) : mD l Sh0 iX4_ask [.inr 6, .inl (nI d), .inl (-1)] h (none) (hs (hs (hs (hs (anH h ql (nI (100 * d + 10 * v + 9))) 6 15 (nI (ql + 1))) 6 8 (nI w)) 6 5 0) 6 11 (nI (u + 1))) := by
  have hrl2 : ∀ (a b : Nat) (x y : Int32), hs (hs h 19 a x) 6 b y rc 1 = nI rl := fun a b x y => by rw [hs_ne _ _ (by omega), hs_ne _ _ (by omega)]; exact hrl
  have hrl3 : ∀ (b : Nat) (y : Int32), hs h 6 b y rc 1 = nI rl := fun b y => by rw [hs_ne _ _ (by omega)]; exact hrl
  intro RT hR
  show mE l Sh0 none iX4_ask RT 0 [some (.inr 6), some (.inl (nI d)), some (.inl (-1)), none, none] [] h
  refine e_iload_n (i := 2) dX4_ask_0 rfl rfl ?_
  refine e_iconst (v := (-1)) dX4_ask_1 (by decide) ?_
  refine b_icmp_ne (X := (-1)) (Y := (-1)) (tgt := 10) (by decide) (by decide) dX4_ask_2 (by decide) ?_ ?_
  · intro e_2_t c_2_t
    exfalso; omega
  · intro e_2_f c_2_f
    refine e_bipush (v := 9) dX4_ask_5 (by decide) ?_
    refine e_goto (tgt := 25) dX4_ask_7 (by decide) ?_
    refine e_istore_n (i := 3) (ls2 := [some (.inr 6), some (.inl (nI d)), some (.inl (-1)), some (.inl 9), none]) dX4_ask_25 rfl (Nat.le_of_ble_eq_true rfl) rfl ?_
    refine e_aload_n (i := 0) dX4_ask_26 rfl rfl ?_
    refine e_getI (x := nI ql) dX4_ask_27 fl_X4_62 sh_6 fj_6_15 h15 ?_
    refine b_if_lt (X := ((ql : Nat) : Int)) (tgt := 66) (nI_toInt (by omega)) dX4_ask_30 (by decide) ?_ ?_
    · intro c_30_t
      exfalso; omega
    · intro c_30_f
      refine e_aload_n (i := 0) dX4_ask_33 rfl rfl ?_
      refine e_getI (x := nI ql) dX4_ask_34 fl_X4_62 sh_6 fj_6_15 h15 ?_
      refine e_sipush (v := 200) dX4_ask_37 (by decide) ?_
      refine b_icmp_ge (X := ((ql : Nat) : Int)) (Y := 200) (tgt := 66) (nI_toInt (by omega)) (by decide) dX4_ask_40 (by decide) ?_ ?_
      · intro c_40_t
        exfalso; omega
      · intro c_40_f
        refine e_aload_n (i := 0) dX4_ask_43 rfl rfl ?_
        refine e_getR (r := 19) dX4_ask_44 fl_X4_25 sh_6 fj_6_3 ?_
        refine e_aload_n (i := 0) dX4_ask_47 rfl rfl ?_
        refine e_getI (x := nI ql) dX4_ask_48 fl_X4_62 sh_6 fj_6_15 h15 ?_
        refine e_iload_n (i := 1) dX4_ask_51 rfl rfl ?_
        refine e_bipush (v := 100) dX4_ask_52 (by decide) ?_
        refine z_imul (z := nI (100 * d)) (by rw [nI_mulc, Nat.mul_comm]) dX4_ask_54 ?_
        refine e_aload_n (i := 0) dX4_ask_55 rfl rfl ?_
        refine e_getI (x := nI v) dX4_ask_56 fl_X4_89 sh_6 fj_6_8 h68 ?_
        refine e_bipush (v := 10) dX4_ask_59 (by decide) ?_
        refine z_imul (z := nI (10 * v)) (by rw [nI_mulc, Nat.mul_comm]) dX4_ask_61 ?_
        refine z_iadd (z := nI (100 * d + 10 * v)) (nI_add _ _) dX4_ask_62 ?_
        refine e_iload_n (i := 3) dX4_ask_63 rfl rfl ?_
        refine z_iadd (z := nI (100 * d + 10 * v + 9)) (nI_addc _ 9) dX4_ask_64 ?_
        refine e_iast dX4_ask_65 sh_19 (vin_ofX (X := ((ql : Nat) : Int)) (nI_toInt (by omega)) (by omega) (by omega)) ?_
        rw [nI_clamp (by omega)]
        refine e_aload_n (i := 0) dX4_ask_66 rfl rfl ?_
        refine e_dup dX4_ask_67 ?_
        refine e_getI (x := nI ql) dX4_ask_68 fl_X4_62 sh_6 fj_6_15 h15 ?_
        refine e_iconst (v := 1) dX4_ask_71 (by decide) ?_
        refine z_iadd (z := nI (ql + 1)) (nI_addc _ 1) dX4_ask_72 ?_
        refine e_putI dX4_ask_73 fl_X4_62 fp_X4_15 sh_6 fj_6_15 ?_
        refine e_iload_n (i := 2) dX4_ask_76 rfl rfl ?_
        refine e_iconst (v := (-1)) dX4_ask_77 (by decide) ?_
        refine b_icmp_eq (X := (-1)) (Y := (-1)) (tgt := 124) (by decide) (by decide) dX4_ask_78 (by decide) ?_ ?_
        · intro e_78_t c_78_t
          refine e_aload_n (i := 0) dX4_ask_124 rfl rfl ?_
          refine e_getI (x := nI u) dX4_ask_125 fl_X4_50 sh_6 fj_6_11 h11 ?_
          refine e_aload_n (i := 0) dX4_ask_128 rfl rfl ?_
          refine e_getD (r := rc) dX4_ask_129 fl_X4_33 sh_6 fj_6_4 ((congrArg Int32.toNatClampNeg (show _ = nI rc from h64)).trans (nI_clamp (by omega))) ?_
          refine e_getI (x := nI rl) dX4_ask_132 fl_X4_177 hS rfl (by first | exact hrl2 _ _ _ _ | exact hrl3 _ _) ?_
          refine b_icmp_ge (X := ((u : Nat) : Int)) (Y := ((rl : Nat) : Int)) (tgt := 166) (nI_toInt (by omega)) (nI_toInt (by omega)) dX4_ask_135 (by decide) ?_ ?_
          · intro c_135_t
            exfalso; omega
          · intro c_135_f
            refine e_aload_n (i := 0) dX4_ask_138 rfl rfl ?_
            refine e_aload_n (i := 0) dX4_ask_139 rfl rfl ?_
            refine e_getD (r := rc) dX4_ask_140 fl_X4_33 sh_6 fj_6_4 ((congrArg Int32.toNatClampNeg (show _ = nI rc from h64)).trans (nI_clamp (by omega))) ?_
            refine e_aload_n (i := 0) dX4_ask_143 rfl rfl ?_
            refine e_getI (x := nI u) dX4_ask_144 fl_X4_50 sh_6 fj_6_11 h11 ?_
            refine e_invVi (As := [.inl (nI u)]) (v := nI w) (h2 := (hs (hs h 19 ql (nI (100 * d + 10 * v + 9))) 6 15 (nI (ql + 1)))) dX4_ask_147 lk_X4_182 yv_X3_value rfl rfl rfl (Nat.le_of_ble_eq_true rfl) hS ci_X3 (Nat.le_of_ble_eq_true rfl) ⟨Nat.le_of_ble_eq_true rfl, Nat.le_of_ble_eq_true rfl⟩ (by have q9 := k_R_value l hS hA (hs (hs h 19 ql (nI (100 * d + 10 * v + 9))) 6 15 (nI (ql + 1))) (nI u); rw [rVal_in (n := rl) (by first | exact hrl2 _ _ _ _ | exact hrl3 _ _) (by omega) hrl8] at q9; rw [show (hs (hs h 19 ql (nI (100 * d + 10 * v + 9))) 6 15 (nI (ql + 1))) rr u = nI w from by first | (rw [hs_ne _ _ (by omega), hs_ne _ _ (by omega)]; exact hw) | (rw [hs_ne _ _ (by omega)]; exact hw)] at q9; exact q9) ?_
            refine e_invVv (As := [.inl (nI w)]) (h2 := (hs (hs (hs (hs h 19 ql (nI (100 * d + 10 * v + 9))) 6 15 (nI (ql + 1))) 6 8 (nI w)) 6 5 0)) (ty := .int) (v := 0) dX4_ask_150 lk_X4_101 yv_X4_give rfl rfl rfl (Nat.le_of_ble_eq_true rfl) sh_6 ci_X4 (Nat.le_of_ble_eq_true rfl) ⟨Nat.le_of_ble_eq_true rfl, Nat.le_of_ble_eq_true rfl⟩ (k_X_give l (hs (hs h 19 ql (nI (100 * d + 10 * v + 9))) 6 15 (nI (ql + 1))) (nI w)) ?_
            refine e_aload_n (i := 0) dX4_ask_153 rfl rfl ?_
            refine e_dup dX4_ask_154 ?_
            refine e_getI (x := nI u) dX4_ask_155 fl_X4_50 sh_6 fj_6_11 h11 ?_
            refine e_iconst (v := 1) dX4_ask_158 (by decide) ?_
            refine z_iadd (z := nI (u + 1)) (nI_addc _ 1) dX4_ask_159 ?_
            refine e_putI dX4_ask_160 fl_X4_50 fp_X4_11 sh_6 fj_6_11 ?_
            refine e_goto (tgt := 185) dX4_ask_163 (by decide) ?_
            refine e_ret dX4_ask_185 rfl ?_
            rw [anH_1 _ _ hql] at hR
            exact hR
        · intro e_78_f c_78_f
          exfalso; omega
set_option maxHeartbeats 1000000 in
theorem k_X_ask0es (l : Launch) (h : mH) (d v ql : Nat) (hd : d < 3) (hv : v < 8) (hq : ql < 100000) (h68 : h 6 8 = nI v) (h15 : h 6 15 = nI ql) (hql : ql < 200) (rc rr u rl : Nat) (hS : Sh0[rc]? = some (.inl (3, [rr + 3, 0]))) (hA : Sh0[rr]? = some (.inr 8)) (hrc : rc = 3 ∨ rc = 4 ∨ rc = 5) (hrr : 16 ≤ rr ∧ rr ≤ 18) (h64 : h 6 4 = nI rc) (h11 : h 6 11 = nI u) (hrl : h rc 1 = nI rl) (hrl8 : rl ≤ 8) (hu8 : u ≤ rl) (hu : u = rl) : mD l Sh0 iX4_ask [.inr 6, .inl (nI d), .inl (-1)] h (none) (hs (hs (hs (hs (anH h ql (nI (100 * d + 10 * v + 9))) 6 15 (nI (ql + 1))) 6 9 8) 6 12 (nI d)) 6 13 (nI v)) := by
  have hrl2 : ∀ (a b : Nat) (x y : Int32), hs (hs h 19 a x) 6 b y rc 1 = nI rl := fun a b x y => by rw [hs_ne _ _ (by omega), hs_ne _ _ (by omega)]; exact hrl
  have hrl3 : ∀ (b : Nat) (y : Int32), hs h 6 b y rc 1 = nI rl := fun b y => by rw [hs_ne _ _ (by omega)]; exact hrl
  intro RT hR
  show mE l Sh0 none iX4_ask RT 0 [some (.inr 6), some (.inl (nI d)), some (.inl (-1)), none, none] [] h
  refine e_iload_n (i := 2) dX4_ask_0 rfl rfl ?_
  refine e_iconst (v := (-1)) dX4_ask_1 (by decide) ?_
  refine b_icmp_ne (X := (-1)) (Y := (-1)) (tgt := 10) (by decide) (by decide) dX4_ask_2 (by decide) ?_ ?_
  · intro e_2_t c_2_t
    exfalso; omega
  · intro e_2_f c_2_f
    refine e_bipush (v := 9) dX4_ask_5 (by decide) ?_
    refine e_goto (tgt := 25) dX4_ask_7 (by decide) ?_
    refine e_istore_n (i := 3) (ls2 := [some (.inr 6), some (.inl (nI d)), some (.inl (-1)), some (.inl 9), none]) dX4_ask_25 rfl (Nat.le_of_ble_eq_true rfl) rfl ?_
    refine e_aload_n (i := 0) dX4_ask_26 rfl rfl ?_
    refine e_getI (x := nI ql) dX4_ask_27 fl_X4_62 sh_6 fj_6_15 h15 ?_
    refine b_if_lt (X := ((ql : Nat) : Int)) (tgt := 66) (nI_toInt (by omega)) dX4_ask_30 (by decide) ?_ ?_
    · intro c_30_t
      exfalso; omega
    · intro c_30_f
      refine e_aload_n (i := 0) dX4_ask_33 rfl rfl ?_
      refine e_getI (x := nI ql) dX4_ask_34 fl_X4_62 sh_6 fj_6_15 h15 ?_
      refine e_sipush (v := 200) dX4_ask_37 (by decide) ?_
      refine b_icmp_ge (X := ((ql : Nat) : Int)) (Y := 200) (tgt := 66) (nI_toInt (by omega)) (by decide) dX4_ask_40 (by decide) ?_ ?_
      · intro c_40_t
        exfalso; omega
      · intro c_40_f
        refine e_aload_n (i := 0) dX4_ask_43 rfl rfl ?_
        refine e_getR (r := 19) dX4_ask_44 fl_X4_25 sh_6 fj_6_3 ?_
        refine e_aload_n (i := 0) dX4_ask_47 rfl rfl ?_
        refine e_getI (x := nI ql) dX4_ask_48 fl_X4_62 sh_6 fj_6_15 h15 ?_
        refine e_iload_n (i := 1) dX4_ask_51 rfl rfl ?_
        refine e_bipush (v := 100) dX4_ask_52 (by decide) ?_
        refine z_imul (z := nI (100 * d)) (by rw [nI_mulc, Nat.mul_comm]) dX4_ask_54 ?_
        refine e_aload_n (i := 0) dX4_ask_55 rfl rfl ?_
        refine e_getI (x := nI v) dX4_ask_56 fl_X4_89 sh_6 fj_6_8 h68 ?_
        refine e_bipush (v := 10) dX4_ask_59 (by decide) ?_
        refine z_imul (z := nI (10 * v)) (by rw [nI_mulc, Nat.mul_comm]) dX4_ask_61 ?_
        refine z_iadd (z := nI (100 * d + 10 * v)) (nI_add _ _) dX4_ask_62 ?_
        refine e_iload_n (i := 3) dX4_ask_63 rfl rfl ?_
        refine z_iadd (z := nI (100 * d + 10 * v + 9)) (nI_addc _ 9) dX4_ask_64 ?_
        refine e_iast dX4_ask_65 sh_19 (vin_ofX (X := ((ql : Nat) : Int)) (nI_toInt (by omega)) (by omega) (by omega)) ?_
        rw [nI_clamp (by omega)]
        refine e_aload_n (i := 0) dX4_ask_66 rfl rfl ?_
        refine e_dup dX4_ask_67 ?_
        refine e_getI (x := nI ql) dX4_ask_68 fl_X4_62 sh_6 fj_6_15 h15 ?_
        refine e_iconst (v := 1) dX4_ask_71 (by decide) ?_
        refine z_iadd (z := nI (ql + 1)) (nI_addc _ 1) dX4_ask_72 ?_
        refine e_putI dX4_ask_73 fl_X4_62 fp_X4_15 sh_6 fj_6_15 ?_
        refine e_iload_n (i := 2) dX4_ask_76 rfl rfl ?_
        refine e_iconst (v := (-1)) dX4_ask_77 (by decide) ?_
        refine b_icmp_eq (X := (-1)) (Y := (-1)) (tgt := 124) (by decide) (by decide) dX4_ask_78 (by decide) ?_ ?_
        · intro e_78_t c_78_t
          refine e_aload_n (i := 0) dX4_ask_124 rfl rfl ?_
          refine e_getI (x := nI u) dX4_ask_125 fl_X4_50 sh_6 fj_6_11 h11 ?_
          refine e_aload_n (i := 0) dX4_ask_128 rfl rfl ?_
          refine e_getD (r := rc) dX4_ask_129 fl_X4_33 sh_6 fj_6_4 ((congrArg Int32.toNatClampNeg (show _ = nI rc from h64)).trans (nI_clamp (by omega))) ?_
          refine e_getI (x := nI rl) dX4_ask_132 fl_X4_177 hS rfl (by first | exact hrl2 _ _ _ _ | exact hrl3 _ _) ?_
          refine b_icmp_ge (X := ((u : Nat) : Int)) (Y := ((rl : Nat) : Int)) (tgt := 166) (nI_toInt (by omega)) (nI_toInt (by omega)) dX4_ask_135 (by decide) ?_ ?_
          · intro c_135_t
            refine e_aload_n (i := 0) dX4_ask_166 rfl rfl ?_
            refine e_bipush (v := 8) dX4_ask_167 (by decide) ?_
            refine e_putI dX4_ask_169 fl_X4_44 fp_X4_9 sh_6 fj_6_9 ?_
            refine e_aload_n (i := 0) dX4_ask_172 rfl rfl ?_
            refine e_iload_n (i := 1) dX4_ask_173 rfl rfl ?_
            refine e_putI dX4_ask_174 fl_X4_53 fp_X4_12 sh_6 fj_6_12 ?_
            refine e_aload_n (i := 0) dX4_ask_177 rfl rfl ?_
            refine e_aload_n (i := 0) dX4_ask_178 rfl rfl ?_
            refine e_getI (x := nI v) dX4_ask_179 fl_X4_89 sh_6 fj_6_8 h68 ?_
            refine e_putI dX4_ask_182 fl_X4_56 fp_X4_13 sh_6 fj_6_13 ?_
            refine e_ret dX4_ask_185 rfl ?_
            rw [anH_1 _ _ hql] at hR
            exact hR
          · intro c_135_f
            exfalso; omega
        · intro e_78_f c_78_f
          exfalso; omega
set_option maxHeartbeats 1000000 in
theorem k_X_ask1b (l : Launch) (h : mH) (d v ql : Nat) (hd : d < 3) (hv : v < 8) (hq : ql < 100000) (h68 : h 6 8 = nI v) (h15 : h 6 15 = nI ql) (hql : ¬ ql < 200) (sg : Nat → Int32) (i made cm pl w c hd2 : Nat) (hm : h 7 2 = nI made) (hi : i < made) (hM : made ≤ 8200) (hmk : h 20 i = nI (pl + 1024 * w + 16384 * c)) (hp8 : pl + 1 < 800) (hw : w < 16) (hc : c < 65536) (kH : ∀ h2 : mH, h2 13 = h 13 → mD l Sh0 iX0_hand [.inr 2, .inl (nI pl)] h2 (some (nI hd2)) h2) (hcm : h 8 3 = nI cm) (hc2 : cm < 201) : mD l Sh0 iX4_ask [.inr 6, .inl (nI d), .inl (nI i)] h (none) (entH (hs (hs (anH h ql (nI (100 * d + 10 * v + hd2))) 6 15 (nI (ql + 1))) 7 3 (h 21 i)) cm (nI (4 + 4 * hd2 + d)) (nI v) (h 7 3) (nI i)) := by
  intro RT hR
  show mE l Sh0 none iX4_ask RT 0 [some (.inr 6), some (.inl (nI d)), some (.inl (nI i)), none, none] [] h
  refine e_iload_n (i := 2) dX4_ask_0 rfl rfl ?_
  refine e_iconst (v := (-1)) dX4_ask_1 (by decide) ?_
  refine b_icmp_ne (X := ((i : Nat) : Int)) (Y := (-1)) (tgt := 10) (nI_toInt (by omega)) (by decide) dX4_ask_2 (by decide) ?_ ?_
  · intro e_2_t c_2_t
    refine e_aload_n (i := 0) dX4_ask_10 rfl rfl ?_
    refine e_getR (r := 2) dX4_ask_11 fl_X4_29 sh_6 fj_6_0 ?_
    refine e_aload_n (i := 0) dX4_ask_14 rfl rfl ?_
    refine e_getR (r := 7) dX4_ask_15 fl_X4_12 sh_6 fj_6_1 ?_
    refine e_iload_n (i := 2) dX4_ask_18 rfl rfl ?_
    refine e_invVi (As := [.inl (nI i)]) (v := nI pl) (h2 := h) dX4_ask_19 lk_X4_118 yv_X5_place rfl rfl rfl (Nat.le_of_ble_eq_true rfl) sh_7 ci_X5 (Nat.le_of_ble_eq_true rfl) ⟨Nat.le_of_ble_eq_true rfl, Nat.le_of_ble_eq_true rfl⟩ (k_T_placeX l h i made hm hi hM hmk (by omega) hw hc) ?_
    refine e_invVi (As := [.inl (nI pl)]) (v := nI hd2) (h2 := h) dX4_ask_22 lk_X4_138 yv_X0_hand rfl rfl rfl (Nat.le_of_ble_eq_true rfl) sh_2 ci_X0 (Nat.le_of_ble_eq_true rfl) ⟨Nat.le_of_ble_eq_true rfl, Nat.le_of_ble_eq_true rfl⟩ (kH h rfl) ?_
    refine e_istore_n (i := 3) (ls2 := [some (.inr 6), some (.inl (nI d)), some (.inl (nI i)), some (.inl (nI hd2)), none]) dX4_ask_25 rfl (Nat.le_of_ble_eq_true rfl) rfl ?_
    refine e_aload_n (i := 0) dX4_ask_26 rfl rfl ?_
    refine e_getI (x := nI ql) dX4_ask_27 fl_X4_62 sh_6 fj_6_15 h15 ?_
    refine b_if_lt (X := ((ql : Nat) : Int)) (tgt := 66) (nI_toInt (by omega)) dX4_ask_30 (by decide) ?_ ?_
    · intro c_30_t
      exfalso; omega
    · intro c_30_f
      refine e_aload_n (i := 0) dX4_ask_33 rfl rfl ?_
      refine e_getI (x := nI ql) dX4_ask_34 fl_X4_62 sh_6 fj_6_15 h15 ?_
      refine e_sipush (v := 200) dX4_ask_37 (by decide) ?_
      refine b_icmp_ge (X := ((ql : Nat) : Int)) (Y := 200) (tgt := 66) (nI_toInt (by omega)) (by decide) dX4_ask_40 (by decide) ?_ ?_
      · intro c_40_t
        refine e_aload_n (i := 0) dX4_ask_66 rfl rfl ?_
        refine e_dup dX4_ask_67 ?_
        refine e_getI (x := nI ql) dX4_ask_68 fl_X4_62 sh_6 fj_6_15 h15 ?_
        refine e_iconst (v := 1) dX4_ask_71 (by decide) ?_
        refine z_iadd (z := nI (ql + 1)) (nI_addc _ 1) dX4_ask_72 ?_
        refine e_putI dX4_ask_73 fl_X4_62 fp_X4_15 sh_6 fj_6_15 ?_
        refine e_iload_n (i := 2) dX4_ask_76 rfl rfl ?_
        refine e_iconst (v := (-1)) dX4_ask_77 (by decide) ?_
        refine b_icmp_eq (X := ((i : Nat) : Int)) (Y := (-1)) (tgt := 124) (nI_toInt (by omega)) (by decide) dX4_ask_78 (by decide) ?_ ?_
        · intro e_78_t c_78_t
          exfalso; omega
        · intro e_78_f c_78_f
          refine e_aload_n (i := 0) dX4_ask_81 rfl rfl ?_
          refine e_getR (r := 7) dX4_ask_82 fl_X4_12 sh_6 fj_6_1 ?_
          refine e_getI (x := h 7 3) dX4_ask_85 fl_X4_115 sh_7 fj_7_3 rfl ?_
          refine e_istore (ls2 := [some (.inr 6), some (.inl (nI d)), some (.inl (nI i)), some (.inl (nI hd2)), some (.inl (h 7 3))]) dX4_ask_88 (Nat.le_of_ble_eq_true rfl) rfl ?_
          refine e_aload_n (i := 0) dX4_ask_90 rfl rfl ?_
          refine e_getR (r := 7) dX4_ask_91 fl_X4_12 sh_6 fj_6_1 ?_
          refine e_aload_n (i := 0) dX4_ask_94 rfl rfl ?_
          refine e_getR (r := 7) dX4_ask_95 fl_X4_12 sh_6 fj_6_1 ?_
          refine e_iload_n (i := 2) dX4_ask_98 rfl rfl ?_
          refine e_invVi (As := [.inl (nI i)]) (v := h 21 i) (h2 := (hs h 6 15 (nI (ql + 1)))) dX4_ask_99 lk_X4_132 yv_X5_below rfl rfl rfl (Nat.le_of_ble_eq_true rfl) sh_7 ci_X5 (Nat.le_of_ble_eq_true rfl) ⟨Nat.le_of_ble_eq_true rfl, Nat.le_of_ble_eq_true rfl⟩ (k_T_belowX l (hs h 6 15 (nI (ql + 1))) i made hm hi hM rfl) ?_
          refine e_putI dX4_ask_102 fl_X4_115 fp_X5_3 sh_7 fj_7_3 ?_
          refine e_aload_n (i := 0) dX4_ask_105 rfl rfl ?_
          refine e_iload_n (i := 3) dX4_ask_106 rfl rfl ?_
          refine e_iload_n (i := 1) dX4_ask_107 rfl rfl ?_
          refine e_invSi (As := [.inl (nI hd2), .inl (nI d)]) (v := nI (4 + 4 * hd2 + d)) (h2 := (hs (hs h 6 15 (nI (ql + 1))) 7 3 (h 21 i))) dX4_ask_108 lk_X4_162 ys_X7_pageOf rfl rfl rfl (Nat.le_of_ble_eq_true rfl) (Nat.le_of_ble_eq_true rfl) ⟨Nat.le_of_ble_eq_true rfl, Nat.le_of_ble_eq_true rfl⟩ (k_pageOfX l (hs (hs h 6 15 (nI (ql + 1))) 7 3 (h 21 i)) hd2 d) ?_
          refine e_aload_n (i := 0) dX4_ask_111 rfl rfl ?_
          refine e_getI (x := nI v) dX4_ask_112 fl_X4_89 sh_6 fj_6_8 h68 ?_
          refine e_iload dX4_ask_115 rfl ?_
          refine e_iload_n (i := 2) dX4_ask_117 rfl rfl ?_
          refine e_invVv (As := [.inl (nI (4 + 4 * hd2 + d)), .inl (nI v), .inl (h 7 3), .inl (nI i)]) (h2 := (entH (hs (hs h 6 15 (nI (ql + 1))) 7 3 (h 21 i)) cm (nI (4 + 4 * hd2 + d)) (nI v) (h 7 3) (nI i))) (ty := .int) (v := 0) dX4_ask_118 lk_X4_65 yv_X4_enter rfl rfl rfl (Nat.le_of_ble_eq_true rfl) sh_6 ci_X4 (Nat.le_of_ble_eq_true rfl) ⟨Nat.le_of_ble_eq_true rfl, Nat.le_of_ble_eq_true rfl⟩ (k_X_enter l (hs (hs h 6 15 (nI (ql + 1))) 7 3 (h 21 i)) cm hcm hc2 (nI (4 + 4 * hd2 + d)) (nI v) (h 7 3) (nI i)) ?_
          refine e_goto (tgt := 185) dX4_ask_121 (by decide) ?_
          refine e_ret dX4_ask_185 rfl ?_
          rw [anH_0 _ _ hql] at hR
          exact hR
      · intro c_40_f
        exfalso; omega
  · intro e_2_f c_2_f
    exfalso; omega
set_option maxHeartbeats 1000000 in
theorem k_X_ask0rb (l : Launch) (h : mH) (d v ql : Nat) (hd : d < 3) (hv : v < 8) (hq : ql < 100000) (h68 : h 6 8 = nI v) (h15 : h 6 15 = nI ql) (hql : ¬ ql < 200) (rc rr u rl : Nat) (hS : Sh0[rc]? = some (.inl (3, [rr + 3, 0]))) (hA : Sh0[rr]? = some (.inr 8)) (hrc : rc = 3 ∨ rc = 4 ∨ rc = 5) (hrr : 16 ≤ rr ∧ rr ≤ 18) (h64 : h 6 4 = nI rc) (h11 : h 6 11 = nI u) (hrl : h rc 1 = nI rl) (hrl8 : rl ≤ 8) (hu8 : u ≤ rl) (w : Nat) (hw : h rr u = nI w) (hu : u < rl) : mD l Sh0 iX4_ask [.inr 6, .inl (nI d), .inl (-1)] h (none) (hs (hs (hs (hs (anH h ql (nI (100 * d + 10 * v + 9))) 6 15 (nI (ql + 1))) 6 8 (nI w)) 6 5 0) 6 11 (nI (u + 1))) := by
  have hrl2 : ∀ (a b : Nat) (x y : Int32), hs (hs h 19 a x) 6 b y rc 1 = nI rl := fun a b x y => by rw [hs_ne _ _ (by omega), hs_ne _ _ (by omega)]; exact hrl
  have hrl3 : ∀ (b : Nat) (y : Int32), hs h 6 b y rc 1 = nI rl := fun b y => by rw [hs_ne _ _ (by omega)]; exact hrl
  intro RT hR
  show mE l Sh0 none iX4_ask RT 0 [some (.inr 6), some (.inl (nI d)), some (.inl (-1)), none, none] [] h
  refine e_iload_n (i := 2) dX4_ask_0 rfl rfl ?_
  refine e_iconst (v := (-1)) dX4_ask_1 (by decide) ?_
  refine b_icmp_ne (X := (-1)) (Y := (-1)) (tgt := 10) (by decide) (by decide) dX4_ask_2 (by decide) ?_ ?_
  · intro e_2_t c_2_t
    exfalso; omega
  · intro e_2_f c_2_f
    refine e_bipush (v := 9) dX4_ask_5 (by decide) ?_
    refine e_goto (tgt := 25) dX4_ask_7 (by decide) ?_
    refine e_istore_n (i := 3) (ls2 := [some (.inr 6), some (.inl (nI d)), some (.inl (-1)), some (.inl 9), none]) dX4_ask_25 rfl (Nat.le_of_ble_eq_true rfl) rfl ?_
    refine e_aload_n (i := 0) dX4_ask_26 rfl rfl ?_
    refine e_getI (x := nI ql) dX4_ask_27 fl_X4_62 sh_6 fj_6_15 h15 ?_
    refine b_if_lt (X := ((ql : Nat) : Int)) (tgt := 66) (nI_toInt (by omega)) dX4_ask_30 (by decide) ?_ ?_
    · intro c_30_t
      exfalso; omega
    · intro c_30_f
      refine e_aload_n (i := 0) dX4_ask_33 rfl rfl ?_
      refine e_getI (x := nI ql) dX4_ask_34 fl_X4_62 sh_6 fj_6_15 h15 ?_
      refine e_sipush (v := 200) dX4_ask_37 (by decide) ?_
      refine b_icmp_ge (X := ((ql : Nat) : Int)) (Y := 200) (tgt := 66) (nI_toInt (by omega)) (by decide) dX4_ask_40 (by decide) ?_ ?_
      · intro c_40_t
        refine e_aload_n (i := 0) dX4_ask_66 rfl rfl ?_
        refine e_dup dX4_ask_67 ?_
        refine e_getI (x := nI ql) dX4_ask_68 fl_X4_62 sh_6 fj_6_15 h15 ?_
        refine e_iconst (v := 1) dX4_ask_71 (by decide) ?_
        refine z_iadd (z := nI (ql + 1)) (nI_addc _ 1) dX4_ask_72 ?_
        refine e_putI dX4_ask_73 fl_X4_62 fp_X4_15 sh_6 fj_6_15 ?_
        refine e_iload_n (i := 2) dX4_ask_76 rfl rfl ?_
        refine e_iconst (v := (-1)) dX4_ask_77 (by decide) ?_
        refine b_icmp_eq (X := (-1)) (Y := (-1)) (tgt := 124) (by decide) (by decide) dX4_ask_78 (by decide) ?_ ?_
        · intro e_78_t c_78_t
          refine e_aload_n (i := 0) dX4_ask_124 rfl rfl ?_
          refine e_getI (x := nI u) dX4_ask_125 fl_X4_50 sh_6 fj_6_11 h11 ?_
          refine e_aload_n (i := 0) dX4_ask_128 rfl rfl ?_
          refine e_getD (r := rc) dX4_ask_129 fl_X4_33 sh_6 fj_6_4 ((congrArg Int32.toNatClampNeg (show _ = nI rc from h64)).trans (nI_clamp (by omega))) ?_
          refine e_getI (x := nI rl) dX4_ask_132 fl_X4_177 hS rfl (by first | exact hrl2 _ _ _ _ | exact hrl3 _ _) ?_
          refine b_icmp_ge (X := ((u : Nat) : Int)) (Y := ((rl : Nat) : Int)) (tgt := 166) (nI_toInt (by omega)) (nI_toInt (by omega)) dX4_ask_135 (by decide) ?_ ?_
          · intro c_135_t
            exfalso; omega
          · intro c_135_f
            refine e_aload_n (i := 0) dX4_ask_138 rfl rfl ?_
            refine e_aload_n (i := 0) dX4_ask_139 rfl rfl ?_
            refine e_getD (r := rc) dX4_ask_140 fl_X4_33 sh_6 fj_6_4 ((congrArg Int32.toNatClampNeg (show _ = nI rc from h64)).trans (nI_clamp (by omega))) ?_
            refine e_aload_n (i := 0) dX4_ask_143 rfl rfl ?_
            refine e_getI (x := nI u) dX4_ask_144 fl_X4_50 sh_6 fj_6_11 h11 ?_
            refine e_invVi (As := [.inl (nI u)]) (v := nI w) (h2 := (hs h 6 15 (nI (ql + 1)))) dX4_ask_147 lk_X4_182 yv_X3_value rfl rfl rfl (Nat.le_of_ble_eq_true rfl) hS ci_X3 (Nat.le_of_ble_eq_true rfl) ⟨Nat.le_of_ble_eq_true rfl, Nat.le_of_ble_eq_true rfl⟩ (by have q9 := k_R_value l hS hA (hs h 6 15 (nI (ql + 1))) (nI u); rw [rVal_in (n := rl) (by first | exact hrl2 _ _ _ _ | exact hrl3 _ _) (by omega) hrl8] at q9; rw [show (hs h 6 15 (nI (ql + 1))) rr u = nI w from by first | (rw [hs_ne _ _ (by omega), hs_ne _ _ (by omega)]; exact hw) | (rw [hs_ne _ _ (by omega)]; exact hw)] at q9; exact q9) ?_
            refine e_invVv (As := [.inl (nI w)]) (h2 := (hs (hs (hs h 6 15 (nI (ql + 1))) 6 8 (nI w)) 6 5 0)) (ty := .int) (v := 0) dX4_ask_150 lk_X4_101 yv_X4_give rfl rfl rfl (Nat.le_of_ble_eq_true rfl) sh_6 ci_X4 (Nat.le_of_ble_eq_true rfl) ⟨Nat.le_of_ble_eq_true rfl, Nat.le_of_ble_eq_true rfl⟩ (k_X_give l (hs h 6 15 (nI (ql + 1))) (nI w)) ?_
            refine e_aload_n (i := 0) dX4_ask_153 rfl rfl ?_
            refine e_dup dX4_ask_154 ?_
            refine e_getI (x := nI u) dX4_ask_155 fl_X4_50 sh_6 fj_6_11 h11 ?_
            refine e_iconst (v := 1) dX4_ask_158 (by decide) ?_
            refine z_iadd (z := nI (u + 1)) (nI_addc _ 1) dX4_ask_159 ?_
            refine e_putI dX4_ask_160 fl_X4_50 fp_X4_11 sh_6 fj_6_11 ?_
            refine e_goto (tgt := 185) dX4_ask_163 (by decide) ?_
            refine e_ret dX4_ask_185 rfl ?_
            rw [anH_0 _ _ hql] at hR
            exact hR
        · intro e_78_f c_78_f
          exfalso; omega
      · intro c_40_f
        exfalso; omega
set_option maxHeartbeats 1000000 in
theorem k_X_ask0eb (l : Launch) (h : mH) (d v ql : Nat) (hd : d < 3) (hv : v < 8) (hq : ql < 100000) (h68 : h 6 8 = nI v) (h15 : h 6 15 = nI ql) (hql : ¬ ql < 200) (rc rr u rl : Nat) (hS : Sh0[rc]? = some (.inl (3, [rr + 3, 0]))) (hA : Sh0[rr]? = some (.inr 8)) (hrc : rc = 3 ∨ rc = 4 ∨ rc = 5) (hrr : 16 ≤ rr ∧ rr ≤ 18) (h64 : h 6 4 = nI rc) (h11 : h 6 11 = nI u) (hrl : h rc 1 = nI rl) (hrl8 : rl ≤ 8) (hu8 : u ≤ rl) (hu : u = rl) : mD l Sh0 iX4_ask [.inr 6, .inl (nI d), .inl (-1)] h (none) (hs (hs (hs (hs (anH h ql (nI (100 * d + 10 * v + 9))) 6 15 (nI (ql + 1))) 6 9 8) 6 12 (nI d)) 6 13 (nI v)) := by
  have hrl2 : ∀ (a b : Nat) (x y : Int32), hs (hs h 19 a x) 6 b y rc 1 = nI rl := fun a b x y => by rw [hs_ne _ _ (by omega), hs_ne _ _ (by omega)]; exact hrl
  have hrl3 : ∀ (b : Nat) (y : Int32), hs h 6 b y rc 1 = nI rl := fun b y => by rw [hs_ne _ _ (by omega)]; exact hrl
  intro RT hR
  show mE l Sh0 none iX4_ask RT 0 [some (.inr 6), some (.inl (nI d)), some (.inl (-1)), none, none] [] h
  refine e_iload_n (i := 2) dX4_ask_0 rfl rfl ?_
  refine e_iconst (v := (-1)) dX4_ask_1 (by decide) ?_
  refine b_icmp_ne (X := (-1)) (Y := (-1)) (tgt := 10) (by decide) (by decide) dX4_ask_2 (by decide) ?_ ?_
  · intro e_2_t c_2_t
    exfalso; omega
  · intro e_2_f c_2_f
    refine e_bipush (v := 9) dX4_ask_5 (by decide) ?_
    refine e_goto (tgt := 25) dX4_ask_7 (by decide) ?_
    refine e_istore_n (i := 3) (ls2 := [some (.inr 6), some (.inl (nI d)), some (.inl (-1)), some (.inl 9), none]) dX4_ask_25 rfl (Nat.le_of_ble_eq_true rfl) rfl ?_
    refine e_aload_n (i := 0) dX4_ask_26 rfl rfl ?_
    refine e_getI (x := nI ql) dX4_ask_27 fl_X4_62 sh_6 fj_6_15 h15 ?_
    refine b_if_lt (X := ((ql : Nat) : Int)) (tgt := 66) (nI_toInt (by omega)) dX4_ask_30 (by decide) ?_ ?_
    · intro c_30_t
      exfalso; omega
    · intro c_30_f
      refine e_aload_n (i := 0) dX4_ask_33 rfl rfl ?_
      refine e_getI (x := nI ql) dX4_ask_34 fl_X4_62 sh_6 fj_6_15 h15 ?_
      refine e_sipush (v := 200) dX4_ask_37 (by decide) ?_
      refine b_icmp_ge (X := ((ql : Nat) : Int)) (Y := 200) (tgt := 66) (nI_toInt (by omega)) (by decide) dX4_ask_40 (by decide) ?_ ?_
      · intro c_40_t
        refine e_aload_n (i := 0) dX4_ask_66 rfl rfl ?_
        refine e_dup dX4_ask_67 ?_
        refine e_getI (x := nI ql) dX4_ask_68 fl_X4_62 sh_6 fj_6_15 h15 ?_
        refine e_iconst (v := 1) dX4_ask_71 (by decide) ?_
        refine z_iadd (z := nI (ql + 1)) (nI_addc _ 1) dX4_ask_72 ?_
        refine e_putI dX4_ask_73 fl_X4_62 fp_X4_15 sh_6 fj_6_15 ?_
        refine e_iload_n (i := 2) dX4_ask_76 rfl rfl ?_
        refine e_iconst (v := (-1)) dX4_ask_77 (by decide) ?_
        refine b_icmp_eq (X := (-1)) (Y := (-1)) (tgt := 124) (by decide) (by decide) dX4_ask_78 (by decide) ?_ ?_
        · intro e_78_t c_78_t
          refine e_aload_n (i := 0) dX4_ask_124 rfl rfl ?_
          refine e_getI (x := nI u) dX4_ask_125 fl_X4_50 sh_6 fj_6_11 h11 ?_
          refine e_aload_n (i := 0) dX4_ask_128 rfl rfl ?_
          refine e_getD (r := rc) dX4_ask_129 fl_X4_33 sh_6 fj_6_4 ((congrArg Int32.toNatClampNeg (show _ = nI rc from h64)).trans (nI_clamp (by omega))) ?_
          refine e_getI (x := nI rl) dX4_ask_132 fl_X4_177 hS rfl (by first | exact hrl2 _ _ _ _ | exact hrl3 _ _) ?_
          refine b_icmp_ge (X := ((u : Nat) : Int)) (Y := ((rl : Nat) : Int)) (tgt := 166) (nI_toInt (by omega)) (nI_toInt (by omega)) dX4_ask_135 (by decide) ?_ ?_
          · intro c_135_t
            refine e_aload_n (i := 0) dX4_ask_166 rfl rfl ?_
            refine e_bipush (v := 8) dX4_ask_167 (by decide) ?_
            refine e_putI dX4_ask_169 fl_X4_44 fp_X4_9 sh_6 fj_6_9 ?_
            refine e_aload_n (i := 0) dX4_ask_172 rfl rfl ?_
            refine e_iload_n (i := 1) dX4_ask_173 rfl rfl ?_
            refine e_putI dX4_ask_174 fl_X4_53 fp_X4_12 sh_6 fj_6_12 ?_
            refine e_aload_n (i := 0) dX4_ask_177 rfl rfl ?_
            refine e_aload_n (i := 0) dX4_ask_178 rfl rfl ?_
            refine e_getI (x := nI v) dX4_ask_179 fl_X4_89 sh_6 fj_6_8 h68 ?_
            refine e_putI dX4_ask_182 fl_X4_56 fp_X4_13 sh_6 fj_6_13 ?_
            refine e_ret dX4_ask_185 rfl ?_
            rw [anH_0 _ _ hql] at hR
            exact hR
          · intro c_135_f
            exfalso; omega
        · intro e_78_f c_78_f
          exfalso; omega
      · intro c_40_f
        exfalso; omega
