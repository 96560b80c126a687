/-! mute, told, run, who. -/
set_option maxHeartbeats 1000000 in
theorem k_D_mute (l : Launch) (h : mH) : mD l Sh0 iX7_mute [.inr 0] h (some (h 3 1)) (hr (hs h 3 1 (nI 0)) 16 (zf (h 16) 0)) := by
  intro RT hR
  show mE l Sh0 none iX7_mute RT 0 [some (.inr 0), none] [] h
  refine e_aload_n (i := 0) dX7_mute_0 rfl rfl ?_
  refine e_getR (r := 3) dX7_mute_1 fl_X7_26 sh_0 fj_0_2 ?_
  refine e_getI (x := h 3 1) dX7_mute_4 fl_X7_98 sh_3 fj_3_1 rfl ?_
  refine e_istore_n (i := 1) (ls2 := [some (.inr 0), some (.inl (h 3 1))]) dX7_mute_7 rfl (Nat.le_of_ble_eq_true rfl) rfl ?_
  refine e_aload_n (i := 0) dX7_mute_8 rfl rfl ?_
  refine e_getR (r := 3) dX7_mute_9 fl_X7_26 sh_0 fj_0_2 ?_
  refine e_iconst (v := 0) dX7_mute_12 (by decide) ?_
  refine e_invVv (As := [.inl 0]) (h2 := (hr (hs h 3 1 (nI 0)) 16 (zf (h 16) 0))) (ty := .int) (v := 0) dX7_mute_13 lk_X7_101 yv_X3_start rfl rfl rfl (Nat.le_of_ble_eq_true rfl) sh_3 ci_X3 (Nat.le_of_ble_eq_true rfl) ⟨Nat.le_of_ble_eq_true rfl, Nat.le_of_ble_eq_true rfl⟩ (k_R_start l (k := 3) (r := 16) rfl rfl h 0 (by omega)) ?_
  refine e_iload_n (i := 1) dX7_mute_16 rfl rfl ?_
  refine e_iret dX7_mute_17 (mret_i _) ?_
  exact hR
set_option maxHeartbeats 1000000 in
theorem k_M_mute (l : Launch) (h : mH) : mD l Sh0 iX8_mute [.inr 10] h (some (h 10 5)) (hs h 10 5 0) := by
  intro RT hR
  show mE l Sh0 none iX8_mute RT 0 [some (.inr 10), none] [] h
  refine e_aload_n (i := 0) dX8_mute_0 rfl rfl ?_
  refine e_getI (x := h 10 5) dX8_mute_1 fl_X8_117 sh_10 fj_10_5 rfl ?_
  refine e_istore_n (i := 1) (ls2 := [some (.inr 10), some (.inl (h 10 5))]) dX8_mute_4 rfl (Nat.le_of_ble_eq_true rfl) rfl ?_
  refine e_aload_n (i := 0) dX8_mute_5 rfl rfl ?_
  refine e_iconst (v := 0) dX8_mute_6 (by decide) ?_
  refine e_putI dX8_mute_7 fl_X8_117 fp_X8_5 sh_10 fj_10_5 ?_
  refine e_iload_n (i := 1) dX8_mute_10 rfl rfl ?_
  refine e_iret dX8_mute_11 (mret_i _) ?_
  exact hR
/-- promise 10 -/
theorem j_mute (l : Launch) (h : mH) (hI : Inv h) : jP l iX7_mute iX8_mute [] h := by
  obtain ⟨n, pd, sg, ln, sz, r, ⟨w1, w2, w3, w4, w5, w6⟩, c, m⟩ := hI
  obtain ⟨c1, c2, ⟨c3, c4, c5⟩, c6, c7, c8⟩ := c
  obtain ⟨m1, m2, ⟨m3, m4, m5⟩, m6, m7⟩ := m
  have e : hr (hs h 3 1 (nI 0)) 16 (zf (h 16) 0) 10 5 = h 3 1 := m6.trans c6.symm
  have km := k_M_mute l (hr (hs h 3 1 (nI 0)) 16 (zf (h 16) 0))
  rw [e] at km
  exact jP_D (k_D_mute l h) km ⟨n, pd, sg, ln, sz, [], ⟨w1, w2, w3, w4, by simp, fun z hz => by cases hz⟩, ⟨c1, c2, ⟨c3, c4, c5⟩, rfl, by simp, fun i hi => by cases hi⟩, m1, m2, ⟨m3, m4, m5⟩, rfl, fun i hi => by cases hi⟩
theorem sub10 {x : Int32} (h : 10 ≤ x.toInt) : x - 10 = nI (x.toInt - 10).toNat := by
  have e7 : x = nI x.toInt.toNat := nI_ofInt (by omega)
  have hhi := i32_hi x
  rw [e7, nI_subc 10 (by omega), nI_toInt (by omega)]
  congr 1
  omega
set_option maxHeartbeats 1000000 in
theorem k_D_told0 (l : Launch) (h : mH) (x : Int32) (hx : x.toInt = 0) : mD l Sh0 iX7_told [.inr 0, .inl x] h (some (h 1 2)) h := by
  intro RT hR
  show mE l Sh0 none iX7_told RT 0 [some (.inr 0), some (.inl x)] [] h
  refine e_iload_n (i := 1) dX7_told_0 rfl rfl ?_
  refine b_if_ne (X := x.toInt) (tgt := 12) rfl dX7_told_1 (by decide) ?_ ?_
  · intro e_1_t c_1_t
    exfalso; omega
  · intro e_1_f c_1_f
    refine e_aload_n (i := 0) dX7_told_4 rfl rfl ?_
    refine e_getR (r := 1) dX7_told_5 fl_X7_12 sh_0 fj_0_0 ?_
    refine e_getI (x := h 1 2) dX7_told_8 fl_X7_62 sh_1 fj_1_2 rfl ?_
    refine e_iret dX7_told_11 (mret_i _) ?_
    exact hR
set_option maxHeartbeats 1000000 in
theorem k_D_told1 (l : Launch) (h : mH) (x : Int32) (hx : x.toInt = 1) : mD l Sh0 iX7_told [.inr 0, .inl x] h (some (h 3 1)) h := by
  intro RT hR
  show mE l Sh0 none iX7_told RT 0 [some (.inr 0), some (.inl x)] [] h
  refine e_iload_n (i := 1) dX7_told_0 rfl rfl ?_
  refine b_if_ne (X := x.toInt) (tgt := 12) rfl dX7_told_1 (by decide) ?_ ?_
  · intro e_1_t c_1_t
    refine e_iload_n (i := 1) dX7_told_12 rfl rfl ?_
    refine e_iconst (v := 1) dX7_told_13 (by decide) ?_
    refine b_icmp_ne (X := x.toInt) (Y := 1) (tgt := 25) rfl (by decide) dX7_told_14 (by decide) ?_ ?_
    · intro e_14_t c_14_t
      exfalso; omega
    · intro e_14_f c_14_f
      refine e_aload_n (i := 0) dX7_told_17 rfl rfl ?_
      refine e_getR (r := 3) dX7_told_18 fl_X7_26 sh_0 fj_0_2 ?_
      refine e_getI (x := h 3 1) dX7_told_21 fl_X7_98 sh_3 fj_3_1 rfl ?_
      refine e_iret dX7_told_24 (mret_i _) ?_
      exact hR
  · intro e_1_f c_1_f
    exfalso; omega
set_option maxHeartbeats 1000000 in
theorem k_D_told10 (l : Launch) (h : mH) (x : Int32) (hx : 10 ≤ x.toInt ∧ x.toInt ≤ 13) (z : Int32) (hz : h 15 (x.toInt - 10).toNat = z) : mD l Sh0 iX7_told [.inr 0, .inl x] h (some z) h := by
  intro RT hR
  show mE l Sh0 none iX7_told RT 0 [some (.inr 0), some (.inl x)] [] h
  refine e_iload_n (i := 1) dX7_told_0 rfl rfl ?_
  refine b_if_ne (X := x.toInt) (tgt := 12) rfl dX7_told_1 (by decide) ?_ ?_
  · intro e_1_t c_1_t
    refine e_iload_n (i := 1) dX7_told_12 rfl rfl ?_
    refine e_iconst (v := 1) dX7_told_13 (by decide) ?_
    refine b_icmp_ne (X := x.toInt) (Y := 1) (tgt := 25) rfl (by decide) dX7_told_14 (by decide) ?_ ?_
    · intro e_14_t c_14_t
      refine e_iload_n (i := 1) dX7_told_25 rfl rfl ?_
      refine e_bipush (v := 10) dX7_told_26 (by decide) ?_
      refine b_icmp_lt (X := x.toInt) (Y := 10) (tgt := 51) rfl (by decide) dX7_told_28 (by decide) ?_ ?_
      · intro c_28_t
        exfalso; omega
      · intro c_28_f
        refine e_iload_n (i := 1) dX7_told_31 rfl rfl ?_
        refine e_bipush (v := 14) dX7_told_32 (by decide) ?_
        refine b_icmp_ge (X := x.toInt) (Y := 14) (tgt := 51) rfl (by decide) dX7_told_34 (by decide) ?_ ?_
        · intro c_34_t
          exfalso; omega
        · intro c_34_f
          refine e_aload_n (i := 0) dX7_told_37 rfl rfl ?_
          refine e_getR (r := 2) dX7_told_38 fl_X7_19 sh_0 fj_0_1 ?_
          refine e_iload_n (i := 1) dX7_told_41 rfl rfl ?_
          refine e_bipush (v := 10) dX7_told_42 (by decide) ?_
          refine z_isub (z := nI ((x.toInt - 10).toNat)) (sub10 hx.1) dX7_told_44 ?_
          refine e_invVi (As := [.inl (nI ((x.toInt - 10).toNat))]) (v := z) (h2 := h) dX7_told_45 lk_X7_85 yv_X0_size rfl rfl rfl (Nat.le_of_ble_eq_true rfl) sh_2 ci_X0 (Nat.le_of_ble_eq_true rfl) ⟨Nat.le_of_ble_eq_true rfl, Nat.le_of_ble_eq_true rfl⟩ (k_B_sizeX l h (x.toInt - 10).toNat (by omega) hz) ?_
          refine e_goto (tgt := 53) dX7_told_48 (by decide) ?_
          refine e_iret dX7_told_53 (mret_i _) ?_
          exact hR
    · intro e_14_f c_14_f
      exfalso; omega
  · intro e_1_f c_1_f
    exfalso; omega
set_option maxHeartbeats 1000000 in
theorem k_D_told2 (l : Launch) (h : mH) (x : Int32) (h0 : x.toInt ≠ 0) (h1 : x.toInt ≠ 1) (hx : ¬ (10 ≤ x.toInt ∧ x.toInt ≤ 13)) : mD l Sh0 iX7_told [.inr 0, .inl x] h (some (-2)) h := by
  intro RT hR
  show mE l Sh0 none iX7_told RT 0 [some (.inr 0), some (.inl x)] [] h
  refine e_iload_n (i := 1) dX7_told_0 rfl rfl ?_
  refine b_if_ne (X := x.toInt) (tgt := 12) rfl dX7_told_1 (by decide) ?_ ?_
  · intro e_1_t c_1_t
    refine e_iload_n (i := 1) dX7_told_12 rfl rfl ?_
    refine e_iconst (v := 1) dX7_told_13 (by decide) ?_
    refine b_icmp_ne (X := x.toInt) (Y := 1) (tgt := 25) rfl (by decide) dX7_told_14 (by decide) ?_ ?_
    · intro e_14_t c_14_t
      refine e_iload_n (i := 1) dX7_told_25 rfl rfl ?_
      refine e_bipush (v := 10) dX7_told_26 (by decide) ?_
      refine b_icmp_lt (X := x.toInt) (Y := 10) (tgt := 51) rfl (by decide) dX7_told_28 (by decide) ?_ ?_
      · intro c_28_t
        refine e_bipush (v := (-2)) dX7_told_51 (by decide) ?_
        refine e_iret dX7_told_53 (mret_i _) ?_
        exact hR
      · intro c_28_f
        refine e_iload_n (i := 1) dX7_told_31 rfl rfl ?_
        refine e_bipush (v := 14) dX7_told_32 (by decide) ?_
        refine b_icmp_ge (X := x.toInt) (Y := 14) (tgt := 51) rfl (by decide) dX7_told_34 (by decide) ?_ ?_
        · intro c_34_t
          refine e_bipush (v := (-2)) dX7_told_51 (by decide) ?_
          refine e_iret dX7_told_53 (mret_i _) ?_
          exact hR
        · intro c_34_f
          exfalso; omega
    · intro e_14_f c_14_f
      exfalso; omega
  · intro e_1_f c_1_f
    exfalso; omega
set_option maxHeartbeats 1000000 in
theorem k_M_told0 (l : Launch) (h : mH) (x : Int32) (hx : x.toInt = 0) : mD l Sh0 iX8_told [.inr 10, .inl x] h (some (h 10 0)) h := by
  intro RT hR
  show mE l Sh0 none iX8_told RT 0 [some (.inr 10), some (.inl x)] [] h
  refine e_iload_n (i := 1) dX8_told_0 rfl rfl ?_
  refine b_if_ne (X := x.toInt) (tgt := 11) rfl dX8_told_1 (by decide) ?_ ?_
  · intro e_1_t c_1_t
    exfalso; omega
  · intro e_1_f c_1_f
    refine e_aload_n (i := 0) dX8_told_4 rfl rfl ?_
    refine e_getI (x := h 10 0) dX8_told_5 fl_X8_89 sh_10 fj_10_0 rfl ?_
    refine e_goto (tgt := 48) dX8_told_8 (by decide) ?_
    refine e_iret dX8_told_48 (mret_i _) ?_
    exact hR
set_option maxHeartbeats 1000000 in
theorem k_M_told1 (l : Launch) (h : mH) (x : Int32) (hx : x.toInt = 1) : mD l Sh0 iX8_told [.inr 10, .inl x] h (some (h 10 5)) h := by
  intro RT hR
  show mE l Sh0 none iX8_told RT 0 [some (.inr 10), some (.inl x)] [] h
  refine e_iload_n (i := 1) dX8_told_0 rfl rfl ?_
  refine b_if_ne (X := x.toInt) (tgt := 11) rfl dX8_told_1 (by decide) ?_ ?_
  · intro e_1_t c_1_t
    refine e_iload_n (i := 1) dX8_told_11 rfl rfl ?_
    refine e_iconst (v := 1) dX8_told_12 (by decide) ?_
    refine b_icmp_ne (X := x.toInt) (Y := 1) (tgt := 23) rfl (by decide) dX8_told_13 (by decide) ?_ ?_
    · intro e_13_t c_13_t
      exfalso; omega
    · intro e_13_f c_13_f
      refine e_aload_n (i := 0) dX8_told_16 rfl rfl ?_
      refine e_getI (x := h 10 5) dX8_told_17 fl_X8_117 sh_10 fj_10_5 rfl ?_
      refine e_goto (tgt := 48) dX8_told_20 (by decide) ?_
      refine e_iret dX8_told_48 (mret_i _) ?_
      exact hR
  · intro e_1_f c_1_f
    exfalso; omega
set_option maxHeartbeats 1000000 in
theorem k_M_told10 (l : Launch) (h : mH) (x : Int32) (hx : 10 ≤ x.toInt ∧ x.toInt ≤ 13) (z : Int32) (hz : h 29 (x.toInt - 10).toNat = z) : mD l Sh0 iX8_told [.inr 10, .inl x] h (some z) h := by
  intro RT hR
  show mE l Sh0 none iX8_told RT 0 [some (.inr 10), some (.inl x)] [] h
  refine e_iload_n (i := 1) dX8_told_0 rfl rfl ?_
  refine b_if_ne (X := x.toInt) (tgt := 11) rfl dX8_told_1 (by decide) ?_ ?_
  · intro e_1_t c_1_t
    refine e_iload_n (i := 1) dX8_told_11 rfl rfl ?_
    refine e_iconst (v := 1) dX8_told_12 (by decide) ?_
    refine b_icmp_ne (X := x.toInt) (Y := 1) (tgt := 23) rfl (by decide) dX8_told_13 (by decide) ?_ ?_
    · intro e_13_t c_13_t
      refine e_iload_n (i := 1) dX8_told_23 rfl rfl ?_
      refine e_bipush (v := 10) dX8_told_24 (by decide) ?_
      refine e_bipush (v := 13) dX8_told_26 (by decide) ?_
      refine e_invSi (As := [.inl x, .inl 10, .inl 13]) (v := 1) (h2 := h) dX8_told_28 lk_X8_85 ys_X8_in rfl rfl rfl (Nat.le_of_ble_eq_true rfl) (Nat.le_of_ble_eq_true rfl) ⟨Nat.le_of_ble_eq_true rfl, Nat.le_of_ble_eq_true rfl⟩ (k_M_in (Y := 10) (Z := 13) l h x 10 13 rfl (by decide) (by decide) (if_pos hx)) ?_
      refine b_if_eq (X := 1) (tgt := 46) (by decide) dX8_told_31 (by decide) ?_ ?_
      · intro e_31_t c_31_t
        exfalso; omega
      · intro e_31_f c_31_f
        refine e_aload_n (i := 0) dX8_told_34 rfl rfl ?_
        refine e_getR (r := 29) dX8_told_35 fl_X8_13 sh_10 fj_10_2 ?_
        refine e_iload_n (i := 1) dX8_told_38 rfl rfl ?_
        refine e_bipush (v := 10) dX8_told_39 (by decide) ?_
        refine z_isub (z := nI ((x.toInt - 10).toNat)) (sub10 hx.1) dX8_told_41 ?_
        refine e_iald (x := z) dX8_told_42 sh_29 (vin_ofX (X := (((x.toInt - 10).toNat : Nat) : Int)) (nI_toInt (by omega)) (by omega) (by omega)) (by rw [nI_clamp (by omega)]; exact hz) ?_
        refine e_goto (tgt := 48) dX8_told_43 (by decide) ?_
        refine e_iret dX8_told_48 (mret_i _) ?_
        exact hR
    · intro e_13_f c_13_f
      exfalso; omega
  · intro e_1_f c_1_f
    exfalso; omega
set_option maxHeartbeats 1000000 in
theorem k_M_told2 (l : Launch) (h : mH) (x : Int32) (h0 : x.toInt ≠ 0) (h1 : x.toInt ≠ 1) (hx : ¬ (10 ≤ x.toInt ∧ x.toInt ≤ 13)) : mD l Sh0 iX8_told [.inr 10, .inl x] h (some (-2)) h := by
  intro RT hR
  show mE l Sh0 none iX8_told RT 0 [some (.inr 10), some (.inl x)] [] h
  refine e_iload_n (i := 1) dX8_told_0 rfl rfl ?_
  refine b_if_ne (X := x.toInt) (tgt := 11) rfl dX8_told_1 (by decide) ?_ ?_
  · intro e_1_t c_1_t
    refine e_iload_n (i := 1) dX8_told_11 rfl rfl ?_
    refine e_iconst (v := 1) dX8_told_12 (by decide) ?_
    refine b_icmp_ne (X := x.toInt) (Y := 1) (tgt := 23) rfl (by decide) dX8_told_13 (by decide) ?_ ?_
    · intro e_13_t c_13_t
      refine e_iload_n (i := 1) dX8_told_23 rfl rfl ?_
      refine e_bipush (v := 10) dX8_told_24 (by decide) ?_
      refine e_bipush (v := 13) dX8_told_26 (by decide) ?_
      refine e_invSi (As := [.inl x, .inl 10, .inl 13]) (v := 0) (h2 := h) dX8_told_28 lk_X8_85 ys_X8_in rfl rfl rfl (Nat.le_of_ble_eq_true rfl) (Nat.le_of_ble_eq_true rfl) ⟨Nat.le_of_ble_eq_true rfl, Nat.le_of_ble_eq_true rfl⟩ (k_M_in (Y := 10) (Z := 13) l h x 10 13 rfl (by decide) (by decide) (if_neg hx)) ?_
      refine b_if_eq (X := 0) (tgt := 46) (by decide) dX8_told_31 (by decide) ?_ ?_
      · intro e_31_t c_31_t
        refine e_bipush (v := (-2)) dX8_told_46 (by decide) ?_
        refine e_iret dX8_told_48 (mret_i _) ?_
        exact hR
      · intro e_31_f c_31_f
        exfalso; omega
    · intro e_13_f c_13_f
      exfalso; omega
  · intro e_1_f c_1_f
    exfalso; omega
/-- promise 18 -/
theorem j_told (l : Launch) (h : mH) (hI : Inv h) (x : Int32) : jP l iX7_told iX8_told [.inl x] h := by
  have hI0 := hI
  obtain ⟨n, pd, sg, ln, sz, r, w, c, m⟩ := hI
  by_cases h0 : x.toInt = 0
  · have km := k_M_told0 l h x h0
    rw [m.1.trans c.1.symm] at km
    exact jP_D (k_D_told0 l h x h0) km hI0
  · by_cases h1 : x.toInt = 1
    · have km := k_M_told1 l h x h1
      rw [m.2.2.2.1.trans c.2.2.2.1.symm] at km
      exact jP_D (k_D_told1 l h x h1) km hI0
    · by_cases hx : 10 ≤ x.toInt ∧ x.toInt ≤ 13
      · exact jP_D (k_D_told10 l h x hx (nI (sz (x.toInt - 10).toNat)) (c.2.2.1.2.1 _ (by omega))) (k_M_told10 l h x hx (nI (sz (x.toInt - 10).toNat)) (m.2.2.1.2.1 _ (by omega))) hI0
      · exact jP_D (k_D_told2 l h x h0 h1 hx) (k_M_told2 l h x h0 h1 hx) hI0
