/-! run, who. -/
theorem k_cTextX (l : Launch) (h : mH) (x : Int32) {v : Int32} (e : cText x = v) : mD l Sh0 iX7_isText [.inl x] h (some v) h := by
  have q := k_cText l h x
  rw [e] at q
  exact q
set_option maxHeartbeats 1000000 in
theorem k_M_four1 (l : Launch) (h : mH) (x : Int32) (hx : 0 ≤ x.toInt ∧ x.toInt ≤ 3) : mD l Sh0 iX8_isFour [.inl x] h (some 1) h := by
  intro RT hR
  show mE l Sh0 none iX8_isFour RT 0 [some (.inl x)] [] h
  refine e_iload_n (i := 0) dX8_isFour_0 rfl rfl ?_
  refine e_iconst (v := 0) dX8_isFour_1 (by decide) ?_
  refine e_iconst (v := 3) dX8_isFour_2 (by decide) ?_
  refine e_invSi (As := [.inl x, .inl 0, .inl 3]) (v := 1) (h2 := h) dX8_isFour_3 lk_X8_85 ys_X8_in rfl rfl rfl (Nat.le_of_ble_eq_true rfl) (Nat.le_of_ble_eq_true rfl) ⟨Nat.le_of_ble_eq_true rfl, Nat.le_of_ble_eq_true rfl⟩ (k_M_in (Y := 0) (Z := 3) l h x 0 3 rfl (by decide) (by decide) (if_pos hx)) ?_
  refine e_iret dX8_isFour_6 (mret_z (by first | decide | (simp only []; split <;> decide))) ?_
  exact hR
set_option maxHeartbeats 1000000 in
theorem k_M_four0 (l : Launch) (h : mH) (x : Int32) (hx : ¬ (0 ≤ x.toInt ∧ x.toInt ≤ 3)) : mD l Sh0 iX8_isFour [.inl x] h (some 0) h := by
  intro RT hR
  show mE l Sh0 none iX8_isFour RT 0 [some (.inl x)] [] h
  refine e_iload_n (i := 0) dX8_isFour_0 rfl rfl ?_
  refine e_iconst (v := 0) dX8_isFour_1 (by decide) ?_
  refine e_iconst (v := 3) dX8_isFour_2 (by decide) ?_
  refine e_invSi (As := [.inl x, .inl 0, .inl 3]) (v := 0) (h2 := h) dX8_isFour_3 lk_X8_85 ys_X8_in rfl rfl rfl (Nat.le_of_ble_eq_true rfl) (Nat.le_of_ble_eq_true rfl) ⟨Nat.le_of_ble_eq_true rfl, Nat.le_of_ble_eq_true rfl⟩ (k_M_in (Y := 0) (Z := 3) l h x 0 3 rfl (by decide) (by decide) (if_neg hx)) ?_
  refine e_iret dX8_isFour_6 (mret_z (by first | decide | (simp only []; split <;> decide))) ?_
  exact hR
set_option maxHeartbeats 1000000 in
theorem lp_M_give (l : Launch) (h : mH) (n : Nat) (hn : n ≤ 8) (hc : h 10 5 = nI n) (RT : Option Int32 → mH → Prop) (hR : RT none (hr h 47 (cf (h 32) (h 47) n))) : ∀ (d i : Nat), i + d = n → mE l Sh0 none iX8_giveReplies RT 10 [some (.inr 10), some (.inl (nI i))] [] (hr h 47 (cf (h 32) (h 47) i)) := by
  intro d
  induction d with
  | zero =>
    intro i hd
    have hc2 : hr h 47 (cf (h 32) (h 47) i) 10 5 = nI n := hc
    have hrd : hr h 47 (cf (h 32) (h 47) i) 32 i = h 32 i := rfl
    refine e_iload_n (i := 1) dX8_giveReplies_10 rfl rfl ?_
    refine e_aload_n (i := 0) dX8_giveReplies_11 rfl rfl ?_
    refine e_getI (x := nI n) dX8_giveReplies_12 fl_X8_117 sh_10 fj_10_5 hc2 ?_
    refine b_icmp_ge (X := ((i : Nat) : Int)) (Y := ((n : Nat) : Int)) (tgt := 36) (nI_toInt (by omega)) (nI_toInt (by omega)) dX8_giveReplies_15 (by decide) ?_ ?_
    · intro c_15_t
      refine e_ret dX8_giveReplies_36 rfl ?_
      have e : i = n := by omega
      subst e
      exact hR
    · intro c_15_f
      exfalso; omega
  | succ d ih =>
    intro i hd
    have hc2 : hr h 47 (cf (h 32) (h 47) i) 10 5 = nI n := hc
    have hrd : hr h 47 (cf (h 32) (h 47) i) 32 i = h 32 i := rfl
    refine e_iload_n (i := 1) dX8_giveReplies_10 rfl rfl ?_
    refine e_aload_n (i := 0) dX8_giveReplies_11 rfl rfl ?_
    refine e_getI (x := nI n) dX8_giveReplies_12 fl_X8_117 sh_10 fj_10_5 hc2 ?_
    refine b_icmp_ge (X := ((i : Nat) : Int)) (Y := ((n : Nat) : Int)) (tgt := 36) (nI_toInt (by omega)) (nI_toInt (by omega)) dX8_giveReplies_15 (by decide) ?_ ?_
    · intro c_15_t
      exfalso; omega
    · intro c_15_f
      refine e_aload_n (i := 0) dX8_giveReplies_18 rfl rfl ?_
      refine e_getR (r := 47) dX8_giveReplies_19 fl_X8_67 sh_10 fj_10_31 ?_
      refine e_iload_n (i := 1) dX8_giveReplies_22 rfl rfl ?_
      refine e_aload_n (i := 0) dX8_giveReplies_23 rfl rfl ?_
      refine e_getR (r := 32) dX8_giveReplies_24 fl_X8_22 sh_10 fj_10_6 ?_
      refine e_iload_n (i := 1) dX8_giveReplies_27 rfl rfl ?_
      refine e_iald (x := h 32 i) dX8_giveReplies_28 sh_32 (vin_ofX (X := ((i : Nat) : Int)) (nI_toInt (by omega)) (by omega) (by omega)) (by rw [nI_clamp (by omega)]; exact hrd) ?_
      refine e_iast dX8_giveReplies_29 sh_47 (vin_ofX (X := ((i : Nat) : Int)) (nI_toInt (by omega)) (by omega) (by omega)) ?_
      rw [nI_clamp (by omega)]
      refine e_iinc (v := nI (i + 1)) (ls2 := [some (.inr 10), some (.inl (nI (i + 1)))]) dX8_giveReplies_30 rfl (nI_inc1 _) (Nat.le_of_ble_eq_true rfl) rfl ?_
      refine e_goto (tgt := 10) dX8_giveReplies_33 (by decide) ?_
      rw [hr_hs, cf_s]
      exact ih (i + 1) (by omega)
set_option maxHeartbeats 1000000 in
theorem k_M_give (l : Launch) (h : mH) (n : Nat) (hn : n ≤ 8) (hc : h 10 5 = nI n) : mD l Sh0 iX8_giveReplies [.inr 10] h (none) (hr (hs h 10 30 (nI n)) 47 (cf (h 32) (h 47) n)) := by
  intro RT hR
  show mE l Sh0 none iX8_giveReplies RT 0 [some (.inr 10), none] [] h
  refine e_aload_n (i := 0) dX8_giveReplies_0 rfl rfl ?_
  refine e_aload_n (i := 0) dX8_giveReplies_1 rfl rfl ?_
  refine e_getI (x := nI n) dX8_giveReplies_2 fl_X8_117 sh_10 fj_10_5 hc ?_
  refine e_putI dX8_giveReplies_5 fl_X8_203 fp_X8_30 sh_10 fj_10_30 ?_
  refine e_iconst (v := 0) dX8_giveReplies_8 (by decide) ?_
  refine e_istore_n (i := 1) (ls2 := [some (.inr 10), some (.inl 0)]) dX8_giveReplies_9 rfl (Nat.le_of_ble_eq_true rfl) rfl ?_
  have q0 := lp_M_give l (hs h 10 30 (nI n)) n hn hc RT hR n 0 (by omega)
  rw [cf_0, hr_self] at q0
  exact q0
set_option maxHeartbeats 1000000 in
theorem k_D_runU (l : Launch) (h : mH) (x y w : Int32) (h1 : ¬ (0 ≤ x.toInt ∧ x.toInt < 4)) : mD l Sh0 iX7_run [.inr 0, .inl x, .inl y, .inl w] h (some (-1)) h := by
  intro RT hR
  show mE l Sh0 none iX7_run RT 0 [some (.inr 0), some (.inl x), some (.inl y), some (.inl w)] [] h
  refine e_iload_n (i := 1) dX7_run_0 rfl rfl ?_
  refine e_invSi (As := [.inl x]) (v := 0) (h2 := h) dX7_run_1 lk_X7_70 ys_X7_isText rfl rfl rfl (Nat.le_of_ble_eq_true rfl) (Nat.le_of_ble_eq_true rfl) ⟨Nat.le_of_ble_eq_true rfl, Nat.le_of_ble_eq_true rfl⟩ (k_cTextX l h x (if_neg h1)) ?_
  refine b_if_ne (X := 0) (tgt := 9) (by decide) dX7_run_4 (by decide) ?_ ?_
  · intro e_4_t c_4_t
    exfalso; omega
  · intro e_4_f c_4_f
    refine e_iconst (v := (-1)) dX7_run_7 (by decide) ?_
    refine e_iret dX7_run_8 (mret_i _) ?_
    exact hR
set_option maxHeartbeats 1000000 in
theorem k_M_runU (l : Launch) (h : mH) (x y w : Int32) (h1 : ¬ (0 ≤ x.toInt ∧ x.toInt < 4)) : mD l Sh0 iX8_run [.inr 10, .inl x, .inl y, .inl w] h (some (-1)) h := by
  intro RT hR
  show mE l Sh0 none iX8_run RT 0 [some (.inr 10), some (.inl x), some (.inl y), some (.inl w), none] [] h
  refine e_iload_n (i := 1) dX8_run_0 rfl rfl ?_
  refine e_invSi (As := [.inl x]) (v := 0) (h2 := h) dX8_run_1 lk_X8_101 ys_X8_isFour rfl rfl rfl (Nat.le_of_ble_eq_true rfl) (Nat.le_of_ble_eq_true rfl) ⟨Nat.le_of_ble_eq_true rfl, Nat.le_of_ble_eq_true rfl⟩ (k_M_four0 l h x (by omega)) ?_
  refine b_if_ne (X := 0) (tgt := 9) (by decide) dX8_run_4 (by decide) ?_ ?_
  · intro e_4_t c_4_t
    exfalso; omega
  · intro e_4_f c_4_f
    refine e_iconst (v := (-1)) dX8_run_7 (by decide) ?_
    refine e_iret dX8_run_8 (mret_i _) ?_
    exact hR
set_option maxHeartbeats 1000000 in
theorem k_D_runOy (l : Launch) (h : mH) (x y w : Int32) (h1 : 0 ≤ x.toInt ∧ x.toInt < 4) (h2 : ¬ (0 ≤ y.toInt ∧ y.toInt < 8)) : mD l Sh0 iX7_run [.inr 0, .inl x, .inl y, .inl w] h (some (-2)) h := by
  intro RT hR
  show mE l Sh0 none iX7_run RT 0 [some (.inr 0), some (.inl x), some (.inl y), some (.inl w)] [] h
  refine e_iload_n (i := 1) dX7_run_0 rfl rfl ?_
  refine e_invSi (As := [.inl x]) (v := 1) (h2 := h) dX7_run_1 lk_X7_70 ys_X7_isText rfl rfl rfl (Nat.le_of_ble_eq_true rfl) (Nat.le_of_ble_eq_true rfl) ⟨Nat.le_of_ble_eq_true rfl, Nat.le_of_ble_eq_true rfl⟩ (k_cTextX l h x (if_pos h1)) ?_
  refine b_if_ne (X := 1) (tgt := 9) (by decide) dX7_run_4 (by decide) ?_ ?_
  · intro e_4_t c_4_t
    refine e_iload_n (i := 2) dX7_run_9 rfl rfl ?_
    refine e_invSi (As := [.inl y]) (v := 0) (h2 := h) dX7_run_10 lk_X7_94 ys_X7_isNumber rfl rfl rfl (Nat.le_of_ble_eq_true rfl) (Nat.le_of_ble_eq_true rfl) ⟨Nat.le_of_ble_eq_true rfl, Nat.le_of_ble_eq_true rfl⟩ (k_cNumX l h y (if_neg h2)) ?_
    refine b_if_eq (X := 0) (tgt := 26) (by decide) dX7_run_13 (by decide) ?_ ?_
    · intro e_13_t c_13_t
      refine e_bipush (v := (-2)) dX7_run_26 (by decide) ?_
      refine e_iret dX7_run_28 (mret_i _) ?_
      exact hR
    · intro e_13_f c_13_f
      exfalso; omega
  · intro e_4_f c_4_f
    exfalso; omega
set_option maxHeartbeats 1000000 in
theorem k_D_runOw (l : Launch) (h : mH) (x y w : Int32) (h1 : 0 ≤ x.toInt ∧ x.toInt < 4) (h2 : 0 ≤ y.toInt ∧ y.toInt < 8) (h3 : ¬ (0 ≤ w.toInt ∧ w.toInt ≤ 6)) : mD l Sh0 iX7_run [.inr 0, .inl x, .inl y, .inl w] h (some (-2)) h := by
  intro RT hR
  show mE l Sh0 none iX7_run RT 0 [some (.inr 0), some (.inl x), some (.inl y), some (.inl w)] [] h
  refine e_iload_n (i := 1) dX7_run_0 rfl rfl ?_
  refine e_invSi (As := [.inl x]) (v := 1) (h2 := h) dX7_run_1 lk_X7_70 ys_X7_isText rfl rfl rfl (Nat.le_of_ble_eq_true rfl) (Nat.le_of_ble_eq_true rfl) ⟨Nat.le_of_ble_eq_true rfl, Nat.le_of_ble_eq_true rfl⟩ (k_cTextX l h x (if_pos h1)) ?_
  refine b_if_ne (X := 1) (tgt := 9) (by decide) dX7_run_4 (by decide) ?_ ?_
  · intro e_4_t c_4_t
    refine e_iload_n (i := 2) dX7_run_9 rfl rfl ?_
    refine e_invSi (As := [.inl y]) (v := 1) (h2 := h) dX7_run_10 lk_X7_94 ys_X7_isNumber rfl rfl rfl (Nat.le_of_ble_eq_true rfl) (Nat.le_of_ble_eq_true rfl) ⟨Nat.le_of_ble_eq_true rfl, Nat.le_of_ble_eq_true rfl⟩ (k_cNumX l h y (if_pos h2)) ?_
    refine b_if_eq (X := 1) (tgt := 26) (by decide) dX7_run_13 (by decide) ?_ ?_
    · intro e_13_t c_13_t
      exfalso; omega
    · intro e_13_f c_13_f
      refine e_iload_n (i := 3) dX7_run_16 rfl rfl ?_
      refine b_if_lt (X := w.toInt) (tgt := 26) rfl dX7_run_17 (by decide) ?_ ?_
      · intro c_17_t
        refine e_bipush (v := (-2)) dX7_run_26 (by decide) ?_
        refine e_iret dX7_run_28 (mret_i _) ?_
        exact hR
      · intro c_17_f
        refine e_iload_n (i := 3) dX7_run_20 rfl rfl ?_
        refine e_bipush (v := 6) dX7_run_21 (by decide) ?_
        refine b_icmp_le (X := w.toInt) (Y := 6) (tgt := 29) rfl (by decide) dX7_run_23 (by decide) ?_ ?_
        · intro c_23_t
          exfalso; omega
        · intro c_23_f
          refine e_bipush (v := (-2)) dX7_run_26 (by decide) ?_
          refine e_iret dX7_run_28 (mret_i _) ?_
          exact hR
  · intro e_4_f c_4_f
    exfalso; omega
set_option maxHeartbeats 1000000 in
theorem k_M_runOy (l : Launch) (h : mH) (x y w : Int32) (h1 : 0 ≤ x.toInt ∧ x.toInt < 4) (h2 : ¬ (0 ≤ y.toInt ∧ y.toInt < 8)) : mD l Sh0 iX8_run [.inr 10, .inl x, .inl y, .inl w] h (some (-2)) h := by
  intro RT hR
  show mE l Sh0 none iX8_run RT 0 [some (.inr 10), some (.inl x), some (.inl y), some (.inl w), none] [] h
  refine e_iload_n (i := 1) dX8_run_0 rfl rfl ?_
  refine e_invSi (As := [.inl x]) (v := 1) (h2 := h) dX8_run_1 lk_X8_101 ys_X8_isFour rfl rfl rfl (Nat.le_of_ble_eq_true rfl) (Nat.le_of_ble_eq_true rfl) ⟨Nat.le_of_ble_eq_true rfl, Nat.le_of_ble_eq_true rfl⟩ (k_M_four1 l h x (by omega)) ?_
  refine b_if_ne (X := 1) (tgt := 9) (by decide) dX8_run_4 (by decide) ?_ ?_
  · intro e_4_t c_4_t
    refine e_iload_n (i := 2) dX8_run_9 rfl rfl ?_
    refine e_iconst (v := 0) dX8_run_10 (by decide) ?_
    refine e_bipush (v := 7) dX8_run_11 (by decide) ?_
    refine e_invSi (As := [.inl y, .inl 0, .inl 7]) (v := 0) (h2 := h) dX8_run_13 lk_X8_85 ys_X8_in rfl rfl rfl (Nat.le_of_ble_eq_true rfl) (Nat.le_of_ble_eq_true rfl) ⟨Nat.le_of_ble_eq_true rfl, Nat.le_of_ble_eq_true rfl⟩ (k_M_in (Y := 0) (Z := 7) l h y 0 7 rfl (by decide) (by decide) (if_neg (by omega))) ?_
    refine b_if_eq (X := 0) (tgt := 29) (by decide) dX8_run_16 (by decide) ?_ ?_
    · intro e_16_t c_16_t
      refine e_bipush (v := (-2)) dX8_run_29 (by decide) ?_
      refine e_iret dX8_run_31 (mret_i _) ?_
      exact hR
    · intro e_16_f c_16_f
      exfalso; omega
  · intro e_4_f c_4_f
    exfalso; omega
set_option maxHeartbeats 1000000 in
theorem k_M_runOw (l : Launch) (h : mH) (x y w : Int32) (h1 : 0 ≤ x.toInt ∧ x.toInt < 4) (h2 : 0 ≤ y.toInt ∧ y.toInt < 8) (h3 : ¬ (0 ≤ w.toInt ∧ w.toInt ≤ 6)) : mD l Sh0 iX8_run [.inr 10, .inl x, .inl y, .inl w] h (some (-2)) h := by
  intro RT hR
  show mE l Sh0 none iX8_run RT 0 [some (.inr 10), some (.inl x), some (.inl y), some (.inl w), none] [] h
  refine e_iload_n (i := 1) dX8_run_0 rfl rfl ?_
  refine e_invSi (As := [.inl x]) (v := 1) (h2 := h) dX8_run_1 lk_X8_101 ys_X8_isFour rfl rfl rfl (Nat.le_of_ble_eq_true rfl) (Nat.le_of_ble_eq_true rfl) ⟨Nat.le_of_ble_eq_true rfl, Nat.le_of_ble_eq_true rfl⟩ (k_M_four1 l h x (by omega)) ?_
  refine b_if_ne (X := 1) (tgt := 9) (by decide) dX8_run_4 (by decide) ?_ ?_
  · intro e_4_t c_4_t
    refine e_iload_n (i := 2) dX8_run_9 rfl rfl ?_
    refine e_iconst (v := 0) dX8_run_10 (by decide) ?_
    refine e_bipush (v := 7) dX8_run_11 (by decide) ?_
    refine e_invSi (As := [.inl y, .inl 0, .inl 7]) (v := 1) (h2 := h) dX8_run_13 lk_X8_85 ys_X8_in rfl rfl rfl (Nat.le_of_ble_eq_true rfl) (Nat.le_of_ble_eq_true rfl) ⟨Nat.le_of_ble_eq_true rfl, Nat.le_of_ble_eq_true rfl⟩ (k_M_in (Y := 0) (Z := 7) l h y 0 7 rfl (by decide) (by decide) (if_pos (by omega))) ?_
    refine b_if_eq (X := 1) (tgt := 29) (by decide) dX8_run_16 (by decide) ?_ ?_
    · intro e_16_t c_16_t
      exfalso; omega
    · intro e_16_f c_16_f
      refine e_iload_n (i := 3) dX8_run_19 rfl rfl ?_
      refine e_iconst (v := 0) dX8_run_20 (by decide) ?_
      refine e_bipush (v := 6) dX8_run_21 (by decide) ?_
      refine e_invSi (As := [.inl w, .inl 0, .inl 6]) (v := 0) (h2 := h) dX8_run_23 lk_X8_85 ys_X8_in rfl rfl rfl (Nat.le_of_ble_eq_true rfl) (Nat.le_of_ble_eq_true rfl) ⟨Nat.le_of_ble_eq_true rfl, Nat.le_of_ble_eq_true rfl⟩ (k_M_in (Y := 0) (Z := 6) l h w 0 6 rfl (by decide) (by decide) (if_neg h3)) ?_
      refine b_if_ne (X := 0) (tgt := 32) (by decide) dX8_run_26 (by decide) ?_ ?_
      · intro e_26_t c_26_t
        exfalso; omega
      · intro e_26_f c_26_f
        refine e_bipush (v := (-2)) dX8_run_29 (by decide) ?_
        refine e_iret dX8_run_31 (mret_i _) ?_
        exact hR
  · intro e_4_f c_4_f
    exfalso; omega
set_option maxHeartbeats 1000000 in
theorem k_D_whoU (l : Launch) (h : mH) (x y w : Int32) (h1 : ¬ (0 ≤ x.toInt ∧ x.toInt < 4)) : mD l Sh0 iX7_who [.inr 0, .inl x, .inl y, .inl w] h (some (-1)) h := by
  intro RT hR
  show mE l Sh0 none iX7_who RT 0 [some (.inr 0), some (.inl x), some (.inl y), some (.inl w)] [] h
  refine e_iload_n (i := 1) dX7_who_0 rfl rfl ?_
  refine e_invSi (As := [.inl x]) (v := 0) (h2 := h) dX7_who_1 lk_X7_70 ys_X7_isText rfl rfl rfl (Nat.le_of_ble_eq_true rfl) (Nat.le_of_ble_eq_true rfl) ⟨Nat.le_of_ble_eq_true rfl, Nat.le_of_ble_eq_true rfl⟩ (k_cTextX l h x (if_neg h1)) ?_
  refine b_if_ne (X := 0) (tgt := 9) (by decide) dX7_who_4 (by decide) ?_ ?_
  · intro e_4_t c_4_t
    exfalso; omega
  · intro e_4_f c_4_f
    refine e_iconst (v := (-1)) dX7_who_7 (by decide) ?_
    refine e_iret dX7_who_8 (mret_i _) ?_
    exact hR
set_option maxHeartbeats 1000000 in
theorem k_M_whoU (l : Launch) (h : mH) (x y w : Int32) (h1 : ¬ (0 ≤ x.toInt ∧ x.toInt < 4)) : mD l Sh0 iX8_who [.inr 10, .inl x, .inl y, .inl w] h (some (-1)) h := by
  intro RT hR
  show mE l Sh0 none iX8_who RT 0 [some (.inr 10), some (.inl x), some (.inl y), some (.inl w)] [] h
  refine e_iload_n (i := 1) dX8_who_0 rfl rfl ?_
  refine e_invSi (As := [.inl x]) (v := 0) (h2 := h) dX8_who_1 lk_X8_101 ys_X8_isFour rfl rfl rfl (Nat.le_of_ble_eq_true rfl) (Nat.le_of_ble_eq_true rfl) ⟨Nat.le_of_ble_eq_true rfl, Nat.le_of_ble_eq_true rfl⟩ (k_M_four0 l h x (by omega)) ?_
  refine b_if_ne (X := 0) (tgt := 9) (by decide) dX8_who_4 (by decide) ?_ ?_
  · intro e_4_t c_4_t
    exfalso; omega
  · intro e_4_f c_4_f
    refine e_iconst (v := (-1)) dX8_who_7 (by decide) ?_
    refine e_iret dX8_who_8 (mret_i _) ?_
    exact hR
set_option maxHeartbeats 1000000 in
theorem k_D_whoOy (l : Launch) (h : mH) (x y w : Int32) (h1 : 0 ≤ x.toInt ∧ x.toInt < 4) (h2 : ¬ (0 ≤ y.toInt ∧ y.toInt < 8)) : mD l Sh0 iX7_who [.inr 0, .inl x, .inl y, .inl w] h (some (-2)) h := by
  intro RT hR
  show mE l Sh0 none iX7_who RT 0 [some (.inr 0), some (.inl x), some (.inl y), some (.inl w)] [] h
  refine e_iload_n (i := 1) dX7_who_0 rfl rfl ?_
  refine e_invSi (As := [.inl x]) (v := 1) (h2 := h) dX7_who_1 lk_X7_70 ys_X7_isText rfl rfl rfl (Nat.le_of_ble_eq_true rfl) (Nat.le_of_ble_eq_true rfl) ⟨Nat.le_of_ble_eq_true rfl, Nat.le_of_ble_eq_true rfl⟩ (k_cTextX l h x (if_pos h1)) ?_
  refine b_if_ne (X := 1) (tgt := 9) (by decide) dX7_who_4 (by decide) ?_ ?_
  · intro e_4_t c_4_t
    refine e_iload_n (i := 2) dX7_who_9 rfl rfl ?_
    refine e_invSi (As := [.inl y]) (v := 0) (h2 := h) dX7_who_10 lk_X7_94 ys_X7_isNumber rfl rfl rfl (Nat.le_of_ble_eq_true rfl) (Nat.le_of_ble_eq_true rfl) ⟨Nat.le_of_ble_eq_true rfl, Nat.le_of_ble_eq_true rfl⟩ (k_cNumX l h y (if_neg h2)) ?_
    refine b_if_eq (X := 0) (tgt := 27) (by decide) dX7_who_13 (by decide) ?_ ?_
    · intro e_13_t c_13_t
      refine e_bipush (v := (-2)) dX7_who_27 (by decide) ?_
      refine e_iret dX7_who_29 (mret_i _) ?_
      exact hR
    · intro e_13_f c_13_f
      exfalso; omega
  · intro e_4_f c_4_f
    exfalso; omega
set_option maxHeartbeats 1000000 in
theorem k_D_whoOw (l : Launch) (h : mH) (x y w : Int32) (h1 : 0 ≤ x.toInt ∧ x.toInt < 4) (h2 : 0 ≤ y.toInt ∧ y.toInt < 8) (h3 : ¬ (0 ≤ w.toInt ∧ w.toInt ≤ 199)) : mD l Sh0 iX7_who [.inr 0, .inl x, .inl y, .inl w] h (some (-2)) h := by
  intro RT hR
  show mE l Sh0 none iX7_who RT 0 [some (.inr 0), some (.inl x), some (.inl y), some (.inl w)] [] h
  refine e_iload_n (i := 1) dX7_who_0 rfl rfl ?_
  refine e_invSi (As := [.inl x]) (v := 1) (h2 := h) dX7_who_1 lk_X7_70 ys_X7_isText rfl rfl rfl (Nat.le_of_ble_eq_true rfl) (Nat.le_of_ble_eq_true rfl) ⟨Nat.le_of_ble_eq_true rfl, Nat.le_of_ble_eq_true rfl⟩ (k_cTextX l h x (if_pos h1)) ?_
  refine b_if_ne (X := 1) (tgt := 9) (by decide) dX7_who_4 (by decide) ?_ ?_
  · intro e_4_t c_4_t
    refine e_iload_n (i := 2) dX7_who_9 rfl rfl ?_
    refine e_invSi (As := [.inl y]) (v := 1) (h2 := h) dX7_who_10 lk_X7_94 ys_X7_isNumber rfl rfl rfl (Nat.le_of_ble_eq_true rfl) (Nat.le_of_ble_eq_true rfl) ⟨Nat.le_of_ble_eq_true rfl, Nat.le_of_ble_eq_true rfl⟩ (k_cNumX l h y (if_pos h2)) ?_
    refine b_if_eq (X := 1) (tgt := 27) (by decide) dX7_who_13 (by decide) ?_ ?_
    · intro e_13_t c_13_t
      exfalso; omega
    · intro e_13_f c_13_f
      refine e_iload_n (i := 3) dX7_who_16 rfl rfl ?_
      refine b_if_lt (X := w.toInt) (tgt := 27) rfl dX7_who_17 (by decide) ?_ ?_
      · intro c_17_t
        refine e_bipush (v := (-2)) dX7_who_27 (by decide) ?_
        refine e_iret dX7_who_29 (mret_i _) ?_
        exact hR
      · intro c_17_f
        refine e_iload_n (i := 3) dX7_who_20 rfl rfl ?_
        refine e_sipush (v := 200) dX7_who_21 (by decide) ?_
        refine b_icmp_lt (X := w.toInt) (Y := 200) (tgt := 30) rfl (by decide) dX7_who_24 (by decide) ?_ ?_
        · intro c_24_t
          exfalso; omega
        · intro c_24_f
          refine e_bipush (v := (-2)) dX7_who_27 (by decide) ?_
          refine e_iret dX7_who_29 (mret_i _) ?_
          exact hR
  · intro e_4_f c_4_f
    exfalso; omega
set_option maxHeartbeats 1000000 in
theorem k_M_whoOy (l : Launch) (h : mH) (x y w : Int32) (h1 : 0 ≤ x.toInt ∧ x.toInt < 4) (h2 : ¬ (0 ≤ y.toInt ∧ y.toInt < 8)) : mD l Sh0 iX8_who [.inr 10, .inl x, .inl y, .inl w] h (some (-2)) h := by
  intro RT hR
  show mE l Sh0 none iX8_who RT 0 [some (.inr 10), some (.inl x), some (.inl y), some (.inl w)] [] h
  refine e_iload_n (i := 1) dX8_who_0 rfl rfl ?_
  refine e_invSi (As := [.inl x]) (v := 1) (h2 := h) dX8_who_1 lk_X8_101 ys_X8_isFour rfl rfl rfl (Nat.le_of_ble_eq_true rfl) (Nat.le_of_ble_eq_true rfl) ⟨Nat.le_of_ble_eq_true rfl, Nat.le_of_ble_eq_true rfl⟩ (k_M_four1 l h x (by omega)) ?_
  refine b_if_ne (X := 1) (tgt := 9) (by decide) dX8_who_4 (by decide) ?_ ?_
  · intro e_4_t c_4_t
    refine e_iload_n (i := 2) dX8_who_9 rfl rfl ?_
    refine e_iconst (v := 0) dX8_who_10 (by decide) ?_
    refine e_bipush (v := 7) dX8_who_11 (by decide) ?_
    refine e_invSi (As := [.inl y, .inl 0, .inl 7]) (v := 0) (h2 := h) dX8_who_13 lk_X8_85 ys_X8_in rfl rfl rfl (Nat.le_of_ble_eq_true rfl) (Nat.le_of_ble_eq_true rfl) ⟨Nat.le_of_ble_eq_true rfl, Nat.le_of_ble_eq_true rfl⟩ (k_M_in (Y := 0) (Z := 7) l h y 0 7 rfl (by decide) (by decide) (if_neg (by omega))) ?_
    refine b_if_eq (X := 0) (tgt := 30) (by decide) dX8_who_16 (by decide) ?_ ?_
    · intro e_16_t c_16_t
      refine e_bipush (v := (-2)) dX8_who_30 (by decide) ?_
      refine e_iret dX8_who_32 (mret_i _) ?_
      exact hR
    · intro e_16_f c_16_f
      exfalso; omega
  · intro e_4_f c_4_f
    exfalso; omega
set_option maxHeartbeats 1000000 in
theorem k_M_whoOw (l : Launch) (h : mH) (x y w : Int32) (h1 : 0 ≤ x.toInt ∧ x.toInt < 4) (h2 : 0 ≤ y.toInt ∧ y.toInt < 8) (h3 : ¬ (0 ≤ w.toInt ∧ w.toInt ≤ 199)) : mD l Sh0 iX8_who [.inr 10, .inl x, .inl y, .inl w] h (some (-2)) h := by
  intro RT hR
  show mE l Sh0 none iX8_who RT 0 [some (.inr 10), some (.inl x), some (.inl y), some (.inl w)] [] h
  refine e_iload_n (i := 1) dX8_who_0 rfl rfl ?_
  refine e_invSi (As := [.inl x]) (v := 1) (h2 := h) dX8_who_1 lk_X8_101 ys_X8_isFour rfl rfl rfl (Nat.le_of_ble_eq_true rfl) (Nat.le_of_ble_eq_true rfl) ⟨Nat.le_of_ble_eq_true rfl, Nat.le_of_ble_eq_true rfl⟩ (k_M_four1 l h x (by omega)) ?_
  refine b_if_ne (X := 1) (tgt := 9) (by decide) dX8_who_4 (by decide) ?_ ?_
  · intro e_4_t c_4_t
    refine e_iload_n (i := 2) dX8_who_9 rfl rfl ?_
    refine e_iconst (v := 0) dX8_who_10 (by decide) ?_
    refine e_bipush (v := 7) dX8_who_11 (by decide) ?_
    refine e_invSi (As := [.inl y, .inl 0, .inl 7]) (v := 1) (h2 := h) dX8_who_13 lk_X8_85 ys_X8_in rfl rfl rfl (Nat.le_of_ble_eq_true rfl) (Nat.le_of_ble_eq_true rfl) ⟨Nat.le_of_ble_eq_true rfl, Nat.le_of_ble_eq_true rfl⟩ (k_M_in (Y := 0) (Z := 7) l h y 0 7 rfl (by decide) (by decide) (if_pos (by omega))) ?_
    refine b_if_eq (X := 1) (tgt := 30) (by decide) dX8_who_16 (by decide) ?_ ?_
    · intro e_16_t c_16_t
      exfalso; omega
    · intro e_16_f c_16_f
      refine e_iload_n (i := 3) dX8_who_19 rfl rfl ?_
      refine e_iconst (v := 0) dX8_who_20 (by decide) ?_
      refine e_sipush (v := 199) dX8_who_21 (by decide) ?_
      refine e_invSi (As := [.inl w, .inl 0, .inl 199]) (v := 0) (h2 := h) dX8_who_24 lk_X8_85 ys_X8_in rfl rfl rfl (Nat.le_of_ble_eq_true rfl) (Nat.le_of_ble_eq_true rfl) ⟨Nat.le_of_ble_eq_true rfl, Nat.le_of_ble_eq_true rfl⟩ (k_M_in (Y := 0) (Z := 199) l h w 0 199 rfl (by decide) (by decide) (if_neg h3)) ?_
      refine b_if_ne (X := 0) (tgt := 33) (by decide) dX8_who_27 (by decide) ?_ ?_
      · intro e_27_t c_27_t
        exfalso; omega
      · intro e_27_f c_27_f
        refine e_bipush (v := (-2)) dX8_who_30 (by decide) ?_
        refine e_iret dX8_who_32 (mret_i _) ?_
        exact hR
  · intro e_4_f c_4_f
    exfalso; omega
def mTell (h : mH) (w : Int) : Int32 := if w = 0 then h 10 39 else if w = 1 then h 10 23 else if w = 2 then h 10 25 else if w = 3 then h 10 27 else if w = 4 then h 10 28 else if w = 5 then h 10 24 else h 10 26
def mWho (h : mH) (i : Int32) : Int32 := if i.toInt < (h 10 26).toInt then h 46 i.toInt.toNat else -6
def MGv (h : mH) (n : Nat) : mH := hr (hs h 10 30 (nI n)) 47 (cf (h 32) (h 47) n)
theorem MR_give {r : List Nat} {h : mH} (hl : r.length ≤ 8) (h32 : ∀ i, i < r.length → h 32 i = nI (r.getD i 0)) : MR r (MGv h r.length) := by
  refine ⟨rfl, hl, fun i hi => ?_⟩
  show hr (hs h 10 30 (nI r.length)) 47 (cf (h 32) (h 47) r.length) 47 i = _
  rw [hr_at, cf_in hi]
  exact h32 i hi
set_option maxHeartbeats 2000000 in
theorem k_D_run (l : Launch) {sg : Nat → Int32} {ln sz : Nat → Nat} {r : List Nat} (hB : aWB sg ln sz) (hr8 : ∀ z ∈ r, z < 8) (h : mH) (hC : CB sg ln sz h) (hCR : CR 3 16 r h) (p x : Nat) (hp : p < 4) (hz : 0 < sz p) (hx : x < 8) (w : Int32) (hw : 0 ≤ w.toInt ∧ w.toInt ≤ 6) : mG l Sh0 iX7_run [.inr 0, .inl (nI p), .inl (nI x), .inl w] h (fun v' h' => v' = some (cTell h' w.toInt) ∧ KP h h' ∧ RE h' (aRun sg ln sz r 9000 (aS0 p x))) := by
  have kw := k_X_work l hB hr8 (Or.inl ⟨rfl, rfl⟩) h hC hCR hp hz hx
  intro RT hR
  show mE l Sh0 none iX7_run RT 0 [some (.inr 0), some (.inl (nI p)), some (.inl (nI x)), some (.inl w)] [] h
  refine e_iload_n (i := 1) dX7_run_0 rfl rfl ?_
  refine e_invSi (As := [.inl (nI p)]) (v := 1) (h2 := h) dX7_run_1 lk_X7_70 ys_X7_isText rfl rfl rfl (Nat.le_of_ble_eq_true rfl) (Nat.le_of_ble_eq_true rfl) ⟨Nat.le_of_ble_eq_true rfl, Nat.le_of_ble_eq_true rfl⟩ (k_cTextX l h (nI p) (if_pos (by rw [nI_toInt (by omega)]; omega))) ?_
  refine b_if_ne (X := 1) (tgt := 9) (by decide) dX7_run_4 (by decide) ?_ ?_
  · intro e_4_t c_4_t
    refine e_iload_n (i := 2) dX7_run_9 rfl rfl ?_
    refine e_invSi (As := [.inl (nI x)]) (v := 1) (h2 := h) dX7_run_10 lk_X7_94 ys_X7_isNumber rfl rfl rfl (Nat.le_of_ble_eq_true rfl) (Nat.le_of_ble_eq_true rfl) ⟨Nat.le_of_ble_eq_true rfl, Nat.le_of_ble_eq_true rfl⟩ (k_cNumX l h (nI x) (if_pos (by rw [nI_toInt (by omega)]; omega))) ?_
    refine b_if_eq (X := 1) (tgt := 26) (by decide) dX7_run_13 (by decide) ?_ ?_
    · intro e_13_t c_13_t
      exfalso; omega
    · intro e_13_f c_13_f
      refine e_iload_n (i := 3) dX7_run_16 rfl rfl ?_
      refine b_if_lt (X := w.toInt) (tgt := 26) rfl dX7_run_17 (by decide) ?_ ?_
      · intro c_17_t
        exfalso; omega
      · intro c_17_f
        refine e_iload_n (i := 3) dX7_run_20 rfl rfl ?_
        refine e_bipush (v := 6) dX7_run_21 (by decide) ?_
        refine b_icmp_le (X := w.toInt) (Y := 6) (tgt := 29) rfl (by decide) dX7_run_23 (by decide) ?_ ?_
        · intro c_23_t
          refine e_aload_n (i := 0) dX7_run_29 rfl rfl ?_
          refine e_getR (r := 6) dX7_run_30 fl_X7_41 sh_0 fj_0_5 ?_
          refine e_iload_n (i := 1) dX7_run_33 rfl rfl ?_
          refine e_iload_n (i := 2) dX7_run_34 rfl rfl ?_
          refine e_aload_n (i := 0) dX7_run_35 rfl rfl ?_
          refine e_getR (r := 3) dX7_run_36 fl_X7_26 sh_0 fj_0_2 ?_
          refine e_invVvG (As := [.inl (nI p), .inl (nI x), .inr 3]) (ty := .int) dX7_run_39 lk_X7_104 yv_X4_work rfl rfl rfl (Nat.le_of_ble_eq_true rfl) sh_6 ci_X4 (Nat.le_of_ble_eq_true rfl) ⟨Nat.le_of_ble_eq_true rfl, Nat.le_of_ble_eq_true rfl⟩ kw ?_
          rintro h' ⟨-, hk, ho⟩
          refine e_aload_n (i := 0) dX7_run_42 rfl rfl ?_
          refine e_getR (r := 6) dX7_run_43 fl_X7_41 sh_0 fj_0_5 ?_
          refine e_iload_n (i := 3) dX7_run_46 rfl rfl ?_
          refine e_invVi (As := [.inl w]) (v := cTell h' w.toInt) (h2 := h') dX7_run_47 lk_X7_108 yv_X4_tell rfl rfl rfl (Nat.le_of_ble_eq_true rfl) sh_6 ci_X4 (Nat.le_of_ble_eq_true rfl) ⟨Nat.le_of_ble_eq_true rfl, Nat.le_of_ble_eq_true rfl⟩ (k_X_tell l h' w) ?_
          refine e_iret dX7_run_50 (mret_i _) ?_
          exact hR _ _ ⟨rfl, hk, ho⟩
        · intro c_23_f
          exfalso; omega
  · intro e_4_f c_4_f
    exfalso; omega
set_option maxHeartbeats 2000000 in
theorem k_D_who (l : Launch) {sg : Nat → Int32} {ln sz : Nat → Nat} {r : List Nat} (hB : aWB sg ln sz) (hr8 : ∀ z ∈ r, z < 8) (h : mH) (hC : CB sg ln sz h) (hCR : CR 3 16 r h) (p x : Nat) (hp : p < 4) (hz : 0 < sz p) (hx : x < 8) (w : Int32) (hw : 0 ≤ w.toInt ∧ w.toInt ≤ 199) : mG l Sh0 iX7_who [.inr 0, .inl (nI p), .inl (nI x), .inl w] h (fun v' h' => v' = some (cWho h' w) ∧ KP h h' ∧ RE h' (aRun sg ln sz r 9000 (aS0 p x))) := by
  have kw := k_X_work l hB hr8 (Or.inl ⟨rfl, rfl⟩) h hC hCR hp hz hx
  intro RT hR
  show mE l Sh0 none iX7_who RT 0 [some (.inr 0), some (.inl (nI p)), some (.inl (nI x)), some (.inl w)] [] h
  refine e_iload_n (i := 1) dX7_who_0 rfl rfl ?_
  refine e_invSi (As := [.inl (nI p)]) (v := 1) (h2 := h) dX7_who_1 lk_X7_70 ys_X7_isText rfl rfl rfl (Nat.le_of_ble_eq_true rfl) (Nat.le_of_ble_eq_true rfl) ⟨Nat.le_of_ble_eq_true rfl, Nat.le_of_ble_eq_true rfl⟩ (k_cTextX l h (nI p) (if_pos (by rw [nI_toInt (by omega)]; omega))) ?_
  refine b_if_ne (X := 1) (tgt := 9) (by decide) dX7_who_4 (by decide) ?_ ?_
  · intro e_4_t c_4_t
    refine e_iload_n (i := 2) dX7_who_9 rfl rfl ?_
    refine e_invSi (As := [.inl (nI x)]) (v := 1) (h2 := h) dX7_who_10 lk_X7_94 ys_X7_isNumber rfl rfl rfl (Nat.le_of_ble_eq_true rfl) (Nat.le_of_ble_eq_true rfl) ⟨Nat.le_of_ble_eq_true rfl, Nat.le_of_ble_eq_true rfl⟩ (k_cNumX l h (nI x) (if_pos (by rw [nI_toInt (by omega)]; omega))) ?_
    refine b_if_eq (X := 1) (tgt := 27) (by decide) dX7_who_13 (by decide) ?_ ?_
    · intro e_13_t c_13_t
      exfalso; omega
    · intro e_13_f c_13_f
      refine e_iload_n (i := 3) dX7_who_16 rfl rfl ?_
      refine b_if_lt (X := w.toInt) (tgt := 27) rfl dX7_who_17 (by decide) ?_ ?_
      · intro c_17_t
        exfalso; omega
      · intro c_17_f
        refine e_iload_n (i := 3) dX7_who_20 rfl rfl ?_
        refine e_sipush (v := 200) dX7_who_21 (by decide) ?_
        refine b_icmp_lt (X := w.toInt) (Y := 200) (tgt := 30) rfl (by decide) dX7_who_24 (by decide) ?_ ?_
        · intro c_24_t
          refine e_aload_n (i := 0) dX7_who_30 rfl rfl ?_
          refine e_getR (r := 6) dX7_who_31 fl_X7_41 sh_0 fj_0_5 ?_
          refine e_iload_n (i := 1) dX7_who_34 rfl rfl ?_
          refine e_iload_n (i := 2) dX7_who_35 rfl rfl ?_
          refine e_aload_n (i := 0) dX7_who_36 rfl rfl ?_
          refine e_getR (r := 3) dX7_who_37 fl_X7_26 sh_0 fj_0_2 ?_
          refine e_invVvG (As := [.inl (nI p), .inl (nI x), .inr 3]) (ty := .int) dX7_who_40 lk_X7_104 yv_X4_work rfl rfl rfl (Nat.le_of_ble_eq_true rfl) sh_6 ci_X4 (Nat.le_of_ble_eq_true rfl) ⟨Nat.le_of_ble_eq_true rfl, Nat.le_of_ble_eq_true rfl⟩ kw ?_
          rintro h' ⟨-, hk, ho⟩
          refine e_aload_n (i := 0) dX7_who_43 rfl rfl ?_
          refine e_getR (r := 6) dX7_who_44 fl_X7_41 sh_0 fj_0_5 ?_
          refine e_iload_n (i := 3) dX7_who_47 rfl rfl ?_
          refine e_invVi (As := [.inl w]) (v := cWho h' w) (h2 := h') dX7_who_48 lk_X7_111 yv_X4_answerer rfl rfl rfl (Nat.le_of_ble_eq_true rfl) sh_6 ci_X4 (Nat.le_of_ble_eq_true rfl) ⟨Nat.le_of_ble_eq_true rfl, Nat.le_of_ble_eq_true rfl⟩ (k_X_answerer l h' w) ?_
          refine e_iret dX7_who_51 (mret_i _) ?_
          exact hR _ _ ⟨rfl, hk, ho⟩
        · intro c_24_f
          exfalso; omega
  · intro e_4_f c_4_f
    exfalso; omega
set_option maxHeartbeats 2000000 in
theorem k_M_run (l : Launch) {sg : Nat → Int32} {ln sz : Nat → Nat} {r : List Nat} (hB : aWB sg ln sz) (hr8 : ∀ z ∈ r, z < 8) (h : mH) (hM : MB sg ln sz h) (hl : r.length ≤ 8) (h5 : h 10 5 = nI r.length) (h32 : ∀ i, i < r.length → h 32 i = nI (r.getD i 0)) (p x : Nat) (hp : p < 4) (hz : 0 < sz p) (hx : x < 8) (w : Int32) (hw : 0 ≤ w.toInt ∧ w.toInt ≤ 6) : mG l Sh0 iX8_run [.inr 10, .inl (nI p), .inl (nI x), .inl w] h (fun v' h' => v' = some (mTell h' w.toInt) ∧ KM (MGv h r.length) h' ∧ ME h' (aRun sg ln sz r 9000 (aS0 p x))) := by
  have hMg : MB sg ln sz (MGv h r.length) := hM
  have ke := k_M_end l hB hr8 (MGv h r.length) hMg (MR_give hl h32) hp hz hx
  intro RT hR
  show mE l Sh0 none iX8_run RT 0 [some (.inr 10), some (.inl (nI p)), some (.inl (nI x)), some (.inl w), none] [] h
  refine e_iload_n (i := 1) dX8_run_0 rfl rfl ?_
  refine e_invSi (As := [.inl (nI p)]) (v := 1) (h2 := h) dX8_run_1 lk_X8_101 ys_X8_isFour rfl rfl rfl (Nat.le_of_ble_eq_true rfl) (Nat.le_of_ble_eq_true rfl) ⟨Nat.le_of_ble_eq_true rfl, Nat.le_of_ble_eq_true rfl⟩ (k_M_four1 l h (nI p) (by rw [nI_toInt (by omega)]; omega)) ?_
  refine b_if_ne (X := 1) (tgt := 9) (by decide) dX8_run_4 (by decide) ?_ ?_
  · intro e_4_t c_4_t
    refine e_iload_n (i := 2) dX8_run_9 rfl rfl ?_
    refine e_iconst (v := 0) dX8_run_10 (by decide) ?_
    refine e_bipush (v := 7) dX8_run_11 (by decide) ?_
    refine e_invSi (As := [.inl (nI x), .inl 0, .inl 7]) (v := 1) (h2 := h) dX8_run_13 lk_X8_85 ys_X8_in rfl rfl rfl (Nat.le_of_ble_eq_true rfl) (Nat.le_of_ble_eq_true rfl) ⟨Nat.le_of_ble_eq_true rfl, Nat.le_of_ble_eq_true rfl⟩ (k_M_in (X := (x : Int)) (Y := 0) (Z := 7) l h (nI x) 0 7 (nI_toInt (by omega)) (by decide) (by decide) (if_pos (by omega))) ?_
    refine b_if_eq (X := 1) (tgt := 29) (by decide) dX8_run_16 (by decide) ?_ ?_
    · intro e_16_t c_16_t
      exfalso; omega
    · intro e_16_f c_16_f
      refine e_iload_n (i := 3) dX8_run_19 rfl rfl ?_
      refine e_iconst (v := 0) dX8_run_20 (by decide) ?_
      refine e_bipush (v := 6) dX8_run_21 (by decide) ?_
      refine e_invSi (As := [.inl w, .inl 0, .inl 6]) (v := 1) (h2 := h) dX8_run_23 lk_X8_85 ys_X8_in rfl rfl rfl (Nat.le_of_ble_eq_true rfl) (Nat.le_of_ble_eq_true rfl) ⟨Nat.le_of_ble_eq_true rfl, Nat.le_of_ble_eq_true rfl⟩ (k_M_in (Y := 0) (Z := 6) l h w 0 6 rfl (by decide) (by decide) (if_pos hw)) ?_
      refine b_if_ne (X := 1) (tgt := 32) (by decide) dX8_run_26 (by decide) ?_ ?_
      · intro e_26_t c_26_t
        refine e_aload_n (i := 0) dX8_run_32 rfl rfl ?_
        refine e_invVv (As := []) (h2 := (MGv h r.length)) (ty := .int) (v := 0) dX8_run_33 lk_X8_206 yv_X8_giveReplies rfl rfl rfl (Nat.le_of_ble_eq_true rfl) sh_10 ci_X8 (Nat.le_of_ble_eq_true rfl) ⟨Nat.le_of_ble_eq_true rfl, Nat.le_of_ble_eq_true rfl⟩ (k_M_give l h r.length hl h5) ?_
        refine e_aload_n (i := 0) dX8_run_36 rfl rfl ?_
        refine e_iload_n (i := 1) dX8_run_37 rfl rfl ?_
        refine e_iload_n (i := 2) dX8_run_38 rfl rfl ?_
        refine e_invViG (As := [.inl (nI p), .inl (nI x)]) dX8_run_39 lk_X8_209 yv_X8_end rfl rfl rfl (Nat.le_of_ble_eq_true rfl) sh_10 ci_X8 (Nat.le_of_ble_eq_true rfl) ⟨Nat.le_of_ble_eq_true rfl, Nat.le_of_ble_eq_true rfl⟩ ke ?_
        rintro v' h' ⟨hv, hk, ho⟩
        obtain rfl := Option.some.inj hv
        refine e_istore (ls2 := [some (.inr 10), some (.inl (nI p)), some (.inl (nI x)), some (.inl w), some (.inl (h' 10 39))]) dX8_run_42 (Nat.le_of_ble_eq_true rfl) rfl ?_
        refine e_iload_n (i := 3) dX8_run_44 rfl rfl ?_
        by_cases sw_45 : w.toInt < 0 ∨ 5 < w.toInt
        · refine e_tableOut (tgt := 112) dX8_run_45 sw_45 (by decide) ?_
          refine e_aload_n (i := 0) dX8_run_112 rfl rfl ?_
          refine e_getI (x := h' 10 26) dX8_run_113 fl_X8_144 sh_10 fj_10_26 rfl ?_
          refine e_iret dX8_run_116 (mret_i _) ?_
          refine hR _ _ ⟨?_, hk, ho⟩
          unfold mTell
          first | rw [if_pos (by omega)] | rw [if_neg (by omega), if_pos (by omega)] | rw [if_neg (by omega), if_neg (by omega), if_pos (by omega)] | rw [if_neg (by omega), if_neg (by omega), if_neg (by omega), if_pos (by omega)] | rw [if_neg (by omega), if_neg (by omega), if_neg (by omega), if_neg (by omega), if_pos (by omega)] | rw [if_neg (by omega), if_neg (by omega), if_neg (by omega), if_neg (by omega), if_neg (by omega), if_pos (by omega)] | rw [if_neg (by omega), if_neg (by omega), if_neg (by omega), if_neg (by omega), if_neg (by omega), if_neg (by omega)]
        · have sw2_45 : w.toInt = 0 ∨ w.toInt = 1 ∨ w.toInt = 2 ∨ w.toInt = 3 ∨ w.toInt = 4 ∨ w.toInt = 5 := by omega
          rcases sw2_45 with sv_45 | sv_45 | sv_45 | sv_45 | sv_45 | sv_45
          · refine e_tableIn (off := 39) (tgt := 84) dX8_run_45 (by omega) (by omega) (by rw [sv_45]; rfl) (by decide) ?_
            refine e_iload dX8_run_84 rfl ?_
            refine e_iret dX8_run_86 (mret_i _) ?_
            refine hR _ _ ⟨?_, hk, ho⟩
            unfold mTell
            first | rw [if_pos (by omega)] | rw [if_neg (by omega), if_pos (by omega)] | rw [if_neg (by omega), if_neg (by omega), if_pos (by omega)] | rw [if_neg (by omega), if_neg (by omega), if_neg (by omega), if_pos (by omega)] | rw [if_neg (by omega), if_neg (by omega), if_neg (by omega), if_neg (by omega), if_pos (by omega)] | rw [if_neg (by omega), if_neg (by omega), if_neg (by omega), if_neg (by omega), if_neg (by omega), if_pos (by omega)] | rw [if_neg (by omega), if_neg (by omega), if_neg (by omega), if_neg (by omega), if_neg (by omega), if_neg (by omega)]
          · refine e_tableIn (off := 42) (tgt := 87) dX8_run_45 (by omega) (by omega) (by rw [sv_45]; rfl) (by decide) ?_
            refine e_aload_n (i := 0) dX8_run_87 rfl rfl ?_
            refine e_getI (x := h' 10 23) dX8_run_88 fl_X8_135 sh_10 fj_10_23 rfl ?_
            refine e_iret dX8_run_91 (mret_i _) ?_
            refine hR _ _ ⟨?_, hk, ho⟩
            unfold mTell
            first | rw [if_pos (by omega)] | rw [if_neg (by omega), if_pos (by omega)] | rw [if_neg (by omega), if_neg (by omega), if_pos (by omega)] | rw [if_neg (by omega), if_neg (by omega), if_neg (by omega), if_pos (by omega)] | rw [if_neg (by omega), if_neg (by omega), if_neg (by omega), if_neg (by omega), if_pos (by omega)] | rw [if_neg (by omega), if_neg (by omega), if_neg (by omega), if_neg (by omega), if_neg (by omega), if_pos (by omega)] | rw [if_neg (by omega), if_neg (by omega), if_neg (by omega), if_neg (by omega), if_neg (by omega), if_neg (by omega)]
          · refine e_tableIn (off := 47) (tgt := 92) dX8_run_45 (by omega) (by omega) (by rw [sv_45]; rfl) (by decide) ?_
            refine e_aload_n (i := 0) dX8_run_92 rfl rfl ?_
            refine e_getI (x := h' 10 25) dX8_run_93 fl_X8_141 sh_10 fj_10_25 rfl ?_
            refine e_iret dX8_run_96 (mret_i _) ?_
            refine hR _ _ ⟨?_, hk, ho⟩
            unfold mTell
            first | rw [if_pos (by omega)] | rw [if_neg (by omega), if_pos (by omega)] | rw [if_neg (by omega), if_neg (by omega), if_pos (by omega)] | rw [if_neg (by omega), if_neg (by omega), if_neg (by omega), if_pos (by omega)] | rw [if_neg (by omega), if_neg (by omega), if_neg (by omega), if_neg (by omega), if_pos (by omega)] | rw [if_neg (by omega), if_neg (by omega), if_neg (by omega), if_neg (by omega), if_neg (by omega), if_pos (by omega)] | rw [if_neg (by omega), if_neg (by omega), if_neg (by omega), if_neg (by omega), if_neg (by omega), if_neg (by omega)]
          · refine e_tableIn (off := 52) (tgt := 97) dX8_run_45 (by omega) (by omega) (by rw [sv_45]; rfl) (by decide) ?_
            refine e_aload_n (i := 0) dX8_run_97 rfl rfl ?_
            refine e_getI (x := h' 10 27) dX8_run_98 fl_X8_147 sh_10 fj_10_27 rfl ?_
            refine e_iret dX8_run_101 (mret_i _) ?_
            refine hR _ _ ⟨?_, hk, ho⟩
            unfold mTell
            first | rw [if_pos (by omega)] | rw [if_neg (by omega), if_pos (by omega)] | rw [if_neg (by omega), if_neg (by omega), if_pos (by omega)] | rw [if_neg (by omega), if_neg (by omega), if_neg (by omega), if_pos (by omega)] | rw [if_neg (by omega), if_neg (by omega), if_neg (by omega), if_neg (by omega), if_pos (by omega)] | rw [if_neg (by omega), if_neg (by omega), if_neg (by omega), if_neg (by omega), if_neg (by omega), if_pos (by omega)] | rw [if_neg (by omega), if_neg (by omega), if_neg (by omega), if_neg (by omega), if_neg (by omega), if_neg (by omega)]
          · refine e_tableIn (off := 57) (tgt := 102) dX8_run_45 (by omega) (by omega) (by rw [sv_45]; rfl) (by decide) ?_
            refine e_aload_n (i := 0) dX8_run_102 rfl rfl ?_
            refine e_getI (x := h' 10 28) dX8_run_103 fl_X8_150 sh_10 fj_10_28 rfl ?_
            refine e_iret dX8_run_106 (mret_i _) ?_
            refine hR _ _ ⟨?_, hk, ho⟩
            unfold mTell
            first | rw [if_pos (by omega)] | rw [if_neg (by omega), if_pos (by omega)] | rw [if_neg (by omega), if_neg (by omega), if_pos (by omega)] | rw [if_neg (by omega), if_neg (by omega), if_neg (by omega), if_pos (by omega)] | rw [if_neg (by omega), if_neg (by omega), if_neg (by omega), if_neg (by omega), if_pos (by omega)] | rw [if_neg (by omega), if_neg (by omega), if_neg (by omega), if_neg (by omega), if_neg (by omega), if_pos (by omega)] | rw [if_neg (by omega), if_neg (by omega), if_neg (by omega), if_neg (by omega), if_neg (by omega), if_neg (by omega)]
          · refine e_tableIn (off := 62) (tgt := 107) dX8_run_45 (by omega) (by omega) (by rw [sv_45]; rfl) (by decide) ?_
            refine e_aload_n (i := 0) dX8_run_107 rfl rfl ?_
            refine e_getI (x := h' 10 24) dX8_run_108 fl_X8_138 sh_10 fj_10_24 rfl ?_
            refine e_iret dX8_run_111 (mret_i _) ?_
            refine hR _ _ ⟨?_, hk, ho⟩
            unfold mTell
            first | rw [if_pos (by omega)] | rw [if_neg (by omega), if_pos (by omega)] | rw [if_neg (by omega), if_neg (by omega), if_pos (by omega)] | rw [if_neg (by omega), if_neg (by omega), if_neg (by omega), if_pos (by omega)] | rw [if_neg (by omega), if_neg (by omega), if_neg (by omega), if_neg (by omega), if_pos (by omega)] | rw [if_neg (by omega), if_neg (by omega), if_neg (by omega), if_neg (by omega), if_neg (by omega), if_pos (by omega)] | rw [if_neg (by omega), if_neg (by omega), if_neg (by omega), if_neg (by omega), if_neg (by omega), if_neg (by omega)]
      · intro e_26_f c_26_f
        exfalso; omega
  · intro e_4_f c_4_f
    exfalso; omega
set_option maxHeartbeats 2000000 in
theorem k_M_who (l : Launch) {sg : Nat → Int32} {ln sz : Nat → Nat} {r : List Nat} (hB : aWB sg ln sz) (hr8 : ∀ z ∈ r, z < 8) (h : mH) (hM : MB sg ln sz h) (hl : r.length ≤ 8) (h5 : h 10 5 = nI r.length) (h32 : ∀ i, i < r.length → h 32 i = nI (r.getD i 0)) (p x : Nat) (hp : p < 4) (hz : 0 < sz p) (hx : x < 8) (w : Int32) (hw : 0 ≤ w.toInt ∧ w.toInt ≤ 199) : mG l Sh0 iX8_who [.inr 10, .inl (nI p), .inl (nI x), .inl w] h (fun v' h' => v' = some (mWho h' w) ∧ KM (MGv h r.length) h' ∧ ME h' (aRun sg ln sz r 9000 (aS0 p x))) := by
  have hMg : MB sg ln sz (MGv h r.length) := hM
  have ke := k_M_end l hB hr8 (MGv h r.length) hMg (MR_give hl h32) hp hz hx
  intro RT hR
  show mE l Sh0 none iX8_who RT 0 [some (.inr 10), some (.inl (nI p)), some (.inl (nI x)), some (.inl w)] [] h
  refine e_iload_n (i := 1) dX8_who_0 rfl rfl ?_
  refine e_invSi (As := [.inl (nI p)]) (v := 1) (h2 := h) dX8_who_1 lk_X8_101 ys_X8_isFour rfl rfl rfl (Nat.le_of_ble_eq_true rfl) (Nat.le_of_ble_eq_true rfl) ⟨Nat.le_of_ble_eq_true rfl, Nat.le_of_ble_eq_true rfl⟩ (k_M_four1 l h (nI p) (by rw [nI_toInt (by omega)]; omega)) ?_
  refine b_if_ne (X := 1) (tgt := 9) (by decide) dX8_who_4 (by decide) ?_ ?_
  · intro e_4_t c_4_t
    refine e_iload_n (i := 2) dX8_who_9 rfl rfl ?_
    refine e_iconst (v := 0) dX8_who_10 (by decide) ?_
    refine e_bipush (v := 7) dX8_who_11 (by decide) ?_
    refine e_invSi (As := [.inl (nI x), .inl 0, .inl 7]) (v := 1) (h2 := h) dX8_who_13 lk_X8_85 ys_X8_in rfl rfl rfl (Nat.le_of_ble_eq_true rfl) (Nat.le_of_ble_eq_true rfl) ⟨Nat.le_of_ble_eq_true rfl, Nat.le_of_ble_eq_true rfl⟩ (k_M_in (X := (x : Int)) (Y := 0) (Z := 7) l h (nI x) 0 7 (nI_toInt (by omega)) (by decide) (by decide) (if_pos (by omega))) ?_
    refine b_if_eq (X := 1) (tgt := 30) (by decide) dX8_who_16 (by decide) ?_ ?_
    · intro e_16_t c_16_t
      exfalso; omega
    · intro e_16_f c_16_f
      refine e_iload_n (i := 3) dX8_who_19 rfl rfl ?_
      refine e_iconst (v := 0) dX8_who_20 (by decide) ?_
      refine e_sipush (v := 199) dX8_who_21 (by decide) ?_
      refine e_invSi (As := [.inl w, .inl 0, .inl 199]) (v := 1) (h2 := h) dX8_who_24 lk_X8_85 ys_X8_in rfl rfl rfl (Nat.le_of_ble_eq_true rfl) (Nat.le_of_ble_eq_true rfl) ⟨Nat.le_of_ble_eq_true rfl, Nat.le_of_ble_eq_true rfl⟩ (k_M_in (Y := 0) (Z := 199) l h w 0 199 rfl (by decide) (by decide) (if_pos hw)) ?_
      refine b_if_ne (X := 1) (tgt := 33) (by decide) dX8_who_27 (by decide) ?_ ?_
      · intro e_27_t c_27_t
        refine e_aload_n (i := 0) dX8_who_33 rfl rfl ?_
        refine e_invVv (As := []) (h2 := (MGv h r.length)) (ty := .int) (v := 0) dX8_who_34 lk_X8_206 yv_X8_giveReplies rfl rfl rfl (Nat.le_of_ble_eq_true rfl) sh_10 ci_X8 (Nat.le_of_ble_eq_true rfl) ⟨Nat.le_of_ble_eq_true rfl, Nat.le_of_ble_eq_true rfl⟩ (k_M_give l h r.length hl h5) ?_
        refine e_aload_n (i := 0) dX8_who_37 rfl rfl ?_
        refine e_iload_n (i := 1) dX8_who_38 rfl rfl ?_
        refine e_iload_n (i := 2) dX8_who_39 rfl rfl ?_
        refine e_invViG (As := [.inl (nI p), .inl (nI x)]) dX8_who_40 lk_X8_209 yv_X8_end rfl rfl rfl (Nat.le_of_ble_eq_true rfl) sh_10 ci_X8 (Nat.le_of_ble_eq_true rfl) ⟨Nat.le_of_ble_eq_true rfl, Nat.le_of_ble_eq_true rfl⟩ ke ?_
        rintro v' h' ⟨hv, hk, ho⟩
        obtain rfl := Option.some.inj hv
        refine e_pop dX8_who_43 ?_
        refine e_iload_n (i := 3) dX8_who_44 rfl rfl ?_
        refine e_aload_n (i := 0) dX8_who_45 rfl rfl ?_
        refine e_getI (x := h' 10 26) dX8_who_46 fl_X8_144 sh_10 fj_10_26 rfl ?_
        refine b_icmp_ge (X := w.toInt) (Y := (h' 10 26).toInt) (tgt := 61) rfl rfl dX8_who_49 (by decide) ?_ ?_
        · intro c_49_t
          refine e_bipush (v := (-6)) dX8_who_61 (by decide) ?_
          refine e_iret dX8_who_63 (mret_i _) ?_
          refine hR _ _ ⟨?_, hk, ho⟩
          unfold mWho
          first | rw [if_pos (by omega)] | rw [if_neg (by omega)]
        · intro c_49_f
          refine e_aload_n (i := 0) dX8_who_52 rfl rfl ?_
          refine e_getR (r := 46) dX8_who_53 fl_X8_64 sh_10 fj_10_29 ?_
          refine e_iload_n (i := 3) dX8_who_56 rfl rfl ?_
          refine e_iald (x := h' 46 ((w).toInt.toNat)) dX8_who_57 sh_46 (vin_ofX (X := w.toInt) rfl (by omega) (by omega)) rfl ?_
          refine e_goto (tgt := 63) dX8_who_58 (by decide) ?_
          refine e_iret dX8_who_63 (mret_i _) ?_
          refine hR _ _ ⟨?_, hk, ho⟩
          unfold mWho
          first | rw [if_pos (by omega)] | rw [if_neg (by omega)]
      · intro e_27_f c_27_f
        exfalso; omega
  · intro e_4_f c_4_f
    exfalso; omega
