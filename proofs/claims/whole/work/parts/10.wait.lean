theorem i32_add1 {x : Int32} (h : x.toInt < 2147483647) : (x + 1).toInt = x.toInt + 1 := by
  have h1 := i32_lo x
  rw [Int32.toInt_add, show (1 : Int32).toInt = 1 from by decide]
  exact Int.bmod_eq_of_le (by omega) (by omega)
set_option maxHeartbeats 1000000 in
theorem k_B_hand (l : Launch) (h : mH) (x : Int32) : mD l Sh0 iX0_hand [.inr 2, .inl x] h (some (cHand h x)) h := by
  intro RT hR
  show mE l Sh0 none iX0_hand RT 0 [some (.inr 2), some (.inl x), none] [] h
  refine e_iload_n (i := 1) dX0_hand_0 rfl rfl ?_
  refine b_if_lt (X := x.toInt) (tgt := 26) rfl dX0_hand_1 (by decide) ?_ ?_
  · intro c_1_t
    refine e_iconst (v := 0) dX0_hand_26 (by decide) ?_
    refine e_istore_n (i := 2) (ls2 := [some (.inr 2), some (.inl x), some (.inl 0)]) dX0_hand_27 rfl (Nat.le_of_ble_eq_true rfl) rfl ?_
    refine e_iload_n (i := 2) dX0_hand_28 rfl rfl ?_
    refine b_if_eq (X := 0) (tgt := 46) (by decide) dX0_hand_29 (by decide) ?_ ?_
    · intro e_29_t c_29_t
      refine e_iconst (v := (-1)) dX0_hand_46 (by decide) ?_
      refine e_iret dX0_hand_47 (mret_i _) ?_
      unfold cHand at hR; first | exact hR | ((repeat' (split at hR)) <;> first | exact hR | (exfalso; omega))
    · intro e_29_f c_29_f
      exfalso; omega
  · intro c_1_f
    refine e_iload_n (i := 1) dX0_hand_4 rfl rfl ?_
    refine e_sipush (v := 799) dX0_hand_5 (by decide) ?_
    refine b_icmp_ge (X := x.toInt) (Y := 799) (tgt := 26) rfl (by decide) dX0_hand_8 (by decide) ?_ ?_
    · intro c_8_t
      refine e_iconst (v := 0) dX0_hand_26 (by decide) ?_
      refine e_istore_n (i := 2) (ls2 := [some (.inr 2), some (.inl x), some (.inl 0)]) dX0_hand_27 rfl (Nat.le_of_ble_eq_true rfl) rfl ?_
      refine e_iload_n (i := 2) dX0_hand_28 rfl rfl ?_
      refine b_if_eq (X := 0) (tgt := 46) (by decide) dX0_hand_29 (by decide) ?_ ?_
      · intro e_29_t c_29_t
        refine e_iconst (v := (-1)) dX0_hand_46 (by decide) ?_
        refine e_iret dX0_hand_47 (mret_i _) ?_
        unfold cHand at hR; first | exact hR | ((repeat' (split at hR)) <;> first | exact hR | (exfalso; omega))
      · intro e_29_f c_29_f
        exfalso; omega
    · intro c_8_f
      refine e_aload_n (i := 0) dX0_hand_11 rfl rfl ?_
      refine e_getR (r := 13) dX0_hand_12 fl_X0_9 sh_2 fj_2_0 ?_
      refine e_iload_n (i := 1) dX0_hand_15 rfl rfl ?_
      refine e_iald (x := h 13 ((x).toInt.toNat)) dX0_hand_16 sh_13 (vin_ofX (X := x.toInt) rfl (by omega) (by omega)) rfl ?_
      refine e_bipush (v := 64) dX0_hand_17 (by decide) ?_
      refine b_icmp_ne (X := (h 13 ((x).toInt.toNat)).toInt) (Y := 64) (tgt := 26) rfl (by decide) dX0_hand_19 (by decide) ?_ ?_
      · intro e_19_t c_19_t
        refine e_iconst (v := 0) dX0_hand_26 (by decide) ?_
        refine e_istore_n (i := 2) (ls2 := [some (.inr 2), some (.inl x), some (.inl 0)]) dX0_hand_27 rfl (Nat.le_of_ble_eq_true rfl) rfl ?_
        refine e_iload_n (i := 2) dX0_hand_28 rfl rfl ?_
        refine b_if_eq (X := 0) (tgt := 46) (by decide) dX0_hand_29 (by decide) ?_ ?_
        · intro e_29_t c_29_t
          refine e_iconst (v := (-1)) dX0_hand_46 (by decide) ?_
          refine e_iret dX0_hand_47 (mret_i _) ?_
          unfold cHand at hR; first | exact hR | ((repeat' (split at hR)) <;> first | exact hR | (exfalso; omega))
        · intro e_29_f c_29_f
          exfalso; omega
      · intro e_19_f c_19_f
        refine e_iconst (v := 1) dX0_hand_22 (by decide) ?_
        refine e_goto (tgt := 27) dX0_hand_23 (by decide) ?_
        refine e_istore_n (i := 2) (ls2 := [some (.inr 2), some (.inl x), some (.inl 1)]) dX0_hand_27 rfl (Nat.le_of_ble_eq_true rfl) rfl ?_
        refine e_iload_n (i := 2) dX0_hand_28 rfl rfl ?_
        refine b_if_eq (X := 1) (tgt := 46) (by decide) dX0_hand_29 (by decide) ?_ ?_
        · intro e_29_t c_29_t
          exfalso; omega
        · intro e_29_f c_29_f
          refine e_aload_n (i := 0) dX0_hand_32 rfl rfl ?_
          refine e_getR (r := 13) dX0_hand_33 fl_X0_9 sh_2 fj_2_0 ?_
          refine e_iload_n (i := 1) dX0_hand_36 rfl rfl ?_
          refine e_iconst (v := 1) dX0_hand_37 (by decide) ?_
          refine e_iadd dX0_hand_38 ?_
          refine e_iald (x := h 13 ((x + 1).toInt.toNat)) dX0_hand_39 sh_13 (vin_ofX (X := (x.toInt + 1)) (i32_add1 (by omega)) (by omega) (by omega)) rfl ?_
          refine e_bipush (v := 48) dX0_hand_40 (by decide) ?_
          refine e_isub dX0_hand_42 ?_
          refine e_goto (tgt := 47) dX0_hand_43 (by decide) ?_
          refine e_iret dX0_hand_47 (mret_i _) ?_
          unfold cHand at hR; first | exact hR | ((repeat' (split at hR)) <;> first | exact hR | (exfalso; omega))
set_option maxHeartbeats 1000000 in
theorem k_T_stands (l : Launch) (h : mH) (i m : Nat) (hm : h 7 2 = nI m) (hi : i < m) (hM : m ≤ 8200) : mD l Sh0 iX5_stands [.inr 7, .inl (nI i)] h (some 1) h := by
  intro RT hR
  show mE l Sh0 none iX5_stands RT 0 [some (.inr 7), some (.inl (nI i))] [] h
  refine e_iload_n (i := 1) dX5_stands_0 rfl rfl ?_
  refine b_if_lt (X := ((i : Nat) : Int)) (tgt := 23) (nI_toInt (by omega)) dX5_stands_1 (by decide) ?_ ?_
  · intro c_1_t
    exfalso; omega
  · intro c_1_f
    refine e_iload_n (i := 1) dX5_stands_4 rfl rfl ?_
    refine e_aload_n (i := 0) dX5_stands_5 rfl rfl ?_
    refine e_getI (x := nI m) dX5_stands_6 fl_X5_18 sh_7 fj_7_2 hm ?_
    refine b_icmp_ge (X := ((i : Nat) : Int)) (Y := ((m : Nat) : Int)) (tgt := 23) (nI_toInt (by omega)) (nI_toInt (by omega)) dX5_stands_9 (by decide) ?_ ?_
    · intro c_9_t
      exfalso; omega
    · intro c_9_f
      refine e_iload_n (i := 1) dX5_stands_12 rfl rfl ?_
      refine e_sipush (v := 8200) dX5_stands_13 (by decide) ?_
      refine b_icmp_ge (X := ((i : Nat) : Int)) (Y := 8200) (tgt := 23) (nI_toInt (by omega)) (by decide) dX5_stands_16 (by decide) ?_ ?_
      · intro c_16_t
        exfalso; omega
      · intro c_16_f
        refine e_iconst (v := 1) dX5_stands_19 (by decide) ?_
        refine e_goto (tgt := 24) dX5_stands_20 (by decide) ?_
        refine e_iret dX5_stands_24 (mret_z (by first | decide | (simp only []; split <;> decide))) ?_
        exact hR
set_option maxHeartbeats 1000000 in
theorem k_T_place (l : Launch) (h : mH) (i m : Nat) (hm : h 7 2 = nI m) (hi : i < m) (hM : m ≤ 8200) : mD l Sh0 iX5_place [.inr 7, .inl (nI i)] h (some (h 20 i &&& 1023)) h := by
  intro RT hR
  show mE l Sh0 none iX5_place RT 0 [some (.inr 7), some (.inl (nI i))] [] h
  refine e_aload_n (i := 0) dX5_place_0 rfl rfl ?_
  refine e_iload_n (i := 1) dX5_place_1 rfl rfl ?_
  refine e_invVi (As := [.inl (nI i)]) (v := 1) (h2 := h) dX5_place_2 lk_X5_25 yv_X5_stands rfl rfl rfl (Nat.le_of_ble_eq_true rfl) sh_7 ci_X5 (Nat.le_of_ble_eq_true rfl) ⟨Nat.le_of_ble_eq_true rfl, Nat.le_of_ble_eq_true rfl⟩ (k_T_stands l h i m hm hi hM) ?_
  refine b_if_eq (X := 1) (tgt := 21) (by decide) dX5_place_5 (by decide) ?_ ?_
  · intro e_5_t c_5_t
    exfalso; omega
  · intro e_5_f c_5_f
    refine e_aload_n (i := 0) dX5_place_8 rfl rfl ?_
    refine e_getR (r := 20) dX5_place_9 fl_X5_11 sh_7 fj_7_0 ?_
    refine e_iload_n (i := 1) dX5_place_12 rfl rfl ?_
    refine e_iald (x := h 20 i) dX5_place_13 sh_20 (vin_ofX (X := ((i : Nat) : Int)) (nI_toInt (by omega)) (by omega) (by omega)) (by rw [nI_clamp (by omega)]) ?_
    refine e_sipush (v := 1023) dX5_place_14 (by decide) ?_
    refine e_iand dX5_place_17 ?_
    refine e_goto (tgt := 22) dX5_place_18 (by decide) ?_
    refine e_iret dX5_place_22 (mret_i _) ?_
    exact hR
set_option maxHeartbeats 1000000 in
theorem k_T_call (l : Launch) (h : mH) (i m : Nat) (hm : h 7 2 = nI m) (hi : i < m) (hM : m ≤ 8200) : mD l Sh0 iX5_call [.inr 7, .inl (nI i)] h (some (h 20 i >>> (14 &&& 31))) h := by
  intro RT hR
  show mE l Sh0 none iX5_call RT 0 [some (.inr 7), some (.inl (nI i))] [] h
  refine e_aload_n (i := 0) dX5_call_0 rfl rfl ?_
  refine e_iload_n (i := 1) dX5_call_1 rfl rfl ?_
  refine e_invVi (As := [.inl (nI i)]) (v := 1) (h2 := h) dX5_call_2 lk_X5_25 yv_X5_stands rfl rfl rfl (Nat.le_of_ble_eq_true rfl) sh_7 ci_X5 (Nat.le_of_ble_eq_true rfl) ⟨Nat.le_of_ble_eq_true rfl, Nat.le_of_ble_eq_true rfl⟩ (k_T_stands l h i m hm hi hM) ?_
  refine b_if_eq (X := 1) (tgt := 20) (by decide) dX5_call_5 (by decide) ?_ ?_
  · intro e_5_t c_5_t
    exfalso; omega
  · intro e_5_f c_5_f
    refine e_aload_n (i := 0) dX5_call_8 rfl rfl ?_
    refine e_getR (r := 20) dX5_call_9 fl_X5_11 sh_7 fj_7_0 ?_
    refine e_iload_n (i := 1) dX5_call_12 rfl rfl ?_
    refine e_iald (x := h 20 i) dX5_call_13 sh_20 (vin_ofX (X := ((i : Nat) : Int)) (nI_toInt (by omega)) (by omega) (by omega)) (by rw [nI_clamp (by omega)]) ?_
    refine e_bipush (v := 14) dX5_call_14 (by decide) ?_
    refine e_ishr dX5_call_16 ?_
    refine e_goto (tgt := 21) dX5_call_17 (by decide) ?_
    refine e_iret dX5_call_21 (mret_i _) ?_
    exact hR
set_option maxHeartbeats 1000000 in
theorem k_T_below (l : Launch) (h : mH) (i m : Nat) (hm : h 7 2 = nI m) (hi : i < m) (hM : m ≤ 8200) : mD l Sh0 iX5_below [.inr 7, .inl (nI i)] h (some (h 21 i)) h := by
  intro RT hR
  show mE l Sh0 none iX5_below RT 0 [some (.inr 7), some (.inl (nI i))] [] h
  refine e_aload_n (i := 0) dX5_below_0 rfl rfl ?_
  refine e_iload_n (i := 1) dX5_below_1 rfl rfl ?_
  refine e_invVi (As := [.inl (nI i)]) (v := 1) (h2 := h) dX5_below_2 lk_X5_25 yv_X5_stands rfl rfl rfl (Nat.le_of_ble_eq_true rfl) sh_7 ci_X5 (Nat.le_of_ble_eq_true rfl) ⟨Nat.le_of_ble_eq_true rfl, Nat.le_of_ble_eq_true rfl⟩ (k_T_stands l h i m hm hi hM) ?_
  refine b_if_eq (X := 1) (tgt := 17) (by decide) dX5_below_5 (by decide) ?_ ?_
  · intro e_5_t c_5_t
    exfalso; omega
  · intro e_5_f c_5_f
    refine e_aload_n (i := 0) dX5_below_8 rfl rfl ?_
    refine e_getR (r := 21) dX5_below_9 fl_X5_15 sh_7 fj_7_1 ?_
    refine e_iload_n (i := 1) dX5_below_12 rfl rfl ?_
    refine e_iald (x := h 21 i) dX5_below_13 sh_21 (vin_ofX (X := ((i : Nat) : Int)) (nI_toInt (by omega)) (by omega) (by omega)) (by rw [nI_clamp (by omega)]) ?_
    refine e_goto (tgt := 18) dX5_below_14 (by decide) ?_
    refine e_iret dX5_below_18 (mret_i _) ?_
    exact hR
set_option maxHeartbeats 1000000 in
theorem k_T_held (l : Launch) (h : mH) (i m : Nat) (hm : h 7 2 = nI m) (hi : i < m) (hM : m ≤ 8200) : mD l Sh0 iX5_held [.inr 7, .inl (nI i)] h (some (((h 20 i >>> (10 &&& 31)) &&& 15) - 1)) h := by
  intro RT hR
  show mE l Sh0 none iX5_held RT 0 [some (.inr 7), some (.inl (nI i))] [] h
  refine e_aload_n (i := 0) dX5_held_0 rfl rfl ?_
  refine e_iload_n (i := 1) dX5_held_1 rfl rfl ?_
  refine e_invVi (As := [.inl (nI i)]) (v := 1) (h2 := h) dX5_held_2 lk_X5_25 yv_X5_stands rfl rfl rfl (Nat.le_of_ble_eq_true rfl) sh_7 ci_X5 (Nat.le_of_ble_eq_true rfl) ⟨Nat.le_of_ble_eq_true rfl, Nat.le_of_ble_eq_true rfl⟩ (k_T_stands l h i m hm hi hM) ?_
  refine b_if_eq (X := 1) (tgt := 25) (by decide) dX5_held_5 (by decide) ?_ ?_
  · intro e_5_t c_5_t
    exfalso; omega
  · intro e_5_f c_5_f
    refine e_aload_n (i := 0) dX5_held_8 rfl rfl ?_
    refine e_getR (r := 20) dX5_held_9 fl_X5_11 sh_7 fj_7_0 ?_
    refine e_iload_n (i := 1) dX5_held_12 rfl rfl ?_
    refine e_iald (x := h 20 i) dX5_held_13 sh_20 (vin_ofX (X := ((i : Nat) : Int)) (nI_toInt (by omega)) (by omega) (by omega)) (by rw [nI_clamp (by omega)]) ?_
    refine e_bipush (v := 10) dX5_held_14 (by decide) ?_
    refine e_ishr dX5_held_16 ?_
    refine e_bipush (v := 15) dX5_held_17 (by decide) ?_
    refine e_iand dX5_held_19 ?_
    refine e_iconst (v := 1) dX5_held_20 (by decide) ?_
    refine e_isub dX5_held_21 ?_
    refine e_goto (tgt := 26) dX5_held_22 (by decide) ?_
    refine e_iret dX5_held_26 (mret_i _) ?_
    exact hR
set_option maxHeartbeats 1000000 in
theorem k_T_hold (l : Launch) (h : mH) (i m : Nat) (hm : h 7 2 = nI m) (hi : i < m) (hM : m ≤ 8200) (x : Int32) : mD l Sh0 iX5_hold [.inr 7, .inl (nI i), .inl x] h (none) (hs h 20 i (h 20 i ||| ((x + 1) <<< (10 &&& 31)))) := by
  intro RT hR
  show mE l Sh0 none iX5_hold RT 0 [some (.inr 7), some (.inl (nI i)), some (.inl x)] [] h
  refine e_aload_n (i := 0) dX5_hold_0 rfl rfl ?_
  refine e_iload_n (i := 1) dX5_hold_1 rfl rfl ?_
  refine e_invVi (As := [.inl (nI i)]) (v := 1) (h2 := h) dX5_hold_2 lk_X5_25 yv_X5_stands rfl rfl rfl (Nat.le_of_ble_eq_true rfl) sh_7 ci_X5 (Nat.le_of_ble_eq_true rfl) ⟨Nat.le_of_ble_eq_true rfl, Nat.le_of_ble_eq_true rfl⟩ (k_T_stands l h i m hm hi hM) ?_
  refine b_if_eq (X := 1) (tgt := 23) (by decide) dX5_hold_5 (by decide) ?_ ?_
  · intro e_5_t c_5_t
    exfalso; omega
  · intro e_5_f c_5_f
    refine e_aload_n (i := 0) dX5_hold_8 rfl rfl ?_
    refine e_getR (r := 20) dX5_hold_9 fl_X5_11 sh_7 fj_7_0 ?_
    refine e_iload_n (i := 1) dX5_hold_12 rfl rfl ?_
    refine e_dup2 dX5_hold_13 ?_
    refine e_iald (x := h 20 i) dX5_hold_14 sh_20 (vin_ofX (X := ((i : Nat) : Int)) (nI_toInt (by omega)) (by omega) (by omega)) (by rw [nI_clamp (by omega)]) ?_
    refine e_iload_n (i := 2) dX5_hold_15 rfl rfl ?_
    refine e_iconst (v := 1) dX5_hold_16 (by decide) ?_
    refine e_iadd dX5_hold_17 ?_
    refine e_bipush (v := 10) dX5_hold_18 (by decide) ?_
    refine e_ishl dX5_hold_20 ?_
    refine e_ior dX5_hold_21 ?_
    refine e_iast dX5_hold_22 sh_20 (vin_ofX (X := ((i : Nat) : Int)) (nI_toInt (by omega)) (by omega) (by omega)) ?_
    rw [nI_clamp (by omega)]
    refine e_ret dX5_hold_23 rfl ?_
    exact hR
def mkH (h : mH) (m : Nat) (a b : Int32) : mH := hs (hs (hs h 20 m a) 21 m b) 7 2 (nI (m + 1))
set_option maxHeartbeats 1000000 in
theorem k_T_make (l : Launch) (h : mH) (m : Nat) (hm : h 7 2 = nI m) (hM : m < 8200) (x y : Int32) : mD l Sh0 iX5_make [.inr 7, .inl x, .inl y] h (some 1) (mkH h m x y) := by
  intro RT hR
  show mE l Sh0 none iX5_make RT 0 [some (.inr 7), some (.inl x), some (.inl y)] [] h
  refine e_aload_n (i := 0) dX5_make_0 rfl rfl ?_
  refine e_getI (x := nI m) dX5_make_1 fl_X5_18 sh_7 fj_7_2 hm ?_
  refine b_if_lt (X := ((m : Nat) : Int)) (tgt := 17) (nI_toInt (by omega)) dX5_make_4 (by decide) ?_ ?_
  · intro c_4_t
    exfalso; omega
  · intro c_4_f
    refine e_aload_n (i := 0) dX5_make_7 rfl rfl ?_
    refine e_getI (x := nI m) dX5_make_8 fl_X5_18 sh_7 fj_7_2 hm ?_
    refine e_sipush (v := 8200) dX5_make_11 (by decide) ?_
    refine b_icmp_lt (X := ((m : Nat) : Int)) (Y := 8200) (tgt := 19) (nI_toInt (by omega)) (by decide) dX5_make_14 (by decide) ?_ ?_
    · intro c_14_t
      refine e_aload_n (i := 0) dX5_make_19 rfl rfl ?_
      refine e_getR (r := 20) dX5_make_20 fl_X5_11 sh_7 fj_7_0 ?_
      refine e_aload_n (i := 0) dX5_make_23 rfl rfl ?_
      refine e_getI (x := nI m) dX5_make_24 fl_X5_18 sh_7 fj_7_2 hm ?_
      refine e_iload_n (i := 1) dX5_make_27 rfl rfl ?_
      refine e_iast dX5_make_28 sh_20 (vin_ofX (X := ((m : Nat) : Int)) (nI_toInt (by omega)) (by omega) (by omega)) ?_
      rw [nI_clamp (by omega)]
      refine e_aload_n (i := 0) dX5_make_29 rfl rfl ?_
      refine e_getR (r := 21) dX5_make_30 fl_X5_15 sh_7 fj_7_1 ?_
      refine e_aload_n (i := 0) dX5_make_33 rfl rfl ?_
      refine e_getI (x := nI m) dX5_make_34 fl_X5_18 sh_7 fj_7_2 hm ?_
      refine e_iload_n (i := 2) dX5_make_37 rfl rfl ?_
      refine e_iast dX5_make_38 sh_21 (vin_ofX (X := ((m : Nat) : Int)) (nI_toInt (by omega)) (by omega) (by omega)) ?_
      rw [nI_clamp (by omega)]
      refine e_aload_n (i := 0) dX5_make_39 rfl rfl ?_
      refine e_dup dX5_make_40 ?_
      refine e_getI (x := nI m) dX5_make_41 fl_X5_18 sh_7 fj_7_2 hm ?_
      refine e_iconst (v := 1) dX5_make_44 (by decide) ?_
      refine z_iadd (z := nI (m + 1)) (nI_addc _ 1) dX5_make_45 ?_
      refine e_putI dX5_make_46 fl_X5_18 fp_X5_2 sh_7 fj_7_2 ?_
      refine e_iconst (v := 1) dX5_make_49 (by decide) ?_
      refine e_iret dX5_make_50 (mret_z (by first | decide | (simp only []; split <;> decide))) ?_
      exact hR
    · intro c_14_f
      exfalso; omega
set_option maxHeartbeats 1000000 in
theorem k_T_push (l : Launch) (h : mH) (m : Nat) (hm : h 7 2 = nI m) (hM : m < 8200) (x y : Int32) : mD l Sh0 iX5_push [.inr 7, .inl x, .inl y] h (some 1) (mkH (hs h 7 3 (nI m)) m (x ||| (y <<< (14 &&& 31))) (h 7 3)) := by
  intro RT hR
  show mE l Sh0 none iX5_push RT 0 [some (.inr 7), some (.inl x), some (.inl y), none] [] h
  refine e_aload_n (i := 0) dX5_push_0 rfl rfl ?_
  refine e_getI (x := h 7 3) dX5_push_1 fl_X5_22 sh_7 fj_7_3 rfl ?_
  refine e_istore_n (i := 3) (ls2 := [some (.inr 7), some (.inl x), some (.inl y), some (.inl (h 7 3))]) dX5_push_4 rfl (Nat.le_of_ble_eq_true rfl) rfl ?_
  refine e_aload_n (i := 0) dX5_push_5 rfl rfl ?_
  refine e_aload_n (i := 0) dX5_push_6 rfl rfl ?_
  refine e_getI (x := nI m) dX5_push_7 fl_X5_18 sh_7 fj_7_2 hm ?_
  refine e_putI dX5_push_10 fl_X5_22 fp_X5_3 sh_7 fj_7_3 ?_
  refine e_aload_n (i := 0) dX5_push_13 rfl rfl ?_
  refine e_iload_n (i := 1) dX5_push_14 rfl rfl ?_
  refine e_iload_n (i := 2) dX5_push_15 rfl rfl ?_
  refine e_bipush (v := 14) dX5_push_16 (by decide) ?_
  refine e_ishl dX5_push_18 ?_
  refine e_ior dX5_push_19 ?_
  refine e_iload_n (i := 3) dX5_push_20 rfl rfl ?_
  refine e_invVi (As := [.inl (x ||| (y <<< (14 &&& 31))), .inl (h 7 3)]) (v := 1) (h2 := (mkH (hs h 7 3 (nI m)) m (x ||| (y <<< (14 &&& 31))) (h 7 3))) dX5_push_21 lk_X5_29 yv_X5_make rfl rfl rfl (Nat.le_of_ble_eq_true rfl) sh_7 ci_X5 (Nat.le_of_ble_eq_true rfl) ⟨Nat.le_of_ble_eq_true rfl, Nat.le_of_ble_eq_true rfl⟩ (k_T_make l (hs h 7 3 (nI m)) m hm hM (x ||| (y <<< (14 &&& 31))) (h 7 3)) ?_
  refine e_iret dX5_push_24 (mret_z (by first | decide | (simp only []; split <;> decide))) ?_
  exact hR
set_option maxHeartbeats 1000000 in
theorem k_T_clear (l : Launch) (h : mH) : mD l Sh0 iX5_clear [.inr 7] h (none) (hs (hs h 7 2 0) 7 3 (-1)) := by
  intro RT hR
  show mE l Sh0 none iX5_clear RT 0 [some (.inr 7)] [] h
  refine e_aload_n (i := 0) dX5_clear_0 rfl rfl ?_
  refine e_iconst (v := 0) dX5_clear_1 (by decide) ?_
  refine e_putI dX5_clear_2 fl_X5_18 fp_X5_2 sh_7 fj_7_2 ?_
  refine e_aload_n (i := 0) dX5_clear_5 rfl rfl ?_
  refine e_iconst (v := (-1)) dX5_clear_6 (by decide) ?_
  refine e_putI dX5_clear_7 fl_X5_22 fp_X5_3 sh_7 fj_7_3 ?_
  refine e_ret dX5_clear_10 rfl ?_
  exact hR
set_option maxHeartbeats 1000000 in
theorem k_C_stands (l : Launch) (h : mH) (i m : Nat) (hm : h 8 3 = nI m) (hi : i < m) (hM : m ≤ 201) : mD l Sh0 iX1_stands [.inr 8, .inl (nI i)] h (some 1) h := by
  intro RT hR
  show mE l Sh0 none iX1_stands RT 0 [some (.inr 8), some (.inl (nI i))] [] h
  refine e_iload_n (i := 1) dX1_stands_0 rfl rfl ?_
  refine b_if_lt (X := ((i : Nat) : Int)) (tgt := 23) (nI_toInt (by omega)) dX1_stands_1 (by decide) ?_ ?_
  · intro c_1_t
    exfalso; omega
  · intro c_1_f
    refine e_iload_n (i := 1) dX1_stands_4 rfl rfl ?_
    refine e_aload_n (i := 0) dX1_stands_5 rfl rfl ?_
    refine e_getI (x := nI m) dX1_stands_6 fl_X1_21 sh_8 fj_8_3 hm ?_
    refine b_icmp_ge (X := ((i : Nat) : Int)) (Y := ((m : Nat) : Int)) (tgt := 23) (nI_toInt (by omega)) (nI_toInt (by omega)) dX1_stands_9 (by decide) ?_ ?_
    · intro c_9_t
      exfalso; omega
    · intro c_9_f
      refine e_iload_n (i := 1) dX1_stands_12 rfl rfl ?_
      refine e_sipush (v := 201) dX1_stands_13 (by decide) ?_
      refine b_icmp_ge (X := ((i : Nat) : Int)) (Y := 201) (tgt := 23) (nI_toInt (by omega)) (by decide) dX1_stands_16 (by decide) ?_ ?_
      · intro c_16_t
        exfalso; omega
      · intro c_16_f
        refine e_iconst (v := 1) dX1_stands_19 (by decide) ?_
        refine e_goto (tgt := 24) dX1_stands_20 (by decide) ?_
        refine e_iret dX1_stands_24 (mret_z (by first | decide | (simp only []; split <;> decide))) ?_
        exact hR
set_option maxHeartbeats 1000000 in
theorem k_C_argument (l : Launch) (h : mH) (i m : Nat) (hm : h 8 3 = nI m) (hi : i < m) (hM : m ≤ 201) : mD l Sh0 iX1_argument [.inr 8, .inl (nI i)] h (some (h 22 i)) h := by
  intro RT hR
  show mE l Sh0 none iX1_argument RT 0 [some (.inr 8), some (.inl (nI i))] [] h
  refine e_aload_n (i := 0) dX1_argument_0 rfl rfl ?_
  refine e_iload_n (i := 1) dX1_argument_1 rfl rfl ?_
  refine e_invVi (As := [.inl (nI i)]) (v := 1) (h2 := h) dX1_argument_2 lk_X1_25 yv_X1_stands rfl rfl rfl (Nat.le_of_ble_eq_true rfl) sh_8 ci_X1 (Nat.le_of_ble_eq_true rfl) ⟨Nat.le_of_ble_eq_true rfl, Nat.le_of_ble_eq_true rfl⟩ (k_C_stands l h i m hm hi hM) ?_
  refine b_if_eq (X := 1) (tgt := 17) (by decide) dX1_argument_5 (by decide) ?_ ?_
  · intro e_5_t c_5_t
    exfalso; omega
  · intro e_5_f c_5_f
    refine e_aload_n (i := 0) dX1_argument_8 rfl rfl ?_
    refine e_getR (r := 22) dX1_argument_9 fl_X1_11 sh_8 fj_8_0 ?_
    refine e_iload_n (i := 1) dX1_argument_12 rfl rfl ?_
    refine e_iald (x := h 22 i) dX1_argument_13 sh_22 (vin_ofX (X := ((i : Nat) : Int)) (nI_toInt (by omega)) (by omega) (by omega)) (by rw [nI_clamp (by omega)]) ?_
    refine e_goto (tgt := 18) dX1_argument_14 (by decide) ?_
    refine e_iret dX1_argument_18 (mret_i _) ?_
    exact hR
set_option maxHeartbeats 1000000 in
theorem k_C_keptTop (l : Launch) (h : mH) (i m : Nat) (hm : h 8 3 = nI m) (hi : i < m) (hM : m ≤ 201) : mD l Sh0 iX1_keptTop [.inr 8, .inl (nI i)] h (some (h 23 i)) h := by
  intro RT hR
  show mE l Sh0 none iX1_keptTop RT 0 [some (.inr 8), some (.inl (nI i))] [] h
  refine e_aload_n (i := 0) dX1_keptTop_0 rfl rfl ?_
  refine e_iload_n (i := 1) dX1_keptTop_1 rfl rfl ?_
  refine e_invVi (As := [.inl (nI i)]) (v := 1) (h2 := h) dX1_keptTop_2 lk_X1_25 yv_X1_stands rfl rfl rfl (Nat.le_of_ble_eq_true rfl) sh_8 ci_X1 (Nat.le_of_ble_eq_true rfl) ⟨Nat.le_of_ble_eq_true rfl, Nat.le_of_ble_eq_true rfl⟩ (k_C_stands l h i m hm hi hM) ?_
  refine b_if_eq (X := 1) (tgt := 17) (by decide) dX1_keptTop_5 (by decide) ?_ ?_
  · intro e_5_t c_5_t
    exfalso; omega
  · intro e_5_f c_5_f
    refine e_aload_n (i := 0) dX1_keptTop_8 rfl rfl ?_
    refine e_getR (r := 23) dX1_keptTop_9 fl_X1_15 sh_8 fj_8_1 ?_
    refine e_iload_n (i := 1) dX1_keptTop_12 rfl rfl ?_
    refine e_iald (x := h 23 i) dX1_keptTop_13 sh_23 (vin_ofX (X := ((i : Nat) : Int)) (nI_toInt (by omega)) (by omega) (by omega)) (by rw [nI_clamp (by omega)]) ?_
    refine e_goto (tgt := 18) dX1_keptTop_14 (by decide) ?_
    refine e_iret dX1_keptTop_18 (mret_i _) ?_
    exact hR
set_option maxHeartbeats 1000000 in
theorem k_C_keptHand (l : Launch) (h : mH) (i m : Nat) (hm : h 8 3 = nI m) (hi : i < m) (hM : m ≤ 201) : mD l Sh0 iX1_keptHand [.inr 8, .inl (nI i)] h (some (h 24 i)) h := by
  intro RT hR
  show mE l Sh0 none iX1_keptHand RT 0 [some (.inr 8), some (.inl (nI i))] [] h
  refine e_aload_n (i := 0) dX1_keptHand_0 rfl rfl ?_
  refine e_iload_n (i := 1) dX1_keptHand_1 rfl rfl ?_
  refine e_invVi (As := [.inl (nI i)]) (v := 1) (h2 := h) dX1_keptHand_2 lk_X1_25 yv_X1_stands rfl rfl rfl (Nat.le_of_ble_eq_true rfl) sh_8 ci_X1 (Nat.le_of_ble_eq_true rfl) ⟨Nat.le_of_ble_eq_true rfl, Nat.le_of_ble_eq_true rfl⟩ (k_C_stands l h i m hm hi hM) ?_
  refine b_if_eq (X := 1) (tgt := 17) (by decide) dX1_keptHand_5 (by decide) ?_ ?_
  · intro e_5_t c_5_t
    exfalso; omega
  · intro e_5_f c_5_f
    refine e_aload_n (i := 0) dX1_keptHand_8 rfl rfl ?_
    refine e_getR (r := 24) dX1_keptHand_9 fl_X1_18 sh_8 fj_8_2 ?_
    refine e_iload_n (i := 1) dX1_keptHand_12 rfl rfl ?_
    refine e_iald (x := h 24 i) dX1_keptHand_13 sh_24 (vin_ofX (X := ((i : Nat) : Int)) (nI_toInt (by omega)) (by omega) (by omega)) (by rw [nI_clamp (by omega)]) ?_
    refine e_goto (tgt := 18) dX1_keptHand_14 (by decide) ?_
    refine e_iret dX1_keptHand_18 (mret_i _) ?_
    exact hR
def enH (h : mH) (m : Nat) (a b c : Int32) : mH := hs (hs (hs (hs h 22 m a) 23 m b) 24 m c) 8 3 (nI (m + 1))
set_option maxHeartbeats 1000000 in
theorem k_C_enter (l : Launch) (h : mH) (m : Nat) (hm : h 8 3 = nI m) (hM : m < 201) (x y z : Int32) : mD l Sh0 iX1_enter [.inr 8, .inl x, .inl y, .inl z] h (some (nI m)) (enH h m x y z) := by
  intro RT hR
  show mE l Sh0 none iX1_enter RT 0 [some (.inr 8), some (.inl x), some (.inl y), some (.inl z)] [] h
  refine e_aload_n (i := 0) dX1_enter_0 rfl rfl ?_
  refine e_getI (x := nI m) dX1_enter_1 fl_X1_21 sh_8 fj_8_3 hm ?_
  refine b_if_lt (X := ((m : Nat) : Int)) (tgt := 17) (nI_toInt (by omega)) dX1_enter_4 (by decide) ?_ ?_
  · intro c_4_t
    exfalso; omega
  · intro c_4_f
    refine e_aload_n (i := 0) dX1_enter_7 rfl rfl ?_
    refine e_getI (x := nI m) dX1_enter_8 fl_X1_21 sh_8 fj_8_3 hm ?_
    refine e_sipush (v := 201) dX1_enter_11 (by decide) ?_
    refine b_icmp_lt (X := ((m : Nat) : Int)) (Y := 201) (tgt := 19) (nI_toInt (by omega)) (by decide) dX1_enter_14 (by decide) ?_ ?_
    · intro c_14_t
      refine e_aload_n (i := 0) dX1_enter_19 rfl rfl ?_
      refine e_getR (r := 22) dX1_enter_20 fl_X1_11 sh_8 fj_8_0 ?_
      refine e_aload_n (i := 0) dX1_enter_23 rfl rfl ?_
      refine e_getI (x := nI m) dX1_enter_24 fl_X1_21 sh_8 fj_8_3 hm ?_
      refine e_iload_n (i := 1) dX1_enter_27 rfl rfl ?_
      refine e_iast dX1_enter_28 sh_22 (vin_ofX (X := ((m : Nat) : Int)) (nI_toInt (by omega)) (by omega) (by omega)) ?_
      rw [nI_clamp (by omega)]
      refine e_aload_n (i := 0) dX1_enter_29 rfl rfl ?_
      refine e_getR (r := 23) dX1_enter_30 fl_X1_15 sh_8 fj_8_1 ?_
      refine e_aload_n (i := 0) dX1_enter_33 rfl rfl ?_
      refine e_getI (x := nI m) dX1_enter_34 fl_X1_21 sh_8 fj_8_3 hm ?_
      refine e_iload_n (i := 2) dX1_enter_37 rfl rfl ?_
      refine e_iast dX1_enter_38 sh_23 (vin_ofX (X := ((m : Nat) : Int)) (nI_toInt (by omega)) (by omega) (by omega)) ?_
      rw [nI_clamp (by omega)]
      refine e_aload_n (i := 0) dX1_enter_39 rfl rfl ?_
      refine e_getR (r := 24) dX1_enter_40 fl_X1_18 sh_8 fj_8_2 ?_
      refine e_aload_n (i := 0) dX1_enter_43 rfl rfl ?_
      refine e_getI (x := nI m) dX1_enter_44 fl_X1_21 sh_8 fj_8_3 hm ?_
      refine e_iload_n (i := 3) dX1_enter_47 rfl rfl ?_
      refine e_iast dX1_enter_48 sh_24 (vin_ofX (X := ((m : Nat) : Int)) (nI_toInt (by omega)) (by omega) (by omega)) ?_
      rw [nI_clamp (by omega)]
      refine e_aload_n (i := 0) dX1_enter_49 rfl rfl ?_
      refine e_dup dX1_enter_50 ?_
      refine e_getI (x := nI m) dX1_enter_51 fl_X1_21 sh_8 fj_8_3 hm ?_
      refine e_iconst (v := 1) dX1_enter_54 (by decide) ?_
      refine z_iadd (z := nI (m + 1)) (nI_addc _ 1) dX1_enter_55 ?_
      refine e_putI dX1_enter_56 fl_X1_21 fp_X1_3 sh_8 fj_8_3 ?_
      refine e_aload_n (i := 0) dX1_enter_59 rfl rfl ?_
      refine e_getI (x := nI (m + 1)) dX1_enter_60 fl_X1_21 sh_8 fj_8_3 rfl ?_
      refine e_iconst (v := 1) dX1_enter_63 (by decide) ?_
      refine z_isub (z := nI m) (nI_pred m) dX1_enter_64 ?_
      refine e_iret dX1_enter_65 (mret_i _) ?_
      exact hR
    · intro c_14_f
      exfalso; omega
set_option maxHeartbeats 1000000 in
theorem k_X_give (l : Launch) (h : mH) (x : Int32) : mD l Sh0 iX4_give [.inr 6, .inl x] h (none) (hs (hs h 6 8 x) 6 5 0) := by
  intro RT hR
  show mE l Sh0 none iX4_give RT 0 [some (.inr 6), some (.inl x)] [] h
  refine e_aload_n (i := 0) dX4_give_0 rfl rfl ?_
  refine e_iload_n (i := 1) dX4_give_1 rfl rfl ?_
  refine e_putI dX4_give_2 fl_X4_89 fp_X4_8 sh_6 fj_6_8 ?_
  refine e_aload_n (i := 0) dX4_give_5 rfl rfl ?_
  refine e_iconst (v := 0) dX4_give_6 (by decide) ?_
  refine e_putZ dX4_give_7 fl_X4_70 fp_X4_5 sh_6 fj_6_5 (by decide) ?_
  refine e_ret dX4_give_10 rfl ?_
  exact hR
def entH (h : mH) (m : Nat) (p a b c : Int32) : mH := hs (hs (hs (enH h m a b c) 6 7 (nI m)) 6 6 (p * 40)) 6 5 1
set_option maxHeartbeats 1000000 in
theorem k_X_enter (l : Launch) (h : mH) (m : Nat) (hm : h 8 3 = nI m) (hM : m < 201) (p x y z : Int32) : mD l Sh0 iX4_enter [.inr 6, .inl p, .inl x, .inl y, .inl z] h (none) (entH h m p x y z) := by
  intro RT hR
  show mE l Sh0 none iX4_enter RT 0 [some (.inr 6), some (.inl p), some (.inl x), some (.inl y), some (.inl z)] [] h
  refine e_aload_n (i := 0) dX4_enter_0 rfl rfl ?_
  refine e_aload_n (i := 0) dX4_enter_1 rfl rfl ?_
  refine e_getR (r := 8) dX4_enter_2 fl_X4_21 sh_6 fj_6_2 ?_
  refine e_iload_n (i := 2) dX4_enter_5 rfl rfl ?_
  refine e_iload_n (i := 3) dX4_enter_6 rfl rfl ?_
  refine e_iload dX4_enter_7 rfl ?_
  refine e_invVi (As := [.inl x, .inl y, .inl z]) (v := nI m) (h2 := (enH h m x y z)) dX4_enter_9 lk_X4_80 yv_X1_enter rfl rfl rfl (Nat.le_of_ble_eq_true rfl) sh_8 ci_X1 (Nat.le_of_ble_eq_true rfl) ⟨Nat.le_of_ble_eq_true rfl, Nat.le_of_ble_eq_true rfl⟩ (k_C_enter l h m hm hM x y z) ?_
  refine e_putI dX4_enter_12 fl_X4_83 fp_X4_7 sh_6 fj_6_7 ?_
  refine e_aload_n (i := 0) dX4_enter_15 rfl rfl ?_
  refine e_iload_n (i := 1) dX4_enter_16 rfl rfl ?_
  refine e_bipush (v := 40) dX4_enter_17 (by decide) ?_
  refine e_imul dX4_enter_19 ?_
  refine e_putI dX4_enter_20 fl_X4_86 fp_X4_6 sh_6 fj_6_6 ?_
  refine e_aload_n (i := 0) dX4_enter_23 rfl rfl ?_
  refine e_iconst (v := 1) dX4_enter_24 (by decide) ?_
  refine e_putZ dX4_enter_25 fl_X4_70 fp_X4_5 sh_6 fj_6_5 (by decide) ?_
  refine e_ret dX4_enter_28 rfl ?_
  exact hR
def cMin (a b : Int32) : Int32 := if b < a then b else a
def cAct (s a b : Int32) : Int32 := if s.toInt = 43 then (a + b) &&& 7 else if s.toInt = 45 then (a - b) &&& 7 else if s.toInt = 42 then (a * b) &&& 7 else cMin a b
set_option maxHeartbeats 1000000 in
theorem k_X_act (l : Launch) (h : mH) (s x y : Int32) : mD l Sh0 iX4_act [.inl s, .inl x, .inl y] h (some (cAct s x y)) h := by
  intro RT hR
  show mE l Sh0 none iX4_act RT 0 [some (.inl s), some (.inl x), some (.inl y)] [] h
  refine e_iload_n (i := 0) dX4_act_0 rfl rfl ?_
  by_cases sw_1 : s.toInt < 42 ∨ 45 < s.toInt
  · refine e_tableOut (tgt := 53) dX4_act_1 sw_1 (by decide) ?_
    refine e_iload_n (i := 1) dX4_act_53 rfl rfl ?_
    refine e_iload_n (i := 2) dX4_act_54 rfl rfl ?_
    refine e_min dX4_act_55 lk_X4_156 mm_min.1 mm_min.2.1 mm_min.2.2 ⟨Nat.le_of_ble_eq_true rfl, Nat.le_of_ble_eq_true rfl⟩ ?_
    refine e_iret dX4_act_58 (mret_i _) ?_
    unfold cAct at hR; first | exact hR | ((repeat' (split at hR)) <;> first | exact hR | (exfalso; omega))
  · have sw2_1 : s.toInt = 42 ∨ s.toInt = 43 ∨ s.toInt = 44 ∨ s.toInt = 45 := by omega
    rcases sw2_1 with sv_1 | sv_1 | sv_1 | sv_1
    · refine e_tableIn (off := 45) (tgt := 46) dX4_act_1 (by omega) (by omega) (by rw [sv_1]; rfl) (by decide) ?_
      refine e_iload_n (i := 1) dX4_act_46 rfl rfl ?_
      refine e_iload_n (i := 2) dX4_act_47 rfl rfl ?_
      refine e_imul dX4_act_48 ?_
      refine e_bipush (v := 7) dX4_act_49 (by decide) ?_
      refine e_iand dX4_act_51 ?_
      refine e_iret dX4_act_52 (mret_i _) ?_
      unfold cAct at hR; first | exact hR | ((repeat' (split at hR)) <;> first | exact hR | (exfalso; omega))
    · refine e_tableIn (off := 31) (tgt := 32) dX4_act_1 (by omega) (by omega) (by rw [sv_1]; rfl) (by decide) ?_
      refine e_iload_n (i := 1) dX4_act_32 rfl rfl ?_
      refine e_iload_n (i := 2) dX4_act_33 rfl rfl ?_
      refine e_iadd dX4_act_34 ?_
      refine e_bipush (v := 7) dX4_act_35 (by decide) ?_
      refine e_iand dX4_act_37 ?_
      refine e_iret dX4_act_38 (mret_i _) ?_
      unfold cAct at hR; first | exact hR | ((repeat' (split at hR)) <;> first | exact hR | (exfalso; omega))
    · refine e_tableIn (off := 52) (tgt := 53) dX4_act_1 (by omega) (by omega) (by rw [sv_1]; rfl) (by decide) ?_
      refine e_iload_n (i := 1) dX4_act_53 rfl rfl ?_
      refine e_iload_n (i := 2) dX4_act_54 rfl rfl ?_
      refine e_min dX4_act_55 lk_X4_156 mm_min.1 mm_min.2.1 mm_min.2.2 ⟨Nat.le_of_ble_eq_true rfl, Nat.le_of_ble_eq_true rfl⟩ ?_
      refine e_iret dX4_act_58 (mret_i _) ?_
      unfold cAct at hR; first | exact hR | ((repeat' (split at hR)) <;> first | exact hR | (exfalso; omega))
    · refine e_tableIn (off := 38) (tgt := 39) dX4_act_1 (by omega) (by omega) (by rw [sv_1]; rfl) (by decide) ?_
      refine e_iload_n (i := 1) dX4_act_39 rfl rfl ?_
      refine e_iload_n (i := 2) dX4_act_40 rfl rfl ?_
      refine e_isub dX4_act_41 ?_
      refine e_bipush (v := 7) dX4_act_42 (by decide) ?_
      refine e_iand dX4_act_44 ?_
      refine e_iret dX4_act_45 (mret_i _) ?_
      unfold cAct at hR; first | exact hR | ((repeat' (split at hR)) <;> first | exact hR | (exfalso; omega))
def cTell (h : mH) (w : Int) : Int32 := if w = 0 then h 6 9 else if w = 1 then h 6 10 else if w = 2 then h 6 11 else if w = 3 then h 6 12 else if w = 4 then h 6 13 else if w = 5 then h 6 14 else h 6 15
set_option maxHeartbeats 1000000 in
theorem k_X_tell (l : Launch) (h : mH) (w : Int32) : mD l Sh0 iX4_tell [.inr 6, .inl w] h (some (cTell h w.toInt)) h := by
  intro RT hR
  show mE l Sh0 none iX4_tell RT 0 [some (.inr 6), some (.inl w)] [] h
  refine e_iload_n (i := 1) dX4_tell_0 rfl rfl ?_
  by_cases sw_1 : w.toInt < 0 ∨ 5 < w.toInt
  · refine e_tableOut (tgt := 70) dX4_tell_1 sw_1 (by decide) ?_
    refine e_aload_n (i := 0) dX4_tell_70 rfl rfl ?_
    refine e_getI (x := h 6 15) dX4_tell_71 fl_X4_62 sh_6 fj_6_15 rfl ?_
    refine e_iret dX4_tell_74 (mret_i _) ?_
    unfold cTell at hR; first | exact hR | ((repeat' (split at hR)) <;> first | exact hR | (exfalso; omega))
  · have sw2_1 : w.toInt = 0 ∨ w.toInt = 1 ∨ w.toInt = 2 ∨ w.toInt = 3 ∨ w.toInt = 4 ∨ w.toInt = 5 := by omega
    rcases sw2_1 with sv_1 | sv_1 | sv_1 | sv_1 | sv_1 | sv_1
    · refine e_tableIn (off := 39) (tgt := 40) dX4_tell_1 (by omega) (by omega) (by rw [sv_1]; rfl) (by decide) ?_
      refine e_aload_n (i := 0) dX4_tell_40 rfl rfl ?_
      refine e_getI (x := h 6 9) dX4_tell_41 fl_X4_44 sh_6 fj_6_9 rfl ?_
      refine e_iret dX4_tell_44 (mret_i _) ?_
      unfold cTell at hR; first | exact hR | ((repeat' (split at hR)) <;> first | exact hR | (exfalso; omega))
    · refine e_tableIn (off := 44) (tgt := 45) dX4_tell_1 (by omega) (by omega) (by rw [sv_1]; rfl) (by decide) ?_
      refine e_aload_n (i := 0) dX4_tell_45 rfl rfl ?_
      refine e_getI (x := h 6 10) dX4_tell_46 fl_X4_47 sh_6 fj_6_10 rfl ?_
      refine e_iret dX4_tell_49 (mret_i _) ?_
      unfold cTell at hR; first | exact hR | ((repeat' (split at hR)) <;> first | exact hR | (exfalso; omega))
    · refine e_tableIn (off := 49) (tgt := 50) dX4_tell_1 (by omega) (by omega) (by rw [sv_1]; rfl) (by decide) ?_
      refine e_aload_n (i := 0) dX4_tell_50 rfl rfl ?_
      refine e_getI (x := h 6 11) dX4_tell_51 fl_X4_50 sh_6 fj_6_11 rfl ?_
      refine e_iret dX4_tell_54 (mret_i _) ?_
      unfold cTell at hR; first | exact hR | ((repeat' (split at hR)) <;> first | exact hR | (exfalso; omega))
    · refine e_tableIn (off := 54) (tgt := 55) dX4_tell_1 (by omega) (by omega) (by rw [sv_1]; rfl) (by decide) ?_
      refine e_aload_n (i := 0) dX4_tell_55 rfl rfl ?_
      refine e_getI (x := h 6 12) dX4_tell_56 fl_X4_53 sh_6 fj_6_12 rfl ?_
      refine e_iret dX4_tell_59 (mret_i _) ?_
      unfold cTell at hR; first | exact hR | ((repeat' (split at hR)) <;> first | exact hR | (exfalso; omega))
    · refine e_tableIn (off := 59) (tgt := 60) dX4_tell_1 (by omega) (by omega) (by rw [sv_1]; rfl) (by decide) ?_
      refine e_aload_n (i := 0) dX4_tell_60 rfl rfl ?_
      refine e_getI (x := h 6 13) dX4_tell_61 fl_X4_56 sh_6 fj_6_13 rfl ?_
      refine e_iret dX4_tell_64 (mret_i _) ?_
      unfold cTell at hR; first | exact hR | ((repeat' (split at hR)) <;> first | exact hR | (exfalso; omega))
    · refine e_tableIn (off := 64) (tgt := 65) dX4_tell_1 (by omega) (by omega) (by rw [sv_1]; rfl) (by decide) ?_
      refine e_aload_n (i := 0) dX4_tell_65 rfl rfl ?_
      refine e_getI (x := h 6 14) dX4_tell_66 fl_X4_59 sh_6 fj_6_14 rfl ?_
      refine e_iret dX4_tell_69 (mret_i _) ?_
      unfold cTell at hR; first | exact hR | ((repeat' (split at hR)) <;> first | exact hR | (exfalso; omega))
def cWho (h : mH) (i : Int32) : Int32 := if 0 ≤ i.toInt ∧ i.toInt < (h 6 15).toInt ∧ i.toInt < 200 then h 19 i.toInt.toNat else -6
set_option maxHeartbeats 1000000 in
theorem k_X_answerer (l : Launch) (h : mH) (i : Int32) : mD l Sh0 iX4_answerer [.inr 6, .inl i] h (some (cWho h i)) h := by
  intro RT hR
  show mE l Sh0 none iX4_answerer RT 0 [some (.inr 6), some (.inl i)] [] h
  refine e_iload_n (i := 1) dX4_answerer_0 rfl rfl ?_
  refine b_if_lt (X := i.toInt) (tgt := 28) rfl dX4_answerer_1 (by decide) ?_ ?_
  · intro c_1_t
    refine e_bipush (v := (-6)) dX4_answerer_28 (by decide) ?_
    refine e_iret dX4_answerer_30 (mret_i _) ?_
    unfold cWho at hR; first | exact hR | ((repeat' (split at hR)) <;> first | exact hR | (exfalso; omega))
  · intro c_1_f
    refine e_iload_n (i := 1) dX4_answerer_4 rfl rfl ?_
    refine e_aload_n (i := 0) dX4_answerer_5 rfl rfl ?_
    refine e_getI (x := h 6 15) dX4_answerer_6 fl_X4_62 sh_6 fj_6_15 rfl ?_
    refine b_icmp_ge (X := i.toInt) (Y := (h 6 15).toInt) (tgt := 28) rfl rfl dX4_answerer_9 (by decide) ?_ ?_
    · intro c_9_t
      refine e_bipush (v := (-6)) dX4_answerer_28 (by decide) ?_
      refine e_iret dX4_answerer_30 (mret_i _) ?_
      unfold cWho at hR; first | exact hR | ((repeat' (split at hR)) <;> first | exact hR | (exfalso; omega))
    · intro c_9_f
      refine e_iload_n (i := 1) dX4_answerer_12 rfl rfl ?_
      refine e_sipush (v := 200) dX4_answerer_13 (by decide) ?_
      refine b_icmp_ge (X := i.toInt) (Y := 200) (tgt := 28) rfl (by decide) dX4_answerer_16 (by decide) ?_ ?_
      · intro c_16_t
        refine e_bipush (v := (-6)) dX4_answerer_28 (by decide) ?_
        refine e_iret dX4_answerer_30 (mret_i _) ?_
        unfold cWho at hR; first | exact hR | ((repeat' (split at hR)) <;> first | exact hR | (exfalso; omega))
      · intro c_16_f
        refine e_aload_n (i := 0) dX4_answerer_19 rfl rfl ?_
        refine e_getR (r := 19) dX4_answerer_20 fl_X4_25 sh_6 fj_6_3 ?_
        refine e_iload_n (i := 1) dX4_answerer_23 rfl rfl ?_
        refine e_iald (x := h 19 ((i).toInt.toNat)) dX4_answerer_24 sh_19 (vin_ofX (X := i.toInt) rfl (by omega) (by omega)) rfl ?_
        refine e_goto (tgt := 30) dX4_answerer_25 (by decide) ?_
        refine e_iret dX4_answerer_30 (mret_i _) ?_
        unfold cWho at hR; first | exact hR | ((repeat' (split at hR)) <;> first | exact hR | (exfalso; omega))
def cDoing (h : mH) : Int32 := if (h 6 9).toInt = 8 then (h 6 12 + 1) * 100 + h 6 13 else h 6 9
set_option maxHeartbeats 1000000 in
theorem k_X_doing (l : Launch) (h : mH) : mD l Sh0 iX4_doing [.inr 6] h (some (cDoing h)) h := by
  intro RT hR
  show mE l Sh0 none iX4_doing RT 0 [some (.inr 6)] [] h
  refine e_aload_n (i := 0) dX4_doing_0 rfl rfl ?_
  refine e_getI (x := h 6 9) dX4_doing_1 fl_X4_44 sh_6 fj_6_9 rfl ?_
  refine e_bipush (v := 8) dX4_doing_4 (by decide) ?_
  refine b_icmp_ne (X := (h 6 9).toInt) (Y := 8) (tgt := 26) rfl (by decide) dX4_doing_6 (by decide) ?_ ?_
  · intro e_6_t c_6_t
    refine e_aload_n (i := 0) dX4_doing_26 rfl rfl ?_
    refine e_getI (x := h 6 9) dX4_doing_27 fl_X4_44 sh_6 fj_6_9 rfl ?_
    refine e_iret dX4_doing_30 (mret_i _) ?_
    unfold cDoing at hR; first | exact hR | ((repeat' (split at hR)) <;> first | exact hR | (exfalso; omega))
  · intro e_6_f c_6_f
    refine e_aload_n (i := 0) dX4_doing_9 rfl rfl ?_
    refine e_getI (x := h 6 12) dX4_doing_10 fl_X4_53 sh_6 fj_6_12 rfl ?_
    refine e_iconst (v := 1) dX4_doing_13 (by decide) ?_
    refine e_iadd dX4_doing_14 ?_
    refine e_bipush (v := 100) dX4_doing_15 (by decide) ?_
    refine e_imul dX4_doing_17 ?_
    refine e_aload_n (i := 0) dX4_doing_18 rfl rfl ?_
    refine e_getI (x := h 6 13) dX4_doing_19 fl_X4_56 sh_6 fj_6_13 rfl ?_
    refine e_iadd dX4_doing_22 ?_
    refine e_goto (tgt := 30) dX4_doing_23 (by decide) ?_
    refine e_iret dX4_doing_30 (mret_i _) ?_
    unfold cDoing at hR; first | exact hR | ((repeat' (split at hR)) <;> first | exact hR | (exfalso; omega))
def lay (u : Int32) : mH → Nat → List Nat → mH
  | h, _, [] => h
  | h, m, [i] => mkH h m (h 20 i) u
  | h, m, i :: j :: nd => lay u (mkH h m (h 20 i) (nI (m + 1))) (m + 1) (j :: nd)
/-- the nodes are linked, the last one is kh -/
def lnk (h : mH) (kh : Nat) : List Nat → Prop
  | [] => False
  | [i] => i = kh
  | i :: j :: nd => i ≠ kh ∧ h 21 i = nI j ∧ lnk h kh (j :: nd)
theorem mkH_20 (h : mH) (m : Nat) (a b : Int32) {i : Nat} (hi : i < m) : mkH h m a b 20 i = h 20 i := by
  unfold mkH
  rw [hs_ne _ _ (by omega), hs_ne _ _ (by omega), hs_ne _ _ (by omega)]
theorem mkH_21 (h : mH) (m : Nat) (a b : Int32) {i : Nat} (hi : i < m) : mkH h m a b 21 i = h 21 i := by
  unfold mkH
  rw [hs_ne _ _ (by omega), hs_ne _ _ (by omega), hs_ne _ _ (by omega)]
theorem lnk_mk {h : mH} {m : Nat} {a b : Int32} {kh : Nat} : ∀ {nd : List Nat}, (∀ i ∈ nd, i < m) → lnk h kh nd → lnk (mkH h m a b) kh nd
  | [], _, q => q
  | [i], _, q => q
  | i :: j :: nd, hn, q => ⟨q.1, by rw [mkH_21 _ _ _ _ (hn i List.mem_cons_self)]; exact q.2.1, lnk_mk (fun z hz => hn z (List.mem_cons_of_mem _ hz)) q.2.2⟩
set_option maxHeartbeats 1000000 in
theorem lp_T_layDown (l : Launch) (u y : Int32) (kh : Nat) (hkh : kh < 2 ^ 30) (RT : Option Int32 → mH → Prop) (z : Option mV) : ∀ (nd : List Nat) (h : mH) (m t : Nat), h 7 2 = nI m → (∀ i ∈ nd, i < m) → m + nd.length ≤ 8200 → t + nd.length ≤ 8200 → lnk h kh nd → RT (some 1) (lay u h m nd) → mE l Sh0 none iX5_layDown RT 19 [some (.inr 7), some (.inl y), some (.inl (nI kh)), some (.inl u), some (.inl (nI (nd.headD 0))), some (.inl (nI t)), z] [] h
  | [], h, m, t, hm, hn, hl, ht, hk, hR => absurd hk (fun q => q)
  | [i], h, m, t, hm, hn, hl, ht, hk, hR => by
    have hk : i = kh := hk
    have hi : i < m := hn i List.mem_cons_self
    have hl : m + 1 ≤ 8200 := hl
    have ht : t + 1 ≤ 8200 := ht
    show mE l Sh0 none iX5_layDown RT 19 [some (.inr 7), some (.inl y), some (.inl (nI kh)), some (.inl u), some (.inl (nI i)), some (.inl (nI t)), z] [] h
    refine e_iload dX5_layDown_19 rfl ?_
    refine e_sipush (v := 8200) dX5_layDown_21 (by decide) ?_
    refine b_icmp_ge (X := ((t : Nat) : Int)) (Y := 8200) (tgt := 102) (nI_toInt (by omega)) (by decide) dX5_layDown_24 (by decide) ?_ ?_
    · intro c_24_t
      exfalso; omega
    · intro c_24_f
      refine e_aload_n (i := 0) dX5_layDown_27 rfl rfl ?_
      refine e_iload dX5_layDown_28 rfl ?_
      refine e_invVi (As := [.inl (nI i)]) (v := 1) (h2 := h) dX5_layDown_30 lk_X5_25 yv_X5_stands rfl rfl rfl (Nat.le_of_ble_eq_true rfl) sh_7 ci_X5 (Nat.le_of_ble_eq_true rfl) ⟨Nat.le_of_ble_eq_true rfl, Nat.le_of_ble_eq_true rfl⟩ (k_T_stands l h i m hm hi (by omega)) ?_
      refine b_if_eq (X := 1) (tgt := 102) (by decide) dX5_layDown_33 (by decide) ?_ ?_
      · intro e_33_t c_33_t
        exfalso; omega
      · intro e_33_f c_33_f
        refine e_iload dX5_layDown_36 rfl ?_
        refine e_iload_n (i := 2) dX5_layDown_38 rfl rfl ?_
        refine b_icmp_ne (X := ((i : Nat) : Int)) (Y := ((kh : Nat) : Int)) (tgt := 46) (nI_toInt (by omega)) (nI_toInt (by omega)) dX5_layDown_39 (by decide) ?_ ?_
        · intro e_39_t c_39_t
          exfalso; omega
        · intro e_39_f c_39_f
          refine e_iconst (v := 1) dX5_layDown_42 (by decide) ?_
          refine e_goto (tgt := 47) dX5_layDown_43 (by decide) ?_
          refine e_istore (ls2 := [some (.inr 7), some (.inl y), some (.inl (nI kh)), some (.inl u), some (.inl (nI i)), some (.inl (nI t)), some (.inl 1)]) dX5_layDown_47 (Nat.le_of_ble_eq_true rfl) rfl ?_
          refine e_aload_n (i := 0) dX5_layDown_49 rfl rfl ?_
          refine e_aload_n (i := 0) dX5_layDown_50 rfl rfl ?_
          refine e_getR (r := 20) dX5_layDown_51 fl_X5_11 sh_7 fj_7_0 ?_
          refine e_iload dX5_layDown_54 rfl ?_
          refine e_iald (x := h 20 i) dX5_layDown_56 sh_20 (vin_ofX (X := ((i : Nat) : Int)) (nI_toInt (by omega)) (by omega) (by omega)) (by rw [nI_clamp (by omega)]) ?_
          refine e_iload dX5_layDown_57 rfl ?_
          refine b_if_eq (X := 1) (tgt := 66) (by decide) dX5_layDown_59 (by decide) ?_ ?_
          · intro e_59_t c_59_t
            exfalso; omega
          · intro e_59_f c_59_f
            refine e_iload_n (i := 3) dX5_layDown_62 rfl rfl ?_
            refine e_goto (tgt := 72) dX5_layDown_63 (by decide) ?_
            refine e_invVi (As := [.inl (h 20 i), .inl u]) (v := 1) (h2 := (mkH h m (h 20 i) u)) dX5_layDown_72 lk_X5_29 yv_X5_make rfl rfl rfl (Nat.le_of_ble_eq_true rfl) sh_7 ci_X5 (Nat.le_of_ble_eq_true rfl) ⟨Nat.le_of_ble_eq_true rfl, Nat.le_of_ble_eq_true rfl⟩ (k_T_make l h m hm (by omega) (h 20 i) u) ?_
            refine b_if_ne (X := 1) (tgt := 80) (by decide) dX5_layDown_75 (by decide) ?_ ?_
            · intro e_75_t c_75_t
              refine e_iload dX5_layDown_80 rfl ?_
              refine b_if_eq (X := 1) (tgt := 87) (by decide) dX5_layDown_82 (by decide) ?_ ?_
              · intro e_82_t c_82_t
                exfalso; omega
              · intro e_82_f c_82_f
                refine e_iconst (v := 1) dX5_layDown_85 (by decide) ?_
                refine e_iret dX5_layDown_86 (mret_z (by first | decide | (simp only []; split <;> decide))) ?_
                exact hR
            · intro e_75_f c_75_f
              exfalso; omega
  | i :: j :: nd, h, m, t, hm, hn, hl, ht, hk, hR => by
    obtain ⟨hk1, hk2, hk3⟩ := hk
    have hi : i < m := hn i List.mem_cons_self
    have hl : m + (nd.length + 1 + 1) ≤ 8200 := hl
    have ht : t + (nd.length + 1 + 1) ≤ 8200 := ht
    have hmk : mkH h m (h 20 i) (nI (m + 1)) 21 i = nI j := by rw [mkH_21 _ _ _ _ hi]; exact hk2
    show mE l Sh0 none iX5_layDown RT 19 [some (.inr 7), some (.inl y), some (.inl (nI kh)), some (.inl u), some (.inl (nI i)), some (.inl (nI t)), z] [] h
    refine e_iload dX5_layDown_19 rfl ?_
    refine e_sipush (v := 8200) dX5_layDown_21 (by decide) ?_
    refine b_icmp_ge (X := ((t : Nat) : Int)) (Y := 8200) (tgt := 102) (nI_toInt (by omega)) (by decide) dX5_layDown_24 (by decide) ?_ ?_
    · intro c_24_t
      exfalso; omega
    · intro c_24_f
      refine e_aload_n (i := 0) dX5_layDown_27 rfl rfl ?_
      refine e_iload dX5_layDown_28 rfl ?_
      refine e_invVi (As := [.inl (nI i)]) (v := 1) (h2 := h) dX5_layDown_30 lk_X5_25 yv_X5_stands rfl rfl rfl (Nat.le_of_ble_eq_true rfl) sh_7 ci_X5 (Nat.le_of_ble_eq_true rfl) ⟨Nat.le_of_ble_eq_true rfl, Nat.le_of_ble_eq_true rfl⟩ (k_T_stands l h i m hm hi (by omega)) ?_
      refine b_if_eq (X := 1) (tgt := 102) (by decide) dX5_layDown_33 (by decide) ?_ ?_
      · intro e_33_t c_33_t
        exfalso; omega
      · intro e_33_f c_33_f
        refine e_iload dX5_layDown_36 rfl ?_
        refine e_iload_n (i := 2) dX5_layDown_38 rfl rfl ?_
        refine b_icmp_ne (X := ((i : Nat) : Int)) (Y := ((kh : Nat) : Int)) (tgt := 46) (nI_toInt (by omega)) (nI_toInt (by omega)) dX5_layDown_39 (by decide) ?_ ?_
        · intro e_39_t c_39_t
          refine e_iconst (v := 0) dX5_layDown_46 (by decide) ?_
          refine e_istore (ls2 := [some (.inr 7), some (.inl y), some (.inl (nI kh)), some (.inl u), some (.inl (nI i)), some (.inl (nI t)), some (.inl 0)]) dX5_layDown_47 (Nat.le_of_ble_eq_true rfl) rfl ?_
          refine e_aload_n (i := 0) dX5_layDown_49 rfl rfl ?_
          refine e_aload_n (i := 0) dX5_layDown_50 rfl rfl ?_
          refine e_getR (r := 20) dX5_layDown_51 fl_X5_11 sh_7 fj_7_0 ?_
          refine e_iload dX5_layDown_54 rfl ?_
          refine e_iald (x := h 20 i) dX5_layDown_56 sh_20 (vin_ofX (X := ((i : Nat) : Int)) (nI_toInt (by omega)) (by omega) (by omega)) (by rw [nI_clamp (by omega)]) ?_
          refine e_iload dX5_layDown_57 rfl ?_
          refine b_if_eq (X := 0) (tgt := 66) (by decide) dX5_layDown_59 (by decide) ?_ ?_
          · intro e_59_t c_59_t
            refine e_aload_n (i := 0) dX5_layDown_66 rfl rfl ?_
            refine e_getI (x := nI m) dX5_layDown_67 fl_X5_18 sh_7 fj_7_2 hm ?_
            refine e_iconst (v := 1) dX5_layDown_70 (by decide) ?_
            refine z_iadd (z := nI (m + 1)) (nI_addc _ 1) dX5_layDown_71 ?_
            refine e_invVi (As := [.inl (h 20 i), .inl (nI (m + 1))]) (v := 1) (h2 := (mkH h m (h 20 i) (nI (m + 1)))) dX5_layDown_72 lk_X5_29 yv_X5_make rfl rfl rfl (Nat.le_of_ble_eq_true rfl) sh_7 ci_X5 (Nat.le_of_ble_eq_true rfl) ⟨Nat.le_of_ble_eq_true rfl, Nat.le_of_ble_eq_true rfl⟩ (k_T_make l h m hm (by omega) (h 20 i) (nI (m + 1))) ?_
            refine b_if_ne (X := 1) (tgt := 80) (by decide) dX5_layDown_75 (by decide) ?_ ?_
            · intro e_75_t c_75_t
              refine e_iload dX5_layDown_80 rfl ?_
              refine b_if_eq (X := 0) (tgt := 87) (by decide) dX5_layDown_82 (by decide) ?_ ?_
              · intro e_82_t c_82_t
                refine e_aload_n (i := 0) dX5_layDown_87 rfl rfl ?_
                refine e_getR (r := 21) dX5_layDown_88 fl_X5_15 sh_7 fj_7_1 ?_
                refine e_iload dX5_layDown_91 rfl ?_
                refine e_iald (x := nI j) dX5_layDown_93 sh_21 (vin_ofX (X := ((i : Nat) : Int)) (nI_toInt (by omega)) (by omega) (by omega)) (by rw [nI_clamp (by omega)]; exact hmk) ?_
                refine e_istore (ls2 := [some (.inr 7), some (.inl y), some (.inl (nI kh)), some (.inl u), some (.inl (nI j)), some (.inl (nI t)), some (.inl 0)]) dX5_layDown_94 (Nat.le_of_ble_eq_true rfl) rfl ?_
                refine e_iinc (v := nI (t + 1)) (ls2 := [some (.inr 7), some (.inl y), some (.inl (nI kh)), some (.inl u), some (.inl (nI j)), some (.inl (nI (t + 1))), some (.inl 0)]) dX5_layDown_96 rfl (nI_inc1 _) (Nat.le_of_ble_eq_true rfl) rfl ?_
                refine e_goto (tgt := 19) dX5_layDown_99 (by decide) ?_
                exact lp_T_layDown l u y kh hkh RT (some (.inl 0)) (j :: nd) (mkH h m (h 20 i) (nI (m + 1))) (m + 1) (t + 1) rfl (fun q hq => Nat.lt_succ_of_lt (hn q (List.mem_cons_of_mem _ hq))) (by simp only [List.length_cons]; omega) (by simp only [List.length_cons]; omega) (lnk_mk (fun q hq => hn q (List.mem_cons_of_mem _ hq)) hk3) hR
              · intro e_82_f c_82_f
                exfalso; omega
            · intro e_75_f c_75_f
              exfalso; omega
          · intro e_59_f c_59_f
            exfalso; omega
        · intro e_39_f c_39_f
          exfalso; omega
theorem lnk_st {h : mH} {t : Int32} {kh : Nat} : ∀ {nd : List Nat}, lnk h kh nd → lnk (hs h 7 3 t) kh nd
  | [], q => q
  | [i], q => q
  | i :: j :: nd, q => ⟨q.1, q.2.1, lnk_st q.2.2⟩
set_option maxHeartbeats 1000000 in
theorem k_T_layDown (l : Launch) (h : mH) (m : Nat) (hm : h 7 2 = nI m) (kh : Nat) (hkh : kh < 2 ^ 30) (nd : List Nat) (hn : ∀ i ∈ nd, i < m) (hl : m + nd.length ≤ 8200) (hk : lnk h kh nd) : mD l Sh0 iX5_layDown [.inr 7, .inl (nI (nd.headD 0)), .inl (nI kh)] h (some 1) (lay (h 7 3) (hs h 7 3 (nI m)) m nd) := by
  intro RT hR
  show mE l Sh0 none iX5_layDown RT 0 [some (.inr 7), some (.inl (nI (nd.headD 0))), some (.inl (nI kh)), none, none, none, none] [] h
  refine e_aload_n (i := 0) dX5_layDown_0 rfl rfl ?_
  refine e_getI (x := h 7 3) dX5_layDown_1 fl_X5_22 sh_7 fj_7_3 rfl ?_
  refine e_istore_n (i := 3) (ls2 := [some (.inr 7), some (.inl (nI (nd.headD 0))), some (.inl (nI kh)), some (.inl (h 7 3)), none, none, none]) dX5_layDown_4 rfl (Nat.le_of_ble_eq_true rfl) rfl ?_
  refine e_iload_n (i := 1) dX5_layDown_5 rfl rfl ?_
  refine e_istore (ls2 := [some (.inr 7), some (.inl (nI (nd.headD 0))), some (.inl (nI kh)), some (.inl (h 7 3)), some (.inl (nI (nd.headD 0))), none, none]) dX5_layDown_6 (Nat.le_of_ble_eq_true rfl) rfl ?_
  refine e_aload_n (i := 0) dX5_layDown_8 rfl rfl ?_
  refine e_aload_n (i := 0) dX5_layDown_9 rfl rfl ?_
  refine e_getI (x := nI m) dX5_layDown_10 fl_X5_18 sh_7 fj_7_2 hm ?_
  refine e_putI dX5_layDown_13 fl_X5_22 fp_X5_3 sh_7 fj_7_3 ?_
  refine e_iconst (v := 0) dX5_layDown_16 (by decide) ?_
  refine e_istore (ls2 := [some (.inr 7), some (.inl (nI (nd.headD 0))), some (.inl (nI kh)), some (.inl (h 7 3)), some (.inl (nI (nd.headD 0))), some (.inl 0), none]) dX5_layDown_17 (Nat.le_of_ble_eq_true rfl) rfl ?_
  exact lp_T_layDown l (h 7 3) (nI (nd.headD 0)) kh hkh RT none nd (hs h 7 3 (nI m)) m 0 hm hn hl (by omega) (lnk_st hk) hR
