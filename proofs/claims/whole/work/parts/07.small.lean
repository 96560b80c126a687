set_option maxHeartbeats 1000000 in
theorem k_B_sign (l : Launch) (h : mH) (x : Int32) : mD l Sh0 iX0_sign [.inr 2, .inl x] h (some (gA h 13 800 0 x)) h := by
  intro RT hR
  show mE l Sh0 none iX0_sign RT 0 [some (.inr 2), some (.inl x)] [] h
  refine e_iload_n (i := 1) dX0_sign_0 rfl rfl ?_
  refine b_if_lt (X := x.toInt) (tgt := 20) rfl dX0_sign_1 (by decide) ?_ ?_
  · intro c_1_t
    refine e_iconst (v := 0) dX0_sign_20 (by decide) ?_
    refine e_iret dX0_sign_21 (mret_i _) ?_
    unfold gA at hR; first | exact hR | ((repeat' (split at hR)) <;> first | exact hR | (exfalso; omega))
  · intro c_1_f
    refine e_iload_n (i := 1) dX0_sign_4 rfl rfl ?_
    refine e_sipush (v := 800) dX0_sign_5 (by decide) ?_
    refine b_icmp_ge (X := x.toInt) (Y := 800) (tgt := 20) rfl (by decide) dX0_sign_8 (by decide) ?_ ?_
    · intro c_8_t
      refine e_iconst (v := 0) dX0_sign_20 (by decide) ?_
      refine e_iret dX0_sign_21 (mret_i _) ?_
      unfold gA at hR; first | exact hR | ((repeat' (split at hR)) <;> first | exact hR | (exfalso; omega))
    · intro c_8_f
      refine e_aload_n (i := 0) dX0_sign_11 rfl rfl ?_
      refine e_getR (r := 13) dX0_sign_12 fl_X0_9 sh_2 fj_2_0 ?_
      refine e_iload_n (i := 1) dX0_sign_15 rfl rfl ?_
      refine e_iald (x := h 13 ((x).toInt.toNat)) dX0_sign_16 sh_13 (vin_ofX (X := x.toInt) rfl (by omega) (by omega)) rfl ?_
      refine e_goto (tgt := 21) dX0_sign_17 (by decide) ?_
      refine e_iret dX0_sign_21 (mret_i _) ?_
      unfold gA at hR; first | exact hR | ((repeat' (split at hR)) <;> first | exact hR | (exfalso; omega))
set_option maxHeartbeats 1000000 in
theorem k_B_after (l : Launch) (h : mH) (x : Int32) : mD l Sh0 iX0_after [.inr 2, .inl x] h (some (gA h 14 800 (-1) x)) h := by
  intro RT hR
  show mE l Sh0 none iX0_after RT 0 [some (.inr 2), some (.inl x)] [] h
  refine e_iload_n (i := 1) dX0_after_0 rfl rfl ?_
  refine b_if_lt (X := x.toInt) (tgt := 20) rfl dX0_after_1 (by decide) ?_ ?_
  · intro c_1_t
    refine e_iconst (v := (-1)) dX0_after_20 (by decide) ?_
    refine e_iret dX0_after_21 (mret_i _) ?_
    unfold gA at hR; first | exact hR | ((repeat' (split at hR)) <;> first | exact hR | (exfalso; omega))
  · intro c_1_f
    refine e_iload_n (i := 1) dX0_after_4 rfl rfl ?_
    refine e_sipush (v := 800) dX0_after_5 (by decide) ?_
    refine b_icmp_ge (X := x.toInt) (Y := 800) (tgt := 20) rfl (by decide) dX0_after_8 (by decide) ?_ ?_
    · intro c_8_t
      refine e_iconst (v := (-1)) dX0_after_20 (by decide) ?_
      refine e_iret dX0_after_21 (mret_i _) ?_
      unfold gA at hR; first | exact hR | ((repeat' (split at hR)) <;> first | exact hR | (exfalso; omega))
    · intro c_8_f
      refine e_aload_n (i := 0) dX0_after_11 rfl rfl ?_
      refine e_getR (r := 14) dX0_after_12 fl_X0_15 sh_2 fj_2_1 ?_
      refine e_iload_n (i := 1) dX0_after_15 rfl rfl ?_
      refine e_iald (x := h 14 ((x).toInt.toNat)) dX0_after_16 sh_14 (vin_ofX (X := x.toInt) rfl (by omega) (by omega)) rfl ?_
      refine e_goto (tgt := 21) dX0_after_17 (by decide) ?_
      refine e_iret dX0_after_21 (mret_i _) ?_
      unfold gA at hR; first | exact hR | ((repeat' (split at hR)) <;> first | exact hR | (exfalso; omega))
set_option maxHeartbeats 1000000 in
theorem k_B_size (l : Launch) (h : mH) (x : Int32) : mD l Sh0 iX0_size [.inr 2, .inl x] h (some (gA h 15 20 0 x)) h := by
  intro RT hR
  show mE l Sh0 none iX0_size RT 0 [some (.inr 2), some (.inl x)] [] h
  refine e_iload_n (i := 1) dX0_size_0 rfl rfl ?_
  refine b_if_lt (X := x.toInt) (tgt := 19) rfl dX0_size_1 (by decide) ?_ ?_
  · intro c_1_t
    refine e_iconst (v := 0) dX0_size_19 (by decide) ?_
    refine e_iret dX0_size_20 (mret_i _) ?_
    unfold gA at hR; first | exact hR | ((repeat' (split at hR)) <;> first | exact hR | (exfalso; omega))
  · intro c_1_f
    refine e_iload_n (i := 1) dX0_size_4 rfl rfl ?_
    refine e_bipush (v := 20) dX0_size_5 (by decide) ?_
    refine b_icmp_ge (X := x.toInt) (Y := 20) (tgt := 19) rfl (by decide) dX0_size_7 (by decide) ?_ ?_
    · intro c_7_t
      refine e_iconst (v := 0) dX0_size_19 (by decide) ?_
      refine e_iret dX0_size_20 (mret_i _) ?_
      unfold gA at hR; first | exact hR | ((repeat' (split at hR)) <;> first | exact hR | (exfalso; omega))
    · intro c_7_f
      refine e_aload_n (i := 0) dX0_size_10 rfl rfl ?_
      refine e_getR (r := 15) dX0_size_11 fl_X0_18 sh_2 fj_2_2 ?_
      refine e_iload_n (i := 1) dX0_size_14 rfl rfl ?_
      refine e_iald (x := h 15 ((x).toInt.toNat)) dX0_size_15 sh_15 (vin_ofX (X := x.toInt) rfl (by omega) (by omega)) rfl ?_
      refine e_goto (tgt := 20) dX0_size_16 (by decide) ?_
      refine e_iret dX0_size_20 (mret_i _) ?_
      unfold gA at hR; first | exact hR | ((repeat' (split at hR)) <;> first | exact hR | (exfalso; omega))
set_option maxHeartbeats 1000000 in
theorem k_W_asked (l : Launch) (h : mH) (x : Int32) : mD l Sh0 iX6_asked [.inr 9, .inl x] h (some (gA h 25 800 0 x)) h := by
  intro RT hR
  show mE l Sh0 none iX6_asked RT 0 [some (.inr 9), some (.inl x)] [] h
  refine e_iload_n (i := 1) dX6_asked_0 rfl rfl ?_
  refine b_if_lt (X := x.toInt) (tgt := 20) rfl dX6_asked_1 (by decide) ?_ ?_
  · intro c_1_t
    refine e_iconst (v := 0) dX6_asked_20 (by decide) ?_
    refine e_iret dX6_asked_21 (mret_i _) ?_
    unfold gA at hR; first | exact hR | ((repeat' (split at hR)) <;> first | exact hR | (exfalso; omega))
  · intro c_1_f
    refine e_iload_n (i := 1) dX6_asked_4 rfl rfl ?_
    refine e_sipush (v := 800) dX6_asked_5 (by decide) ?_
    refine b_icmp_ge (X := x.toInt) (Y := 800) (tgt := 20) rfl (by decide) dX6_asked_8 (by decide) ?_ ?_
    · intro c_8_t
      refine e_iconst (v := 0) dX6_asked_20 (by decide) ?_
      refine e_iret dX6_asked_21 (mret_i _) ?_
      unfold gA at hR; first | exact hR | ((repeat' (split at hR)) <;> first | exact hR | (exfalso; omega))
    · intro c_8_f
      refine e_aload_n (i := 0) dX6_asked_11 rfl rfl ?_
      refine e_getR (r := 25) dX6_asked_12 fl_X6_9 sh_9 fj_9_1 ?_
      refine e_iload_n (i := 1) dX6_asked_15 rfl rfl ?_
      refine e_iald (x := h 25 ((x).toInt.toNat)) dX6_asked_16 sh_25 (vin_ofX (X := x.toInt) rfl (by omega) (by omega)) rfl ?_
      refine e_goto (tgt := 21) dX6_asked_17 (by decide) ?_
      refine e_iret dX6_asked_21 (mret_i _) ?_
      unfold gA at hR; first | exact hR | ((repeat' (split at hR)) <;> first | exact hR | (exfalso; omega))
set_option maxHeartbeats 1000000 in
theorem k_W_counted (l : Launch) (h : mH) (x : Int32) : mD l Sh0 iX6_counted [.inr 9, .inl x] h (some (gA h 26 800 0 x)) h := by
  intro RT hR
  show mE l Sh0 none iX6_counted RT 0 [some (.inr 9), some (.inl x)] [] h
  refine e_iload_n (i := 1) dX6_counted_0 rfl rfl ?_
  refine b_if_lt (X := x.toInt) (tgt := 20) rfl dX6_counted_1 (by decide) ?_ ?_
  · intro c_1_t
    refine e_iconst (v := 0) dX6_counted_20 (by decide) ?_
    refine e_iret dX6_counted_21 (mret_i _) ?_
    unfold gA at hR; first | exact hR | ((repeat' (split at hR)) <;> first | exact hR | (exfalso; omega))
  · intro c_1_f
    refine e_iload_n (i := 1) dX6_counted_4 rfl rfl ?_
    refine e_sipush (v := 800) dX6_counted_5 (by decide) ?_
    refine b_icmp_ge (X := x.toInt) (Y := 800) (tgt := 20) rfl (by decide) dX6_counted_8 (by decide) ?_ ?_
    · intro c_8_t
      refine e_iconst (v := 0) dX6_counted_20 (by decide) ?_
      refine e_iret dX6_counted_21 (mret_i _) ?_
      unfold gA at hR; first | exact hR | ((repeat' (split at hR)) <;> first | exact hR | (exfalso; omega))
    · intro c_8_f
      refine e_aload_n (i := 0) dX6_counted_11 rfl rfl ?_
      refine e_getR (r := 26) dX6_counted_12 fl_X6_15 sh_9 fj_9_2 ?_
      refine e_iload_n (i := 1) dX6_counted_15 rfl rfl ?_
      refine e_iald (x := h 26 ((x).toInt.toNat)) dX6_counted_16 sh_26 (vin_ofX (X := x.toInt) rfl (by omega) (by omega)) rfl ?_
      refine e_goto (tgt := 21) dX6_counted_17 (by decide) ?_
      refine e_iret dX6_counted_21 (mret_i _) ?_
      unfold gA at hR; first | exact hR | ((repeat' (split at hR)) <;> first | exact hR | (exfalso; omega))
def cFirst (h : mH) (x : Int32) : Int32 := if (gA h 13 800 0 x).toInt = 64 then x + 2 else x + 1
set_option maxHeartbeats 1000000 in
theorem k_B_first (l : Launch) (h : mH) (x : Int32) : mD l Sh0 iX0_first [.inr 2, .inl x] h (some (cFirst h x)) h := by
  intro RT hR
  show mE l Sh0 none iX0_first RT 0 [some (.inr 2), some (.inl x)] [] h
  refine e_aload_n (i := 0) dX0_first_0 rfl rfl ?_
  refine e_iload_n (i := 1) dX0_first_1 rfl rfl ?_
  refine e_invVi (As := [.inl x]) (v := gA h 13 800 0 x) (h2 := h) dX0_first_2 lk_X0_43 yv_X0_sign rfl rfl rfl (Nat.le_of_ble_eq_true rfl) sh_2 ci_X0 (Nat.le_of_ble_eq_true rfl) ⟨Nat.le_of_ble_eq_true rfl, Nat.le_of_ble_eq_true rfl⟩ (k_B_sign l h x) ?_
  refine e_bipush (v := 64) dX0_first_5 (by decide) ?_
  refine b_icmp_ne (X := (gA h 13 800 0 x).toInt) (Y := 64) (tgt := 16) rfl (by decide) dX0_first_7 (by decide) ?_ ?_
  · intro e_7_t c_7_t
    refine e_iload_n (i := 1) dX0_first_16 rfl rfl ?_
    refine e_iconst (v := 1) dX0_first_17 (by decide) ?_
    refine e_iadd dX0_first_18 ?_
    refine e_iret dX0_first_19 (mret_i _) ?_
    unfold cFirst at hR; first | exact hR | ((repeat' (split at hR)) <;> first | exact hR | (exfalso; omega))
  · intro e_7_f c_7_f
    refine e_iload_n (i := 1) dX0_first_10 rfl rfl ?_
    refine e_iconst (v := 2) dX0_first_11 (by decide) ?_
    refine e_iadd dX0_first_12 ?_
    refine e_goto (tgt := 19) dX0_first_13 (by decide) ?_
    refine e_iret dX0_first_19 (mret_i _) ?_
    unfold cFirst at hR; first | exact hR | ((repeat' (split at hR)) <;> first | exact hR | (exfalso; omega))
def cHand (h : mH) (x : Int32) : Int32 := if 0 ≤ x.toInt ∧ x.toInt < 799 ∧ (h 13 x.toInt.toNat).toInt = 64 then h 13 (x + 1).toInt.toNat - 48 else -1
set_option maxHeartbeats 1000000 in
theorem k_B_clear (l : Launch) (h : mH) (x : Int32) (hx : 0 ≤ x.toInt ∧ x.toInt < 20) : mD l Sh0 iX0_clear [.inr 2, .inl x] h (none) (hs h 15 x.toNatClampNeg 0) := by
  intro RT hR
  show mE l Sh0 none iX0_clear RT 0 [some (.inr 2), some (.inl x)] [] h
  refine e_iload_n (i := 1) dX0_clear_0 rfl rfl ?_
  refine b_if_lt (X := x.toInt) (tgt := 17) rfl dX0_clear_1 (by decide) ?_ ?_
  · intro c_1_t
    exfalso; omega
  · intro c_1_f
    refine e_iload_n (i := 1) dX0_clear_4 rfl rfl ?_
    refine e_bipush (v := 20) dX0_clear_5 (by decide) ?_
    refine b_icmp_ge (X := x.toInt) (Y := 20) (tgt := 17) rfl (by decide) dX0_clear_7 (by decide) ?_ ?_
    · intro c_7_t
      exfalso; omega
    · intro c_7_f
      refine e_aload_n (i := 0) dX0_clear_10 rfl rfl ?_
      refine e_getR (r := 15) dX0_clear_11 fl_X0_18 sh_2 fj_2_2 ?_
      refine e_iload_n (i := 1) dX0_clear_14 rfl rfl ?_
      refine e_iconst (v := 0) dX0_clear_15 (by decide) ?_
      refine e_iast dX0_clear_16 sh_15 (vin_ofX (X := x.toInt) rfl (by omega) (by omega)) ?_
      refine e_ret dX0_clear_17 rfl ?_
      exact hR
def cPage (a b : Int32) : Int32 := 4 + a * 4 + b
set_option maxHeartbeats 1000000 in
theorem k_pageOf (l : Launch) (h : mH) (x y : Int32) : mD l Sh0 iX7_pageOf [.inl x, .inl y] h (some (cPage x y)) h := by
  intro RT hR
  show mE l Sh0 none iX7_pageOf RT 0 [some (.inl x), some (.inl y)] [] h
  refine e_iconst (v := 4) dX7_pageOf_0 (by decide) ?_
  refine e_iload_n (i := 0) dX7_pageOf_1 rfl rfl ?_
  refine e_iconst (v := 4) dX7_pageOf_2 (by decide) ?_
  refine e_imul dX7_pageOf_3 ?_
  refine e_iadd dX7_pageOf_4 ?_
  refine e_iload_n (i := 1) dX7_pageOf_5 rfl rfl ?_
  refine e_iadd dX7_pageOf_6 ?_
  refine e_iret dX7_pageOf_7 (mret_i _) ?_
  unfold cPage at hR; first | exact hR | ((repeat' (split at hR)) <;> first | exact hR | (exfalso; omega))
def cText (x : Int32) : Int32 := if 0 ≤ x.toInt ∧ x.toInt < 4 then 1 else 0
set_option maxHeartbeats 1000000 in
theorem k_cText (l : Launch) (h : mH) (x : Int32) : mD l Sh0 iX7_isText [.inl x] h (some (cText x)) h := by
  intro RT hR
  show mE l Sh0 none iX7_isText RT 0 [some (.inl x)] [] h
  refine e_iload_n (i := 0) dX7_isText_0 rfl rfl ?_
  refine b_if_lt (X := x.toInt) (tgt := 13) rfl dX7_isText_1 (by decide) ?_ ?_
  · intro c_1_t
    refine e_iconst (v := 0) dX7_isText_13 (by decide) ?_
    refine e_iret dX7_isText_14 (mret_z (by first | decide | (simp only []; split <;> decide))) ?_
    unfold cText at hR; first | exact hR | ((repeat' (split at hR)) <;> first | exact hR | (exfalso; omega))
  · intro c_1_f
    refine e_iload_n (i := 0) dX7_isText_4 rfl rfl ?_
    refine e_iconst (v := 4) dX7_isText_5 (by decide) ?_
    refine b_icmp_ge (X := x.toInt) (Y := 4) (tgt := 13) rfl (by decide) dX7_isText_6 (by decide) ?_ ?_
    · intro c_6_t
      refine e_iconst (v := 0) dX7_isText_13 (by decide) ?_
      refine e_iret dX7_isText_14 (mret_z (by first | decide | (simp only []; split <;> decide))) ?_
      unfold cText at hR; first | exact hR | ((repeat' (split at hR)) <;> first | exact hR | (exfalso; omega))
    · intro c_6_f
      refine e_iconst (v := 1) dX7_isText_9 (by decide) ?_
      refine e_goto (tgt := 14) dX7_isText_10 (by decide) ?_
      refine e_iret dX7_isText_14 (mret_z (by first | decide | (simp only []; split <;> decide))) ?_
      unfold cText at hR; first | exact hR | ((repeat' (split at hR)) <;> first | exact hR | (exfalso; omega))
def cNum (x : Int32) : Int32 := if 0 ≤ x.toInt ∧ x.toInt < 8 then 1 else 0
set_option maxHeartbeats 1000000 in
theorem k_cNum (l : Launch) (h : mH) (x : Int32) : mD l Sh0 iX7_isNumber [.inl x] h (some (cNum x)) h := by
  intro RT hR
  show mE l Sh0 none iX7_isNumber RT 0 [some (.inl x)] [] h
  refine e_iload_n (i := 0) dX7_isNumber_0 rfl rfl ?_
  refine b_if_lt (X := x.toInt) (tgt := 14) rfl dX7_isNumber_1 (by decide) ?_ ?_
  · intro c_1_t
    refine e_iconst (v := 0) dX7_isNumber_14 (by decide) ?_
    refine e_iret dX7_isNumber_15 (mret_z (by first | decide | (simp only []; split <;> decide))) ?_
    unfold cNum at hR; first | exact hR | ((repeat' (split at hR)) <;> first | exact hR | (exfalso; omega))
  · intro c_1_f
    refine e_iload_n (i := 0) dX7_isNumber_4 rfl rfl ?_
    refine e_bipush (v := 8) dX7_isNumber_5 (by decide) ?_
    refine b_icmp_ge (X := x.toInt) (Y := 8) (tgt := 14) rfl (by decide) dX7_isNumber_7 (by decide) ?_ ?_
    · intro c_7_t
      refine e_iconst (v := 0) dX7_isNumber_14 (by decide) ?_
      refine e_iret dX7_isNumber_15 (mret_z (by first | decide | (simp only []; split <;> decide))) ?_
      unfold cNum at hR; first | exact hR | ((repeat' (split at hR)) <;> first | exact hR | (exfalso; omega))
    · intro c_7_f
      refine e_iconst (v := 1) dX7_isNumber_10 (by decide) ?_
      refine e_goto (tgt := 15) dX7_isNumber_11 (by decide) ?_
      refine e_iret dX7_isNumber_15 (mret_z (by first | decide | (simp only []; split <;> decide))) ?_
      unfold cNum at hR; first | exact hR | ((repeat' (split at hR)) <;> first | exact hR | (exfalso; omega))
def cPart (x y : Int32) : Int32 := if 0 ≤ x.toInt ∧ x.toInt < 4 ∧ 0 ≤ y.toInt ∧ y.toInt < 4 then 1 else 0
set_option maxHeartbeats 1000000 in
theorem k_cPart (l : Launch) (h : mH) (x y : Int32) : mD l Sh0 iX7_isPart [.inl x, .inl y] h (some (cPart x y)) h := by
  intro RT hR
  show mE l Sh0 none iX7_isPart RT 0 [some (.inl x), some (.inl y)] [] h
  refine e_iload_n (i := 0) dX7_isPart_0 rfl rfl ?_
  refine b_if_lt (X := x.toInt) (tgt := 22) rfl dX7_isPart_1 (by decide) ?_ ?_
  · intro c_1_t
    refine e_iconst (v := 0) dX7_isPart_22 (by decide) ?_
    refine e_iret dX7_isPart_23 (mret_z (by first | decide | (simp only []; split <;> decide))) ?_
    unfold cPart at hR; first | exact hR | ((repeat' (split at hR)) <;> first | exact hR | (exfalso; omega))
  · intro c_1_f
    refine e_iload_n (i := 0) dX7_isPart_4 rfl rfl ?_
    refine e_iconst (v := 4) dX7_isPart_5 (by decide) ?_
    refine b_icmp_ge (X := x.toInt) (Y := 4) (tgt := 22) rfl (by decide) dX7_isPart_6 (by decide) ?_ ?_
    · intro c_6_t
      refine e_iconst (v := 0) dX7_isPart_22 (by decide) ?_
      refine e_iret dX7_isPart_23 (mret_z (by first | decide | (simp only []; split <;> decide))) ?_
      unfold cPart at hR; first | exact hR | ((repeat' (split at hR)) <;> first | exact hR | (exfalso; omega))
    · intro c_6_f
      refine e_iload_n (i := 1) dX7_isPart_9 rfl rfl ?_
      refine b_if_lt (X := y.toInt) (tgt := 22) rfl dX7_isPart_10 (by decide) ?_ ?_
      · intro c_10_t
        refine e_iconst (v := 0) dX7_isPart_22 (by decide) ?_
        refine e_iret dX7_isPart_23 (mret_z (by first | decide | (simp only []; split <;> decide))) ?_
        unfold cPart at hR; first | exact hR | ((repeat' (split at hR)) <;> first | exact hR | (exfalso; omega))
      · intro c_10_f
        refine e_iload_n (i := 1) dX7_isPart_13 rfl rfl ?_
        refine e_iconst (v := 4) dX7_isPart_14 (by decide) ?_
        refine b_icmp_ge (X := y.toInt) (Y := 4) (tgt := 22) rfl (by decide) dX7_isPart_15 (by decide) ?_ ?_
        · intro c_15_t
          refine e_iconst (v := 0) dX7_isPart_22 (by decide) ?_
          refine e_iret dX7_isPart_23 (mret_z (by first | decide | (simp only []; split <;> decide))) ?_
          unfold cPart at hR; first | exact hR | ((repeat' (split at hR)) <;> first | exact hR | (exfalso; omega))
        · intro c_15_f
          refine e_iconst (v := 1) dX7_isPart_18 (by decide) ?_
          refine e_goto (tgt := 23) dX7_isPart_19 (by decide) ?_
          refine e_iret dX7_isPart_23 (mret_z (by first | decide | (simp only []; split <;> decide))) ?_
          unfold cPart at hR; first | exact hR | ((repeat' (split at hR)) <;> first | exact hR | (exfalso; omega))
def cRows (x y : Int32) : Int32 := if 0 ≤ x.toInt ∧ x.toInt ≤ 4 ∧ 0 ≤ y.toInt ∧ y.toInt ≤ 2 then 1 else 0
set_option maxHeartbeats 1000000 in
theorem k_cRows (l : Launch) (h : mH) (x y : Int32) : mD l Sh0 iX7_areRows [.inl x, .inl y] h (some (cRows x y)) h := by
  intro RT hR
  show mE l Sh0 none iX7_areRows RT 0 [some (.inl x), some (.inl y)] [] h
  refine e_iload_n (i := 0) dX7_areRows_0 rfl rfl ?_
  refine b_if_lt (X := x.toInt) (tgt := 22) rfl dX7_areRows_1 (by decide) ?_ ?_
  · intro c_1_t
    refine e_iconst (v := 0) dX7_areRows_22 (by decide) ?_
    refine e_iret dX7_areRows_23 (mret_z (by first | decide | (simp only []; split <;> decide))) ?_
    unfold cRows at hR; first | exact hR | ((repeat' (split at hR)) <;> first | exact hR | (exfalso; omega))
  · intro c_1_f
    refine e_iload_n (i := 0) dX7_areRows_4 rfl rfl ?_
    refine e_iconst (v := 4) dX7_areRows_5 (by decide) ?_
    refine b_icmp_gt (X := x.toInt) (Y := 4) (tgt := 22) rfl (by decide) dX7_areRows_6 (by decide) ?_ ?_
    · intro c_6_t
      refine e_iconst (v := 0) dX7_areRows_22 (by decide) ?_
      refine e_iret dX7_areRows_23 (mret_z (by first | decide | (simp only []; split <;> decide))) ?_
      unfold cRows at hR; first | exact hR | ((repeat' (split at hR)) <;> first | exact hR | (exfalso; omega))
    · intro c_6_f
      refine e_iload_n (i := 1) dX7_areRows_9 rfl rfl ?_
      refine b_if_lt (X := y.toInt) (tgt := 22) rfl dX7_areRows_10 (by decide) ?_ ?_
      · intro c_10_t
        refine e_iconst (v := 0) dX7_areRows_22 (by decide) ?_
        refine e_iret dX7_areRows_23 (mret_z (by first | decide | (simp only []; split <;> decide))) ?_
        unfold cRows at hR; first | exact hR | ((repeat' (split at hR)) <;> first | exact hR | (exfalso; omega))
      · intro c_10_f
        refine e_iload_n (i := 1) dX7_areRows_13 rfl rfl ?_
        refine e_iconst (v := 2) dX7_areRows_14 (by decide) ?_
        refine b_icmp_gt (X := y.toInt) (Y := 2) (tgt := 22) rfl (by decide) dX7_areRows_15 (by decide) ?_ ?_
        · intro c_15_t
          refine e_iconst (v := 0) dX7_areRows_22 (by decide) ?_
          refine e_iret dX7_areRows_23 (mret_z (by first | decide | (simp only []; split <;> decide))) ?_
          unfold cRows at hR; first | exact hR | ((repeat' (split at hR)) <;> first | exact hR | (exfalso; omega))
        · intro c_15_f
          refine e_iconst (v := 1) dX7_areRows_18 (by decide) ?_
          refine e_goto (tgt := 23) dX7_areRows_19 (by decide) ?_
          refine e_iret dX7_areRows_23 (mret_z (by first | decide | (simp only []; split <;> decide))) ?_
          unfold cRows at hR; first | exact hR | ((repeat' (split at hR)) <;> first | exact hR | (exfalso; omega))
def cHandSign (x : Int32) : Int32 := if 48 ≤ x.toInt ∧ x.toInt < 52 then 1 else 0
set_option maxHeartbeats 1000000 in
theorem k_cHandSign (l : Launch) (h : mH) (x : Int32) : mD l Sh0 iX2_isHandSign [.inl x] h (some (cHandSign x)) h := by
  intro RT hR
  show mE l Sh0 none iX2_isHandSign RT 0 [some (.inl x)] [] h
  refine e_iload_n (i := 0) dX2_isHandSign_0 rfl rfl ?_
  refine e_bipush (v := 48) dX2_isHandSign_1 (by decide) ?_
  refine b_icmp_lt (X := x.toInt) (Y := 48) (tgt := 16) rfl (by decide) dX2_isHandSign_3 (by decide) ?_ ?_
  · intro c_3_t
    refine e_iconst (v := 0) dX2_isHandSign_16 (by decide) ?_
    refine e_iret dX2_isHandSign_17 (mret_z (by first | decide | (simp only []; split <;> decide))) ?_
    unfold cHandSign at hR; first | exact hR | ((repeat' (split at hR)) <;> first | exact hR | (exfalso; omega))
  · intro c_3_f
    refine e_iload_n (i := 0) dX2_isHandSign_6 rfl rfl ?_
    refine e_bipush (v := 52) dX2_isHandSign_7 (by decide) ?_
    refine b_icmp_ge (X := x.toInt) (Y := 52) (tgt := 16) rfl (by decide) dX2_isHandSign_9 (by decide) ?_ ?_
    · intro c_9_t
      refine e_iconst (v := 0) dX2_isHandSign_16 (by decide) ?_
      refine e_iret dX2_isHandSign_17 (mret_z (by first | decide | (simp only []; split <;> decide))) ?_
      unfold cHandSign at hR; first | exact hR | ((repeat' (split at hR)) <;> first | exact hR | (exfalso; omega))
    · intro c_9_f
      refine e_iconst (v := 1) dX2_isHandSign_12 (by decide) ?_
      refine e_goto (tgt := 17) dX2_isHandSign_13 (by decide) ?_
      refine e_iret dX2_isHandSign_17 (mret_z (by first | decide | (simp only []; split <;> decide))) ?_
      unfold cHandSign at hR; first | exact hR | ((repeat' (split at hR)) <;> first | exact hR | (exfalso; omega))
def mIn (x y z : Int32) : Int32 := if y.toInt ≤ x.toInt ∧ x.toInt ≤ z.toInt then 1 else 0
set_option maxHeartbeats 1000000 in
theorem k_mIn (l : Launch) (h : mH) (x y z : Int32) : mD l Sh0 iX8_in [.inl x, .inl y, .inl z] h (some (mIn x y z)) h := by
  intro RT hR
  show mE l Sh0 none iX8_in RT 0 [some (.inl x), some (.inl y), some (.inl z)] [] h
  refine e_iload_n (i := 0) dX8_in_0 rfl rfl ?_
  refine e_iload_n (i := 1) dX8_in_1 rfl rfl ?_
  refine b_icmp_lt (X := x.toInt) (Y := y.toInt) (tgt := 14) rfl rfl dX8_in_2 (by decide) ?_ ?_
  · intro c_2_t
    refine e_iconst (v := 0) dX8_in_14 (by decide) ?_
    refine e_iret dX8_in_15 (mret_z (by first | decide | (simp only []; split <;> decide))) ?_
    unfold mIn at hR; first | exact hR | ((repeat' (split at hR)) <;> first | exact hR | (exfalso; omega))
  · intro c_2_f
    refine e_iload_n (i := 0) dX8_in_5 rfl rfl ?_
    refine e_iload_n (i := 2) dX8_in_6 rfl rfl ?_
    refine b_icmp_gt (X := x.toInt) (Y := z.toInt) (tgt := 14) rfl rfl dX8_in_7 (by decide) ?_ ?_
    · intro c_7_t
      refine e_iconst (v := 0) dX8_in_14 (by decide) ?_
      refine e_iret dX8_in_15 (mret_z (by first | decide | (simp only []; split <;> decide))) ?_
      unfold mIn at hR; first | exact hR | ((repeat' (split at hR)) <;> first | exact hR | (exfalso; omega))
    · intro c_7_f
      refine e_iconst (v := 1) dX8_in_10 (by decide) ?_
      refine e_goto (tgt := 15) dX8_in_11 (by decide) ?_
      refine e_iret dX8_in_15 (mret_z (by first | decide | (simp only []; split <;> decide))) ?_
      unfold mIn at hR; first | exact hR | ((repeat' (split at hR)) <;> first | exact hR | (exfalso; omega))
def mFour (x : Int32) : Int32 := if 0 ≤ x.toInt ∧ x.toInt ≤ 3 then 1 else 0
def rVal (h : mH) (k r : Nat) (x : Int32) : Int32 := if 0 ≤ x.toInt ∧ x.toInt < (h k 1).toInt ∧ x.toInt < 8 then h r x.toInt.toNat else 0
set_option maxHeartbeats 1000000 in
theorem k_R_value (l : Launch) {k r : Nat} (hS : Sh0[k]? = some (.inl (3, [r + 3, 0]))) (hA : Sh0[r]? = some (.inr 8)) (h : mH) (x : Int32) : mD l Sh0 iX3_value [.inr k, .inl x] h (some (rVal h k r x)) h := by
  intro RT hR
  show mE l Sh0 none iX3_value RT 0 [some (.inr k), some (.inl x)] [] h
  refine e_iload_n (i := 1) dX3_value_0 rfl rfl ?_
  refine b_if_lt (X := x.toInt) (tgt := 27) rfl dX3_value_1 (by decide) ?_ ?_
  · intro c_1_t
    refine e_iconst (v := 0) dX3_value_27 (by decide) ?_
    refine e_iret dX3_value_28 (mret_i _) ?_
    unfold rVal at hR; first | exact hR | ((repeat' (split at hR)) <;> first | exact hR | (exfalso; omega))
  · intro c_1_f
    refine e_iload_n (i := 1) dX3_value_4 rfl rfl ?_
    refine e_aload_n (i := 0) dX3_value_5 rfl rfl ?_
    refine e_getI (x := h k 1) dX3_value_6 fl_X3_15 hS rfl rfl ?_
    refine b_icmp_ge (X := x.toInt) (Y := (h k 1).toInt) (tgt := 27) rfl rfl dX3_value_9 (by decide) ?_ ?_
    · intro c_9_t
      refine e_iconst (v := 0) dX3_value_27 (by decide) ?_
      refine e_iret dX3_value_28 (mret_i _) ?_
      unfold rVal at hR; first | exact hR | ((repeat' (split at hR)) <;> first | exact hR | (exfalso; omega))
    · intro c_9_f
      refine e_iload_n (i := 1) dX3_value_12 rfl rfl ?_
      refine e_bipush (v := 8) dX3_value_13 (by decide) ?_
      refine b_icmp_ge (X := x.toInt) (Y := 8) (tgt := 27) rfl (by decide) dX3_value_15 (by decide) ?_ ?_
      · intro c_15_t
        refine e_iconst (v := 0) dX3_value_27 (by decide) ?_
        refine e_iret dX3_value_28 (mret_i _) ?_
        unfold rVal at hR; first | exact hR | ((repeat' (split at hR)) <;> first | exact hR | (exfalso; omega))
      · intro c_15_f
        refine e_aload_n (i := 0) dX3_value_18 rfl rfl ?_
        refine e_getR (r := r) dX3_value_19 fl_X3_9 hS rfl ?_
        refine e_iload_n (i := 1) dX3_value_22 rfl rfl ?_
        refine e_iald (x := h r ((x).toInt.toNat)) dX3_value_23 hA (vin_ofX (X := x.toInt) rfl (by omega) (by omega)) rfl ?_
        refine e_goto (tgt := 28) dX3_value_24 (by decide) ?_
        refine e_iret dX3_value_28 (mret_i _) ?_
        unfold rVal at hR; first | exact hR | ((repeat' (split at hR)) <;> first | exact hR | (exfalso; omega))
def rTell (h : mH) (k r : Nat) (x : Int32) : Int32 := if x.toInt = -1 then h k 1 else if 0 ≤ x.toInt ∧ x.toInt < (h k 1).toInt then rVal h k r x else -6
set_option maxHeartbeats 1000000 in
theorem k_R_tell (l : Launch) {k r : Nat} (hS : Sh0[k]? = some (.inl (3, [r + 3, 0]))) (hA : Sh0[r]? = some (.inr 8)) (h : mH) (x : Int32) : mD l Sh0 iX3_tell [.inr k, .inl x] h (some (rTell h k r x)) h := by
  intro RT hR
  show mE l Sh0 none iX3_tell RT 0 [some (.inr k), some (.inl x)] [] h
  refine e_iload_n (i := 1) dX3_tell_0 rfl rfl ?_
  refine e_iconst (v := (-1)) dX3_tell_1 (by decide) ?_
  refine b_icmp_ne (X := x.toInt) (Y := (-1)) (tgt := 10) rfl (by decide) dX3_tell_2 (by decide) ?_ ?_
  · intro e_2_t c_2_t
    refine e_iload_n (i := 1) dX3_tell_10 rfl rfl ?_
    refine b_if_lt (X := x.toInt) (tgt := 30) rfl dX3_tell_11 (by decide) ?_ ?_
    · intro c_11_t
      refine e_bipush (v := (-6)) dX3_tell_30 (by decide) ?_
      refine e_iret dX3_tell_32 (mret_i _) ?_
      unfold rTell at hR; first | exact hR | ((repeat' (split at hR)) <;> first | exact hR | (exfalso; omega))
    · intro c_11_f
      refine e_iload_n (i := 1) dX3_tell_14 rfl rfl ?_
      refine e_aload_n (i := 0) dX3_tell_15 rfl rfl ?_
      refine e_getI (x := h k 1) dX3_tell_16 fl_X3_15 hS rfl rfl ?_
      refine b_icmp_ge (X := x.toInt) (Y := (h k 1).toInt) (tgt := 30) rfl rfl dX3_tell_19 (by decide) ?_ ?_
      · intro c_19_t
        refine e_bipush (v := (-6)) dX3_tell_30 (by decide) ?_
        refine e_iret dX3_tell_32 (mret_i _) ?_
        unfold rTell at hR; first | exact hR | ((repeat' (split at hR)) <;> first | exact hR | (exfalso; omega))
      · intro c_19_f
        refine e_aload_n (i := 0) dX3_tell_22 rfl rfl ?_
        refine e_iload_n (i := 1) dX3_tell_23 rfl rfl ?_
        refine e_invVi (As := [.inl x]) (v := rVal h k r x) (h2 := h) dX3_tell_24 lk_X3_23 yv_X3_value rfl rfl rfl (Nat.le_of_ble_eq_true rfl) hS ci_X3 (Nat.le_of_ble_eq_true rfl) ⟨Nat.le_of_ble_eq_true rfl, Nat.le_of_ble_eq_true rfl⟩ (k_R_value l hS hA h x) ?_
        refine e_goto (tgt := 32) dX3_tell_27 (by decide) ?_
        refine e_iret dX3_tell_32 (mret_i _) ?_
        unfold rTell at hR; first | exact hR | ((repeat' (split at hR)) <;> first | exact hR | (exfalso; omega))
  · intro e_2_f c_2_f
    refine e_aload_n (i := 0) dX3_tell_5 rfl rfl ?_
    refine e_getI (x := h k 1) dX3_tell_6 fl_X3_15 hS rfl rfl ?_
    refine e_iret dX3_tell_9 (mret_i _) ?_
    unfold rTell at hR; first | exact hR | ((repeat' (split at hR)) <;> first | exact hR | (exfalso; omega))
def rAdd (h : mH) (k r : Nat) (x : Int32) : Int32 := if 0 ≤ (h k 1).toInt ∧ (h k 1).toInt < 8 then 1 else 0
