/-! The reference's rows of replies. -/
def gR (c : Nat) : Nat → Nat → (Nat → Int32) → (Nat → Int32)
  | _, 0, f => f
  | code, m + 1, f => gR c (code / (c + 1)) m (upd f m (nI (code % (c + 1))))
set_option maxHeartbeats 1000000 in
theorem lp_M_giveRow (l : Launch) (h : mH) (n c : Nat) (hn : n ≤ 8) (hc : c ≤ 7) (y1 : Option mV) (RT : Option Int32 → mH → Prop) : ∀ (m code : Nat) (f : Nat → Int32), m ≤ n → code < 100000 → RT none (hs (hr h 47 (gR c code m f)) 10 30 (nI n)) → mE l Sh0 none iX8_giveRow RT 8 [some (.inr 10), y1, some (.inl (nI n)), some (.inl (nI c)), some (.inl (nI code)), some (.inl (dn m))] [] (hr h 47 f) := by
  intro m
  induction m with
  | zero =>
    intro code f hm hcode hR
    rw [dn_0]
    refine e_iload dX8_giveRow_8 rfl ?_
    refine b_if_lt (X := (-1)) (tgt := 40) (by decide) dX8_giveRow_10 (by decide) ?_ ?_
    · intro c_10_t
      refine e_aload_n (i := 0) dX8_giveRow_40 rfl rfl ?_
      refine e_iload_n (i := 2) dX8_giveRow_41 rfl rfl ?_
      refine e_putI dX8_giveRow_42 fl_X8_203 fp_X8_30 sh_10 fj_10_30 ?_
      refine e_ret dX8_giveRow_45 rfl ?_
      exact hR
    · intro c_10_f
      exfalso; omega
  | succ m ih =>
    intro code f hm hcode hR
    have hq : code / (c + 1) < 100000 := Nat.lt_of_le_of_lt (Nat.div_le_self _ _) hcode
    have hmod : code % (c + 1) < c + 1 := Nat.mod_lt _ (Nat.succ_pos _)
    rw [dn_s]
    refine e_iload dX8_giveRow_8 rfl ?_
    refine b_if_lt (X := ((m : Nat) : Int)) (tgt := 40) (nI_toInt (by omega)) dX8_giveRow_10 (by decide) ?_ ?_
    · intro c_10_t
      exfalso; omega
    · intro c_10_f
      refine e_aload_n (i := 0) dX8_giveRow_13 rfl rfl ?_
      refine e_getR (r := 47) dX8_giveRow_14 fl_X8_67 sh_10 fj_10_31 ?_
      refine e_iload dX8_giveRow_17 rfl ?_
      refine e_iload dX8_giveRow_19 rfl ?_
      refine e_iload_n (i := 3) dX8_giveRow_21 rfl rfl ?_
      refine e_iconst (v := 1) dX8_giveRow_22 (by decide) ?_
      refine z_iadd (z := nI (c + 1)) (nI_addc _ 1) dX8_giveRow_23 ?_
      refine z_irem (z := nI (code % (c + 1))) (pk_rem (by omega) (by omega) (by omega)) dX8_giveRow_24 (nI_ne0 (by omega) (by omega)) ?_
      refine e_iast dX8_giveRow_25 sh_47 (vin_ofX (X := ((m : Nat) : Int)) (nI_toInt (by omega)) (by omega) (by omega)) ?_
      rw [nI_clamp (by omega)]
      refine e_iload dX8_giveRow_26 rfl ?_
      refine e_iload_n (i := 3) dX8_giveRow_28 rfl rfl ?_
      refine e_iconst (v := 1) dX8_giveRow_29 (by decide) ?_
      refine z_iadd (z := nI (c + 1)) (nI_addc _ 1) dX8_giveRow_30 ?_
      refine z_idiv (z := nI (code / (c + 1))) (pk_div (by omega) (by omega) (by omega)) dX8_giveRow_31 (nI_ne0 (by omega) (by omega)) ?_
      refine e_istore (ls2 := [some (.inr 10), y1, some (.inl (nI n)), some (.inl (nI c)), some (.inl (nI (code / (c + 1)))), some (.inl (nI m))]) dX8_giveRow_32 (Nat.le_of_ble_eq_true rfl) rfl ?_
      refine e_iinc (v := dn m) (ls2 := [some (.inr 10), y1, some (.inl (nI n)), some (.inl (nI c)), some (.inl (nI (code / (c + 1)))), some (.inl (dn m))]) dX8_giveRow_34 rfl (dn_dec _) (Nat.le_of_ble_eq_true rfl) rfl ?_
      refine e_goto (tgt := 8) dX8_giveRow_37 (by decide) ?_
      rw [hr_hs]
      exact ih (code / (c + 1)) (upd f m (nI (code % (c + 1)))) (by omega) hq hR
set_option maxHeartbeats 1000000 in
theorem k_M_giveRow (l : Launch) (h : mH) (code n c : Nat) (hn : n ≤ 8) (hc : c ≤ 7) (hcode : code < 100000) : mD l Sh0 iX8_giveRow [.inr 10, .inl (nI code), .inl (nI n), .inl (nI c)] h (none) (hs (hr h 47 (gR c code n (h 47))) 10 30 (nI n)) := by
  intro RT hR
  show mE l Sh0 none iX8_giveRow RT 0 [some (.inr 10), some (.inl (nI code)), some (.inl (nI n)), some (.inl (nI c)), none, none] [] h
  refine e_iload_n (i := 1) dX8_giveRow_0 rfl rfl ?_
  refine e_istore (ls2 := [some (.inr 10), some (.inl (nI code)), some (.inl (nI n)), some (.inl (nI c)), some (.inl (nI code)), none]) dX8_giveRow_1 (Nat.le_of_ble_eq_true rfl) rfl ?_
  refine e_iload_n (i := 2) dX8_giveRow_3 rfl rfl ?_
  refine e_iconst (v := 1) dX8_giveRow_4 (by decide) ?_
  refine z_isub (z := dn n) rfl dX8_giveRow_5 ?_
  refine e_istore (ls2 := [some (.inr 10), some (.inl (nI code)), some (.inl (nI n)), some (.inl (nI c)), some (.inl (nI code)), some (.inl (dn n))]) dX8_giveRow_6 (Nat.le_of_ble_eq_true rfl) rfl ?_
  have q := lp_M_giveRow l h n c hn hc (some (.inl (nI code))) RT n code (h 47) (Nat.le_refl _) hcode hR
  rw [hr_self] at q
  exact q
set_option maxHeartbeats 1000000 in
theorem lp_M_rows (l : Launch) (h : mH) (n c : Nat) (hn : n ≤ 4) (hc : c ≤ 2) (RT : Option Int32 → mH → Prop) (hR : RT (some (nI ((c + 1) ^ n))) h) : ∀ (d i : Nat), i + d = n → mE l Sh0 none iX8_rows RT 4 [some (.inl (nI n)), some (.inl (nI c)), some (.inl (nI ((c + 1) ^ i))), some (.inl (nI i))] [] h := by
  intro d
  induction d with
  | zero =>
    intro i hd
    refine e_iload_n (i := 3) dX8_rows_4 rfl rfl ?_
    refine e_iload_n (i := 0) dX8_rows_5 rfl rfl ?_
    refine b_icmp_ge (X := ((i : Nat) : Int)) (Y := ((n : Nat) : Int)) (tgt := 21) (nI_toInt (by omega)) (nI_toInt (by omega)) dX8_rows_6 (by decide) ?_ ?_
    · intro c_6_t
      refine e_iload_n (i := 2) dX8_rows_21 rfl rfl ?_
      refine e_iret dX8_rows_22 (mret_i _) ?_
      have e : i = n := by omega
      subst e
      exact hR
    · intro c_6_f
      exfalso; omega
  | succ d ih =>
    intro i hd
    refine e_iload_n (i := 3) dX8_rows_4 rfl rfl ?_
    refine e_iload_n (i := 0) dX8_rows_5 rfl rfl ?_
    refine b_icmp_ge (X := ((i : Nat) : Int)) (Y := ((n : Nat) : Int)) (tgt := 21) (nI_toInt (by omega)) (nI_toInt (by omega)) dX8_rows_6 (by decide) ?_ ?_
    · intro c_6_t
      exfalso; omega
    · intro c_6_f
      refine e_iload_n (i := 2) dX8_rows_9 rfl rfl ?_
      refine e_iload_n (i := 1) dX8_rows_10 rfl rfl ?_
      refine e_iconst (v := 1) dX8_rows_11 (by decide) ?_
      refine z_iadd (z := nI (c + 1)) (nI_addc _ 1) dX8_rows_12 ?_
      refine z_imul (z := nI ((c + 1) ^ (i + 1))) (by rw [pk_mul, Nat.pow_succ]) dX8_rows_13 ?_
      refine e_istore_n (i := 2) (ls2 := [some (.inl (nI n)), some (.inl (nI c)), some (.inl (nI ((c + 1) ^ (i + 1)))), some (.inl (nI i))]) dX8_rows_14 rfl (Nat.le_of_ble_eq_true rfl) rfl ?_
      refine e_iinc (v := nI (i + 1)) (ls2 := [some (.inl (nI n)), some (.inl (nI c)), some (.inl (nI ((c + 1) ^ (i + 1)))), some (.inl (nI (i + 1)))]) dX8_rows_15 rfl (nI_inc1 _) (Nat.le_of_ble_eq_true rfl) rfl ?_
      refine e_goto (tgt := 4) dX8_rows_18 (by decide) ?_
      exact ih (i + 1) (by omega)
set_option maxHeartbeats 1000000 in
theorem k_M_rows (l : Launch) (h : mH) (n c : Nat) (hn : n ≤ 4) (hc : c ≤ 2) : mD l Sh0 iX8_rows [.inl (nI n), .inl (nI c)] h (some (nI ((c + 1) ^ n))) h := by
  intro RT hR
  show mE l Sh0 none iX8_rows RT 0 [some (.inl (nI n)), some (.inl (nI c)), none, none] [] h
  refine e_iconst (v := 1) dX8_rows_0 (by decide) ?_
  refine e_istore_n (i := 2) (ls2 := [some (.inl (nI n)), some (.inl (nI c)), some (.inl 1), none]) dX8_rows_1 rfl (Nat.le_of_ble_eq_true rfl) rfl ?_
  refine e_iconst (v := 0) dX8_rows_2 (by decide) ?_
  refine e_istore_n (i := 3) (ls2 := [some (.inl (nI n)), some (.inl (nI c)), some (.inl 1), some (.inl 0)]) dX8_rows_3 rfl (Nat.le_of_ble_eq_true rfl) rfl ?_
  have q := lp_M_rows l h n c hn hc RT hR n 0 (by omega)
  rw [Nat.pow_zero] at q
  exact q
set_option maxHeartbeats 1000000 in
theorem k_M_areTold1 (l : Launch) (h : mH) (x y z : Int32) (h1 : 0 ≤ x.toInt ∧ x.toInt ≤ 7) (h2 : 0 ≤ y.toInt ∧ y.toInt ≤ 4) (h3 : 0 ≤ z.toInt ∧ z.toInt ≤ 2) : mD l Sh0 iX8_areTold [.inl x, .inl y, .inl z] h (some 1) h := by
  intro RT hR
  show mE l Sh0 none iX8_areTold RT 0 [some (.inl x), some (.inl y), some (.inl z)] [] h
  refine e_iload_n (i := 0) dX8_areTold_0 rfl rfl ?_
  refine e_iconst (v := 0) dX8_areTold_1 (by decide) ?_
  refine e_bipush (v := 7) dX8_areTold_2 (by decide) ?_
  refine e_invSi (As := [.inl x, .inl 0, .inl 7]) (v := 1) (h2 := h) dX8_areTold_4 lk_X8_85 ys_X8_in rfl rfl rfl (Nat.le_of_ble_eq_true rfl) (Nat.le_of_ble_eq_true rfl) ⟨Nat.le_of_ble_eq_true rfl, Nat.le_of_ble_eq_true rfl⟩ (k_M_in (Y := 0) (Z := 7) l h x 0 7 rfl (by decide) (by decide) (if_pos h1)) ?_
  refine b_if_eq (X := 1) (tgt := 32) (by decide) dX8_areTold_7 (by decide) ?_ ?_
  · intro e_7_t c_7_t
    exfalso; omega
  · intro e_7_f c_7_f
    refine e_iload_n (i := 1) dX8_areTold_10 rfl rfl ?_
    refine e_iconst (v := 0) dX8_areTold_11 (by decide) ?_
    refine e_iconst (v := 4) dX8_areTold_12 (by decide) ?_
    refine e_invSi (As := [.inl y, .inl 0, .inl 4]) (v := 1) (h2 := h) dX8_areTold_13 lk_X8_85 ys_X8_in rfl rfl rfl (Nat.le_of_ble_eq_true rfl) (Nat.le_of_ble_eq_true rfl) ⟨Nat.le_of_ble_eq_true rfl, Nat.le_of_ble_eq_true rfl⟩ (k_M_in (Y := 0) (Z := 4) l h y 0 4 rfl (by decide) (by decide) (if_pos h2)) ?_
    refine b_if_eq (X := 1) (tgt := 32) (by decide) dX8_areTold_16 (by decide) ?_ ?_
    · intro e_16_t c_16_t
      exfalso; omega
    · intro e_16_f c_16_f
      refine e_iload_n (i := 2) dX8_areTold_19 rfl rfl ?_
      refine e_iconst (v := 0) dX8_areTold_20 (by decide) ?_
      refine e_iconst (v := 2) dX8_areTold_21 (by decide) ?_
      refine e_invSi (As := [.inl z, .inl 0, .inl 2]) (v := 1) (h2 := h) dX8_areTold_22 lk_X8_85 ys_X8_in rfl rfl rfl (Nat.le_of_ble_eq_true rfl) (Nat.le_of_ble_eq_true rfl) ⟨Nat.le_of_ble_eq_true rfl, Nat.le_of_ble_eq_true rfl⟩ (k_M_in (Y := 0) (Z := 2) l h z 0 2 rfl (by decide) (by decide) (if_pos h3)) ?_
      refine b_if_eq (X := 1) (tgt := 32) (by decide) dX8_areTold_25 (by decide) ?_ ?_
      · intro e_25_t c_25_t
        exfalso; omega
      · intro e_25_f c_25_f
        refine e_iconst (v := 1) dX8_areTold_28 (by decide) ?_
        refine e_goto (tgt := 33) dX8_areTold_29 (by decide) ?_
        refine e_iret dX8_areTold_33 (mret_z (by first | decide | (simp only []; split <;> decide))) ?_
        exact hR
