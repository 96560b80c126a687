/-! has, drop. -/
/-- a hand's clauses as bits -/
def hb (sz : Nat → Nat) (hd : Nat) : Nat → Int32
  | 0 => 0
  | k + 1 => if 0 < sz (4 + 4 * hd + k) then hb sz hd k ||| (1 <<< (nI k &&& 31)) else hb sz hd k
set_option maxHeartbeats 2000000 in
theorem lp_B_clauses (l : Launch) (sz : Nat → Nat) (h : mH) (hd : Nat) (hh : hd < 4) (hs15 : ∀ p, p < 20 → h 15 p = nI (sz p) ∧ sz p ≤ 40) (RT : Option Int32 → mH → Prop) (hR : RT (some (hb sz hd 4)) h) : ∀ (d i : Nat), i + d = 4 → mE l Sh0 none iX0_clauses RT 4 [some (.inr 2), some (.inl (nI hd)), some (.inl (hb sz hd i)), some (.inl (nI i))] [] h := by
  intro d
  induction d with
  | zero =>
    intro i hd4
    refine e_iload_n (i := 3) dX0_clauses_4 rfl rfl ?_
    refine e_iconst (v := 4) dX0_clauses_5 (by decide) ?_
    refine b_icmp_ge (X := ((i : Nat) : Int)) (Y := 4) (tgt := 33) (nI_toInt (by omega)) (by decide) dX0_clauses_6 (by decide) ?_ ?_
    · intro c_6_t
      refine e_iload_n (i := 2) dX0_clauses_33 rfl rfl ?_
      refine e_iret dX0_clauses_34 (mret_i _) ?_
      have e : i = 4 := by omega
      subst e
      exact hR
    · intro c_6_f
      exfalso; omega
  | succ d ih =>
    intro i hd4
    obtain ⟨s1, s2⟩ := hs15 (4 + 4 * hd + i) (by omega)
    by_cases hz : 0 < sz (4 + 4 * hd + i)
    · have e1 : hb sz hd (i + 1) = hb sz hd i ||| (1 <<< (nI i &&& 31)) := if_pos hz
      refine e_iload_n (i := 3) dX0_clauses_4 rfl rfl ?_
      refine e_iconst (v := 4) dX0_clauses_5 (by decide) ?_
      refine b_icmp_ge (X := ((i : Nat) : Int)) (Y := 4) (tgt := 33) (nI_toInt (by omega)) (by decide) dX0_clauses_6 (by decide) ?_ ?_
      · intro c_6_t
        exfalso; omega
      · intro c_6_f
        refine e_aload_n (i := 0) dX0_clauses_9 rfl rfl ?_
        refine e_iload_n (i := 1) dX0_clauses_10 rfl rfl ?_
        refine e_iload_n (i := 3) dX0_clauses_11 rfl rfl ?_
        refine e_invSi (As := [.inl (nI hd), .inl (nI i)]) (v := nI (4 + 4 * hd + i)) (h2 := h) dX0_clauses_12 lk_X0_50 ys_X7_pageOf rfl rfl rfl (Nat.le_of_ble_eq_true rfl) (Nat.le_of_ble_eq_true rfl) ⟨Nat.le_of_ble_eq_true rfl, Nat.le_of_ble_eq_true rfl⟩ (k_pageOfX l h hd i) ?_
        refine e_invVi (As := [.inl (nI (4 + 4 * hd + i))]) (v := nI (sz (4 + 4 * hd + i))) (h2 := h) dX0_clauses_15 lk_X0_53 yv_X0_size rfl rfl rfl (Nat.le_of_ble_eq_true rfl) sh_2 ci_X0 (Nat.le_of_ble_eq_true rfl) ⟨Nat.le_of_ble_eq_true rfl, Nat.le_of_ble_eq_true rfl⟩ (k_B_sizeX l h (4 + 4 * hd + i) (by omega) s1) ?_
        refine b_if_le (X := ((sz (4 + 4 * hd + i) : Nat) : Int)) (tgt := 27) (nI_toInt (by omega)) dX0_clauses_18 (by decide) ?_ ?_
        · intro c_18_t
          exfalso; omega
        · intro c_18_f
          refine e_iload_n (i := 2) dX0_clauses_21 rfl rfl ?_
          refine e_iconst (v := 1) dX0_clauses_22 (by decide) ?_
          refine e_iload_n (i := 3) dX0_clauses_23 rfl rfl ?_
          refine e_ishl dX0_clauses_24 ?_
          refine e_ior dX0_clauses_25 ?_
          refine e_istore_n (i := 2) (ls2 := [some (.inr 2), some (.inl (nI hd)), some (.inl ((hb sz hd i) ||| (1 <<< (nI i &&& 31)))), some (.inl (nI i))]) dX0_clauses_26 rfl (Nat.le_of_ble_eq_true rfl) rfl ?_
          refine e_iinc (v := nI (i + 1)) (ls2 := [some (.inr 2), some (.inl (nI hd)), some (.inl ((hb sz hd i) ||| (1 <<< (nI i &&& 31)))), some (.inl (nI (i + 1)))]) dX0_clauses_27 rfl (nI_inc1 _) (Nat.le_of_ble_eq_true rfl) rfl ?_
          refine e_goto (tgt := 4) dX0_clauses_30 (by decide) ?_
          rw [← e1]
          exact ih (i + 1) (by omega)
    · have e1 : hb sz hd (i + 1) = hb sz hd i := if_neg hz
      refine e_iload_n (i := 3) dX0_clauses_4 rfl rfl ?_
      refine e_iconst (v := 4) dX0_clauses_5 (by decide) ?_
      refine b_icmp_ge (X := ((i : Nat) : Int)) (Y := 4) (tgt := 33) (nI_toInt (by omega)) (by decide) dX0_clauses_6 (by decide) ?_ ?_
      · intro c_6_t
        exfalso; omega
      · intro c_6_f
        refine e_aload_n (i := 0) dX0_clauses_9 rfl rfl ?_
        refine e_iload_n (i := 1) dX0_clauses_10 rfl rfl ?_
        refine e_iload_n (i := 3) dX0_clauses_11 rfl rfl ?_
        refine e_invSi (As := [.inl (nI hd), .inl (nI i)]) (v := nI (4 + 4 * hd + i)) (h2 := h) dX0_clauses_12 lk_X0_50 ys_X7_pageOf rfl rfl rfl (Nat.le_of_ble_eq_true rfl) (Nat.le_of_ble_eq_true rfl) ⟨Nat.le_of_ble_eq_true rfl, Nat.le_of_ble_eq_true rfl⟩ (k_pageOfX l h hd i) ?_
        refine e_invVi (As := [.inl (nI (4 + 4 * hd + i))]) (v := nI (sz (4 + 4 * hd + i))) (h2 := h) dX0_clauses_15 lk_X0_53 yv_X0_size rfl rfl rfl (Nat.le_of_ble_eq_true rfl) sh_2 ci_X0 (Nat.le_of_ble_eq_true rfl) ⟨Nat.le_of_ble_eq_true rfl, Nat.le_of_ble_eq_true rfl⟩ (k_B_sizeX l h (4 + 4 * hd + i) (by omega) s1) ?_
        refine b_if_le (X := ((sz (4 + 4 * hd + i) : Nat) : Int)) (tgt := 27) (nI_toInt (by omega)) dX0_clauses_18 (by decide) ?_ ?_
        · intro c_18_t
          refine e_iinc (v := nI (i + 1)) (ls2 := [some (.inr 2), some (.inl (nI hd)), some (.inl (hb sz hd i)), some (.inl (nI (i + 1)))]) dX0_clauses_27 rfl (nI_inc1 _) (Nat.le_of_ble_eq_true rfl) rfl ?_
          refine e_goto (tgt := 4) dX0_clauses_30 (by decide) ?_
          rw [← e1]
          exact ih (i + 1) (by omega)
        · intro c_18_f
          exfalso; omega
set_option maxHeartbeats 1000000 in
theorem k_B_clauses (l : Launch) (sz : Nat → Nat) (h : mH) (hd : Nat) (hh : hd < 4) (hs15 : ∀ p, p < 20 → h 15 p = nI (sz p) ∧ sz p ≤ 40) : mD l Sh0 iX0_clauses [.inr 2, .inl (nI hd)] h (some (hb sz hd 4)) h := by
  intro RT hR
  show mE l Sh0 none iX0_clauses RT 0 [some (.inr 2), some (.inl (nI hd)), none, none] [] h
  refine e_iconst (v := 0) dX0_clauses_0 (by decide) ?_
  refine e_istore_n (i := 2) (ls2 := [some (.inr 2), some (.inl (nI hd)), some (.inl 0), none]) dX0_clauses_1 rfl (Nat.le_of_ble_eq_true rfl) rfl ?_
  refine e_iconst (v := 0) dX0_clauses_2 (by decide) ?_
  refine e_istore_n (i := 3) (ls2 := [some (.inr 2), some (.inl (nI hd)), some (.inl 0), some (.inl 0)]) dX0_clauses_3 rfl (Nat.le_of_ble_eq_true rfl) rfl ?_
  exact lp_B_clauses l sz h hd hh hs15 RT hR 4 0 (by omega)
set_option maxHeartbeats 1000000 in
theorem k_D_has1 (l : Launch) (sz : Nat → Nat) (h : mH) (hd : Nat) (hh : hd < 4) (hs15 : ∀ p, p < 20 → h 15 p = nI (sz p) ∧ sz p ≤ 40) : mD l Sh0 iX7_has [.inr 0, .inl (nI hd)] h (some (hb sz hd 4)) h := by
  intro RT hR
  show mE l Sh0 none iX7_has RT 0 [some (.inr 0), some (.inl (nI hd))] [] h
  refine e_iload_n (i := 1) dX7_has_0 rfl rfl ?_
  refine b_if_lt (X := ((hd : Nat) : Int)) (tgt := 20) (nI_toInt (by omega)) dX7_has_1 (by decide) ?_ ?_
  · intro c_1_t
    exfalso; omega
  · intro c_1_f
    refine e_iload_n (i := 1) dX7_has_4 rfl rfl ?_
    refine e_iconst (v := 4) dX7_has_5 (by decide) ?_
    refine b_icmp_ge (X := ((hd : Nat) : Int)) (Y := 4) (tgt := 20) (nI_toInt (by omega)) (by decide) dX7_has_6 (by decide) ?_ ?_
    · intro c_6_t
      exfalso; omega
    · intro c_6_f
      refine e_aload_n (i := 0) dX7_has_9 rfl rfl ?_
      refine e_getR (r := 2) dX7_has_10 fl_X7_19 sh_0 fj_0_1 ?_
      refine e_iload_n (i := 1) dX7_has_13 rfl rfl ?_
      refine e_invVi (As := [.inl (nI hd)]) (v := hb sz hd 4) (h2 := h) dX7_has_14 lk_X7_91 yv_X0_clauses rfl rfl rfl (Nat.le_of_ble_eq_true rfl) sh_2 ci_X0 (Nat.le_of_ble_eq_true rfl) ⟨Nat.le_of_ble_eq_true rfl, Nat.le_of_ble_eq_true rfl⟩ (k_B_clauses l sz h hd hh hs15) ?_
      refine e_goto (tgt := 21) dX7_has_17 (by decide) ?_
      refine e_iret dX7_has_21 (mret_i _) ?_
      exact hR
set_option maxHeartbeats 1000000 in
theorem k_D_has0 (l : Launch) (h : mH) (x : Int32) (hx : ¬ (0 ≤ x.toInt ∧ x.toInt < 4)) : mD l Sh0 iX7_has [.inr 0, .inl x] h (some (-1)) h := by
  intro RT hR
  show mE l Sh0 none iX7_has RT 0 [some (.inr 0), some (.inl x)] [] h
  refine e_iload_n (i := 1) dX7_has_0 rfl rfl ?_
  refine b_if_lt (X := x.toInt) (tgt := 20) rfl dX7_has_1 (by decide) ?_ ?_
  · intro c_1_t
    refine e_iconst (v := (-1)) dX7_has_20 (by decide) ?_
    refine e_iret dX7_has_21 (mret_i _) ?_
    exact hR
  · intro c_1_f
    refine e_iload_n (i := 1) dX7_has_4 rfl rfl ?_
    refine e_iconst (v := 4) dX7_has_5 (by decide) ?_
    refine b_icmp_ge (X := x.toInt) (Y := 4) (tgt := 20) rfl (by decide) dX7_has_6 (by decide) ?_ ?_
    · intro c_6_t
      refine e_iconst (v := (-1)) dX7_has_20 (by decide) ?_
      refine e_iret dX7_has_21 (mret_i _) ?_
      exact hR
    · intro c_6_f
      exfalso; omega
set_option maxHeartbeats 2000000 in
theorem lp_M_has (l : Launch) (sz : Nat → Nat) (h : mH) (hd : Nat) (hh : hd < 4) (hs15 : ∀ p, p < 20 → h 29 p = nI (sz p) ∧ sz p ≤ 40) (RT : Option Int32 → mH → Prop) (hR : RT (some (hb sz hd 4)) h) : ∀ (d i : Nat), i + d = 4 → mE l Sh0 none iX8_has RT 13 [some (.inr 10), some (.inl (nI hd)), some (.inl (hb sz hd i)), some (.inl (nI i))] [] h := by
  intro d
  induction d with
  | zero =>
    intro i hd4
    refine e_iload_n (i := 3) dX8_has_13 rfl rfl ?_
    refine e_iconst (v := 4) dX8_has_14 (by decide) ?_
    refine b_icmp_ge (X := ((i : Nat) : Int)) (Y := 4) (tgt := 43) (nI_toInt (by omega)) (by decide) dX8_has_15 (by decide) ?_ ?_
    · intro c_15_t
      refine e_iload_n (i := 2) dX8_has_43 rfl rfl ?_
      refine e_iret dX8_has_44 (mret_i _) ?_
      have e : i = 4 := by omega
      subst e
      exact hR
    · intro c_15_f
      exfalso; omega
  | succ d ih =>
    intro i hd4
    obtain ⟨s1, s2⟩ := hs15 (4 + 4 * hd + i) (by omega)
    by_cases hz : 0 < sz (4 + 4 * hd + i)
    · have e1 : hb sz hd (i + 1) = hb sz hd i ||| (1 <<< (nI i &&& 31)) := if_pos hz
      refine e_iload_n (i := 3) dX8_has_13 rfl rfl ?_
      refine e_iconst (v := 4) dX8_has_14 (by decide) ?_
      refine b_icmp_ge (X := ((i : Nat) : Int)) (Y := 4) (tgt := 43) (nI_toInt (by omega)) (by decide) dX8_has_15 (by decide) ?_ ?_
      · intro c_15_t
        exfalso; omega
      · intro c_15_f
        refine e_iload_n (i := 2) dX8_has_18 rfl rfl ?_
        refine e_aload_n (i := 0) dX8_has_19 rfl rfl ?_
        refine e_iload_n (i := 1) dX8_has_20 rfl rfl ?_
        refine e_iload_n (i := 3) dX8_has_21 rfl rfl ?_
        refine e_invVi (As := [.inl (nI hd), .inl (nI i)]) (v := 1) (h2 := h) dX8_has_22 lk_X8_113 yv_X8_hasClause rfl rfl rfl (Nat.le_of_ble_eq_true rfl) sh_10 ci_X8 (Nat.le_of_ble_eq_true rfl) ⟨Nat.le_of_ble_eq_true rfl, Nat.le_of_ble_eq_true rfl⟩ (k_M_hasClause1 l h hd i _ hh (by omega) s1 s2 hz) ?_
        refine b_if_eq (X := 1) (tgt := 34) (by decide) dX8_has_25 (by decide) ?_ ?_
        · intro e_25_t c_25_t
          exfalso; omega
        · intro e_25_f c_25_f
          refine e_iconst (v := 1) dX8_has_28 (by decide) ?_
          refine e_iload_n (i := 3) dX8_has_29 rfl rfl ?_
          refine e_ishl dX8_has_30 ?_
          refine e_goto (tgt := 35) dX8_has_31 (by decide) ?_
          refine e_ior dX8_has_35 ?_
          refine e_istore_n (i := 2) (ls2 := [some (.inr 10), some (.inl (nI hd)), some (.inl ((hb sz hd i) ||| (1 <<< (nI i &&& 31)))), some (.inl (nI i))]) dX8_has_36 rfl (Nat.le_of_ble_eq_true rfl) rfl ?_
          refine e_iinc (v := nI (i + 1)) (ls2 := [some (.inr 10), some (.inl (nI hd)), some (.inl ((hb sz hd i) ||| (1 <<< (nI i &&& 31)))), some (.inl (nI (i + 1)))]) dX8_has_37 rfl (nI_inc1 _) (Nat.le_of_ble_eq_true rfl) rfl ?_
          refine e_goto (tgt := 13) dX8_has_40 (by decide) ?_
          rw [← e1]
          exact ih (i + 1) (by omega)
    · have e1 : hb sz hd (i + 1) = hb sz hd i := if_neg hz
      refine e_iload_n (i := 3) dX8_has_13 rfl rfl ?_
      refine e_iconst (v := 4) dX8_has_14 (by decide) ?_
      refine b_icmp_ge (X := ((i : Nat) : Int)) (Y := 4) (tgt := 43) (nI_toInt (by omega)) (by decide) dX8_has_15 (by decide) ?_ ?_
      · intro c_15_t
        exfalso; omega
      · intro c_15_f
        refine e_iload_n (i := 2) dX8_has_18 rfl rfl ?_
        refine e_aload_n (i := 0) dX8_has_19 rfl rfl ?_
        refine e_iload_n (i := 1) dX8_has_20 rfl rfl ?_
        refine e_iload_n (i := 3) dX8_has_21 rfl rfl ?_
        refine e_invVi (As := [.inl (nI hd), .inl (nI i)]) (v := 0) (h2 := h) dX8_has_22 lk_X8_113 yv_X8_hasClause rfl rfl rfl (Nat.le_of_ble_eq_true rfl) sh_10 ci_X8 (Nat.le_of_ble_eq_true rfl) ⟨Nat.le_of_ble_eq_true rfl, Nat.le_of_ble_eq_true rfl⟩ (k_M_hasClause0 l h hd i _ hh (by omega) s1 (by omega)) ?_
        refine b_if_eq (X := 0) (tgt := 34) (by decide) dX8_has_25 (by decide) ?_ ?_
        · intro e_25_t c_25_t
          refine e_iconst (v := 0) dX8_has_34 (by decide) ?_
          refine z_ior (z := hb sz hd i) (Int32.or_zero) dX8_has_35 ?_
          refine e_istore_n (i := 2) (ls2 := [some (.inr 10), some (.inl (nI hd)), some (.inl (hb sz hd i)), some (.inl (nI i))]) dX8_has_36 rfl (Nat.le_of_ble_eq_true rfl) rfl ?_
          refine e_iinc (v := nI (i + 1)) (ls2 := [some (.inr 10), some (.inl (nI hd)), some (.inl (hb sz hd i)), some (.inl (nI (i + 1)))]) dX8_has_37 rfl (nI_inc1 _) (Nat.le_of_ble_eq_true rfl) rfl ?_
          refine e_goto (tgt := 13) dX8_has_40 (by decide) ?_
          rw [← e1]
          exact ih (i + 1) (by omega)
        · intro e_25_f c_25_f
          exfalso; omega
set_option maxHeartbeats 1000000 in
theorem k_M_has1 (l : Launch) (sz : Nat → Nat) (h : mH) (hd : Nat) (hh : hd < 4) (hs15 : ∀ p, p < 20 → h 29 p = nI (sz p) ∧ sz p ≤ 40) : mD l Sh0 iX8_has [.inr 10, .inl (nI hd)] h (some (hb sz hd 4)) h := by
  intro RT hR
  show mE l Sh0 none iX8_has RT 0 [some (.inr 10), some (.inl (nI hd)), none, none] [] h
  refine e_iload_n (i := 1) dX8_has_0 rfl rfl ?_
  refine e_invSi (As := [.inl (nI hd)]) (v := 1) (h2 := h) dX8_has_1 lk_X8_101 ys_X8_isFour rfl rfl rfl (Nat.le_of_ble_eq_true rfl) (Nat.le_of_ble_eq_true rfl) ⟨Nat.le_of_ble_eq_true rfl, Nat.le_of_ble_eq_true rfl⟩ (k_M_four1 l h (nI hd) (by rw [nI_toInt (by omega)]; omega)) ?_
  refine b_if_ne (X := 1) (tgt := 9) (by decide) dX8_has_4 (by decide) ?_ ?_
  · intro e_4_t c_4_t
    refine e_iconst (v := 0) dX8_has_9 (by decide) ?_
    refine e_istore_n (i := 2) (ls2 := [some (.inr 10), some (.inl (nI hd)), some (.inl 0), none]) dX8_has_10 rfl (Nat.le_of_ble_eq_true rfl) rfl ?_
    refine e_iconst (v := 0) dX8_has_11 (by decide) ?_
    refine e_istore_n (i := 3) (ls2 := [some (.inr 10), some (.inl (nI hd)), some (.inl 0), some (.inl 0)]) dX8_has_12 rfl (Nat.le_of_ble_eq_true rfl) rfl ?_
    exact lp_M_has l sz h hd hh hs15 RT hR 4 0 (by omega)
  · intro e_4_f c_4_f
    exfalso; omega
set_option maxHeartbeats 1000000 in
theorem k_M_has0 (l : Launch) (h : mH) (x : Int32) (hx : ¬ (0 ≤ x.toInt ∧ x.toInt < 4)) : mD l Sh0 iX8_has [.inr 10, .inl x] h (some (-1)) h := by
  intro RT hR
  show mE l Sh0 none iX8_has RT 0 [some (.inr 10), some (.inl x), none, none] [] h
  refine e_iload_n (i := 1) dX8_has_0 rfl rfl ?_
  refine e_invSi (As := [.inl x]) (v := 0) (h2 := h) dX8_has_1 lk_X8_101 ys_X8_isFour rfl rfl rfl (Nat.le_of_ble_eq_true rfl) (Nat.le_of_ble_eq_true rfl) ⟨Nat.le_of_ble_eq_true rfl, Nat.le_of_ble_eq_true rfl⟩ (k_M_four0 l h x (by omega)) ?_
  refine b_if_ne (X := 0) (tgt := 9) (by decide) dX8_has_4 (by decide) ?_ ?_
  · intro e_4_t c_4_t
    exfalso; omega
  · intro e_4_f c_4_f
    refine e_iconst (v := (-1)) dX8_has_7 (by decide) ?_
    refine e_iret dX8_has_8 (mret_i _) ?_
    exact hR
/-- promise 8 -/
theorem j_has (l : Launch) (h : mH) (hI : Inv h) (x : Int32) : jP l iX7_has iX8_has [.inl x] h := by
  have hI0 := hI
  obtain ⟨n, pd, sg, ln, sz, r, ⟨w1, w2, w3, w4, w5, w6⟩, c, m⟩ := hI
  by_cases hx : 0 ≤ x.toInt ∧ x.toInt < 4
  · have kd := k_D_has1 l sz h x.toInt.toNat (by omega) (fun p hp => ⟨c.2.2.1.2.1 p hp, w3.1 p hp⟩)
    have km := k_M_has1 l sz h x.toInt.toNat (by omega) (fun p hp => ⟨m.2.2.1.2.1 p hp, w3.1 p hp⟩)
    rw [← nI_ofInt hx.1] at kd km
    exact jP_D kd km hI0
  · exact jP_D (k_D_has0 l h x hx) (k_M_has0 l h x hx) hI0
theorem k_cPartX (l : Launch) (h : mH) (x y : Int32) {v : Int32} (e : cPart x y = v) : mD l Sh0 iX7_isPart [.inl x, .inl y] h (some v) h := by
  have q := k_cPart l h x y
  rw [e] at q
  exact q
theorem k_B_clearX (l : Launch) (h : mH) (p : Nat) (hp : p < 20) : mD l Sh0 iX0_clear [.inr 2, .inl (nI p)] h none (hs h 15 p 0) := by
  have q := k_B_clear l h (nI p) (by rw [nI_toInt (by omega)]; omega)
  rw [nI_clamp (by omega)] at q
  exact q
set_option maxHeartbeats 1000000 in
theorem k_D_drop1 (l : Launch) (h : mH) (a b z : Nat) (ha : a < 4) (hb9 : b < 4) (hz40 : z ≤ 40) (hz : h 15 (4 + 4 * a + b) = nI z) (hp : 0 < z) : mD l Sh0 iX7_drop [.inr 0, .inl (nI a), .inl (nI b)] h (some (nI z)) (hs h 15 (4 + 4 * a + b) 0) := by
  intro RT hR
  show mE l Sh0 none iX7_drop RT 0 [some (.inr 0), some (.inl (nI a)), some (.inl (nI b)), none, none] [] h
  refine e_iload_n (i := 1) dX7_drop_0 rfl rfl ?_
  refine e_iload_n (i := 2) dX7_drop_1 rfl rfl ?_
  refine e_invSi (As := [.inl (nI a), .inl (nI b)]) (v := 1) (h2 := h) dX7_drop_2 lk_X7_77 ys_X7_isPart rfl rfl rfl (Nat.le_of_ble_eq_true rfl) (Nat.le_of_ble_eq_true rfl) ⟨Nat.le_of_ble_eq_true rfl, Nat.le_of_ble_eq_true rfl⟩ (k_cPartX l h (nI a) (nI b) (if_pos (by rw [nI_toInt (by omega), nI_toInt (by omega)]; omega))) ?_
  refine b_if_ne (X := 1) (tgt := 10) (by decide) dX7_drop_5 (by decide) ?_ ?_
  · intro e_5_t c_5_t
    refine e_iload_n (i := 1) dX7_drop_10 rfl rfl ?_
    refine e_iload_n (i := 2) dX7_drop_11 rfl rfl ?_
    refine e_invSi (As := [.inl (nI a), .inl (nI b)]) (v := nI (4 + 4 * a + b)) (h2 := h) dX7_drop_12 lk_X7_81 ys_X7_pageOf rfl rfl rfl (Nat.le_of_ble_eq_true rfl) (Nat.le_of_ble_eq_true rfl) ⟨Nat.le_of_ble_eq_true rfl, Nat.le_of_ble_eq_true rfl⟩ (k_pageOfX l h a b) ?_
    refine e_istore_n (i := 3) (ls2 := [some (.inr 0), some (.inl (nI a)), some (.inl (nI b)), some (.inl (nI (4 + 4 * a + b))), none]) dX7_drop_15 rfl (Nat.le_of_ble_eq_true rfl) rfl ?_
    refine e_aload_n (i := 0) dX7_drop_16 rfl rfl ?_
    refine e_getR (r := 2) dX7_drop_17 fl_X7_19 sh_0 fj_0_1 ?_
    refine e_iload_n (i := 3) dX7_drop_20 rfl rfl ?_
    refine e_invVi (As := [.inl (nI (4 + 4 * a + b))]) (v := nI z) (h2 := h) dX7_drop_21 lk_X7_85 yv_X0_size rfl rfl rfl (Nat.le_of_ble_eq_true rfl) sh_2 ci_X0 (Nat.le_of_ble_eq_true rfl) ⟨Nat.le_of_ble_eq_true rfl, Nat.le_of_ble_eq_true rfl⟩ (k_B_sizeX l h (4 + 4 * a + b) (by omega) hz) ?_
    refine e_istore (ls2 := [some (.inr 0), some (.inl (nI a)), some (.inl (nI b)), some (.inl (nI (4 + 4 * a + b))), some (.inl (nI z))]) dX7_drop_24 (Nat.le_of_ble_eq_true rfl) rfl ?_
    refine e_iload dX7_drop_26 rfl ?_
    refine b_if_ne (X := ((z : Nat) : Int)) (tgt := 34) (nI_toInt (by omega)) dX7_drop_28 (by decide) ?_ ?_
    · intro e_28_t c_28_t
      refine e_aload_n (i := 0) dX7_drop_34 rfl rfl ?_
      refine e_getR (r := 2) dX7_drop_35 fl_X7_19 sh_0 fj_0_1 ?_
      refine e_iload_n (i := 3) dX7_drop_38 rfl rfl ?_
      refine e_invVv (As := [.inl (nI (4 + 4 * a + b))]) (h2 := (hs h 15 (4 + 4 * a + b) 0)) (ty := .int) (v := 0) dX7_drop_39 lk_X7_88 yv_X0_clear rfl rfl rfl (Nat.le_of_ble_eq_true rfl) sh_2 ci_X0 (Nat.le_of_ble_eq_true rfl) ⟨Nat.le_of_ble_eq_true rfl, Nat.le_of_ble_eq_true rfl⟩ (k_B_clearX l h (4 + 4 * a + b) (by omega)) ?_
      refine e_iload dX7_drop_42 rfl ?_
      refine e_iret dX7_drop_44 (mret_i _) ?_
      exact hR
    · intro e_28_f c_28_f
      exfalso; omega
  · intro e_5_f c_5_f
    exfalso; omega
set_option maxHeartbeats 1000000 in
theorem k_D_drop0 (l : Launch) (h : mH) (a b z : Nat) (ha : a < 4) (hb9 : b < 4) (hz40 : z ≤ 40) (hz : h 15 (4 + 4 * a + b) = nI z) (hp : z = 0) : mD l Sh0 iX7_drop [.inr 0, .inl (nI a), .inl (nI b)] h (some (-5)) h := by
  intro RT hR
  show mE l Sh0 none iX7_drop RT 0 [some (.inr 0), some (.inl (nI a)), some (.inl (nI b)), none, none] [] h
  refine e_iload_n (i := 1) dX7_drop_0 rfl rfl ?_
  refine e_iload_n (i := 2) dX7_drop_1 rfl rfl ?_
  refine e_invSi (As := [.inl (nI a), .inl (nI b)]) (v := 1) (h2 := h) dX7_drop_2 lk_X7_77 ys_X7_isPart rfl rfl rfl (Nat.le_of_ble_eq_true rfl) (Nat.le_of_ble_eq_true rfl) ⟨Nat.le_of_ble_eq_true rfl, Nat.le_of_ble_eq_true rfl⟩ (k_cPartX l h (nI a) (nI b) (if_pos (by rw [nI_toInt (by omega), nI_toInt (by omega)]; omega))) ?_
  refine b_if_ne (X := 1) (tgt := 10) (by decide) dX7_drop_5 (by decide) ?_ ?_
  · intro e_5_t c_5_t
    refine e_iload_n (i := 1) dX7_drop_10 rfl rfl ?_
    refine e_iload_n (i := 2) dX7_drop_11 rfl rfl ?_
    refine e_invSi (As := [.inl (nI a), .inl (nI b)]) (v := nI (4 + 4 * a + b)) (h2 := h) dX7_drop_12 lk_X7_81 ys_X7_pageOf rfl rfl rfl (Nat.le_of_ble_eq_true rfl) (Nat.le_of_ble_eq_true rfl) ⟨Nat.le_of_ble_eq_true rfl, Nat.le_of_ble_eq_true rfl⟩ (k_pageOfX l h a b) ?_
    refine e_istore_n (i := 3) (ls2 := [some (.inr 0), some (.inl (nI a)), some (.inl (nI b)), some (.inl (nI (4 + 4 * a + b))), none]) dX7_drop_15 rfl (Nat.le_of_ble_eq_true rfl) rfl ?_
    refine e_aload_n (i := 0) dX7_drop_16 rfl rfl ?_
    refine e_getR (r := 2) dX7_drop_17 fl_X7_19 sh_0 fj_0_1 ?_
    refine e_iload_n (i := 3) dX7_drop_20 rfl rfl ?_
    refine e_invVi (As := [.inl (nI (4 + 4 * a + b))]) (v := nI z) (h2 := h) dX7_drop_21 lk_X7_85 yv_X0_size rfl rfl rfl (Nat.le_of_ble_eq_true rfl) sh_2 ci_X0 (Nat.le_of_ble_eq_true rfl) ⟨Nat.le_of_ble_eq_true rfl, Nat.le_of_ble_eq_true rfl⟩ (k_B_sizeX l h (4 + 4 * a + b) (by omega) hz) ?_
    refine e_istore (ls2 := [some (.inr 0), some (.inl (nI a)), some (.inl (nI b)), some (.inl (nI (4 + 4 * a + b))), some (.inl (nI z))]) dX7_drop_24 (Nat.le_of_ble_eq_true rfl) rfl ?_
    refine e_iload dX7_drop_26 rfl ?_
    refine b_if_ne (X := ((z : Nat) : Int)) (tgt := 34) (nI_toInt (by omega)) dX7_drop_28 (by decide) ?_ ?_
    · intro e_28_t c_28_t
      exfalso; omega
    · intro e_28_f c_28_f
      refine e_bipush (v := (-5)) dX7_drop_31 (by decide) ?_
      refine e_iret dX7_drop_33 (mret_i _) ?_
      exact hR
  · intro e_5_f c_5_f
    exfalso; omega
set_option maxHeartbeats 1000000 in
theorem k_D_dropU (l : Launch) (h : mH) (x y : Int32) (hx : ¬ (0 ≤ x.toInt ∧ x.toInt < 4 ∧ 0 ≤ y.toInt ∧ y.toInt < 4)) : mD l Sh0 iX7_drop [.inr 0, .inl x, .inl y] h (some (-1)) h := by
  intro RT hR
  show mE l Sh0 none iX7_drop RT 0 [some (.inr 0), some (.inl x), some (.inl y), none, none] [] h
  refine e_iload_n (i := 1) dX7_drop_0 rfl rfl ?_
  refine e_iload_n (i := 2) dX7_drop_1 rfl rfl ?_
  refine e_invSi (As := [.inl x, .inl y]) (v := 0) (h2 := h) dX7_drop_2 lk_X7_77 ys_X7_isPart rfl rfl rfl (Nat.le_of_ble_eq_true rfl) (Nat.le_of_ble_eq_true rfl) ⟨Nat.le_of_ble_eq_true rfl, Nat.le_of_ble_eq_true rfl⟩ (k_cPartX l h x y (if_neg hx)) ?_
  refine b_if_ne (X := 0) (tgt := 10) (by decide) dX7_drop_5 (by decide) ?_ ?_
  · intro e_5_t c_5_t
    exfalso; omega
  · intro e_5_f c_5_f
    refine e_iconst (v := (-1)) dX7_drop_8 (by decide) ?_
    refine e_iret dX7_drop_9 (mret_i _) ?_
    exact hR
set_option maxHeartbeats 1000000 in
theorem k_M_drop1 (l : Launch) (h : mH) (a b z : Nat) (ha : a < 4) (hb9 : b < 4) (hz40 : z ≤ 40) (hz : h 29 (4 + 4 * a + b) = nI z) (hp : 0 < z) : mD l Sh0 iX8_drop [.inr 10, .inl (nI a), .inl (nI b)] h (some (nI z)) (hs h 29 (4 + 4 * a + b) 0) := by
  intro RT hR
  show mE l Sh0 none iX8_drop RT 0 [some (.inr 10), some (.inl (nI a)), some (.inl (nI b)), none] [] h
  refine e_iload_n (i := 1) dX8_drop_0 rfl rfl ?_
  refine e_invSi (As := [.inl (nI a)]) (v := 1) (h2 := h) dX8_drop_1 lk_X8_101 ys_X8_isFour rfl rfl rfl (Nat.le_of_ble_eq_true rfl) (Nat.le_of_ble_eq_true rfl) ⟨Nat.le_of_ble_eq_true rfl, Nat.le_of_ble_eq_true rfl⟩ (k_M_four1 l h (nI a) (by rw [nI_toInt (by omega)]; omega)) ?_
  refine b_if_eq (X := 1) (tgt := 14) (by decide) dX8_drop_4 (by decide) ?_ ?_
  · intro e_4_t c_4_t
    exfalso; omega
  · intro e_4_f c_4_f
    refine e_iload_n (i := 2) dX8_drop_7 rfl rfl ?_
    refine e_invSi (As := [.inl (nI b)]) (v := 1) (h2 := h) dX8_drop_8 lk_X8_101 ys_X8_isFour rfl rfl rfl (Nat.le_of_ble_eq_true rfl) (Nat.le_of_ble_eq_true rfl) ⟨Nat.le_of_ble_eq_true rfl, Nat.le_of_ble_eq_true rfl⟩ (k_M_four1 l h (nI b) (by rw [nI_toInt (by omega)]; omega)) ?_
    refine b_if_ne (X := 1) (tgt := 16) (by decide) dX8_drop_11 (by decide) ?_ ?_
    · intro e_11_t c_11_t
      refine e_aload_n (i := 0) dX8_drop_16 rfl rfl ?_
      refine e_getR (r := 29) dX8_drop_17 fl_X8_13 sh_10 fj_10_2 ?_
      refine e_iload_n (i := 1) dX8_drop_20 rfl rfl ?_
      refine e_iload_n (i := 2) dX8_drop_21 rfl rfl ?_
      refine e_invSi (As := [.inl (nI a), .inl (nI b)]) (v := nI (4 + 4 * a + b)) (h2 := h) dX8_drop_22 lk_X8_109 ys_X8_clauseOf rfl rfl rfl (Nat.le_of_ble_eq_true rfl) (Nat.le_of_ble_eq_true rfl) ⟨Nat.le_of_ble_eq_true rfl, Nat.le_of_ble_eq_true rfl⟩ (k_M_clauseOf l h a b) ?_
      refine e_iald (x := nI z) dX8_drop_25 sh_29 (vin_ofX (X := ((4 + 4 * a + b : Nat) : Int)) (nI_toInt (by omega)) (by omega) (by omega)) (by rw [nI_clamp (by omega)]; exact hz) ?_
      refine e_istore_n (i := 3) (ls2 := [some (.inr 10), some (.inl (nI a)), some (.inl (nI b)), some (.inl (nI z))]) dX8_drop_26 rfl (Nat.le_of_ble_eq_true rfl) rfl ?_
      refine e_aload_n (i := 0) dX8_drop_27 rfl rfl ?_
      refine e_getR (r := 29) dX8_drop_28 fl_X8_13 sh_10 fj_10_2 ?_
      refine e_iload_n (i := 1) dX8_drop_31 rfl rfl ?_
      refine e_iload_n (i := 2) dX8_drop_32 rfl rfl ?_
      refine e_invSi (As := [.inl (nI a), .inl (nI b)]) (v := nI (4 + 4 * a + b)) (h2 := h) dX8_drop_33 lk_X8_109 ys_X8_clauseOf rfl rfl rfl (Nat.le_of_ble_eq_true rfl) (Nat.le_of_ble_eq_true rfl) ⟨Nat.le_of_ble_eq_true rfl, Nat.le_of_ble_eq_true rfl⟩ (k_M_clauseOf l h a b) ?_
      refine e_iconst (v := 0) dX8_drop_36 (by decide) ?_
      refine e_iast dX8_drop_37 sh_29 (vin_ofX (X := ((4 + 4 * a + b : Nat) : Int)) (nI_toInt (by omega)) (by omega) (by omega)) ?_
      rw [nI_clamp (by omega)]
      refine e_iload_n (i := 3) dX8_drop_38 rfl rfl ?_
      refine b_if_ne (X := ((z : Nat) : Int)) (tgt := 47) (nI_toInt (by omega)) dX8_drop_39 (by decide) ?_ ?_
      · intro e_39_t c_39_t
        refine e_iload_n (i := 3) dX8_drop_47 rfl rfl ?_
        refine e_iret dX8_drop_48 (mret_i _) ?_
        exact hR
      · intro e_39_f c_39_f
        exfalso; omega
    · intro e_11_f c_11_f
      exfalso; omega
set_option maxHeartbeats 1000000 in
theorem k_M_drop0 (l : Launch) (h : mH) (a b z : Nat) (ha : a < 4) (hb9 : b < 4) (hz40 : z ≤ 40) (hz : h 29 (4 + 4 * a + b) = nI z) (hp : z = 0) : mD l Sh0 iX8_drop [.inr 10, .inl (nI a), .inl (nI b)] h (some (-5)) (hs h 29 (4 + 4 * a + b) 0) := by
  intro RT hR
  show mE l Sh0 none iX8_drop RT 0 [some (.inr 10), some (.inl (nI a)), some (.inl (nI b)), none] [] h
  refine e_iload_n (i := 1) dX8_drop_0 rfl rfl ?_
  refine e_invSi (As := [.inl (nI a)]) (v := 1) (h2 := h) dX8_drop_1 lk_X8_101 ys_X8_isFour rfl rfl rfl (Nat.le_of_ble_eq_true rfl) (Nat.le_of_ble_eq_true rfl) ⟨Nat.le_of_ble_eq_true rfl, Nat.le_of_ble_eq_true rfl⟩ (k_M_four1 l h (nI a) (by rw [nI_toInt (by omega)]; omega)) ?_
  refine b_if_eq (X := 1) (tgt := 14) (by decide) dX8_drop_4 (by decide) ?_ ?_
  · intro e_4_t c_4_t
    exfalso; omega
  · intro e_4_f c_4_f
    refine e_iload_n (i := 2) dX8_drop_7 rfl rfl ?_
    refine e_invSi (As := [.inl (nI b)]) (v := 1) (h2 := h) dX8_drop_8 lk_X8_101 ys_X8_isFour rfl rfl rfl (Nat.le_of_ble_eq_true rfl) (Nat.le_of_ble_eq_true rfl) ⟨Nat.le_of_ble_eq_true rfl, Nat.le_of_ble_eq_true rfl⟩ (k_M_four1 l h (nI b) (by rw [nI_toInt (by omega)]; omega)) ?_
    refine b_if_ne (X := 1) (tgt := 16) (by decide) dX8_drop_11 (by decide) ?_ ?_
    · intro e_11_t c_11_t
      refine e_aload_n (i := 0) dX8_drop_16 rfl rfl ?_
      refine e_getR (r := 29) dX8_drop_17 fl_X8_13 sh_10 fj_10_2 ?_
      refine e_iload_n (i := 1) dX8_drop_20 rfl rfl ?_
      refine e_iload_n (i := 2) dX8_drop_21 rfl rfl ?_
      refine e_invSi (As := [.inl (nI a), .inl (nI b)]) (v := nI (4 + 4 * a + b)) (h2 := h) dX8_drop_22 lk_X8_109 ys_X8_clauseOf rfl rfl rfl (Nat.le_of_ble_eq_true rfl) (Nat.le_of_ble_eq_true rfl) ⟨Nat.le_of_ble_eq_true rfl, Nat.le_of_ble_eq_true rfl⟩ (k_M_clauseOf l h a b) ?_
      refine e_iald (x := nI z) dX8_drop_25 sh_29 (vin_ofX (X := ((4 + 4 * a + b : Nat) : Int)) (nI_toInt (by omega)) (by omega) (by omega)) (by rw [nI_clamp (by omega)]; exact hz) ?_
      refine e_istore_n (i := 3) (ls2 := [some (.inr 10), some (.inl (nI a)), some (.inl (nI b)), some (.inl (nI z))]) dX8_drop_26 rfl (Nat.le_of_ble_eq_true rfl) rfl ?_
      refine e_aload_n (i := 0) dX8_drop_27 rfl rfl ?_
      refine e_getR (r := 29) dX8_drop_28 fl_X8_13 sh_10 fj_10_2 ?_
      refine e_iload_n (i := 1) dX8_drop_31 rfl rfl ?_
      refine e_iload_n (i := 2) dX8_drop_32 rfl rfl ?_
      refine e_invSi (As := [.inl (nI a), .inl (nI b)]) (v := nI (4 + 4 * a + b)) (h2 := h) dX8_drop_33 lk_X8_109 ys_X8_clauseOf rfl rfl rfl (Nat.le_of_ble_eq_true rfl) (Nat.le_of_ble_eq_true rfl) ⟨Nat.le_of_ble_eq_true rfl, Nat.le_of_ble_eq_true rfl⟩ (k_M_clauseOf l h a b) ?_
      refine e_iconst (v := 0) dX8_drop_36 (by decide) ?_
      refine e_iast dX8_drop_37 sh_29 (vin_ofX (X := ((4 + 4 * a + b : Nat) : Int)) (nI_toInt (by omega)) (by omega) (by omega)) ?_
      rw [nI_clamp (by omega)]
      refine e_iload_n (i := 3) dX8_drop_38 rfl rfl ?_
      refine b_if_ne (X := ((z : Nat) : Int)) (tgt := 47) (nI_toInt (by omega)) dX8_drop_39 (by decide) ?_ ?_
      · intro e_39_t c_39_t
        exfalso; omega
      · intro e_39_f c_39_f
        refine e_bipush (v := (-5)) dX8_drop_42 (by decide) ?_
        refine e_goto (tgt := 48) dX8_drop_44 (by decide) ?_
        refine e_iret dX8_drop_48 (mret_i _) ?_
        exact hR
    · intro e_11_f c_11_f
      exfalso; omega
set_option maxHeartbeats 1000000 in
theorem k_M_dropUx (l : Launch) (h : mH) (x y : Int32) (hx : ¬ (0 ≤ x.toInt ∧ x.toInt < 4)) : mD l Sh0 iX8_drop [.inr 10, .inl x, .inl y] h (some (-1)) h := by
  intro RT hR
  show mE l Sh0 none iX8_drop RT 0 [some (.inr 10), some (.inl x), some (.inl y), none] [] h
  refine e_iload_n (i := 1) dX8_drop_0 rfl rfl ?_
  refine e_invSi (As := [.inl x]) (v := 0) (h2 := h) dX8_drop_1 lk_X8_101 ys_X8_isFour rfl rfl rfl (Nat.le_of_ble_eq_true rfl) (Nat.le_of_ble_eq_true rfl) ⟨Nat.le_of_ble_eq_true rfl, Nat.le_of_ble_eq_true rfl⟩ (k_M_four0 l h x (by omega)) ?_
  refine b_if_eq (X := 0) (tgt := 14) (by decide) dX8_drop_4 (by decide) ?_ ?_
  · intro e_4_t c_4_t
    refine e_iconst (v := (-1)) dX8_drop_14 (by decide) ?_
    refine e_iret dX8_drop_15 (mret_i _) ?_
    exact hR
  · intro e_4_f c_4_f
    exfalso; omega
set_option maxHeartbeats 1000000 in
theorem k_M_dropUy (l : Launch) (h : mH) (x y : Int32) (hx : 0 ≤ x.toInt ∧ x.toInt < 4) (hy : ¬ (0 ≤ y.toInt ∧ y.toInt < 4)) : mD l Sh0 iX8_drop [.inr 10, .inl x, .inl y] h (some (-1)) h := by
  intro RT hR
  show mE l Sh0 none iX8_drop RT 0 [some (.inr 10), some (.inl x), some (.inl y), none] [] h
  refine e_iload_n (i := 1) dX8_drop_0 rfl rfl ?_
  refine e_invSi (As := [.inl x]) (v := 1) (h2 := h) dX8_drop_1 lk_X8_101 ys_X8_isFour rfl rfl rfl (Nat.le_of_ble_eq_true rfl) (Nat.le_of_ble_eq_true rfl) ⟨Nat.le_of_ble_eq_true rfl, Nat.le_of_ble_eq_true rfl⟩ (k_M_four1 l h x (by omega)) ?_
  refine b_if_eq (X := 1) (tgt := 14) (by decide) dX8_drop_4 (by decide) ?_ ?_
  · intro e_4_t c_4_t
    exfalso; omega
  · intro e_4_f c_4_f
    refine e_iload_n (i := 2) dX8_drop_7 rfl rfl ?_
    refine e_invSi (As := [.inl y]) (v := 0) (h2 := h) dX8_drop_8 lk_X8_101 ys_X8_isFour rfl rfl rfl (Nat.le_of_ble_eq_true rfl) (Nat.le_of_ble_eq_true rfl) ⟨Nat.le_of_ble_eq_true rfl, Nat.le_of_ble_eq_true rfl⟩ (k_M_four0 l h y (by omega)) ?_
    refine b_if_ne (X := 0) (tgt := 16) (by decide) dX8_drop_11 (by decide) ?_ ?_
    · intro e_11_t c_11_t
      exfalso; omega
    · intro e_11_f c_11_f
      refine e_iconst (v := (-1)) dX8_drop_14 (by decide) ?_
      refine e_iret dX8_drop_15 (mret_i _) ?_
      exact hR
theorem aV_drop {sg : Nat → Int32} {sz : Nat → Nat} {p0 pl : Nat} : aV sg (fun p => if p = p0 then 0 else sz p) pl ↔ (aV sg sz pl ∧ pl / 40 ≠ p0) := by
  unfold aV
  dsimp only
  constructor
  · rintro ⟨h1, h2, h3⟩
    by_cases e : pl / 40 = p0
    · rw [if_pos e] at h2
      exact absurd h2 (Nat.not_lt_zero _)
    · rw [if_neg e] at h2
      exact ⟨⟨h1, h2, h3⟩, e⟩
  · rintro ⟨⟨h1, h2, h3⟩, e⟩
    exact ⟨h1, by rw [if_neg e]; exact h2, h3⟩
theorem aWB_drop {sg : Nat → Int32} {ln sz : Nat → Nat} (hB : aWB sg ln sz) (p0 : Nat) : aWB sg ln (fun p => if p = p0 then 0 else sz p) := by
  refine ⟨fun p hp => ?_, fun pl hV => ?_⟩
  · dsimp only
    split
    · omega
    · exact hB.1 p hp
  · obtain ⟨hV, hne⟩ := aV_drop.mp hV
    obtain ⟨b1, b2, b3, b4, b5, b6, b7, b8, b9, b10⟩ := hB.2 pl hV
    refine ⟨b1, by dsimp only; rw [if_neg hne]; exact b2, b3, fun z => ?_, b5, fun z => ?_, b7, fun z => ?_, b9, b10⟩
    · exact ⟨aV_drop.mpr ⟨(b4 z).1, by rw [(b4 z).2]; exact hne⟩, (b4 z).2⟩
    · exact ⟨aV_drop.mpr ⟨(b6 z).1, by rw [(b6 z).2]; exact hne⟩, (b6 z).2⟩
    · exact ⟨⟨aV_drop.mpr ⟨(b8 z).1.1, by rw [(b8 z).1.2]; exact hne⟩, (b8 z).1.2⟩, (b8 z).2⟩
theorem Inv_drop {h1 h2 h : mH} {n : Nat} {pd sg : Nat → Int32} {ln sz : Nat → Nat} {r : List Nat} {p0 : Nat} (hp0 : 4 ≤ p0) (w : WS n pd sg ln sz r) (c : CS n pd sg ln sz r h) (m : MS n pd sg ln sz r h) (e2 : h2 = hs h1 29 p0 0) (e15 : ∀ p, p < 20 → h1 15 p = nI (if p = p0 then 0 else sz p)) (e : ∀ a, a ≠ 15 → h1 a = h a) : Inv h2 := by
  obtain ⟨w1, w2, w3, w4, w5, w6⟩ := w
  obtain ⟨c1, c2, ⟨c3, c4, c5⟩, c6, c7, c8⟩ := c
  obtain ⟨m1, m2, ⟨m3, m4, m5⟩, m6, m7⟩ := m
  have ee : ∀ a, a ≠ 15 → a ≠ 29 → h2 a = h a := fun a h15 h29 => by
    rw [e2, hs_rown _ _ _ h29]
    exact e a h15
  have ec : ∀ a b : Nat, a ≠ 15 → a ≠ 29 → h2 a b = h a b := fun a b h15 h29 => by rw [ee a h15 h29]
  refine ⟨n, pd, sg, ln, fun p => if p = p0 then 0 else sz p, r, ⟨w1, w2, aWB_drop w3 p0, fun p hp => ?_, w5, w6⟩, ⟨(ec 1 2 (by decide) (by decide)).trans c1, fun i hi => (ec 11 i (by decide) (by decide)).trans (c2 i hi), ⟨fun pl hp => (ec 13 pl (by decide) (by decide)).trans (c3 pl hp), fun p hp => ?_, fun pl hV => (ec 14 pl (by decide) (by decide)).trans (c5 pl (aV_drop.mp hV).1)⟩, (ec 3 1 (by decide) (by decide)).trans c6, c7, fun i hi => (ec 16 i (by decide) (by decide)).trans (c8 i hi)⟩, (ec 10 0 (by decide) (by decide)).trans m1, fun i hi => (ec 28 i (by decide) (by decide)).trans (m2 i hi), ⟨fun pl hp => (ec 30 pl (by decide) (by decide)).trans (m3 pl hp), fun p hp => ?_, fun pl hV => (ec 31 pl (by decide) (by decide)).trans (m5 pl (aV_drop.mp hV).1)⟩, (ec 10 5 (by decide) (by decide)).trans m6, fun i hi => (ec 32 i (by decide) (by decide)).trans (m7 i hi)⟩
  · dsimp only
    rw [if_neg (by omega)]
    exact w4 p hp
  · have e15' : h2 15 = h1 15 := by rw [e2, hs_rown _ _ _ (by decide)]
    rw [e15']
    exact e15 p hp
  · rw [e2]
    dsimp only
    by_cases hpp : p = p0
    · rw [hpp, hs_at, if_pos rfl]; rfl
    · rw [hs_ne _ _ (fun z => hpp z.2), if_neg hpp, e 29 (by decide)]
      exact m4 p hp
/-- promise 7 -/
theorem j_drop (l : Launch) (h : mH) (hI : Inv h) (x y : Int32) : jP l iX7_drop iX8_drop [.inl x, .inl y] h := by
  have hI0 := hI
  obtain ⟨n, pd, sg, ln, sz, r, w, c, m⟩ := hI
  by_cases hx : 0 ≤ x.toInt ∧ x.toInt < 4
  · by_cases hy : 0 ≤ y.toInt ∧ y.toInt < 4
    · obtain ⟨p0, hp0⟩ : ∃ p0, p0 = 4 + 4 * x.toInt.toNat + y.toInt.toNat := ⟨_, rfl⟩
      have hz40 := w.2.2.1.1 (4 + 4 * x.toInt.toNat + y.toInt.toNat) (by omega)
      have s15 := c.2.2.1.2.1 (4 + 4 * x.toInt.toNat + y.toInt.toNat) (by omega)
      have s29 := m.2.2.1.2.1 (4 + 4 * x.toInt.toNat + y.toInt.toNat) (by omega)
      by_cases hz : 0 < sz (4 + 4 * x.toInt.toNat + y.toInt.toNat)
      · have kd := k_D_drop1 l h x.toInt.toNat y.toInt.toNat _ (by omega) (by omega) hz40 s15 hz
        have km := k_M_drop1 l (hs h 15 (4 + 4 * x.toInt.toNat + y.toInt.toNat) 0) x.toInt.toNat y.toInt.toNat _ (by omega) (by omega) hz40 s29 hz
        rw [← nI_ofInt hx.1, ← nI_ofInt hy.1] at kd km
        refine jP_D kd km (Inv_drop (p0 := p0) (h := h) (by omega) w c m (by rw [hp0]) (fun p hp => ?_) (fun a ha => hs_rown _ _ _ ha))
        by_cases hpp : p = p0
        · rw [if_pos hpp, hpp, hp0, hs_at]; rfl
        · rw [if_neg hpp, hs_ne _ _ (fun z => hpp (by rw [hp0]; exact z.2))]
          exact c.2.2.1.2.1 p hp
      · have kd := k_D_drop0 l h x.toInt.toNat y.toInt.toNat _ (by omega) (by omega) hz40 s15 (by omega)
        have km := k_M_drop0 l h x.toInt.toNat y.toInt.toNat _ (by omega) (by omega) hz40 s29 (by omega)
        rw [← nI_ofInt hx.1, ← nI_ofInt hy.1] at kd km
        refine jP_D kd km (Inv_drop (p0 := p0) (h := h) (by omega) w c m (by rw [hp0]) (fun p hp => ?_) (fun a ha => rfl))
        rw [c.2.2.1.2.1 p hp]
        by_cases hpp : p = p0
        · rw [if_pos hpp, hpp, hp0]
          congr 1
          omega
        · rw [if_neg hpp]
    · exact jP_D (k_D_dropU l h x y (fun z => hy z.2.2)) (k_M_dropUy l h x y hx hy) hI0
  · exact jP_D (k_D_dropU l h x y (fun z => hx ⟨z.1, z.2.1⟩)) (k_M_dropUx l h x y hx) hI0
