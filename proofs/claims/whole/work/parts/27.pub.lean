/-! What the two objects hold between calls; the plain methods. -/
/-- the class's object: the signs said, the book, the replies -/
def CS (n : Nat) (pd sg : Nat → Int32) (ln sz : Nat → Nat) (r : List Nat) (h : mH) : Prop := h 1 2 = nI n ∧ (∀ i, i < n → h 11 i = pd i) ∧ CB sg ln sz h ∧ CR 3 16 r h
/-- the reference's object -/
def MS (n : Nat) (pd sg : Nat → Int32) (ln sz : Nat → Nat) (r : List Nat) (h : mH) : Prop := h 10 0 = nI n ∧ (∀ i, i < n → h 28 i = pd i) ∧ MB sg ln sz h ∧ h 10 5 = nI r.length ∧ ∀ i, i < r.length → h 32 i = nI (r.getD i 0)
def WS (n : Nat) (pd sg : Nat → Int32) (ln sz : Nat → Nat) (r : List Nat) : Prop := n ≤ 40 ∧ (∀ i, i < n → 33 ≤ (pd i).toInt ∧ (pd i).toInt ≤ 126) ∧ aWB sg ln sz ∧ (∀ p, p < 4 → 0 < sz p) ∧ r.length ≤ 8 ∧ ∀ z ∈ r, z < 8
def Inv (h : mH) : Prop := ∃ n pd sg ln sz r, WS n pd sg ln sz r ∧ CS n pd sg ln sz r h ∧ MS n pd sg ln sz r h
/-- a call of both objects: the same answer, and what holds holds again -/
def jP (l : Launch) (J1 J2 : mI) (As : List mV) (h : mH) : Prop := mG l Sh0 J1 (.inr 0 :: As) h (fun w h1 => ∃ v, w = some v ∧ mG l Sh0 J2 (.inr 10 :: As) h1 (fun w2 h2 => w2 = some v ∧ Inv h2))
theorem jP_D {l : Launch} {J1 J2 : mI} {As : List mV} {h h1 h2 : mH} {v : Int32} (c : mD l Sh0 J1 (.inr 0 :: As) h (some v) h1) (m : mD l Sh0 J2 (.inr 10 :: As) h1 (some v) h2) (hI : Inv h2) : jP l J1 J2 As h :=
  c.g.weaken (fun w u q => ⟨v, q.1, by rw [q.2]; exact m.g.weaken (fun w2 u2 q2 => ⟨q2.1, by rw [q2.2]; exact hI⟩)⟩)
set_option maxHeartbeats 1000000 in
theorem k_P_add (l : Launch) (h : mH) (n : Nat) (hc : h 1 2 = nI n) (hn : n < 40) (x : Int32) : mD l Sh0 iX2_add [.inr 1, .inl x] h (some 1) (hs (hs h 11 n x) 1 2 (nI (n + 1))) := by
  intro RT hR
  show mE l Sh0 none iX2_add RT 0 [some (.inr 1), some (.inl x)] [] h
  refine e_aload_n (i := 0) dX2_add_0 rfl rfl ?_
  refine e_getI (x := nI n) dX2_add_1 fl_X2_18 sh_1 fj_1_2 hc ?_
  refine b_if_lt (X := ((n : Nat) : Int)) (tgt := 16) (nI_toInt (by omega)) dX2_add_4 (by decide) ?_ ?_
  · intro c_4_t
    exfalso; omega
  · intro c_4_f
    refine e_aload_n (i := 0) dX2_add_7 rfl rfl ?_
    refine e_getI (x := nI n) dX2_add_8 fl_X2_18 sh_1 fj_1_2 hc ?_
    refine e_bipush (v := 40) dX2_add_11 (by decide) ?_
    refine b_icmp_lt (X := ((n : Nat) : Int)) (Y := 40) (tgt := 18) (nI_toInt (by omega)) (by decide) dX2_add_13 (by decide) ?_ ?_
    · intro c_13_t
      refine e_aload_n (i := 0) dX2_add_18 rfl rfl ?_
      refine e_getR (r := 11) dX2_add_19 fl_X2_9 sh_1 fj_1_0 ?_
      refine e_aload_n (i := 0) dX2_add_22 rfl rfl ?_
      refine e_getI (x := nI n) dX2_add_23 fl_X2_18 sh_1 fj_1_2 hc ?_
      refine e_iload_n (i := 1) dX2_add_26 rfl rfl ?_
      refine e_iast dX2_add_27 sh_11 (vin_ofX (X := ((n : Nat) : Int)) (nI_toInt (by omega)) (by omega) (by omega)) ?_
      rw [nI_clamp (by omega)]
      refine e_aload_n (i := 0) dX2_add_28 rfl rfl ?_
      refine e_dup dX2_add_29 ?_
      refine e_getI (x := nI n) dX2_add_30 fl_X2_18 sh_1 fj_1_2 hc ?_
      refine e_iconst (v := 1) dX2_add_33 (by decide) ?_
      refine z_iadd (z := nI (n + 1)) (nI_addc _ 1) dX2_add_34 ?_
      refine e_putI dX2_add_35 fl_X2_18 fp_X2_2 sh_1 fj_1_2 ?_
      refine e_iconst (v := 1) dX2_add_38 (by decide) ?_
      refine e_iret dX2_add_39 (mret_z (by first | decide | (simp only []; split <;> decide))) ?_
      exact hR
    · intro c_13_f
      exfalso; omega
set_option maxHeartbeats 1000000 in
theorem k_P_addF (l : Launch) (h : mH) (hc : h 1 2 = nI 40) (x : Int32) : mD l Sh0 iX2_add [.inr 1, .inl x] h (some 0) h := by
  intro RT hR
  show mE l Sh0 none iX2_add RT 0 [some (.inr 1), some (.inl x)] [] h
  refine e_aload_n (i := 0) dX2_add_0 rfl rfl ?_
  refine e_getI (x := nI 40) dX2_add_1 fl_X2_18 sh_1 fj_1_2 hc ?_
  refine b_if_lt (X := ((40 : Nat) : Int)) (tgt := 16) (nI_toInt (by omega)) dX2_add_4 (by decide) ?_ ?_
  · intro c_4_t
    exfalso; omega
  · intro c_4_f
    refine e_aload_n (i := 0) dX2_add_7 rfl rfl ?_
    refine e_getI (x := nI 40) dX2_add_8 fl_X2_18 sh_1 fj_1_2 hc ?_
    refine e_bipush (v := 40) dX2_add_11 (by decide) ?_
    refine b_icmp_lt (X := ((40 : Nat) : Int)) (Y := 40) (tgt := 18) (nI_toInt (by omega)) (by decide) dX2_add_13 (by decide) ?_ ?_
    · intro c_13_t
      exfalso; omega
    · intro c_13_f
      refine e_iconst (v := 0) dX2_add_16 (by decide) ?_
      refine e_iret dX2_add_17 (mret_z (by first | decide | (simp only []; split <;> decide))) ?_
      exact hR
set_option maxHeartbeats 1000000 in
theorem k_D_say2 (l : Launch) (h : mH) (x : Int32) (hx : ¬ (33 ≤ x.toInt ∧ x.toInt ≤ 126)) : mD l Sh0 iX7_say [.inr 0, .inl x] h (some (-2)) h := by
  intro RT hR
  show mE l Sh0 none iX7_say RT 0 [some (.inr 0), some (.inl x)] [] h
  refine e_iload_n (i := 1) dX7_say_0 rfl rfl ?_
  refine e_bipush (v := 33) dX7_say_1 (by decide) ?_
  refine b_icmp_lt (X := x.toInt) (Y := 33) (tgt := 12) rfl (by decide) dX7_say_3 (by decide) ?_ ?_
  · intro c_3_t
    refine e_bipush (v := (-2)) dX7_say_12 (by decide) ?_
    refine e_iret dX7_say_14 (mret_i _) ?_
    exact hR
  · intro c_3_f
    refine e_iload_n (i := 1) dX7_say_6 rfl rfl ?_
    refine e_bipush (v := 126) dX7_say_7 (by decide) ?_
    refine b_icmp_le (X := x.toInt) (Y := 126) (tgt := 15) rfl (by decide) dX7_say_9 (by decide) ?_ ?_
    · intro c_9_t
      exfalso; omega
    · intro c_9_f
      refine e_bipush (v := (-2)) dX7_say_12 (by decide) ?_
      refine e_iret dX7_say_14 (mret_i _) ?_
      exact hR
set_option maxHeartbeats 1000000 in
theorem k_D_say1 (l : Launch) (h : mH) (n : Nat) (hc : h 1 2 = nI n) (hn : n < 40) (x : Int32) (hx : 33 ≤ x.toInt ∧ x.toInt ≤ 126) : mD l Sh0 iX7_say [.inr 0, .inl x] h (some (nI (n + 1))) (hs (hs h 11 n x) 1 2 (nI (n + 1))) := by
  intro RT hR
  show mE l Sh0 none iX7_say RT 0 [some (.inr 0), some (.inl x)] [] h
  refine e_iload_n (i := 1) dX7_say_0 rfl rfl ?_
  refine e_bipush (v := 33) dX7_say_1 (by decide) ?_
  refine b_icmp_lt (X := x.toInt) (Y := 33) (tgt := 12) rfl (by decide) dX7_say_3 (by decide) ?_ ?_
  · intro c_3_t
    exfalso; omega
  · intro c_3_f
    refine e_iload_n (i := 1) dX7_say_6 rfl rfl ?_
    refine e_bipush (v := 126) dX7_say_7 (by decide) ?_
    refine b_icmp_le (X := x.toInt) (Y := 126) (tgt := 15) rfl (by decide) dX7_say_9 (by decide) ?_ ?_
    · intro c_9_t
      refine e_aload_n (i := 0) dX7_say_15 rfl rfl ?_
      refine e_getR (r := 1) dX7_say_16 fl_X7_12 sh_0 fj_0_0 ?_
      refine e_iload_n (i := 1) dX7_say_19 rfl rfl ?_
      refine e_invVi (As := [.inl x]) (v := 1) (h2 := (hs (hs h 11 n x) 1 2 (nI (n + 1)))) dX7_say_20 lk_X7_58 yv_X2_add rfl rfl rfl (Nat.le_of_ble_eq_true rfl) sh_1 ci_X2 (Nat.le_of_ble_eq_true rfl) ⟨Nat.le_of_ble_eq_true rfl, Nat.le_of_ble_eq_true rfl⟩ (k_P_add l h n hc hn x) ?_
      refine b_if_eq (X := 1) (tgt := 36) (by decide) dX7_say_23 (by decide) ?_ ?_
      · intro e_23_t c_23_t
        exfalso; omega
      · intro e_23_f c_23_f
        refine e_aload_n (i := 0) dX7_say_26 rfl rfl ?_
        refine e_getR (r := 1) dX7_say_27 fl_X7_12 sh_0 fj_0_0 ?_
        refine e_getI (x := nI (n + 1)) dX7_say_30 fl_X7_62 sh_1 fj_1_2 rfl ?_
        refine e_goto (tgt := 38) dX7_say_33 (by decide) ?_
        refine e_iret dX7_say_38 (mret_i _) ?_
        exact hR
    · intro c_9_f
      exfalso; omega
set_option maxHeartbeats 1000000 in
theorem k_D_say4 (l : Launch) (h : mH) (hc : h 1 2 = nI 40) (x : Int32) (hx : 33 ≤ x.toInt ∧ x.toInt ≤ 126) : mD l Sh0 iX7_say [.inr 0, .inl x] h (some (-4)) h := by
  intro RT hR
  show mE l Sh0 none iX7_say RT 0 [some (.inr 0), some (.inl x)] [] h
  refine e_iload_n (i := 1) dX7_say_0 rfl rfl ?_
  refine e_bipush (v := 33) dX7_say_1 (by decide) ?_
  refine b_icmp_lt (X := x.toInt) (Y := 33) (tgt := 12) rfl (by decide) dX7_say_3 (by decide) ?_ ?_
  · intro c_3_t
    exfalso; omega
  · intro c_3_f
    refine e_iload_n (i := 1) dX7_say_6 rfl rfl ?_
    refine e_bipush (v := 126) dX7_say_7 (by decide) ?_
    refine b_icmp_le (X := x.toInt) (Y := 126) (tgt := 15) rfl (by decide) dX7_say_9 (by decide) ?_ ?_
    · intro c_9_t
      refine e_aload_n (i := 0) dX7_say_15 rfl rfl ?_
      refine e_getR (r := 1) dX7_say_16 fl_X7_12 sh_0 fj_0_0 ?_
      refine e_iload_n (i := 1) dX7_say_19 rfl rfl ?_
      refine e_invVi (As := [.inl x]) (v := 0) (h2 := h) dX7_say_20 lk_X7_58 yv_X2_add rfl rfl rfl (Nat.le_of_ble_eq_true rfl) sh_1 ci_X2 (Nat.le_of_ble_eq_true rfl) ⟨Nat.le_of_ble_eq_true rfl, Nat.le_of_ble_eq_true rfl⟩ (k_P_addF l h hc x) ?_
      refine b_if_eq (X := 0) (tgt := 36) (by decide) dX7_say_23 (by decide) ?_ ?_
      · intro e_23_t c_23_t
        refine e_bipush (v := (-4)) dX7_say_36 (by decide) ?_
        refine e_iret dX7_say_38 (mret_i _) ?_
        exact hR
      · intro e_23_f c_23_f
        exfalso; omega
    · intro c_9_f
      exfalso; omega
set_option maxHeartbeats 1000000 in
theorem k_M_say2 (l : Launch) (h : mH) (x : Int32) (hx : ¬ (33 ≤ x.toInt ∧ x.toInt ≤ 126)) : mD l Sh0 iX8_say [.inr 10, .inl x] h (some (-2)) h := by
  intro RT hR
  show mE l Sh0 none iX8_say RT 0 [some (.inr 10), some (.inl x)] [] h
  refine e_iload_n (i := 1) dX8_say_0 rfl rfl ?_
  refine e_bipush (v := 33) dX8_say_1 (by decide) ?_
  refine e_bipush (v := 126) dX8_say_3 (by decide) ?_
  refine e_invSi (As := [.inl x, .inl 33, .inl 126]) (v := 0) (h2 := h) dX8_say_5 lk_X8_85 ys_X8_in rfl rfl rfl (Nat.le_of_ble_eq_true rfl) (Nat.le_of_ble_eq_true rfl) ⟨Nat.le_of_ble_eq_true rfl, Nat.le_of_ble_eq_true rfl⟩ (k_M_in (Y := 33) (Z := 126) l h x 33 126 rfl (by decide) (by decide) (if_neg hx)) ?_
  refine b_if_ne (X := 0) (tgt := 14) (by decide) dX8_say_8 (by decide) ?_ ?_
  · intro e_8_t c_8_t
    exfalso; omega
  · intro e_8_f c_8_f
    refine e_bipush (v := (-2)) dX8_say_11 (by decide) ?_
    refine e_iret dX8_say_13 (mret_i _) ?_
    exact hR
set_option maxHeartbeats 1000000 in
theorem k_M_say1 (l : Launch) (h : mH) (n : Nat) (hc : h 10 0 = nI n) (hn : n < 40) (x : Int32) (hx : 33 ≤ x.toInt ∧ x.toInt ≤ 126) : mD l Sh0 iX8_say [.inr 10, .inl x] h (some (nI (n + 1))) (hs (hs h 28 n x) 10 0 (nI (n + 1))) := by
  intro RT hR
  show mE l Sh0 none iX8_say RT 0 [some (.inr 10), some (.inl x)] [] h
  refine e_iload_n (i := 1) dX8_say_0 rfl rfl ?_
  refine e_bipush (v := 33) dX8_say_1 (by decide) ?_
  refine e_bipush (v := 126) dX8_say_3 (by decide) ?_
  refine e_invSi (As := [.inl x, .inl 33, .inl 126]) (v := 1) (h2 := h) dX8_say_5 lk_X8_85 ys_X8_in rfl rfl rfl (Nat.le_of_ble_eq_true rfl) (Nat.le_of_ble_eq_true rfl) ⟨Nat.le_of_ble_eq_true rfl, Nat.le_of_ble_eq_true rfl⟩ (k_M_in (Y := 33) (Z := 126) l h x 33 126 rfl (by decide) (by decide) (if_pos hx)) ?_
  refine b_if_ne (X := 1) (tgt := 14) (by decide) dX8_say_8 (by decide) ?_ ?_
  · intro e_8_t c_8_t
    refine e_aload_n (i := 0) dX8_say_14 rfl rfl ?_
    refine e_getI (x := nI n) dX8_say_15 fl_X8_89 sh_10 fj_10_0 hc ?_
    refine e_bipush (v := 40) dX8_say_18 (by decide) ?_
    refine b_icmp_ne (X := ((n : Nat) : Int)) (Y := 40) (tgt := 26) (nI_toInt (by omega)) (by decide) dX8_say_20 (by decide) ?_ ?_
    · intro e_20_t c_20_t
      refine e_aload_n (i := 0) dX8_say_26 rfl rfl ?_
      refine e_getR (r := 28) dX8_say_27 fl_X8_7 sh_10 fj_10_1 ?_
      refine e_aload_n (i := 0) dX8_say_30 rfl rfl ?_
      refine e_getI (x := nI n) dX8_say_31 fl_X8_89 sh_10 fj_10_0 hc ?_
      refine e_iload_n (i := 1) dX8_say_34 rfl rfl ?_
      refine e_iast dX8_say_35 sh_28 (vin_ofX (X := ((n : Nat) : Int)) (nI_toInt (by omega)) (by omega) (by omega)) ?_
      rw [nI_clamp (by omega)]
      refine e_aload_n (i := 0) dX8_say_36 rfl rfl ?_
      refine e_dup dX8_say_37 ?_
      refine e_getI (x := nI n) dX8_say_38 fl_X8_89 sh_10 fj_10_0 hc ?_
      refine e_iconst (v := 1) dX8_say_41 (by decide) ?_
      refine z_iadd (z := nI (n + 1)) (nI_addc _ 1) dX8_say_42 ?_
      refine e_putI dX8_say_43 fl_X8_89 fp_X8_0 sh_10 fj_10_0 ?_
      refine e_aload_n (i := 0) dX8_say_46 rfl rfl ?_
      refine e_getI (x := nI (n + 1)) dX8_say_47 fl_X8_89 sh_10 fj_10_0 rfl ?_
      refine e_iret dX8_say_50 (mret_i _) ?_
      exact hR
    · intro e_20_f c_20_f
      exfalso; omega
  · intro e_8_f c_8_f
    exfalso; omega
set_option maxHeartbeats 1000000 in
theorem k_M_say4 (l : Launch) (h : mH) (hc : h 10 0 = nI 40) (x : Int32) (hx : 33 ≤ x.toInt ∧ x.toInt ≤ 126) : mD l Sh0 iX8_say [.inr 10, .inl x] h (some (-4)) h := by
  intro RT hR
  show mE l Sh0 none iX8_say RT 0 [some (.inr 10), some (.inl x)] [] h
  refine e_iload_n (i := 1) dX8_say_0 rfl rfl ?_
  refine e_bipush (v := 33) dX8_say_1 (by decide) ?_
  refine e_bipush (v := 126) dX8_say_3 (by decide) ?_
  refine e_invSi (As := [.inl x, .inl 33, .inl 126]) (v := 1) (h2 := h) dX8_say_5 lk_X8_85 ys_X8_in rfl rfl rfl (Nat.le_of_ble_eq_true rfl) (Nat.le_of_ble_eq_true rfl) ⟨Nat.le_of_ble_eq_true rfl, Nat.le_of_ble_eq_true rfl⟩ (k_M_in (Y := 33) (Z := 126) l h x 33 126 rfl (by decide) (by decide) (if_pos hx)) ?_
  refine b_if_ne (X := 1) (tgt := 14) (by decide) dX8_say_8 (by decide) ?_ ?_
  · intro e_8_t c_8_t
    refine e_aload_n (i := 0) dX8_say_14 rfl rfl ?_
    refine e_getI (x := nI 40) dX8_say_15 fl_X8_89 sh_10 fj_10_0 hc ?_
    refine e_bipush (v := 40) dX8_say_18 (by decide) ?_
    refine b_icmp_ne (X := ((40 : Nat) : Int)) (Y := 40) (tgt := 26) (nI_toInt (by omega)) (by decide) dX8_say_20 (by decide) ?_ ?_
    · intro e_20_t c_20_t
      exfalso; omega
    · intro e_20_f c_20_f
      refine e_bipush (v := (-4)) dX8_say_23 (by decide) ?_
      refine e_iret dX8_say_25 (mret_i _) ?_
      exact hR
  · intro e_8_f c_8_f
    exfalso; omega
theorem CS.o {n : Nat} {pd sg : Nat → Int32} {ln sz : Nat → Nat} {r : List Nat} {h h' : mH} (e1 : h' 1 = h 1) (e11 : h' 11 = h 11) (e13 : h' 13 = h 13) (e14 : h' 14 = h 14) (e15 : h' 15 = h 15) (e3 : h' 3 = h 3) (e16 : h' 16 = h 16) (c : CS n pd sg ln sz r h) : CS n pd sg ln sz r h' := by
  obtain ⟨c1, c2, ⟨c3, c4, c5⟩, c6, c7, c8⟩ := c
  exact ⟨by rw [e1]; exact c1, fun i hi => by rw [e11]; exact c2 i hi, ⟨fun p hp => by rw [e13]; exact c3 p hp, fun p hp => by rw [e15]; exact c4 p hp, fun p hp => by rw [e14]; exact c5 p hp⟩, by rw [e3]; exact c6, c7, fun i hi => by rw [e16]; exact c8 i hi⟩
theorem MS.o {n : Nat} {pd sg : Nat → Int32} {ln sz : Nat → Nat} {r : List Nat} {h h' : mH} (e0 : h' 10 0 = h 10 0) (e5 : h' 10 5 = h 10 5) (e28 : h' 28 = h 28) (e29 : h' 29 = h 29) (e30 : h' 30 = h 30) (e31 : h' 31 = h 31) (e32 : h' 32 = h 32) (c : MS n pd sg ln sz r h) : MS n pd sg ln sz r h' := by
  obtain ⟨c1, c2, ⟨c3, c4, c5⟩, c6, c7⟩ := c
  exact ⟨by rw [e0]; exact c1, fun i hi => by rw [e28]; exact c2 i hi, ⟨fun p hp => by rw [e30]; exact c3 p hp, fun p hp => by rw [e29]; exact c4 p hp, fun p hp => by rw [e31]; exact c5 p hp⟩, by rw [e5]; exact c6, fun i hi => by rw [e32]; exact c7 i hi⟩
/-- promise 2 -/
theorem j_say (l : Launch) (h : mH) (hI : Inv h) (x : Int32) : jP l iX7_say iX8_say [.inl x] h := by
  have hI0 := hI
  obtain ⟨n, pd, sg, ln, sz, r, ⟨w1, w2, w3, w4, w5, w6⟩, c, m⟩ := hI
  by_cases hx : 33 ≤ x.toInt ∧ x.toInt ≤ 126
  · by_cases hn : n < 40
    · refine jP_D (k_D_say1 l h n c.1 hn x hx) (k_M_say1 l (hs (hs h 11 n x) 1 2 (nI (n + 1))) n m.1 hn x hx) ⟨n + 1, fun i => if i = n then x else pd i, sg, ln, sz, r, ⟨by omega, fun i hi => ?_, w3, w4, w5, w6⟩, ?_, ?_⟩
      · dsimp only
        split
        · exact hx
        · exact w2 i (by omega)
      · obtain ⟨c1, c2, ⟨c3, c4, c5⟩, c6, c7, c8⟩ := c
        refine ⟨rfl, fun i hi => ?_, ⟨c3, c4, c5⟩, c6, c7, c8⟩
        show hs h 11 n x 11 i = if i = n then x else pd i
        by_cases hin : i = n
        · subst hin; rw [hs_at, if_pos rfl]
        · rw [hs_ne _ _ (by omega), if_neg hin]; exact c2 i (by omega)
      · obtain ⟨c1, c2, ⟨c3, c4, c5⟩, c6, c7⟩ := m
        refine ⟨rfl, fun i hi => ?_, ⟨c3, c4, c5⟩, c6, c7⟩
        show hs h 28 n x 28 i = if i = n then x else pd i
        by_cases hin : i = n
        · subst hin; rw [hs_at, if_pos rfl]
        · rw [hs_ne _ _ (by omega), if_neg hin]; exact c2 i (by omega)
    · have e : n = 40 := by omega
      subst e
      exact jP_D (k_D_say4 l h c.1 x hx) (k_M_say4 l h m.1 x hx) hI0
  · exact jP_D (k_D_say2 l h x hx) (k_M_say2 l h x hx) hI0
set_option maxHeartbeats 1000000 in
theorem k_D_wipe (l : Launch) (h : mH) : mD l Sh0 iX7_wipe [.inr 0] h (some (h 1 2)) (hs h 1 2 0) := by
  intro RT hR
  show mE l Sh0 none iX7_wipe RT 0 [some (.inr 0), none] [] h
  refine e_aload_n (i := 0) dX7_wipe_0 rfl rfl ?_
  refine e_getR (r := 1) dX7_wipe_1 fl_X7_12 sh_0 fj_0_0 ?_
  refine e_getI (x := h 1 2) dX7_wipe_4 fl_X7_62 sh_1 fj_1_2 rfl ?_
  refine e_istore_n (i := 1) (ls2 := [some (.inr 0), some (.inl (h 1 2))]) dX7_wipe_7 rfl (Nat.le_of_ble_eq_true rfl) rfl ?_
  refine e_aload_n (i := 0) dX7_wipe_8 rfl rfl ?_
  refine e_getR (r := 1) dX7_wipe_9 fl_X7_12 sh_0 fj_0_0 ?_
  refine e_iconst (v := 0) dX7_wipe_12 (by decide) ?_
  refine e_putI dX7_wipe_13 fl_X7_62 fp_X2_2 sh_1 fj_1_2 ?_
  refine e_iload_n (i := 1) dX7_wipe_16 rfl rfl ?_
  refine e_iret dX7_wipe_17 (mret_i _) ?_
  exact hR
set_option maxHeartbeats 1000000 in
theorem k_M_wipe (l : Launch) (h : mH) : mD l Sh0 iX8_wipe [.inr 10] h (some (h 10 0)) (hs h 10 0 0) := by
  intro RT hR
  show mE l Sh0 none iX8_wipe RT 0 [some (.inr 10), none] [] h
  refine e_aload_n (i := 0) dX8_wipe_0 rfl rfl ?_
  refine e_getI (x := h 10 0) dX8_wipe_1 fl_X8_89 sh_10 fj_10_0 rfl ?_
  refine e_istore_n (i := 1) (ls2 := [some (.inr 10), some (.inl (h 10 0))]) dX8_wipe_4 rfl (Nat.le_of_ble_eq_true rfl) rfl ?_
  refine e_aload_n (i := 0) dX8_wipe_5 rfl rfl ?_
  refine e_iconst (v := 0) dX8_wipe_6 (by decide) ?_
  refine e_putI dX8_wipe_7 fl_X8_89 fp_X8_0 sh_10 fj_10_0 ?_
  refine e_iload_n (i := 1) dX8_wipe_10 rfl rfl ?_
  refine e_iret dX8_wipe_11 (mret_i _) ?_
  exact hR
/-- promise 3 -/
theorem j_wipe (l : Launch) (h : mH) (hI : Inv h) : jP l iX7_wipe iX8_wipe [] h := by
  obtain ⟨n, pd, sg, ln, sz, r, ⟨w1, w2, w3, w4, w5, w6⟩, c, m⟩ := hI
  have e : hs h 1 2 0 10 0 = h 1 2 := m.1.trans c.1.symm
  have km := k_M_wipe l (hs h 1 2 0)
  rw [e] at km
  refine jP_D (k_D_wipe l h) km ⟨0, pd, sg, ln, sz, r, ⟨by omega, fun i hi => absurd hi (by omega), w3, w4, w5, w6⟩, ?_, ?_⟩
  · obtain ⟨c1, c2, ⟨c3, c4, c5⟩, c6, c7, c8⟩ := c
    exact ⟨rfl, fun i hi => absurd hi (by omega), ⟨c3, c4, c5⟩, c6, c7, c8⟩
  · obtain ⟨c1, c2, ⟨c3, c4, c5⟩, c6, c7⟩ := m
    exact ⟨rfl, fun i hi => absurd hi (by omega), ⟨c3, c4, c5⟩, c6, c7⟩
theorem k_cNumX (l : Launch) (h : mH) (x : Int32) {v : Int32} (e : cNum x = v) : mD l Sh0 iX7_isNumber [.inl x] h (some v) h := by
  have q := k_cNum l h x
  rw [e] at q
  exact q
set_option maxHeartbeats 1000000 in
theorem k_D_reply2 (l : Launch) (h : mH) (x : Int32) (hx : ¬ (0 ≤ x.toInt ∧ x.toInt < 8)) : mD l Sh0 iX7_reply [.inr 0, .inl x] h (some (-2)) h := by
  intro RT hR
  show mE l Sh0 none iX7_reply RT 0 [some (.inr 0), some (.inl x)] [] h
  refine e_iload_n (i := 1) dX7_reply_0 rfl rfl ?_
  refine e_invSi (As := [.inl x]) (v := 0) (h2 := h) dX7_reply_1 lk_X7_94 ys_X7_isNumber rfl rfl rfl (Nat.le_of_ble_eq_true rfl) (Nat.le_of_ble_eq_true rfl) ⟨Nat.le_of_ble_eq_true rfl, Nat.le_of_ble_eq_true rfl⟩ (k_cNumX l h x (if_neg hx)) ?_
  refine b_if_ne (X := 0) (tgt := 10) (by decide) dX7_reply_4 (by decide) ?_ ?_
  · intro e_4_t c_4_t
    exfalso; omega
  · intro e_4_f c_4_f
    refine e_bipush (v := (-2)) dX7_reply_7 (by decide) ?_
    refine e_iret dX7_reply_9 (mret_i _) ?_
    exact hR
set_option maxHeartbeats 1000000 in
theorem k_D_reply1 (l : Launch) (h : mH) (n : Nat) (hc : h 3 1 = nI n) (hn : n < 8) (x : Int32) (hx : 0 ≤ x.toInt ∧ x.toInt < 8) : mD l Sh0 iX7_reply [.inr 0, .inl x] h (some (nI (n + 1))) (hs (hs h 16 n x) 3 1 (nI (n + 1))) := by
  intro RT hR
  show mE l Sh0 none iX7_reply RT 0 [some (.inr 0), some (.inl x)] [] h
  refine e_iload_n (i := 1) dX7_reply_0 rfl rfl ?_
  refine e_invSi (As := [.inl x]) (v := 1) (h2 := h) dX7_reply_1 lk_X7_94 ys_X7_isNumber rfl rfl rfl (Nat.le_of_ble_eq_true rfl) (Nat.le_of_ble_eq_true rfl) ⟨Nat.le_of_ble_eq_true rfl, Nat.le_of_ble_eq_true rfl⟩ (k_cNumX l h x (if_pos hx)) ?_
  refine b_if_ne (X := 1) (tgt := 10) (by decide) dX7_reply_4 (by decide) ?_ ?_
  · intro e_4_t c_4_t
    refine e_aload_n (i := 0) dX7_reply_10 rfl rfl ?_
    refine e_getR (r := 3) dX7_reply_11 fl_X7_26 sh_0 fj_0_2 ?_
    refine e_iload_n (i := 1) dX7_reply_14 rfl rfl ?_
    refine e_invVi (As := [.inl x]) (v := 1) (h2 := (hs (hs h 16 n x) 3 1 (nI (n + 1)))) dX7_reply_15 lk_X7_97 yv_X3_add rfl rfl rfl (Nat.le_of_ble_eq_true rfl) sh_3 ci_X3 (Nat.le_of_ble_eq_true rfl) ⟨Nat.le_of_ble_eq_true rfl, Nat.le_of_ble_eq_true rfl⟩ (k_R_add l (k := 3) (r := 16) rfl rfl h x n hc hn) ?_
    refine b_if_eq (X := 1) (tgt := 31) (by decide) dX7_reply_18 (by decide) ?_ ?_
    · intro e_18_t c_18_t
      exfalso; omega
    · intro e_18_f c_18_f
      refine e_aload_n (i := 0) dX7_reply_21 rfl rfl ?_
      refine e_getR (r := 3) dX7_reply_22 fl_X7_26 sh_0 fj_0_2 ?_
      refine e_getI (x := nI (n + 1)) dX7_reply_25 fl_X7_98 sh_3 fj_3_1 rfl ?_
      refine e_goto (tgt := 33) dX7_reply_28 (by decide) ?_
      refine e_iret dX7_reply_33 (mret_i _) ?_
      exact hR
  · intro e_4_f c_4_f
    exfalso; omega
set_option maxHeartbeats 1000000 in
theorem k_D_reply4 (l : Launch) (h : mH) (hc : h 3 1 = nI 8) (x : Int32) (hx : 0 ≤ x.toInt ∧ x.toInt < 8) : mD l Sh0 iX7_reply [.inr 0, .inl x] h (some (-4)) h := by
  intro RT hR
  show mE l Sh0 none iX7_reply RT 0 [some (.inr 0), some (.inl x)] [] h
  refine e_iload_n (i := 1) dX7_reply_0 rfl rfl ?_
  refine e_invSi (As := [.inl x]) (v := 1) (h2 := h) dX7_reply_1 lk_X7_94 ys_X7_isNumber rfl rfl rfl (Nat.le_of_ble_eq_true rfl) (Nat.le_of_ble_eq_true rfl) ⟨Nat.le_of_ble_eq_true rfl, Nat.le_of_ble_eq_true rfl⟩ (k_cNumX l h x (if_pos hx)) ?_
  refine b_if_ne (X := 1) (tgt := 10) (by decide) dX7_reply_4 (by decide) ?_ ?_
  · intro e_4_t c_4_t
    refine e_aload_n (i := 0) dX7_reply_10 rfl rfl ?_
    refine e_getR (r := 3) dX7_reply_11 fl_X7_26 sh_0 fj_0_2 ?_
    refine e_iload_n (i := 1) dX7_reply_14 rfl rfl ?_
    refine e_invVi (As := [.inl x]) (v := 0) (h2 := h) dX7_reply_15 lk_X7_97 yv_X3_add rfl rfl rfl (Nat.le_of_ble_eq_true rfl) sh_3 ci_X3 (Nat.le_of_ble_eq_true rfl) ⟨Nat.le_of_ble_eq_true rfl, Nat.le_of_ble_eq_true rfl⟩ (k_R_addF l (k := 3) (r := 16) rfl rfl h x hc) ?_
    refine b_if_eq (X := 0) (tgt := 31) (by decide) dX7_reply_18 (by decide) ?_ ?_
    · intro e_18_t c_18_t
      refine e_bipush (v := (-4)) dX7_reply_31 (by decide) ?_
      refine e_iret dX7_reply_33 (mret_i _) ?_
      exact hR
    · intro e_18_f c_18_f
      exfalso; omega
  · intro e_4_f c_4_f
    exfalso; omega
set_option maxHeartbeats 1000000 in
theorem k_M_reply2 (l : Launch) (h : mH) (x : Int32) (hx : ¬ (0 ≤ x.toInt ∧ x.toInt < 8)) : mD l Sh0 iX8_reply [.inr 10, .inl x] h (some (-2)) h := by
  intro RT hR
  show mE l Sh0 none iX8_reply RT 0 [some (.inr 10), some (.inl x)] [] h
  refine e_iload_n (i := 1) dX8_reply_0 rfl rfl ?_
  refine e_iconst (v := 0) dX8_reply_1 (by decide) ?_
  refine e_bipush (v := 7) dX8_reply_2 (by decide) ?_
  refine e_invSi (As := [.inl x, .inl 0, .inl 7]) (v := 0) (h2 := h) dX8_reply_4 lk_X8_85 ys_X8_in rfl rfl rfl (Nat.le_of_ble_eq_true rfl) (Nat.le_of_ble_eq_true rfl) ⟨Nat.le_of_ble_eq_true rfl, Nat.le_of_ble_eq_true rfl⟩ (k_M_in (Y := 0) (Z := 7) l h x 0 7 rfl (by decide) (by decide) (if_neg (by omega))) ?_
  refine b_if_ne (X := 0) (tgt := 13) (by decide) dX8_reply_7 (by decide) ?_ ?_
  · intro e_7_t c_7_t
    exfalso; omega
  · intro e_7_f c_7_f
    refine e_bipush (v := (-2)) dX8_reply_10 (by decide) ?_
    refine e_iret dX8_reply_12 (mret_i _) ?_
    exact hR
set_option maxHeartbeats 1000000 in
theorem k_M_reply1 (l : Launch) (h : mH) (n : Nat) (hc : h 10 5 = nI n) (hn : n < 8) (x : Int32) (hx : 0 ≤ x.toInt ∧ x.toInt < 8) : mD l Sh0 iX8_reply [.inr 10, .inl x] h (some (nI (n + 1))) (hs (hs h 32 n x) 10 5 (nI (n + 1))) := by
  intro RT hR
  show mE l Sh0 none iX8_reply RT 0 [some (.inr 10), some (.inl x)] [] h
  refine e_iload_n (i := 1) dX8_reply_0 rfl rfl ?_
  refine e_iconst (v := 0) dX8_reply_1 (by decide) ?_
  refine e_bipush (v := 7) dX8_reply_2 (by decide) ?_
  refine e_invSi (As := [.inl x, .inl 0, .inl 7]) (v := 1) (h2 := h) dX8_reply_4 lk_X8_85 ys_X8_in rfl rfl rfl (Nat.le_of_ble_eq_true rfl) (Nat.le_of_ble_eq_true rfl) ⟨Nat.le_of_ble_eq_true rfl, Nat.le_of_ble_eq_true rfl⟩ (k_M_in (Y := 0) (Z := 7) l h x 0 7 rfl (by decide) (by decide) (if_pos (by omega))) ?_
  refine b_if_ne (X := 1) (tgt := 13) (by decide) dX8_reply_7 (by decide) ?_ ?_
  · intro e_7_t c_7_t
    refine e_aload_n (i := 0) dX8_reply_13 rfl rfl ?_
    refine e_getI (x := nI n) dX8_reply_14 fl_X8_117 sh_10 fj_10_5 hc ?_
    refine e_bipush (v := 8) dX8_reply_17 (by decide) ?_
    refine b_icmp_ne (X := ((n : Nat) : Int)) (Y := 8) (tgt := 25) (nI_toInt (by omega)) (by decide) dX8_reply_19 (by decide) ?_ ?_
    · intro e_19_t c_19_t
      refine e_aload_n (i := 0) dX8_reply_25 rfl rfl ?_
      refine e_getR (r := 32) dX8_reply_26 fl_X8_22 sh_10 fj_10_6 ?_
      refine e_aload_n (i := 0) dX8_reply_29 rfl rfl ?_
      refine e_getI (x := nI n) dX8_reply_30 fl_X8_117 sh_10 fj_10_5 hc ?_
      refine e_iload_n (i := 1) dX8_reply_33 rfl rfl ?_
      refine e_iast dX8_reply_34 sh_32 (vin_ofX (X := ((n : Nat) : Int)) (nI_toInt (by omega)) (by omega) (by omega)) ?_
      rw [nI_clamp (by omega)]
      refine e_aload_n (i := 0) dX8_reply_35 rfl rfl ?_
      refine e_dup dX8_reply_36 ?_
      refine e_getI (x := nI n) dX8_reply_37 fl_X8_117 sh_10 fj_10_5 hc ?_
      refine e_iconst (v := 1) dX8_reply_40 (by decide) ?_
      refine z_iadd (z := nI (n + 1)) (nI_addc _ 1) dX8_reply_41 ?_
      refine e_putI dX8_reply_42 fl_X8_117 fp_X8_5 sh_10 fj_10_5 ?_
      refine e_aload_n (i := 0) dX8_reply_45 rfl rfl ?_
      refine e_getI (x := nI (n + 1)) dX8_reply_46 fl_X8_117 sh_10 fj_10_5 rfl ?_
      refine e_iret dX8_reply_49 (mret_i _) ?_
      exact hR
    · intro e_19_f c_19_f
      exfalso; omega
  · intro e_7_f c_7_f
    exfalso; omega
set_option maxHeartbeats 1000000 in
theorem k_M_reply4 (l : Launch) (h : mH) (hc : h 10 5 = nI 8) (x : Int32) (hx : 0 ≤ x.toInt ∧ x.toInt < 8) : mD l Sh0 iX8_reply [.inr 10, .inl x] h (some (-4)) h := by
  intro RT hR
  show mE l Sh0 none iX8_reply RT 0 [some (.inr 10), some (.inl x)] [] h
  refine e_iload_n (i := 1) dX8_reply_0 rfl rfl ?_
  refine e_iconst (v := 0) dX8_reply_1 (by decide) ?_
  refine e_bipush (v := 7) dX8_reply_2 (by decide) ?_
  refine e_invSi (As := [.inl x, .inl 0, .inl 7]) (v := 1) (h2 := h) dX8_reply_4 lk_X8_85 ys_X8_in rfl rfl rfl (Nat.le_of_ble_eq_true rfl) (Nat.le_of_ble_eq_true rfl) ⟨Nat.le_of_ble_eq_true rfl, Nat.le_of_ble_eq_true rfl⟩ (k_M_in (Y := 0) (Z := 7) l h x 0 7 rfl (by decide) (by decide) (if_pos (by omega))) ?_
  refine b_if_ne (X := 1) (tgt := 13) (by decide) dX8_reply_7 (by decide) ?_ ?_
  · intro e_7_t c_7_t
    refine e_aload_n (i := 0) dX8_reply_13 rfl rfl ?_
    refine e_getI (x := nI 8) dX8_reply_14 fl_X8_117 sh_10 fj_10_5 hc ?_
    refine e_bipush (v := 8) dX8_reply_17 (by decide) ?_
    refine b_icmp_ne (X := ((8 : Nat) : Int)) (Y := 8) (tgt := 25) (nI_toInt (by omega)) (by decide) dX8_reply_19 (by decide) ?_ ?_
    · intro e_19_t c_19_t
      exfalso; omega
    · intro e_19_f c_19_f
      refine e_bipush (v := (-4)) dX8_reply_22 (by decide) ?_
      refine e_iret dX8_reply_24 (mret_i _) ?_
      exact hR
  · intro e_7_f c_7_f
    exfalso; omega
/-- promise 9 -/
theorem j_reply (l : Launch) (h : mH) (hI : Inv h) (x : Int32) : jP l iX7_reply iX8_reply [.inl x] h := by
  have hI0 := hI
  obtain ⟨n, pd, sg, ln, sz, r, ⟨w1, w2, w3, w4, w5, w6⟩, c, m⟩ := hI
  by_cases hx : 0 ≤ x.toInt ∧ x.toInt < 8
  · by_cases hn : r.length < 8
    · have ex : x = nI x.toInt.toNat := nI_ofInt hx.1
      have key : ∀ (f : Nat → Int32), (∀ i, i < r.length → f i = nI (r.getD i 0)) → ∀ i, i < (r ++ [x.toInt.toNat]).length → upd f r.length x i = nI ((r ++ [x.toInt.toNat]).getD i 0) := by
        intro f hf i hi
        rw [List.length_append] at hi
        simp only [List.length_cons, List.length_nil] at hi
        by_cases hin : i < r.length
        · rw [pk_un (by omega), hf i hin, List.getD_eq_getElem?_getD, List.getD_eq_getElem?_getD, List.getElem?_append_left hin]
        · have e0 : i = r.length := by omega
          rw [e0, pk_us, List.getD_eq_getElem?_getD, List.getElem?_append_right (Nat.le_refl _), Nat.sub_self]
          exact ex
      have hl : (r ++ [x.toInt.toNat]).length = r.length + 1 := by simp
      obtain ⟨c1, c2, ⟨c3, c4, c5⟩, c6, c7, c8⟩ := c
      obtain ⟨m1, m2, ⟨m3, m4, m5⟩, m6, m7⟩ := m
      refine jP_D (k_D_reply1 l h r.length c6 hn x hx) (k_M_reply1 l (hs (hs h 16 r.length x) 3 1 (nI (r.length + 1))) r.length m6 hn x hx) ⟨n, pd, sg, ln, sz, r ++ [x.toInt.toNat], ⟨w1, w2, w3, w4, by omega, fun z hz => ?_⟩, ⟨c1, c2, ⟨c3, c4, c5⟩, by rw [hl]; rfl, by omega, fun i hi => ?_⟩, m1, m2, ⟨m3, m4, m5⟩, by rw [hl]; rfl, fun i hi => ?_⟩
      · rcases List.mem_append.mp hz with hz | hz
        · exact w6 z hz
        · rw [List.mem_singleton] at hz
          omega
      · show hs h 16 r.length x 16 i = _
        rw [hs_row]
        exact key _ c8 i hi
      · show hs h 32 r.length x 32 i = _
        rw [hs_row]
        exact key _ m7 i hi
    · have e : r.length = 8 := by omega
      exact jP_D (k_D_reply4 l h (by rw [← e]; exact c.2.2.2.1) x hx) (k_M_reply4 l h (by rw [← e]; exact m.2.2.2.1) x hx) hI0
  · exact jP_D (k_D_reply2 l h x hx) (k_M_reply2 l h x hx) hI0
