/-! fault: alike. -/
set_option maxHeartbeats 2000000 in
theorem k_P_firstFault (l : Launch) (h : mH) (pd : Nat → Int32) (n : Nat) (hn : n ≤ 40) (gg : Int32) (m0 : h 1 2 = nI n) (hpd : ∀ i, i < n → h 11 i = pd i) : mG l Sh0 iX2_firstFault [.inr 1, .inl gg] h (fun v h' => ∃ (w : Int32) (c' : Nat → Int32), v = some w ∧ w.toInt = ff pd n gg.toInt 41 0 [] ∧ h' = hr h 12 c') := by
  intro RT hR
  show mE l Sh0 none iX2_firstFault RT 0 [some (.inr 1), some (.inl gg), none, none, none] [] h
  refine e_iconst (v := 0) dX2_firstFault_0 (by decide) ?_
  refine e_istore_n (i := 2) (ls2 := [some (.inr 1), some (.inl gg), some (.inl 0), none, none]) dX2_firstFault_1 rfl (Nat.le_of_ble_eq_true rfl) rfl ?_
  refine e_aload_n (i := 0) dX2_firstFault_2 rfl rfl ?_
  refine e_getR (r := 12) dX2_firstFault_3 fl_X2_15 sh_1 fj_1_1 ?_
  refine e_iconst (v := 0) dX2_firstFault_6 (by decide) ?_
  refine e_iconst (v := 1) dX2_firstFault_7 (by decide) ?_
  refine e_iast dX2_firstFault_8 sh_12 (vin_ofX (X := 0) (by decide) (by omega) (by omega)) ?_
  refine e_iconst (v := 0) dX2_firstFault_9 (by decide) ?_
  refine e_istore_n (i := 3) (ls2 := [some (.inr 1), some (.inl gg), some (.inl 0), some (.inl 0), none]) dX2_firstFault_10 rfl (Nat.le_of_ble_eq_true rfl) rfl ?_
  have e0 : hs h 12 (0 : Int32).toNatClampNeg 1 = hr h 12 (upd (h 12) 0 1) := hs_eq h 12 0 1
  rw [e0]
  exact lp_C_fault l h pd n hn gg m0 hpd RT 41 0 [] (upd (h 12) 0 1) none (by omega) (by omega) (fun z hz => by cases hz) (by decide) (show upd (h 12) 0 1 0 = nI 1 by rw [pk_us]; rfl) (fun v c' hv => hR _ _ ⟨v, c', rfl, hv, rfl⟩)
set_option maxHeartbeats 2000000 in
theorem k_M_faultOf (l : Launch) (h : mH) (pd : Nat → Int32) (n : Nat) (hn : n ≤ 40) (gg : Int32) (m0 : h 10 0 = nI n) (hpd : ∀ i, i < n → h 28 i = pd i) : mG l Sh0 iX8_faultOf [.inr 10, .inl gg] h (fun v h' => ∃ (w : Int32) (c' : Nat → Int32), v = some w ∧ w.toInt = ff pd n gg.toInt 41 0 [] ∧ h' = hr h 33 c') := by
  intro RT hR
  show mE l Sh0 none iX8_faultOf RT 0 [some (.inr 10), some (.inl gg), none, none, none, none, none] [] h
  refine e_iconst (v := 0) dX8_faultOf_0 (by decide) ?_
  refine e_istore_n (i := 2) (ls2 := [some (.inr 10), some (.inl gg), some (.inl 0), none, none, none, none]) dX8_faultOf_1 rfl (Nat.le_of_ble_eq_true rfl) rfl ?_
  refine e_iconst (v := 0) dX8_faultOf_2 (by decide) ?_
  refine e_istore_n (i := 3) (ls2 := [some (.inr 10), some (.inl gg), some (.inl 0), some (.inl 0), none, none, none]) dX8_faultOf_3 rfl (Nat.le_of_ble_eq_true rfl) rfl ?_
  have q := lp_M_fault l h pd n hn gg m0 hpd RT 41 0 [] (h 33) none none none (by omega) (by omega) (fun z hz => by cases hz) (by decide) trivial (fun v c' hv => hR _ _ ⟨v, c', rfl, hv, rfl⟩)
  rw [hr_self] at q
  exact q
set_option maxHeartbeats 2000000 in
theorem k_D_fault0 (l : Launch) (h : mH) (pd : Nat → Int32) (n : Nat) (hn : n ≤ 40) (m0 : h 1 2 = nI n) (hpd : ∀ i, i < n → h 11 i = pd i) (x : Int32) (hx : x.toInt = 0) : mG l Sh0 iX7_fault [.inr 0, .inl x] h (fun v h' => ∃ (w : Int32) (c' : Nat → Int32), v = some w ∧ w.toInt = ff pd n 0 41 0 [] ∧ h' = hr h 12 c') := by
  have kf := k_P_firstFault l h pd n hn 0 m0 hpd
  rw [show (0 : Int32).toInt = 0 from by decide] at kf
  intro RT hR
  show mE l Sh0 none iX7_fault RT 0 [some (.inr 0), some (.inl x)] [] h
  refine e_iload_n (i := 1) dX7_fault_0 rfl rfl ?_
  refine b_if_eq (X := x.toInt) (tgt := 12) rfl dX7_fault_1 (by decide) ?_ ?_
  · intro e_1_t c_1_t
    refine e_aload_n (i := 0) dX7_fault_12 rfl rfl ?_
    refine e_getR (r := 1) dX7_fault_13 fl_X7_12 sh_0 fj_0_0 ?_
    refine e_iload_n (i := 1) dX7_fault_16 rfl rfl ?_
    refine e_iconst (v := 1) dX7_fault_17 (by decide) ?_
    refine b_icmp_ne (X := x.toInt) (Y := 1) (tgt := 25) rfl (by decide) dX7_fault_18 (by decide) ?_ ?_
    · intro e_18_t c_18_t
      refine e_iconst (v := 0) dX7_fault_25 (by decide) ?_
      refine e_invViG (As := [.inl 0]) dX7_fault_26 lk_X7_66 yv_X2_firstFault rfl rfl rfl (Nat.le_of_ble_eq_true rfl) sh_1 ci_X2 (Nat.le_of_ble_eq_true rfl) ⟨Nat.le_of_ble_eq_true rfl, Nat.le_of_ble_eq_true rfl⟩ kf ?_
      rintro w' h' ⟨w2, c', hv, hw, hh⟩
      obtain rfl := Option.some.inj hv
      refine e_iret dX7_fault_29 (mret_i _) ?_
      exact hR _ _ ⟨_, c', rfl, hw, hh⟩
    · intro e_18_f c_18_f
      exfalso; omega
  · intro e_1_f c_1_f
    exfalso; omega
set_option maxHeartbeats 2000000 in
theorem k_M_fault0 (l : Launch) (h : mH) (pd : Nat → Int32) (n : Nat) (hn : n ≤ 40) (m0 : h 10 0 = nI n) (hpd : ∀ i, i < n → h 28 i = pd i) (x : Int32) (hx : x.toInt = 0) : mG l Sh0 iX8_fault [.inr 10, .inl x] h (fun v h' => ∃ (w : Int32) (c' : Nat → Int32), v = some w ∧ w.toInt = ff pd n 0 41 0 [] ∧ h' = hr h 33 c') := by
  have kf := k_M_faultOf l h pd n hn 0 m0 hpd
  rw [show (0 : Int32).toInt = 0 from by decide] at kf
  intro RT hR
  show mE l Sh0 none iX8_fault RT 0 [some (.inr 10), some (.inl x)] [] h
  refine e_iload_n (i := 1) dX8_fault_0 rfl rfl ?_
  refine e_iconst (v := 0) dX8_fault_1 (by decide) ?_
  refine e_iconst (v := 1) dX8_fault_2 (by decide) ?_
  refine e_invSi (As := [.inl x, .inl 0, .inl 1]) (v := 1) (h2 := h) dX8_fault_3 lk_X8_85 ys_X8_in rfl rfl rfl (Nat.le_of_ble_eq_true rfl) (Nat.le_of_ble_eq_true rfl) ⟨Nat.le_of_ble_eq_true rfl, Nat.le_of_ble_eq_true rfl⟩ (k_M_in (Y := 0) (Z := 1) l h x 0 1 rfl (by decide) (by decide) (if_pos (by omega))) ?_
  refine b_if_eq (X := 1) (tgt := 26) (by decide) dX8_fault_6 (by decide) ?_ ?_
  · intro e_6_t c_6_t
    exfalso; omega
  · intro e_6_f c_6_f
    refine e_aload_n (i := 0) dX8_fault_9 rfl rfl ?_
    refine e_iload_n (i := 1) dX8_fault_10 rfl rfl ?_
    refine e_iconst (v := 1) dX8_fault_11 (by decide) ?_
    refine b_icmp_ne (X := x.toInt) (Y := 1) (tgt := 19) rfl (by decide) dX8_fault_12 (by decide) ?_ ?_
    · intro e_12_t c_12_t
      refine e_iconst (v := 0) dX8_fault_19 (by decide) ?_
      refine e_invViG (As := [.inl 0]) dX8_fault_20 lk_X8_97 yv_X8_faultOf rfl rfl rfl (Nat.le_of_ble_eq_true rfl) sh_10 ci_X8 (Nat.le_of_ble_eq_true rfl) ⟨Nat.le_of_ble_eq_true rfl, Nat.le_of_ble_eq_true rfl⟩ kf ?_
      rintro w' h' ⟨w2, c', hv, hw, hh⟩
      obtain rfl := Option.some.inj hv
      refine e_goto (tgt := 28) dX8_fault_23 (by decide) ?_
      refine e_iret dX8_fault_28 (mret_i _) ?_
      exact hR _ _ ⟨_, c', rfl, hw, hh⟩
    · intro e_12_f c_12_f
      exfalso; omega
set_option maxHeartbeats 2000000 in
theorem k_D_fault1 (l : Launch) (h : mH) (pd : Nat → Int32) (n : Nat) (hn : n ≤ 40) (m0 : h 1 2 = nI n) (hpd : ∀ i, i < n → h 11 i = pd i) (x : Int32) (hx : x.toInt = 1) : mG l Sh0 iX7_fault [.inr 0, .inl x] h (fun v h' => ∃ (w : Int32) (c' : Nat → Int32), v = some w ∧ w.toInt = ff pd n 1 41 0 [] ∧ h' = hr h 12 c') := by
  have kf := k_P_firstFault l h pd n hn 1 m0 hpd
  rw [show (1 : Int32).toInt = 1 from by decide] at kf
  intro RT hR
  show mE l Sh0 none iX7_fault RT 0 [some (.inr 0), some (.inl x)] [] h
  refine e_iload_n (i := 1) dX7_fault_0 rfl rfl ?_
  refine b_if_eq (X := x.toInt) (tgt := 12) rfl dX7_fault_1 (by decide) ?_ ?_
  · intro e_1_t c_1_t
    exfalso; omega
  · intro e_1_f c_1_f
    refine e_iload_n (i := 1) dX7_fault_4 rfl rfl ?_
    refine e_iconst (v := 1) dX7_fault_5 (by decide) ?_
    refine b_icmp_eq (X := x.toInt) (Y := 1) (tgt := 12) rfl (by decide) dX7_fault_6 (by decide) ?_ ?_
    · intro e_6_t c_6_t
      refine e_aload_n (i := 0) dX7_fault_12 rfl rfl ?_
      refine e_getR (r := 1) dX7_fault_13 fl_X7_12 sh_0 fj_0_0 ?_
      refine e_iload_n (i := 1) dX7_fault_16 rfl rfl ?_
      refine e_iconst (v := 1) dX7_fault_17 (by decide) ?_
      refine b_icmp_ne (X := x.toInt) (Y := 1) (tgt := 25) rfl (by decide) dX7_fault_18 (by decide) ?_ ?_
      · intro e_18_t c_18_t
        exfalso; omega
      · intro e_18_f c_18_f
        refine e_iconst (v := 1) dX7_fault_21 (by decide) ?_
        refine e_goto (tgt := 26) dX7_fault_22 (by decide) ?_
        refine e_invViG (As := [.inl 1]) dX7_fault_26 lk_X7_66 yv_X2_firstFault rfl rfl rfl (Nat.le_of_ble_eq_true rfl) sh_1 ci_X2 (Nat.le_of_ble_eq_true rfl) ⟨Nat.le_of_ble_eq_true rfl, Nat.le_of_ble_eq_true rfl⟩ kf ?_
        rintro w' h' ⟨w2, c', hv, hw, hh⟩
        obtain rfl := Option.some.inj hv
        refine e_iret dX7_fault_29 (mret_i _) ?_
        exact hR _ _ ⟨_, c', rfl, hw, hh⟩
    · intro e_6_f c_6_f
      exfalso; omega
set_option maxHeartbeats 2000000 in
theorem k_M_fault1 (l : Launch) (h : mH) (pd : Nat → Int32) (n : Nat) (hn : n ≤ 40) (m0 : h 10 0 = nI n) (hpd : ∀ i, i < n → h 28 i = pd i) (x : Int32) (hx : x.toInt = 1) : mG l Sh0 iX8_fault [.inr 10, .inl x] h (fun v h' => ∃ (w : Int32) (c' : Nat → Int32), v = some w ∧ w.toInt = ff pd n 1 41 0 [] ∧ h' = hr h 33 c') := by
  have kf := k_M_faultOf l h pd n hn 1 m0 hpd
  rw [show (1 : Int32).toInt = 1 from by decide] at kf
  intro RT hR
  show mE l Sh0 none iX8_fault RT 0 [some (.inr 10), some (.inl x)] [] h
  refine e_iload_n (i := 1) dX8_fault_0 rfl rfl ?_
  refine e_iconst (v := 0) dX8_fault_1 (by decide) ?_
  refine e_iconst (v := 1) dX8_fault_2 (by decide) ?_
  refine e_invSi (As := [.inl x, .inl 0, .inl 1]) (v := 1) (h2 := h) dX8_fault_3 lk_X8_85 ys_X8_in rfl rfl rfl (Nat.le_of_ble_eq_true rfl) (Nat.le_of_ble_eq_true rfl) ⟨Nat.le_of_ble_eq_true rfl, Nat.le_of_ble_eq_true rfl⟩ (k_M_in (Y := 0) (Z := 1) l h x 0 1 rfl (by decide) (by decide) (if_pos (by omega))) ?_
  refine b_if_eq (X := 1) (tgt := 26) (by decide) dX8_fault_6 (by decide) ?_ ?_
  · intro e_6_t c_6_t
    exfalso; omega
  · intro e_6_f c_6_f
    refine e_aload_n (i := 0) dX8_fault_9 rfl rfl ?_
    refine e_iload_n (i := 1) dX8_fault_10 rfl rfl ?_
    refine e_iconst (v := 1) dX8_fault_11 (by decide) ?_
    refine b_icmp_ne (X := x.toInt) (Y := 1) (tgt := 19) rfl (by decide) dX8_fault_12 (by decide) ?_ ?_
    · intro e_12_t c_12_t
      exfalso; omega
    · intro e_12_f c_12_f
      refine e_iconst (v := 1) dX8_fault_15 (by decide) ?_
      refine e_goto (tgt := 20) dX8_fault_16 (by decide) ?_
      refine e_invViG (As := [.inl 1]) dX8_fault_20 lk_X8_97 yv_X8_faultOf rfl rfl rfl (Nat.le_of_ble_eq_true rfl) sh_10 ci_X8 (Nat.le_of_ble_eq_true rfl) ⟨Nat.le_of_ble_eq_true rfl, Nat.le_of_ble_eq_true rfl⟩ kf ?_
      rintro w' h' ⟨w2, c', hv, hw, hh⟩
      obtain rfl := Option.some.inj hv
      refine e_goto (tgt := 28) dX8_fault_23 (by decide) ?_
      refine e_iret dX8_fault_28 (mret_i _) ?_
      exact hR _ _ ⟨_, c', rfl, hw, hh⟩
set_option maxHeartbeats 1000000 in
theorem k_D_faultO (l : Launch) (h : mH) (x : Int32) (h0 : x.toInt ≠ 0) (h1 : x.toInt ≠ 1) : mD l Sh0 iX7_fault [.inr 0, .inl x] h (some (-2)) h := by
  intro RT hR
  show mE l Sh0 none iX7_fault RT 0 [some (.inr 0), some (.inl x)] [] h
  refine e_iload_n (i := 1) dX7_fault_0 rfl rfl ?_
  refine b_if_eq (X := x.toInt) (tgt := 12) rfl dX7_fault_1 (by decide) ?_ ?_
  · intro e_1_t c_1_t
    exfalso; omega
  · intro e_1_f c_1_f
    refine e_iload_n (i := 1) dX7_fault_4 rfl rfl ?_
    refine e_iconst (v := 1) dX7_fault_5 (by decide) ?_
    refine b_icmp_eq (X := x.toInt) (Y := 1) (tgt := 12) rfl (by decide) dX7_fault_6 (by decide) ?_ ?_
    · intro e_6_t c_6_t
      exfalso; omega
    · intro e_6_f c_6_f
      refine e_bipush (v := (-2)) dX7_fault_9 (by decide) ?_
      refine e_iret dX7_fault_11 (mret_i _) ?_
      exact hR
set_option maxHeartbeats 1000000 in
theorem k_M_faultO (l : Launch) (h : mH) (x : Int32) (h0 : x.toInt ≠ 0) (h1 : x.toInt ≠ 1) : mD l Sh0 iX8_fault [.inr 10, .inl x] h (some (-2)) h := by
  intro RT hR
  show mE l Sh0 none iX8_fault RT 0 [some (.inr 10), some (.inl x)] [] h
  refine e_iload_n (i := 1) dX8_fault_0 rfl rfl ?_
  refine e_iconst (v := 0) dX8_fault_1 (by decide) ?_
  refine e_iconst (v := 1) dX8_fault_2 (by decide) ?_
  refine e_invSi (As := [.inl x, .inl 0, .inl 1]) (v := 0) (h2 := h) dX8_fault_3 lk_X8_85 ys_X8_in rfl rfl rfl (Nat.le_of_ble_eq_true rfl) (Nat.le_of_ble_eq_true rfl) ⟨Nat.le_of_ble_eq_true rfl, Nat.le_of_ble_eq_true rfl⟩ (k_M_in (Y := 0) (Z := 1) l h x 0 1 rfl (by decide) (by decide) (if_neg (by omega))) ?_
  refine b_if_eq (X := 0) (tgt := 26) (by decide) dX8_fault_6 (by decide) ?_ ?_
  · intro e_6_t c_6_t
    refine e_bipush (v := (-2)) dX8_fault_26 (by decide) ?_
    refine e_iret dX8_fault_28 (mret_i _) ?_
    exact hR
  · intro e_6_f c_6_f
    exfalso; omega
/-- promise 4 -/
theorem j_fault (l : Launch) (h : mH) (hI : Inv h) (x : Int32) : jP l iX7_fault iX8_fault [.inl x] h := by
  have hI0 := hI
  obtain ⟨n, pd, sg, ln, sz, r, w, c, m⟩ := hI
  have key : ∀ g : Int, mG l Sh0 iX7_fault [.inr 0, .inl x] h (fun v h' => ∃ (w : Int32) (c' : Nat → Int32), v = some w ∧ w.toInt = ff pd n g 41 0 [] ∧ h' = hr h 12 c') → (∀ h1 : mH, h1 10 0 = nI n → (∀ i, i < n → h1 28 i = pd i) → mG l Sh0 iX8_fault [.inr 10, .inl x] h1 (fun v h' => ∃ (w : Int32) (c' : Nat → Int32), v = some w ∧ w.toInt = ff pd n g 41 0 [] ∧ h' = hr h1 33 c')) → jP l iX7_fault iX8_fault [.inl x] h := by
    intro g kd km
    refine kd.weaken (fun v1 h1 q1 => ?_)
    obtain ⟨w1, c1, e1, e2, e3⟩ := q1
    refine ⟨w1, e1, ?_⟩
    rw [e3]
    refine (km (hr h 12 c1) m.1 m.2.1).weaken (fun v2 h2 q2 => ?_)
    obtain ⟨w2, c2, f1, f2, f3⟩ := q2
    refine ⟨by rw [f1, Int32.toInt_inj.mp (f2.trans e2.symm)], ?_⟩
    rw [f3]
    exact ⟨n, pd, sg, ln, sz, r, w, CS.o rfl rfl rfl rfl rfl rfl rfl c, MS.o rfl rfl rfl rfl rfl rfl rfl m⟩
  by_cases h0 : x.toInt = 0
  · exact key 0 (k_D_fault0 l h pd n w.1 c.1 c.2.1 x h0) (fun h1 a b => k_M_fault0 l h1 pd n w.1 a b x h0)
  · by_cases h1 : x.toInt = 1
    · exact key 1 (k_D_fault1 l h pd n w.1 c.1 c.2.1 x h1) (fun h2 a b => k_M_fault1 l h2 pd n w.1 a b x h1)
    · exact jP_D (k_D_faultO l h x h0 h1) (k_M_faultO l h x h0 h1) hI0
