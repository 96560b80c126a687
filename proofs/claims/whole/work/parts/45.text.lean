/-! text, clause: alike. -/
def wP (pd : Nat → Int32) (n p0 : Nat) (g13 g14 f13 f14 : Nat → Int32) : Prop := (∀ j, j < n → f13 (40 * p0 + j) = pd j ∧ f14 (40 * p0 + j) = nI (40 * p0 + j + lT pd n j)) ∧ (∀ q, ¬ (q / 40 = p0 ∧ q % 40 < n) → f13 q = g13 q ∧ f14 q = g14 q)
def kPr (pd : Nat → Int32) (n p0 : Nat) (g31 f : Nat → Int32) : Prop := (∀ j, j < n → f (40 * p0 + j) = nI (lT pd n j)) ∧ (∀ q, ¬ (q / 40 = p0 ∧ q % 40 < n) → f q = g31 q)
def bP (pd : Nat → Int32) (n p0 : Nat) (g : Int) (h : mH) (v : Option Int32) (h' : mH) : Prop := (ff pd n g 41 0 [] = -6 ∧ v = some (nI n) ∧ ∃ c' f13 f14, h' = hs (wH (hs (hr h 12 c') 15 p0 (nI n)) f13 f14) 1 2 0 ∧ wP pd n p0 (h 13) (h 14) f13 f14) ∨ (0 ≤ ff pd n g 41 0 [] ∧ v = some (-5) ∧ ∃ c', h' = hr h 12 c')
def kP (pd : Nat → Int32) (n p0 : Nat) (g : Int) (h : mH) (v : Option Int32) (h' : mH) : Prop := (ff pd n g 41 0 [] = -6 ∧ v = some (nI n) ∧ ∃ c' f, h' = hs (hr (hs (hr (hr h 33 c') 30 (nSg p0 n pd (h 30))) 29 p0 (nI n)) 31 f) 10 0 0 ∧ kPr pd n p0 (h 31) f) ∨ (0 ≤ ff pd n g 41 0 [] ∧ v = some (-5) ∧ ∃ c', h' = hr h 33 c')
theorem k_D_wipeX (l : Launch) (h : mH) {v : Int32} (e : h 1 2 = v) : mD l Sh0 iX7_wipe [.inr 0] h (some v) (hs h 1 2 0) := by
  have q := k_D_wipe l h
  rw [e] at q
  exact q
set_option maxHeartbeats 1000000 in
theorem k_D_becomes (l : Launch) (h : mH) (pd : Nat → Int32) (n p0 : Nat) (hn : n ≤ 40) (hp0 : p0 < 20) (gg : Int32) (m0 : h 1 2 = nI n) (hpd : ∀ i, i < n → h 11 i = pd i) : mG l Sh0 iX7_becomes [.inr 0, .inl (nI p0), .inl gg] h (bP pd n p0 gg.toInt h) := by
  have kf := k_P_firstFault l h pd n hn gg m0 hpd
  intro RT hR
  show mE l Sh0 none iX7_becomes RT 0 [some (.inr 0), some (.inl (nI p0)), some (.inl gg)] [] h
  refine e_aload_n (i := 0) dX7_becomes_0 rfl rfl ?_
  refine e_getR (r := 1) dX7_becomes_1 fl_X7_12 sh_0 fj_0_0 ?_
  refine e_iload_n (i := 2) dX7_becomes_4 rfl rfl ?_
  refine e_invViG (As := [.inl gg]) dX7_becomes_5 lk_X7_66 yv_X2_firstFault rfl rfl rfl (Nat.le_of_ble_eq_true rfl) sh_1 ci_X2 (Nat.le_of_ble_eq_true rfl) ⟨Nat.le_of_ble_eq_true rfl, Nat.le_of_ble_eq_true rfl⟩ kf ?_
  rintro w' h' ⟨w2, c', hv, hw, rfl⟩
  obtain rfl := Option.some.inj hv
  refine e_bipush (v := (-6)) dX7_becomes_8 (by decide) ?_
  refine b_icmp_eq (X := (w').toInt) (Y := (-6)) (tgt := 16) rfl (by decide) dX7_becomes_10 (by decide) ?_ ?_
  · intro e_10_t c_10_t
    have hff : ff pd n gg.toInt 41 0 [] = -6 := by omega
    refine e_aload_n (i := 0) dX7_becomes_16 rfl rfl ?_
    refine e_getR (r := 2) dX7_becomes_17 fl_X7_19 sh_0 fj_0_1 ?_
    refine e_iload_n (i := 1) dX7_becomes_20 rfl rfl ?_
    refine e_aload_n (i := 0) dX7_becomes_21 rfl rfl ?_
    refine e_getR (r := 1) dX7_becomes_22 fl_X7_12 sh_0 fj_0_0 ?_
    refine e_invVvG (As := [.inl (nI p0), .inr 1]) (ty := .int) dX7_becomes_25 lk_X7_135 yv_X0_write rfl rfl rfl (Nat.le_of_ble_eq_true rfl) sh_2 ci_X0 (Nat.le_of_ble_eq_true rfl) ⟨Nat.le_of_ble_eq_true rfl, Nat.le_of_ble_eq_true rfl⟩ (k_B_write l (hr h 12 c') pd n p0 gg.toInt hn hp0 m0 hpd (ff_whole hff).2.2) ?_
    rintro u ⟨-, f13, f14, rfl, q1, q2⟩
    refine e_aload_n (i := 0) dX7_becomes_28 rfl rfl ?_
    refine e_invVi (As := []) (v := nI n) (h2 := (hs (wH (hs (hr h 12 c') 15 p0 (nI n)) f13 f14) 1 2 0)) dX7_becomes_29 lk_X7_139 yv_X7_wipe rfl rfl rfl (Nat.le_of_ble_eq_true rfl) sh_0 ci_X7 (Nat.le_of_ble_eq_true rfl) ⟨Nat.le_of_ble_eq_true rfl, Nat.le_of_ble_eq_true rfl⟩ (k_D_wipeX l (wH (hs (hr h 12 c') 15 p0 (nI n)) f13 f14) m0) ?_
    refine e_iret dX7_becomes_32 (mret_i _) ?_
    exact hR _ _ (Or.inl ⟨hff, rfl, c', f13, f14, rfl, q1, q2⟩)
  · intro e_10_f c_10_f
    refine e_bipush (v := (-5)) dX7_becomes_13 (by decide) ?_
    refine e_iret dX7_becomes_15 (mret_i _) ?_
    exact hR _ _ (Or.inr ⟨by rcases ff_cases pd n gg.toInt 41 0 [] with z | z <;> omega, rfl, c', rfl⟩)
set_option maxHeartbeats 1000000 in
theorem k_D_textU (l : Launch) (h : mH) (x : Int32) (hx : ¬ (0 ≤ x.toInt ∧ x.toInt < 4)) : mD l Sh0 iX7_text [.inr 0, .inl x] h (some (-1)) h := by
  intro RT hR
  show mE l Sh0 none iX7_text RT 0 [some (.inr 0), some (.inl x)] [] h
  refine e_iload_n (i := 1) dX7_text_0 rfl rfl ?_
  refine e_invSi (As := [.inl x]) (v := 0) (h2 := h) dX7_text_1 lk_X7_70 ys_X7_isText rfl rfl rfl (Nat.le_of_ble_eq_true rfl) (Nat.le_of_ble_eq_true rfl) ⟨Nat.le_of_ble_eq_true rfl, Nat.le_of_ble_eq_true rfl⟩ (k_cTextX l h x (if_neg hx)) ?_
  refine b_if_eq (X := 0) (tgt := 16) (by decide) dX7_text_4 (by decide) ?_ ?_
  · intro e_4_t c_4_t
    refine e_iconst (v := (-1)) dX7_text_16 (by decide) ?_
    refine e_iret dX7_text_17 (mret_i _) ?_
    exact hR
  · intro e_4_f c_4_f
    exfalso; omega
set_option maxHeartbeats 1000000 in
theorem k_M_textU (l : Launch) (h : mH) (x : Int32) (hx : ¬ (0 ≤ x.toInt ∧ x.toInt < 4)) : mD l Sh0 iX8_text [.inr 10, .inl x] h (some (-1)) h := by
  intro RT hR
  show mE l Sh0 none iX8_text RT 0 [some (.inr 10), some (.inl x)] [] h
  refine e_iload_n (i := 1) dX8_text_0 rfl rfl ?_
  refine e_invSi (As := [.inl x]) (v := 0) (h2 := h) dX8_text_1 lk_X8_101 ys_X8_isFour rfl rfl rfl (Nat.le_of_ble_eq_true rfl) (Nat.le_of_ble_eq_true rfl) ⟨Nat.le_of_ble_eq_true rfl, Nat.le_of_ble_eq_true rfl⟩ (k_M_four0 l h x (by omega)) ?_
  refine b_if_ne (X := 0) (tgt := 9) (by decide) dX8_text_4 (by decide) ?_ ?_
  · intro e_4_t c_4_t
    exfalso; omega
  · intro e_4_f c_4_f
    refine e_iconst (v := (-1)) dX8_text_7 (by decide) ?_
    refine e_iret dX8_text_8 (mret_i _) ?_
    exact hR
set_option maxHeartbeats 1000000 in
theorem k_D_text1 (l : Launch) (h : mH) (pd : Nat → Int32) (n : Nat) (hn : n ≤ 40) (m0 : h 1 2 = nI n) (hpd : ∀ i, i < n → h 11 i = pd i) (p : Nat) (hp : p < 4) : mG l Sh0 iX7_text [.inr 0, .inl (nI p)] h (bP pd n p 0 h) := by
  have kb := k_D_becomes l h pd n p hn (by omega) 0 m0 hpd
  rw [show (0 : Int32).toInt = 0 from by decide] at kb
  intro RT hR
  show mE l Sh0 none iX7_text RT 0 [some (.inr 0), some (.inl (nI p))] [] h
  refine e_iload_n (i := 1) dX7_text_0 rfl rfl ?_
  refine e_invSi (As := [.inl (nI p)]) (v := 1) (h2 := h) dX7_text_1 lk_X7_70 ys_X7_isText rfl rfl rfl (Nat.le_of_ble_eq_true rfl) (Nat.le_of_ble_eq_true rfl) ⟨Nat.le_of_ble_eq_true rfl, Nat.le_of_ble_eq_true rfl⟩ (k_cTextX l h (nI p) (if_pos (by rw [nI_toInt (by omega)]; omega))) ?_
  refine b_if_eq (X := 1) (tgt := 16) (by decide) dX7_text_4 (by decide) ?_ ?_
  · intro e_4_t c_4_t
    exfalso; omega
  · intro e_4_f c_4_f
    refine e_aload_n (i := 0) dX7_text_7 rfl rfl ?_
    refine e_iload_n (i := 1) dX7_text_8 rfl rfl ?_
    refine e_iconst (v := 0) dX7_text_9 (by decide) ?_
    refine e_invViG (As := [.inl (nI p), .inl 0]) dX7_text_10 lk_X7_73 yv_X7_becomes rfl rfl rfl (Nat.le_of_ble_eq_true rfl) sh_0 ci_X7 (Nat.le_of_ble_eq_true rfl) ⟨Nat.le_of_ble_eq_true rfl, Nat.le_of_ble_eq_true rfl⟩ kb ?_
    intro w' u hb
    refine e_goto (tgt := 17) dX7_text_13 (by decide) ?_
    refine e_iret dX7_text_17 (mret_i _) ?_
    exact hR _ _ hb
set_option maxHeartbeats 1000000 in
theorem k_D_clauseA (l : Launch) (h : mH) (pd : Nat → Int32) (n : Nat) (hn : n ≤ 40) (m0 : h 1 2 = nI n) (hpd : ∀ i, i < n → h 11 i = pd i) (a b : Nat) (ha : a < 4) (hb9 : b < 3) : mG l Sh0 iX7_clause [.inr 0, .inl (nI a), .inl (nI b)] h (bP pd n (4 + 4 * a + b) 1 h) := by
  have kb := k_D_becomes l h pd n (4 + 4 * a + b) hn (by omega) 1 m0 hpd
  rw [show (1 : Int32).toInt = 1 from by decide] at kb
  intro RT hR
  show mE l Sh0 none iX7_clause RT 0 [some (.inr 0), some (.inl (nI a)), some (.inl (nI b))] [] h
  refine e_iload_n (i := 1) dX7_clause_0 rfl rfl ?_
  refine e_iload_n (i := 2) dX7_clause_1 rfl rfl ?_
  refine e_invSi (As := [.inl (nI a), .inl (nI b)]) (v := 1) (h2 := h) dX7_clause_2 lk_X7_77 ys_X7_isPart rfl rfl rfl (Nat.le_of_ble_eq_true rfl) (Nat.le_of_ble_eq_true rfl) ⟨Nat.le_of_ble_eq_true rfl, Nat.le_of_ble_eq_true rfl⟩ (k_cPartX l h (nI a) (nI b) (if_pos (by rw [nI_toInt (by omega), nI_toInt (by omega)]; omega))) ?_
  refine b_if_eq (X := 1) (tgt := 30) (by decide) dX7_clause_5 (by decide) ?_ ?_
  · intro e_5_t c_5_t
    exfalso; omega
  · intro e_5_f c_5_f
    refine e_aload_n (i := 0) dX7_clause_8 rfl rfl ?_
    refine e_iload_n (i := 1) dX7_clause_9 rfl rfl ?_
    refine e_iload_n (i := 2) dX7_clause_10 rfl rfl ?_
    refine e_invSi (As := [.inl (nI a), .inl (nI b)]) (v := nI (4 + 4 * a + b)) (h2 := h) dX7_clause_11 lk_X7_81 ys_X7_pageOf rfl rfl rfl (Nat.le_of_ble_eq_true rfl) (Nat.le_of_ble_eq_true rfl) ⟨Nat.le_of_ble_eq_true rfl, Nat.le_of_ble_eq_true rfl⟩ (k_pageOfX l h a b) ?_
    refine e_iload_n (i := 2) dX7_clause_14 rfl rfl ?_
    refine e_iconst (v := 3) dX7_clause_15 (by decide) ?_
    refine b_icmp_eq (X := ((b : Nat) : Int)) (Y := 3) (tgt := 23) (nI_toInt (by omega)) (by decide) dX7_clause_16 (by decide) ?_ ?_
    · intro e_16_t c_16_t
      exfalso; omega
    · intro e_16_f c_16_f
      refine e_iconst (v := 1) dX7_clause_19 (by decide) ?_
      refine e_goto (tgt := 24) dX7_clause_20 (by decide) ?_
      refine e_invViG (As := [.inl (nI (4 + 4 * a + b)), .inl 1]) dX7_clause_24 lk_X7_73 yv_X7_becomes rfl rfl rfl (Nat.le_of_ble_eq_true rfl) sh_0 ci_X7 (Nat.le_of_ble_eq_true rfl) ⟨Nat.le_of_ble_eq_true rfl, Nat.le_of_ble_eq_true rfl⟩ kb ?_
      intro w' u hb
      refine e_goto (tgt := 31) dX7_clause_27 (by decide) ?_
      refine e_iret dX7_clause_31 (mret_i _) ?_
      exact hR _ _ hb
set_option maxHeartbeats 1000000 in
theorem k_D_clauseB (l : Launch) (h : mH) (pd : Nat → Int32) (n : Nat) (hn : n ≤ 40) (m0 : h 1 2 = nI n) (hpd : ∀ i, i < n → h 11 i = pd i) (a b : Nat) (ha : a < 4) (hb9 : b = 3) : mG l Sh0 iX7_clause [.inr 0, .inl (nI a), .inl (nI b)] h (bP pd n (4 + 4 * a + b) 0 h) := by
  have kb := k_D_becomes l h pd n (4 + 4 * a + b) hn (by omega) 0 m0 hpd
  rw [show (0 : Int32).toInt = 0 from by decide] at kb
  intro RT hR
  show mE l Sh0 none iX7_clause RT 0 [some (.inr 0), some (.inl (nI a)), some (.inl (nI b))] [] h
  refine e_iload_n (i := 1) dX7_clause_0 rfl rfl ?_
  refine e_iload_n (i := 2) dX7_clause_1 rfl rfl ?_
  refine e_invSi (As := [.inl (nI a), .inl (nI b)]) (v := 1) (h2 := h) dX7_clause_2 lk_X7_77 ys_X7_isPart rfl rfl rfl (Nat.le_of_ble_eq_true rfl) (Nat.le_of_ble_eq_true rfl) ⟨Nat.le_of_ble_eq_true rfl, Nat.le_of_ble_eq_true rfl⟩ (k_cPartX l h (nI a) (nI b) (if_pos (by rw [nI_toInt (by omega), nI_toInt (by omega)]; omega))) ?_
  refine b_if_eq (X := 1) (tgt := 30) (by decide) dX7_clause_5 (by decide) ?_ ?_
  · intro e_5_t c_5_t
    exfalso; omega
  · intro e_5_f c_5_f
    refine e_aload_n (i := 0) dX7_clause_8 rfl rfl ?_
    refine e_iload_n (i := 1) dX7_clause_9 rfl rfl ?_
    refine e_iload_n (i := 2) dX7_clause_10 rfl rfl ?_
    refine e_invSi (As := [.inl (nI a), .inl (nI b)]) (v := nI (4 + 4 * a + b)) (h2 := h) dX7_clause_11 lk_X7_81 ys_X7_pageOf rfl rfl rfl (Nat.le_of_ble_eq_true rfl) (Nat.le_of_ble_eq_true rfl) ⟨Nat.le_of_ble_eq_true rfl, Nat.le_of_ble_eq_true rfl⟩ (k_pageOfX l h a b) ?_
    refine e_iload_n (i := 2) dX7_clause_14 rfl rfl ?_
    refine e_iconst (v := 3) dX7_clause_15 (by decide) ?_
    refine b_icmp_eq (X := ((b : Nat) : Int)) (Y := 3) (tgt := 23) (nI_toInt (by omega)) (by decide) dX7_clause_16 (by decide) ?_ ?_
    · intro e_16_t c_16_t
      refine e_iconst (v := 0) dX7_clause_23 (by decide) ?_
      refine e_invViG (As := [.inl (nI (4 + 4 * a + b)), .inl 0]) dX7_clause_24 lk_X7_73 yv_X7_becomes rfl rfl rfl (Nat.le_of_ble_eq_true rfl) sh_0 ci_X7 (Nat.le_of_ble_eq_true rfl) ⟨Nat.le_of_ble_eq_true rfl, Nat.le_of_ble_eq_true rfl⟩ kb ?_
      intro w' u hb
      refine e_goto (tgt := 31) dX7_clause_27 (by decide) ?_
      refine e_iret dX7_clause_31 (mret_i _) ?_
      exact hR _ _ hb
    · intro e_16_f c_16_f
      exfalso; omega
set_option maxHeartbeats 1000000 in
theorem k_D_clauseU (l : Launch) (h : mH) (x y : Int32) (hx : ¬ (0 ≤ x.toInt ∧ x.toInt < 4 ∧ 0 ≤ y.toInt ∧ y.toInt < 4)) : mD l Sh0 iX7_clause [.inr 0, .inl x, .inl y] h (some (-1)) h := by
  intro RT hR
  show mE l Sh0 none iX7_clause RT 0 [some (.inr 0), some (.inl x), some (.inl y)] [] h
  refine e_iload_n (i := 1) dX7_clause_0 rfl rfl ?_
  refine e_iload_n (i := 2) dX7_clause_1 rfl rfl ?_
  refine e_invSi (As := [.inl x, .inl y]) (v := 0) (h2 := h) dX7_clause_2 lk_X7_77 ys_X7_isPart rfl rfl rfl (Nat.le_of_ble_eq_true rfl) (Nat.le_of_ble_eq_true rfl) ⟨Nat.le_of_ble_eq_true rfl, Nat.le_of_ble_eq_true rfl⟩ (k_cPartX l h x y (if_neg hx)) ?_
  refine b_if_eq (X := 0) (tgt := 30) (by decide) dX7_clause_5 (by decide) ?_ ?_
  · intro e_5_t c_5_t
    refine e_iconst (v := (-1)) dX7_clause_30 (by decide) ?_
    refine e_iret dX7_clause_31 (mret_i _) ?_
    exact hR
  · intro e_5_f c_5_f
    exfalso; omega
set_option maxHeartbeats 1000000 in
theorem k_M_clauseUx (l : Launch) (h : mH) (x y : Int32) (hx : ¬ (0 ≤ x.toInt ∧ x.toInt < 4)) : mD l Sh0 iX8_clause [.inr 10, .inl x, .inl y] h (some (-1)) h := by
  intro RT hR
  show mE l Sh0 none iX8_clause RT 0 [some (.inr 10), some (.inl x), some (.inl y)] [] h
  refine e_iload_n (i := 1) dX8_clause_0 rfl rfl ?_
  refine e_invSi (As := [.inl x]) (v := 0) (h2 := h) dX8_clause_1 lk_X8_101 ys_X8_isFour rfl rfl rfl (Nat.le_of_ble_eq_true rfl) (Nat.le_of_ble_eq_true rfl) ⟨Nat.le_of_ble_eq_true rfl, Nat.le_of_ble_eq_true rfl⟩ (k_M_four0 l h x (by omega)) ?_
  refine b_if_eq (X := 0) (tgt := 14) (by decide) dX8_clause_4 (by decide) ?_ ?_
  · intro e_4_t c_4_t
    refine e_iconst (v := (-1)) dX8_clause_14 (by decide) ?_
    refine e_iret dX8_clause_15 (mret_i _) ?_
    exact hR
  · intro e_4_f c_4_f
    exfalso; omega
set_option maxHeartbeats 1000000 in
theorem k_M_clauseUy (l : Launch) (h : mH) (x y : Int32) (hx : 0 ≤ x.toInt ∧ x.toInt < 4) (hy : ¬ (0 ≤ y.toInt ∧ y.toInt < 4)) : mD l Sh0 iX8_clause [.inr 10, .inl x, .inl y] h (some (-1)) h := by
  intro RT hR
  show mE l Sh0 none iX8_clause RT 0 [some (.inr 10), some (.inl x), some (.inl y)] [] h
  refine e_iload_n (i := 1) dX8_clause_0 rfl rfl ?_
  refine e_invSi (As := [.inl x]) (v := 1) (h2 := h) dX8_clause_1 lk_X8_101 ys_X8_isFour rfl rfl rfl (Nat.le_of_ble_eq_true rfl) (Nat.le_of_ble_eq_true rfl) ⟨Nat.le_of_ble_eq_true rfl, Nat.le_of_ble_eq_true rfl⟩ (k_M_four1 l h x (by omega)) ?_
  refine b_if_eq (X := 1) (tgt := 14) (by decide) dX8_clause_4 (by decide) ?_ ?_
  · intro e_4_t c_4_t
    exfalso; omega
  · intro e_4_f c_4_f
    refine e_iload_n (i := 2) dX8_clause_7 rfl rfl ?_
    refine e_invSi (As := [.inl y]) (v := 0) (h2 := h) dX8_clause_8 lk_X8_101 ys_X8_isFour rfl rfl rfl (Nat.le_of_ble_eq_true rfl) (Nat.le_of_ble_eq_true rfl) ⟨Nat.le_of_ble_eq_true rfl, Nat.le_of_ble_eq_true rfl⟩ (k_M_four0 l h y (by omega)) ?_
    refine b_if_ne (X := 0) (tgt := 16) (by decide) dX8_clause_11 (by decide) ?_ ?_
    · intro e_11_t c_11_t
      exfalso; omega
    · intro e_11_f c_11_f
      refine e_iconst (v := (-1)) dX8_clause_14 (by decide) ?_
      refine e_iret dX8_clause_15 (mret_i _) ?_
      exact hR
set_option maxHeartbeats 1000000 in
theorem k_M_text1 (l : Launch) (h : mH) (pd : Nat → Int32) (n : Nat) (hn : n ≤ 40) (m0 : h 10 0 = nI n) (hpd : ∀ i, i < n → h 28 i = pd i) (p : Nat) (hp : p < 4) : mG l Sh0 iX8_text [.inr 10, .inl (nI p)] h (kP pd n p 0 h) := by
  have kf := k_M_faultOf l h pd n hn 0 m0 hpd
  rw [show (0 : Int32).toInt = 0 from by decide] at kf
  intro RT hR
  show mE l Sh0 none iX8_text RT 0 [some (.inr 10), some (.inl (nI p))] [] h
  refine e_iload_n (i := 1) dX8_text_0 rfl rfl ?_
  refine e_invSi (As := [.inl (nI p)]) (v := 1) (h2 := h) dX8_text_1 lk_X8_101 ys_X8_isFour rfl rfl rfl (Nat.le_of_ble_eq_true rfl) (Nat.le_of_ble_eq_true rfl) ⟨Nat.le_of_ble_eq_true rfl, Nat.le_of_ble_eq_true rfl⟩ (k_M_four1 l h (nI p) (by rw [nI_toInt (by omega)]; omega)) ?_
  refine b_if_ne (X := 1) (tgt := 9) (by decide) dX8_text_4 (by decide) ?_ ?_
  · intro e_4_t c_4_t
    refine e_aload_n (i := 0) dX8_text_9 rfl rfl ?_
    refine e_iconst (v := 0) dX8_text_10 (by decide) ?_
    refine e_invViG (As := [.inl 0]) dX8_text_11 lk_X8_97 yv_X8_faultOf rfl rfl rfl (Nat.le_of_ble_eq_true rfl) sh_10 ci_X8 (Nat.le_of_ble_eq_true rfl) ⟨Nat.le_of_ble_eq_true rfl, Nat.le_of_ble_eq_true rfl⟩ kf ?_
    rintro w' h' ⟨w2, c', hv, hw, rfl⟩
    obtain rfl := Option.some.inj hv
    refine b_if_lt (X := (w').toInt) (tgt := 22) rfl dX8_text_14 (by decide) ?_ ?_
    · intro c_14_t
      have hff : ff pd n 0 41 0 [] = -6 := by rcases ff_cases pd n 0 41 0 [] with z | z <;> omega
      refine e_aload_n (i := 0) dX8_text_22 rfl rfl ?_
      refine e_iload_n (i := 1) dX8_text_23 rfl rfl ?_
      refine e_invViG (As := [.inl (nI p)]) dX8_text_24 lk_X8_105 yv_X8_keep rfl rfl rfl (Nat.le_of_ble_eq_true rfl) sh_10 ci_X8 (Nat.le_of_ble_eq_true rfl) ⟨Nat.le_of_ble_eq_true rfl, Nat.le_of_ble_eq_true rfl⟩ (k_M_keep l (hr h 33 c') pd n (p) 0 hn (by omega) m0 hpd (ff_whole hff).2.2) ?_
      rintro w3 u ⟨hv3, f, rfl, q1, q2⟩
      obtain rfl := Option.some.inj hv3
      refine e_iret dX8_text_27 (mret_i _) ?_
      exact hR _ _ (Or.inl ⟨hff, rfl, c', f, rfl, q1, q2⟩)
    · intro c_14_f
      refine e_bipush (v := (-5)) dX8_text_17 (by decide) ?_
      refine e_goto (tgt := 27) dX8_text_19 (by decide) ?_
      refine e_iret dX8_text_27 (mret_i _) ?_
      exact hR _ _ (Or.inr ⟨by omega, rfl, c', rfl⟩)
  · intro e_4_f c_4_f
    exfalso; omega
set_option maxHeartbeats 1000000 in
theorem k_M_clauseA (l : Launch) (h : mH) (pd : Nat → Int32) (n : Nat) (hn : n ≤ 40) (m0 : h 10 0 = nI n) (hpd : ∀ i, i < n → h 28 i = pd i) (a b : Nat) (ha : a < 4) (hb9 : b < 3) : mG l Sh0 iX8_clause [.inr 10, .inl (nI a), .inl (nI b)] h (kP pd n (4 + 4 * a + b) 1 h) := by
  have kf := k_M_faultOf l h pd n hn 1 m0 hpd
  rw [show (1 : Int32).toInt = 1 from by decide] at kf
  intro RT hR
  show mE l Sh0 none iX8_clause RT 0 [some (.inr 10), some (.inl (nI a)), some (.inl (nI b))] [] h
  refine e_iload_n (i := 1) dX8_clause_0 rfl rfl ?_
  refine e_invSi (As := [.inl (nI a)]) (v := 1) (h2 := h) dX8_clause_1 lk_X8_101 ys_X8_isFour rfl rfl rfl (Nat.le_of_ble_eq_true rfl) (Nat.le_of_ble_eq_true rfl) ⟨Nat.le_of_ble_eq_true rfl, Nat.le_of_ble_eq_true rfl⟩ (k_M_four1 l h (nI a) (by rw [nI_toInt (by omega)]; omega)) ?_
  refine b_if_eq (X := 1) (tgt := 14) (by decide) dX8_clause_4 (by decide) ?_ ?_
  · intro e_4_t c_4_t
    exfalso; omega
  · intro e_4_f c_4_f
    refine e_iload_n (i := 2) dX8_clause_7 rfl rfl ?_
    refine e_invSi (As := [.inl (nI b)]) (v := 1) (h2 := h) dX8_clause_8 lk_X8_101 ys_X8_isFour rfl rfl rfl (Nat.le_of_ble_eq_true rfl) (Nat.le_of_ble_eq_true rfl) ⟨Nat.le_of_ble_eq_true rfl, Nat.le_of_ble_eq_true rfl⟩ (k_M_four1 l h (nI b) (by rw [nI_toInt (by omega)]; omega)) ?_
    refine b_if_ne (X := 1) (tgt := 16) (by decide) dX8_clause_11 (by decide) ?_ ?_
    · intro e_11_t c_11_t
      refine e_aload_n (i := 0) dX8_clause_16 rfl rfl ?_
      refine e_iload_n (i := 2) dX8_clause_17 rfl rfl ?_
      refine e_iconst (v := 3) dX8_clause_18 (by decide) ?_
      refine b_icmp_ge (X := ((b : Nat) : Int)) (Y := 3) (tgt := 26) (nI_toInt (by omega)) (by decide) dX8_clause_19 (by decide) ?_ ?_
      · intro c_19_t
        exfalso; omega
      · intro c_19_f
        refine e_iconst (v := 1) dX8_clause_22 (by decide) ?_
        refine e_goto (tgt := 27) dX8_clause_23 (by decide) ?_
        refine e_invViG (As := [.inl 1]) dX8_clause_27 lk_X8_97 yv_X8_faultOf rfl rfl rfl (Nat.le_of_ble_eq_true rfl) sh_10 ci_X8 (Nat.le_of_ble_eq_true rfl) ⟨Nat.le_of_ble_eq_true rfl, Nat.le_of_ble_eq_true rfl⟩ kf ?_
        rintro w' h' ⟨w2, c', hv, hw, rfl⟩
        obtain rfl := Option.some.inj hv
        refine b_if_lt (X := (w').toInt) (tgt := 38) rfl dX8_clause_30 (by decide) ?_ ?_
        · intro c_30_t
          have hff : ff pd n 1 41 0 [] = -6 := by rcases ff_cases pd n 1 41 0 [] with z | z <;> omega
          refine e_aload_n (i := 0) dX8_clause_38 rfl rfl ?_
          refine e_iload_n (i := 1) dX8_clause_39 rfl rfl ?_
          refine e_iload_n (i := 2) dX8_clause_40 rfl rfl ?_
          refine e_invSi (As := [.inl (nI a), .inl (nI b)]) (v := nI (4 + 4 * a + b)) (h2 := (hr h 33 c')) dX8_clause_41 lk_X8_109 ys_X8_clauseOf rfl rfl rfl (Nat.le_of_ble_eq_true rfl) (Nat.le_of_ble_eq_true rfl) ⟨Nat.le_of_ble_eq_true rfl, Nat.le_of_ble_eq_true rfl⟩ (k_M_clauseOf l (hr h 33 c') a b) ?_
          refine e_invViG (As := [.inl (nI (4 + 4 * a + b))]) dX8_clause_44 lk_X8_105 yv_X8_keep rfl rfl rfl (Nat.le_of_ble_eq_true rfl) sh_10 ci_X8 (Nat.le_of_ble_eq_true rfl) ⟨Nat.le_of_ble_eq_true rfl, Nat.le_of_ble_eq_true rfl⟩ (k_M_keep l (hr h 33 c') pd n (4 + 4 * a + b) 1 hn (by omega) m0 hpd (ff_whole hff).2.2) ?_
          rintro w3 u ⟨hv3, f, rfl, q1, q2⟩
          obtain rfl := Option.some.inj hv3
          refine e_iret dX8_clause_47 (mret_i _) ?_
          exact hR _ _ (Or.inl ⟨hff, rfl, c', f, rfl, q1, q2⟩)
        · intro c_30_f
          refine e_bipush (v := (-5)) dX8_clause_33 (by decide) ?_
          refine e_goto (tgt := 47) dX8_clause_35 (by decide) ?_
          refine e_iret dX8_clause_47 (mret_i _) ?_
          exact hR _ _ (Or.inr ⟨by omega, rfl, c', rfl⟩)
    · intro e_11_f c_11_f
      exfalso; omega
set_option maxHeartbeats 1000000 in
theorem k_M_clauseB (l : Launch) (h : mH) (pd : Nat → Int32) (n : Nat) (hn : n ≤ 40) (m0 : h 10 0 = nI n) (hpd : ∀ i, i < n → h 28 i = pd i) (a b : Nat) (ha : a < 4) (hb9 : b = 3) : mG l Sh0 iX8_clause [.inr 10, .inl (nI a), .inl (nI b)] h (kP pd n (4 + 4 * a + b) 0 h) := by
  have kf := k_M_faultOf l h pd n hn 0 m0 hpd
  rw [show (0 : Int32).toInt = 0 from by decide] at kf
  intro RT hR
  show mE l Sh0 none iX8_clause RT 0 [some (.inr 10), some (.inl (nI a)), some (.inl (nI b))] [] h
  refine e_iload_n (i := 1) dX8_clause_0 rfl rfl ?_
  refine e_invSi (As := [.inl (nI a)]) (v := 1) (h2 := h) dX8_clause_1 lk_X8_101 ys_X8_isFour rfl rfl rfl (Nat.le_of_ble_eq_true rfl) (Nat.le_of_ble_eq_true rfl) ⟨Nat.le_of_ble_eq_true rfl, Nat.le_of_ble_eq_true rfl⟩ (k_M_four1 l h (nI a) (by rw [nI_toInt (by omega)]; omega)) ?_
  refine b_if_eq (X := 1) (tgt := 14) (by decide) dX8_clause_4 (by decide) ?_ ?_
  · intro e_4_t c_4_t
    exfalso; omega
  · intro e_4_f c_4_f
    refine e_iload_n (i := 2) dX8_clause_7 rfl rfl ?_
    refine e_invSi (As := [.inl (nI b)]) (v := 1) (h2 := h) dX8_clause_8 lk_X8_101 ys_X8_isFour rfl rfl rfl (Nat.le_of_ble_eq_true rfl) (Nat.le_of_ble_eq_true rfl) ⟨Nat.le_of_ble_eq_true rfl, Nat.le_of_ble_eq_true rfl⟩ (k_M_four1 l h (nI b) (by rw [nI_toInt (by omega)]; omega)) ?_
    refine b_if_ne (X := 1) (tgt := 16) (by decide) dX8_clause_11 (by decide) ?_ ?_
    · intro e_11_t c_11_t
      refine e_aload_n (i := 0) dX8_clause_16 rfl rfl ?_
      refine e_iload_n (i := 2) dX8_clause_17 rfl rfl ?_
      refine e_iconst (v := 3) dX8_clause_18 (by decide) ?_
      refine b_icmp_ge (X := ((b : Nat) : Int)) (Y := 3) (tgt := 26) (nI_toInt (by omega)) (by decide) dX8_clause_19 (by decide) ?_ ?_
      · intro c_19_t
        refine e_iconst (v := 0) dX8_clause_26 (by decide) ?_
        refine e_invViG (As := [.inl 0]) dX8_clause_27 lk_X8_97 yv_X8_faultOf rfl rfl rfl (Nat.le_of_ble_eq_true rfl) sh_10 ci_X8 (Nat.le_of_ble_eq_true rfl) ⟨Nat.le_of_ble_eq_true rfl, Nat.le_of_ble_eq_true rfl⟩ kf ?_
        rintro w' h' ⟨w2, c', hv, hw, rfl⟩
        obtain rfl := Option.some.inj hv
        refine b_if_lt (X := (w').toInt) (tgt := 38) rfl dX8_clause_30 (by decide) ?_ ?_
        · intro c_30_t
          have hff : ff pd n 0 41 0 [] = -6 := by rcases ff_cases pd n 0 41 0 [] with z | z <;> omega
          refine e_aload_n (i := 0) dX8_clause_38 rfl rfl ?_
          refine e_iload_n (i := 1) dX8_clause_39 rfl rfl ?_
          refine e_iload_n (i := 2) dX8_clause_40 rfl rfl ?_
          refine e_invSi (As := [.inl (nI a), .inl (nI b)]) (v := nI (4 + 4 * a + b)) (h2 := (hr h 33 c')) dX8_clause_41 lk_X8_109 ys_X8_clauseOf rfl rfl rfl (Nat.le_of_ble_eq_true rfl) (Nat.le_of_ble_eq_true rfl) ⟨Nat.le_of_ble_eq_true rfl, Nat.le_of_ble_eq_true rfl⟩ (k_M_clauseOf l (hr h 33 c') a b) ?_
          refine e_invViG (As := [.inl (nI (4 + 4 * a + b))]) dX8_clause_44 lk_X8_105 yv_X8_keep rfl rfl rfl (Nat.le_of_ble_eq_true rfl) sh_10 ci_X8 (Nat.le_of_ble_eq_true rfl) ⟨Nat.le_of_ble_eq_true rfl, Nat.le_of_ble_eq_true rfl⟩ (k_M_keep l (hr h 33 c') pd n (4 + 4 * a + b) 0 hn (by omega) m0 hpd (ff_whole hff).2.2) ?_
          rintro w3 u ⟨hv3, f, rfl, q1, q2⟩
          obtain rfl := Option.some.inj hv3
          refine e_iret dX8_clause_47 (mret_i _) ?_
          exact hR _ _ (Or.inl ⟨hff, rfl, c', f, rfl, q1, q2⟩)
        · intro c_30_f
          refine e_bipush (v := (-5)) dX8_clause_33 (by decide) ?_
          refine e_goto (tgt := 47) dX8_clause_35 (by decide) ?_
          refine e_iret dX8_clause_47 (mret_i _) ?_
          exact hR _ _ (Or.inr ⟨by omega, rfl, c', rfl⟩)
      · intro c_19_f
        exfalso; omega
    · intro e_11_f c_11_f
      exfalso; omega
theorem Inv_new {n : Nat} {pd sg : Nat → Int32} {ln sz : Nat → Nat} {r : List Nat} {h h1 h2 : mH} {p0 : Nat} {g : Int} {c1 c2 f13 f14 f31 : Nat → Int32} (hp0 : p0 < 20) (hg : g ≠ 0 → 4 ≤ p0 ∧ p0 % 4 ≠ 3) (hff : ff pd n g 41 0 [] = -6) (w : WS n pd sg ln sz r) (c : CS n pd sg ln sz r h) (m : MS n pd sg ln sz r h) (e1 : h1 = hs (wH (hs (hr h 12 c1) 15 p0 (nI n)) f13 f14) 1 2 0) (q1 : wP pd n p0 (h 13) (h 14) f13 f14) (e2 : h2 = hs (hr (hs (hr (hr h1 33 c2) 30 (nSg p0 n pd (h1 30))) 29 p0 (nI n)) 31 f31) 10 0 0) (q2 : kPr pd n p0 (h1 31) f31) : Inv h2 := by
  obtain ⟨w1, w2, w3, w4, w5, w6⟩ := w
  obtain ⟨k1, k2, ⟨k3, k4, k5⟩, k6, k7, k8⟩ := c
  obtain ⟨m1, m2, ⟨m3, m4, m5⟩, m6, m7⟩ := m
  obtain ⟨z1, z2, z3⟩ := ff_whole hff
  have hB := aWB_new w3 w1 hp0 z3 hg
  have e31 : h1 31 = h 31 := by rw [e1]; rfl
  have e30 : h1 30 = h 30 := by rw [e1]; rfl
  rw [e31] at q2
  rw [e30] at e2
  have cb : CB (nSg p0 n pd sg) (nLn p0 n pd ln) (nSz p0 n sz) h2 := by
    have a13 : h2 13 = f13 := by rw [e2, e1]; rfl
    have a14 : h2 14 = f14 := by rw [e2, e1]; rfl
    have a15 : h2 15 = upd (h 15) p0 (nI n) := by rw [e2, e1]; exact hs_row (hr h 12 c1) 15 p0 (nI n)
    refine ⟨fun pl hp => ?_, fun p hp => ?_, fun pl hV => ?_⟩
    · rw [a13]
      by_cases z : pl / 40 = p0 ∧ pl % 40 < n
      · have e : pl = 40 * p0 + pl % 40 := by omega
        rw [e, nSg_at w1 z.2]
        exact (q1.1 _ z.2).1
      · rw [(q1.2 pl z).1, k3 pl hp]
        unfold nSg
        rw [if_neg z]
    · rw [a15]
      unfold nSz
      by_cases z : p = p0
      · subst z; rw [pk_us, if_pos rfl]
      · rw [pk_un z, if_neg z]; exact k4 p hp
    · rw [a14]
      by_cases z : pl / 40 = p0
      · obtain ⟨j, hj, rfl⟩ := nV_k z hV
        rw [(q1.1 j hj).2, nLn_at (by omega)]
      · rw [(q1.2 pl (fun y => z y.1)).2, nLn_ne z]
        exact k5 pl ((nV_ne z).mp hV)
  have mb : MB (nSg p0 n pd sg) (nLn p0 n pd ln) (nSz p0 n sz) h2 := by
    have a30 : h2 30 = nSg p0 n pd (h 30) := by rw [e2]; rfl
    have a31 : h2 31 = f31 := by rw [e2]; rfl
    have a29 : h2 29 = upd (h 29) p0 (nI n) := by
      rw [e2, e1]
      exact hs_row (hr (hr (hs (wH (hs (hr h 12 c1) 15 p0 (nI n)) f13 f14) 1 2 0) 33 c2) 30 (nSg p0 n pd (h 30))) 29 p0 (nI n)
    refine ⟨fun pl hp => ?_, fun p hp => ?_, fun pl hV => ?_⟩
    · rw [a30]
      by_cases z : pl / 40 = p0 ∧ pl % 40 < n
      · have e : pl = 40 * p0 + pl % 40 := by omega
        rw [e, nSg_at w1 z.2, nSg_at w1 z.2]
      · unfold nSg
        rw [if_neg z, if_neg z]
        exact m3 pl hp
    · rw [a29]
      unfold nSz
      by_cases z : p = p0
      · subst z; rw [pk_us, if_pos rfl]
      · rw [pk_un z, if_neg z]; exact m4 p hp
    · rw [a31]
      by_cases z : pl / 40 = p0
      · obtain ⟨j, hj, rfl⟩ := nV_k z hV
        rw [q2.1 j hj, nLn_at (by omega)]
      · rw [q2.2 pl (fun y => z y.1), nLn_ne z]
        exact m5 pl ((nV_ne z).mp hV)
  refine ⟨0, pd, nSg p0 n pd sg, nLn p0 n pd ln, nSz p0 n sz, r, ⟨by omega, fun i hi => absurd hi (Nat.not_lt_zero _), hB, fun p hp => ?_, w5, w6⟩, ⟨?_, fun i hi => absurd hi (Nat.not_lt_zero _), cb, ?_, k7, fun i hi => ?_⟩, ?_, fun i hi => absurd hi (Nat.not_lt_zero _), mb, ?_, fun i hi => ?_⟩
  · unfold nSz
    split
    · exact z1
    · exact w4 p hp
  · rw [e2, e1]; rfl
  · rw [e2, e1]; exact k6
  · rw [e2, e1]; exact k8 i hi
  · rw [e2]; rfl
  · rw [e2, e1]; exact m6
  · rw [e2, e1]; exact m7 i hi
theorem jP_new {l : Launch} {J1 J2 : mI} {As : List mV} {h : mH} {n : Nat} {pd sg : Nat → Int32} {ln sz : Nat → Nat} {r : List Nat} {p0 : Nat} {g : Int} (hp0 : p0 < 20) (hg : g ≠ 0 → 4 ≤ p0 ∧ p0 % 4 ≠ 3) (w : WS n pd sg ln sz r) (c : CS n pd sg ln sz r h) (m : MS n pd sg ln sz r h) (kd : mG l Sh0 J1 (.inr 0 :: As) h (bP pd n p0 g h)) (km : ∀ h1 : mH, h1 10 0 = nI n → (∀ i, i < n → h1 28 i = pd i) → mG l Sh0 J2 (.inr 10 :: As) h1 (kP pd n p0 g h1)) : jP l J1 J2 As h := by
  refine kd.weaken (fun v1 h1 q => ?_)
  rcases q with ⟨a1, a2, c1, f13, f14, a3, a4⟩ | ⟨a1, a2, c1, a3⟩
  · refine ⟨nI n, a2, (km h1 (by rw [a3]; exact m.1) (fun i hi => by rw [a3]; exact m.2.1 i hi)).weaken (fun v2 h2 q2 => ?_)⟩
    rcases q2 with ⟨b1, b2, c2, f, b3, b4⟩ | ⟨b1, b2, c2, b3⟩
    · exact ⟨b2, Inv_new hp0 hg a1 w c m a3 a4 b3 b4⟩
    · omega
  · refine ⟨-5, a2, (km h1 (by rw [a3]; exact m.1) (fun i hi => by rw [a3]; exact m.2.1 i hi)).weaken (fun v2 h2 q2 => ?_)⟩
    rcases q2 with ⟨b1, b2, c2, f, b3, b4⟩ | ⟨b1, b2, c2, b3⟩
    · omega
    · refine ⟨b2, ?_⟩
      rw [b3, a3]
      exact ⟨n, pd, sg, ln, sz, r, w, CS.o rfl rfl rfl rfl rfl rfl rfl c, MS.o rfl rfl rfl rfl rfl rfl rfl m⟩
/-- promise 5 -/
theorem j_text (l : Launch) (h : mH) (hI : Inv h) (x : Int32) : jP l iX7_text iX8_text [.inl x] h := by
  have hI0 := hI
  obtain ⟨n, pd, sg, ln, sz, r, w, c, m⟩ := hI
  by_cases hx : 0 ≤ x.toInt ∧ x.toInt < 4
  · have kd := k_D_text1 l h pd n w.1 c.1 c.2.1 x.toInt.toNat (by omega)
    rw [← nI_ofInt hx.1] at kd
    refine jP_new (by omega) (fun z => absurd rfl z) w c m kd (fun h1 a b => ?_)
    have km := k_M_text1 l h1 pd n w.1 a b x.toInt.toNat (by omega)
    rw [← nI_ofInt hx.1] at km
    exact km
  · exact jP_D (k_D_textU l h x hx) (k_M_textU l h x hx) hI0
/-- promise 6 -/
theorem j_clause (l : Launch) (h : mH) (hI : Inv h) (x y : Int32) : jP l iX7_clause iX8_clause [.inl x, .inl y] h := by
  have hI0 := hI
  obtain ⟨n, pd, sg, ln, sz, r, w, c, m⟩ := hI
  by_cases hx : 0 ≤ x.toInt ∧ x.toInt < 4
  · by_cases hy : 0 ≤ y.toInt ∧ y.toInt < 4
    · by_cases h3 : y.toInt < 3
      · have kd := k_D_clauseA l h pd n w.1 c.1 c.2.1 x.toInt.toNat y.toInt.toNat (by omega) (by omega)
        rw [← nI_ofInt hx.1, ← nI_ofInt hy.1] at kd
        refine jP_new (by omega) (fun z => by omega) w c m kd (fun h1 a b => ?_)
        have km := k_M_clauseA l h1 pd n w.1 a b x.toInt.toNat y.toInt.toNat (by omega) (by omega)
        rw [← nI_ofInt hx.1, ← nI_ofInt hy.1] at km
        exact km
      · have kd := k_D_clauseB l h pd n w.1 c.1 c.2.1 x.toInt.toNat y.toInt.toNat (by omega) (by omega)
        rw [← nI_ofInt hx.1, ← nI_ofInt hy.1] at kd
        refine jP_new (by omega) (fun z => absurd rfl z) w c m kd (fun h1 a b => ?_)
        have km := k_M_clauseB l h1 pd n w.1 a b x.toInt.toNat y.toInt.toNat (by omega) (by omega)
        rw [← nI_ofInt hx.1, ← nI_ofInt hy.1] at km
        exact km
    · exact jP_D (k_D_clauseU l h x y (fun z => hy z.2.2)) (k_M_clauseUy l h x y hx hy) hI0
  · exact jP_D (k_D_clauseU l h x y (fun z => hx ⟨z.1, z.2.1⟩)) (k_M_clauseUx l h x y hx) hI0
