/-! The class writes a page. -/
theorem tAll {pd : Nat → Int32} {n : Nat} {g : Int} (ok : ∀ j, j < n → tOk pd n g j) {m : Nat} (hm : m < n) : 0 ≤ aOf (pd m).toInt ∧ (∀ i, i < (aOf (pd m).toInt).toNat → pOf (lT pd n) (aFs pd m) i < n) ∧ (¬ tV pd m → aOf (pd m).toInt = 0 ∧ (pd m).toInt ≠ 64 ∧ lT pd n m = 1) ∧ m + lT pd n m ≤ n := by
  by_cases hV : tV pd m
  · obtain ⟨t1, t2, t3, t4⟩ := (ok m hm).2 hV
    exact ⟨t1, fun i hi => (t3 i hi).1, fun z => absurd hV z, t2⟩
  · have hx : 0 < m ∧ (pd (m - 1)).toInt = 64 := Classical.byContradiction (fun z => hV z)
    obtain ⟨c1, c2, c3⟩ := (ok (m - 1) (by omega)).1 hx.2
    rw [show m - 1 + 1 = m from by omega] at c2 c3
    have h0 : aOf (pd m).toInt = 0 := by unfold aOf; rw [if_pos (Or.inl (by omega))]
    have hL := lT_eq (pd := pd) hm
    have hfs : aFs pd m = m + 1 := by unfold aFs; rw [if_neg (by omega)]
    rw [h0, hfs] at hL
    have hL : m + lT pd n m = m + 1 := hL
    exact ⟨by omega, fun i hi => by rw [h0] at hi; exact absurd hi (Nat.not_lt_zero _), fun _ => ⟨h0, by omega, by omega⟩, by omega⟩
theorem aI_nI {x : Int} (h : 0 ≤ aOf x) : aI x = nI (aOf x).toNat := toInt_nI (by rw [aI_toInt]; omega)
theorem aOf_le (x : Int) : aOf x ≤ 3 := by rcases aOf_cases x with h | h | h | h | h <;> omega
theorem k_textsOfX (l : Launch) (h : mH) (x : Int32) (hx : 0 ≤ aOf x.toInt) : mD l Sh0 iX7_textsOf [.inl x] h (some (nI (aOf x.toInt).toNat)) h := by
  have q := k_textsOf l h x
  rw [aI_nI hx] at q
  exact q
set_option maxHeartbeats 1000000 in
theorem lp_B_behind (l : Launch) (h : mH) (pt : Nat → Nat) (own : Nat) (ho : own ≤ 3) (he : ∀ i, i < own → pt i < 800 ∧ h 14 (pt i) = nI (pt (i + 1))) (RT : Option Int32 → mH → Prop) (y1 : Option mV) (hR : RT (some (nI (pt own))) h) : ∀ (d i : Nat), i + d = own → mE l Sh0 none iX0_behind RT 18 [some (.inr 2), y1, some (.inl (nI (pt i))), some (.inl (nI own)), some (.inl (nI i))] [] h := by
  intro d
  induction d with
  | zero =>
    intro i hd
    refine e_iload dX0_behind_18 rfl ?_
    refine e_iload_n (i := 3) dX0_behind_20 rfl rfl ?_
    refine b_icmp_ge (X := ((i : Nat) : Int)) (Y := ((own : Nat) : Int)) (tgt := 36) (nI_toInt (by omega)) (nI_toInt (by omega)) dX0_behind_21 (by decide) ?_ ?_
    · intro c_21_t
      refine e_iload_n (i := 2) dX0_behind_36 rfl rfl ?_
      refine e_iret dX0_behind_37 (mret_i _) ?_
      have e : i = own := by omega
      subst e
      exact hR
    · intro c_21_f
      exfalso; omega
  | succ d ih =>
    intro i hd
    obtain ⟨e1, e2⟩ := he i (by omega)
    refine e_iload dX0_behind_18 rfl ?_
    refine e_iload_n (i := 3) dX0_behind_20 rfl rfl ?_
    refine b_icmp_ge (X := ((i : Nat) : Int)) (Y := ((own : Nat) : Int)) (tgt := 36) (nI_toInt (by omega)) (nI_toInt (by omega)) dX0_behind_21 (by decide) ?_ ?_
    · intro c_21_t
      exfalso; omega
    · intro c_21_f
      refine e_aload_n (i := 0) dX0_behind_24 rfl rfl ?_
      refine e_iload_n (i := 2) dX0_behind_25 rfl rfl ?_
      refine e_invVi (As := [.inl (nI (pt i))]) (v := nI (pt (i + 1))) (h2 := h) dX0_behind_26 lk_X0_47 yv_X0_after rfl rfl rfl (Nat.le_of_ble_eq_true rfl) sh_2 ci_X0 (Nat.le_of_ble_eq_true rfl) ⟨Nat.le_of_ble_eq_true rfl, Nat.le_of_ble_eq_true rfl⟩ (k_B_afterX l h (pt i) e1 e2) ?_
      refine e_istore_n (i := 2) (ls2 := [some (.inr 2), y1, some (.inl (nI (pt (i + 1)))), some (.inl (nI own)), some (.inl (nI i))]) dX0_behind_29 rfl (Nat.le_of_ble_eq_true rfl) rfl ?_
      refine e_iinc (v := nI (i + 1)) (ls2 := [some (.inr 2), y1, some (.inl (nI (pt (i + 1)))), some (.inl (nI own)), some (.inl (nI (i + 1)))]) dX0_behind_30 rfl (nI_inc1 _) (Nat.le_of_ble_eq_true rfl) rfl ?_
      refine e_goto (tgt := 18) dX0_behind_33 (by decide) ?_
      exact ih (i + 1) (by omega)
set_option maxHeartbeats 1000000 in
theorem k_B_behind (l : Launch) (h : mH) (sg : Nat → Int32) (p : Nat) (hp : p < 800) (e : h 13 p = sg p) (ha : 0 ≤ aOf (sg p).toInt) (pt : Nat → Nat) (h0 : aFs sg p = pt 0) (he : ∀ i, i < (aOf (sg p).toInt).toNat → pt i < 800 ∧ h 14 (pt i) = nI (pt (i + 1))) : mD l Sh0 iX0_behind [.inr 2, .inl (nI p)] h (some (nI (pt (aOf (sg p).toInt).toNat))) h := by
  have ho : (aOf (sg p).toInt).toNat ≤ 3 := by have := aOf_le (sg p).toInt; omega
  have kf := k_B_firstX l h sg p hp e
  rw [h0] at kf
  intro RT hR
  show mE l Sh0 none iX0_behind RT 0 [some (.inr 2), some (.inl (nI p)), none, none, none] [] h
  refine e_aload_n (i := 0) dX0_behind_0 rfl rfl ?_
  refine e_iload_n (i := 1) dX0_behind_1 rfl rfl ?_
  refine e_invVi (As := [.inl (nI p)]) (v := nI (pt 0)) (h2 := h) dX0_behind_2 lk_X0_40 yv_X0_first rfl rfl rfl (Nat.le_of_ble_eq_true rfl) sh_2 ci_X0 (Nat.le_of_ble_eq_true rfl) ⟨Nat.le_of_ble_eq_true rfl, Nat.le_of_ble_eq_true rfl⟩ kf ?_
  refine e_istore_n (i := 2) (ls2 := [some (.inr 2), some (.inl (nI p)), some (.inl (nI (pt 0))), none, none]) dX0_behind_5 rfl (Nat.le_of_ble_eq_true rfl) rfl ?_
  refine e_aload_n (i := 0) dX0_behind_6 rfl rfl ?_
  refine e_iload_n (i := 1) dX0_behind_7 rfl rfl ?_
  refine e_invVi (As := [.inl (nI p)]) (v := sg p) (h2 := h) dX0_behind_8 lk_X0_43 yv_X0_sign rfl rfl rfl (Nat.le_of_ble_eq_true rfl) sh_2 ci_X0 (Nat.le_of_ble_eq_true rfl) ⟨Nat.le_of_ble_eq_true rfl, Nat.le_of_ble_eq_true rfl⟩ (k_B_signX l h p hp e) ?_
  refine e_invSi (As := [.inl (sg p)]) (v := nI ((aOf (sg p).toInt).toNat)) (h2 := h) dX0_behind_11 lk_X0_44 ys_X7_textsOf rfl rfl rfl (Nat.le_of_ble_eq_true rfl) (Nat.le_of_ble_eq_true rfl) ⟨Nat.le_of_ble_eq_true rfl, Nat.le_of_ble_eq_true rfl⟩ (k_textsOfX l h (sg p) ha) ?_
  refine e_istore_n (i := 3) (ls2 := [some (.inr 2), some (.inl (nI p)), some (.inl (nI (pt 0))), some (.inl (nI ((aOf (sg p).toInt).toNat))), none]) dX0_behind_14 rfl (Nat.le_of_ble_eq_true rfl) rfl ?_
  refine e_iconst (v := 0) dX0_behind_15 (by decide) ?_
  refine e_istore (ls2 := [some (.inr 2), some (.inl (nI p)), some (.inl (nI (pt 0))), some (.inl (nI ((aOf (sg p).toInt).toNat))), some (.inl 0)]) dX0_behind_16 (Nat.le_of_ble_eq_true rfl) rfl ?_
  exact lp_B_behind l h pt _ ho he RT _ hR _ 0 (Nat.zero_add _)
def wH (h : mH) (f13 f14 : Nat → Int32) : mH := hr (hr h 14 f14) 13 f13
theorem wH_13 (h : mH) (f13 f14 : Nat → Int32) (j : Nat) (v : Int32) : hs (wH h f13 f14) 13 j v = wH h (upd f13 j v) f14 := hr_hs _ _ _ _ _
theorem wH_14 (h : mH) (f13 f14 : Nat → Int32) (j : Nat) (v : Int32) : hs (wH h f13 f14) 14 j v = wH h f13 (upd f14 j v) := by
  unfold wH
  rw [hr_cm _ _ _ (by decide), hr_hs, hr_cm _ _ _ (by decide)]
set_option maxHeartbeats 1000000 in
theorem lp_B_write (l : Launch) (h : mH) (pd : Nat → Int32) (n p0 : Nat) (g : Int) (hn : n ≤ 40) (hp0 : p0 < 20) (hc : h 1 2 = nI n) (hpd : ∀ i, i < n → h 11 i = pd i) (ok : ∀ j, j < n → tOk pd n g j) (g13 g14 : Nat → Int32) (RT : Option Int32 → mH → Prop) (hR : ∀ f13 f14, (∀ j, j < n → f13 (40 * p0 + j) = pd j ∧ f14 (40 * p0 + j) = nI (40 * p0 + j + lT pd n j)) → (∀ q, ¬ (q / 40 = p0 ∧ q % 40 < n) → f13 q = g13 q ∧ f14 q = g14 q) → RT none (wH h f13 f14)) : ∀ (m : Nat) (f13 f14 : Nat → Int32) (y4 : Option mV), m ≤ n → (∀ j, m ≤ j → j < n → f13 (40 * p0 + j) = pd j ∧ f14 (40 * p0 + j) = nI (40 * p0 + j + lT pd n j)) → (∀ q, ¬ (q / 40 = p0 ∧ q % 40 < n) → f13 q = g13 q ∧ f14 q = g14 q) → mE l Sh0 none iX0_write RT 33 [some (.inr 2), some (.inl (nI p0)), some (.inr 1), some (.inl (dn m)), y4] [] (wH h f13 f14) := by
  intro m
  induction m with
  | zero =>
    intro f13 f14 y4 hm hj hq
    rw [dn_0]
    refine e_iload_n (i := 3) dX0_write_33 rfl rfl ?_
    refine b_if_lt (X := (-1)) (tgt := 76) (by decide) dX0_write_34 (by decide) ?_ ?_
    · intro c_34_t
      refine e_ret dX0_write_76 rfl ?_
      exact hR f13 f14 (fun j hj2 => hj j (Nat.zero_le _) hj2) hq
    · intro c_34_f
      exfalso; omega
  | succ m ih =>
    intro f13 f14 y4 hm hj hq
    rw [dn_s]
    obtain ⟨a1, a2, a3, a4⟩ := tAll ok (show m < n by omega)
    have hL := lT_eq (pd := pd) (show m < n by omega)
    have hgt := aFs_gt pd m
    have kb : mD l Sh0 iX0_behind [.inr 2, .inl (nI (40 * p0 + m))] (wH h (upd f13 (40 * p0 + m) (pd m)) f14) (some (nI (40 * p0 + m + lT pd n m))) (wH h (upd f13 (40 * p0 + m) (pd m)) f14) := by
      have e0 : nSg p0 n pd g13 (40 * p0 + m) = pd m := nSg_at hn (by omega)
      have q := k_B_behind l (wH h (upd f13 (40 * p0 + m) (pd m)) f14) (nSg p0 n pd g13) (40 * p0 + m) (by omega) (by rw [e0]; show upd f13 (40 * p0 + m) (pd m) (40 * p0 + m) = _; exact pk_us) (by rw [e0]; exact a1) (fun i => 40 * p0 + pOf (lT pd n) (aFs pd m) i) (by unfold aFs; rw [e0]; show _ = 40 * p0 + aFs pd m; unfold aFs; split <;> omega) (fun i hi => by
        rw [e0] at hi
        have h9 := a2 i hi
        have h8 := pOf_ge (lT pd n) (aFs pd m) i
        refine ⟨by omega, ?_⟩
        show f14 (40 * p0 + pOf (lT pd n) (aFs pd m) i) = _
        rw [(hj _ (by omega) h9).2, Nat.add_assoc]
        rfl)
      rw [e0, ← hL, ← Nat.add_assoc] at q
      exact q
    refine e_iload_n (i := 3) dX0_write_33 rfl rfl ?_
    refine b_if_lt (X := ((m : Nat) : Int)) (tgt := 76) (nI_toInt (by omega)) dX0_write_34 (by decide) ?_ ?_
    · intro c_34_t
      exfalso; omega
    · intro c_34_f
      refine e_iload_n (i := 1) dX0_write_37 rfl rfl ?_
      refine e_bipush (v := 40) dX0_write_38 (by decide) ?_
      refine z_imul (z := nI (40 * p0)) (by rw [nI_mulc, Nat.mul_comm]) dX0_write_40 ?_
      refine e_iload_n (i := 3) dX0_write_41 rfl rfl ?_
      refine z_iadd (z := nI (40 * p0 + m)) (nI_add _ _) dX0_write_42 ?_
      refine e_istore (ls2 := [some (.inr 2), some (.inl (nI p0)), some (.inr 1), some (.inl (nI m)), some (.inl (nI (40 * p0 + m)))]) dX0_write_43 (Nat.le_of_ble_eq_true rfl) rfl ?_
      refine e_aload_n (i := 0) dX0_write_45 rfl rfl ?_
      refine e_getR (r := 13) dX0_write_46 fl_X0_9 sh_2 fj_2_0 ?_
      refine e_iload dX0_write_49 rfl ?_
      refine e_aload_n (i := 2) dX0_write_51 rfl rfl ?_
      refine e_iload_n (i := 3) dX0_write_52 rfl rfl ?_
      refine e_invVi (As := [.inl (nI m)]) (v := pd m) (h2 := (wH h f13 f14)) dX0_write_53 lk_X0_33 yv_X2_sign rfl rfl rfl (Nat.le_of_ble_eq_true rfl) sh_1 ci_X2 (Nat.le_of_ble_eq_true rfl) ⟨Nat.le_of_ble_eq_true rfl, Nat.le_of_ble_eq_true rfl⟩ (k_P_signX l (wH h f13 f14) m n hc (by omega) hn (hpd m (by omega))) ?_
      refine e_iast dX0_write_56 sh_13 (vin_ofX (X := ((40 * p0 + m : Nat) : Int)) (nI_toInt (by omega)) (by omega) (by omega)) ?_
      rw [nI_clamp (by omega)]
      rw [wH_13]
      refine e_aload_n (i := 0) dX0_write_57 rfl rfl ?_
      refine e_getR (r := 14) dX0_write_58 fl_X0_15 sh_2 fj_2_1 ?_
      refine e_iload dX0_write_61 rfl ?_
      refine e_aload_n (i := 0) dX0_write_63 rfl rfl ?_
      refine e_iload dX0_write_64 rfl ?_
      refine e_invVi (As := [.inl (nI (40 * p0 + m))]) (v := nI (40 * p0 + m + lT pd n m)) (h2 := (wH h (upd f13 (40 * p0 + m) (pd m)) f14)) dX0_write_66 lk_X0_37 yv_X0_behind rfl rfl rfl (Nat.le_of_ble_eq_true rfl) sh_2 ci_X0 (Nat.le_of_ble_eq_true rfl) ⟨Nat.le_of_ble_eq_true rfl, Nat.le_of_ble_eq_true rfl⟩ kb ?_
      refine e_iast dX0_write_69 sh_14 (vin_ofX (X := ((40 * p0 + m : Nat) : Int)) (nI_toInt (by omega)) (by omega) (by omega)) ?_
      rw [nI_clamp (by omega)]
      refine e_iinc (v := dn m) (ls2 := [some (.inr 2), some (.inl (nI p0)), some (.inr 1), some (.inl (dn m)), some (.inl (nI (40 * p0 + m)))]) dX0_write_70 rfl (dn_dec _) (Nat.le_of_ble_eq_true rfl) rfl ?_
      refine e_goto (tgt := 33) dX0_write_73 (by decide) ?_
      rw [wH_14]
      refine ih _ _ _ (by omega) (fun j j1 j2 => ?_) (fun q hqq => ?_)
      · by_cases ej : j = m
        · subst ej
          exact ⟨pk_us, pk_us⟩
        · rw [pk_un (by omega), pk_un (by omega)]
          exact hj j (by omega) j2
      · rw [pk_un (by intro z; apply hqq; omega), pk_un (by intro z; apply hqq; omega)]
        exact hq q hqq
set_option maxHeartbeats 1000000 in
theorem k_B_write (l : Launch) (h : mH) (pd : Nat → Int32) (n p0 : Nat) (g : Int) (hn : n ≤ 40) (hp0 : p0 < 20) (hc : h 1 2 = nI n) (hpd : ∀ i, i < n → h 11 i = pd i) (ok : ∀ j, j < n → tOk pd n g j) : mG l Sh0 iX0_write [.inr 2, .inl (nI p0), .inr 1] h (fun v h' => v = none ∧ ∃ f13 f14, h' = wH (hs h 15 p0 (nI n)) f13 f14 ∧ (∀ j, j < n → f13 (40 * p0 + j) = pd j ∧ f14 (40 * p0 + j) = nI (40 * p0 + j + lT pd n j)) ∧ (∀ q, ¬ (q / 40 = p0 ∧ q % 40 < n) → f13 q = h 13 q ∧ f14 q = h 14 q)) := by
  intro RT hR
  show mE l Sh0 none iX0_write RT 0 [some (.inr 2), some (.inl (nI p0)), some (.inr 1), none, none] [] h
  refine e_iload_n (i := 1) dX0_write_0 rfl rfl ?_
  refine b_if_lt (X := ((p0 : Nat) : Int)) (tgt := 10) (nI_toInt (by omega)) dX0_write_1 (by decide) ?_ ?_
  · intro c_1_t
    exfalso; omega
  · intro c_1_f
    refine e_iload_n (i := 1) dX0_write_4 rfl rfl ?_
    refine e_bipush (v := 20) dX0_write_5 (by decide) ?_
    refine b_icmp_lt (X := ((p0 : Nat) : Int)) (Y := 20) (tgt := 11) (nI_toInt (by omega)) (by decide) dX0_write_7 (by decide) ?_ ?_
    · intro c_7_t
      refine e_aload_n (i := 0) dX0_write_11 rfl rfl ?_
      refine e_getR (r := 15) dX0_write_12 fl_X0_18 sh_2 fj_2_2 ?_
      refine e_iload_n (i := 1) dX0_write_15 rfl rfl ?_
      refine e_aload_n (i := 2) dX0_write_16 rfl rfl ?_
      refine e_getI (x := nI n) dX0_write_17 fl_X0_21 sh_1 fj_1_2 hc ?_
      refine e_iast dX0_write_20 sh_15 (vin_ofX (X := ((p0 : Nat) : Int)) (nI_toInt (by omega)) (by omega) (by omega)) ?_
      rw [nI_clamp (by omega)]
      refine e_aload_n (i := 2) dX0_write_21 rfl rfl ?_
      refine e_getI (x := nI n) dX0_write_22 fl_X0_21 sh_1 fj_1_2 hc ?_
      refine e_bipush (v := 40) dX0_write_25 (by decide) ?_
      refine e_min dX0_write_27 lk_X0_27 mm_min.1 mm_min.2.1 mm_min.2.2 ⟨Nat.le_of_ble_eq_true rfl, Nat.le_of_ble_eq_true rfl⟩ ?_
      rw [show (if 40 < nI n then 40 else nI n : Int32) = nI n from if_neg (fun z => absurd (Int32.lt_iff_toInt_lt.mp z) (by rw [nI_toInt (by omega)]; show ¬ ((40 : Int) < _); omega))]
      refine e_iconst (v := 1) dX0_write_30 (by decide) ?_
      refine z_isub (z := dn n) rfl dX0_write_31 ?_
      refine e_istore_n (i := 3) (ls2 := [some (.inr 2), some (.inl (nI p0)), some (.inr 1), some (.inl (dn n)), none]) dX0_write_32 rfl (Nat.le_of_ble_eq_true rfl) rfl ?_
      have e0 : hs h 15 p0 (nI n) = wH (hs h 15 p0 (nI n)) (h 13) (h 14) := by
        funext a
        unfold wH
        by_cases q1 : a = 13
        · subst q1; rw [hr_at]; exact hs_rown _ _ _ (by decide)
        · rw [hr_ne _ _ q1]
          by_cases q2 : a = 14
          · subst q2; rw [hr_at]; exact hs_rown _ _ _ (by decide)
          · rw [hr_ne _ _ q2]
      rw [e0]
      exact lp_B_write l (hs h 15 p0 (nI n)) pd n p0 g hn hp0 hc hpd ok (h 13) (h 14) RT (fun f13 f14 a b => hR _ _ ⟨rfl, f13, f14, rfl, a, b⟩) n (h 13) (h 14) _ (Nat.le_refl _) (fun j j1 j2 => absurd j1 (by omega)) (fun q _ => ⟨rfl, rfl⟩)
    · intro c_7_f
      exfalso; omega
