/-! all, row: alike. -/
theorem smod10 : ∀ w : Fin 10, ((nI w.val &&& 31).toBitVec.smod 32).toNat = w.val := by decide
theorem bit10 {a w : Nat} (ha : a < 1024) (hw9 : w ≤ 9) : (nI a >>> (nI w &&& 31)) &&& 1 = nI (a / 2 ^ w % 2) := by
  rw [pk_shrN (by omega) _ w (smod10 ⟨w, by omega⟩), pk_andN (Nat.lt_of_le_of_lt (Nat.div_le_self _ _) (by omega)) 1 (by decide)]
theorem bit_tb {a w : Nat} : a / 2 ^ w % 2 = 1 ↔ a.testBit w = true := by
  rw [Nat.testBit_eq_decide_div_mod_eq, decide_eq_true_eq]
theorem tell_row {E U : Nat → Nat} {w c n k : Nat} {u : mH} (hn : n ≤ 4) (fo : FO E U w c n k u) {q : Nat × Nat} (hq : rS E U w k = some q) (i : Int32) : rTell u 5 18 i = rAns c n (rS E U w k) i := by
  obtain ⟨q1, q2, q3⟩ := fo q hq
  rw [hq]
  show _ = (if i.toInt = -1 then nI q.1 else if 0 ≤ i.toInt ∧ i.toInt < q.1 then nI ((dg (c + 1) n q.2).getD i.toInt.toNat 0) else -6)
  unfold rTell
  rw [q1, nI_toInt (by omega)]
  by_cases h1 : i.toInt = -1
  · rw [if_pos h1, if_pos h1]
  · rw [if_neg h1, if_neg h1]
    by_cases h2 : 0 ≤ i.toInt ∧ i.toInt < q.1
    · rw [if_pos h2, if_pos h2]
      unfold rVal
      rw [q1, nI_toInt (by omega), if_pos (by omega)]
      exact q3 _ (by omega)
    · rw [if_neg h2, if_neg h2]
set_option maxHeartbeats 1000000 in
theorem k_D_all1 (l : Launch) {sg : Nat → Int32} {ln sz : Nat → Nat} (hB : aWB sg ln sz) (h : mH) (hC : CB sg ln sz h) (p x c n : Nat) (hp : p < 4) (hz : 0 < sz p) (hx : x < 8) (hc : c ≤ 2) (hn : n ≤ 4) (E U : Nat → Nat) (hE : ∀ k, E k = (rnC sg ln sz p x (c + 1) n k).1.toNat) (hU : ∀ k, U k = eU (rnC sg ln sz p x (c + 1) n k)) : mG l Sh0 iX7_all [.inr 0, .inl (nI p), .inl (nI x), .inl (nI n), .inl (nI c)] h (fun v h' => v = some (nI (eA E ((c + 1) ^ n))) ∧ KQ h h') := by
  intro RT hR
  show mE l Sh0 none iX7_all RT 0 [some (.inr 0), some (.inl (nI p)), some (.inl (nI x)), some (.inl (nI n)), some (.inl (nI c))] [] h
  refine e_iload_n (i := 1) dX7_all_0 rfl rfl ?_
  refine e_invSi (As := [.inl (nI p)]) (v := 1) (h2 := h) dX7_all_1 lk_X7_70 ys_X7_isText rfl rfl rfl (Nat.le_of_ble_eq_true rfl) (Nat.le_of_ble_eq_true rfl) ⟨Nat.le_of_ble_eq_true rfl, Nat.le_of_ble_eq_true rfl⟩ (k_cTextX l h (nI p) (if_pos (by rw [nI_toInt (by omega)]; omega))) ?_
  refine b_if_ne (X := 1) (tgt := 9) (by decide) dX7_all_4 (by decide) ?_ ?_
  · intro e_4_t c_4_t
    refine e_iload_n (i := 2) dX7_all_9 rfl rfl ?_
    refine e_invSi (As := [.inl (nI x)]) (v := 1) (h2 := h) dX7_all_10 lk_X7_94 ys_X7_isNumber rfl rfl rfl (Nat.le_of_ble_eq_true rfl) (Nat.le_of_ble_eq_true rfl) ⟨Nat.le_of_ble_eq_true rfl, Nat.le_of_ble_eq_true rfl⟩ (k_cNumX l h (nI x) (if_pos (by rw [nI_toInt (by omega)]; omega))) ?_
    refine b_if_eq (X := 1) (tgt := 25) (by decide) dX7_all_13 (by decide) ?_ ?_
    · intro e_13_t c_13_t
      exfalso; omega
    · intro e_13_f c_13_f
      refine e_iload_n (i := 3) dX7_all_16 rfl rfl ?_
      refine e_iload dX7_all_17 rfl ?_
      refine e_invSi (As := [.inl (nI n), .inl (nI c)]) (v := 1) (h2 := h) dX7_all_19 lk_X7_123 ys_X7_areRows rfl rfl rfl (Nat.le_of_ble_eq_true rfl) (Nat.le_of_ble_eq_true rfl) ⟨Nat.le_of_ble_eq_true rfl, Nat.le_of_ble_eq_true rfl⟩ (k_cRowsX l h (nI n) (nI c) (if_pos (by rw [nI_toInt (by omega), nI_toInt (by omega)]; omega))) ?_
      refine b_if_ne (X := 1) (tgt := 28) (by decide) dX7_all_22 (by decide) ?_ ?_
      · intro e_22_t c_22_t
        refine e_aload_n (i := 0) dX7_all_28 rfl rfl ?_
        refine e_iload_n (i := 1) dX7_all_29 rfl rfl ?_
        refine e_iload_n (i := 2) dX7_all_30 rfl rfl ?_
        refine e_iload_n (i := 3) dX7_all_31 rfl rfl ?_
        refine e_iload dX7_all_32 rfl ?_
        refine e_iconst (v := (-1)) dX7_all_34 (by decide) ?_
        refine e_invViG (As := [.inl (nI p), .inl (nI x), .inl (nI n), .inl (nI c), .inl (-1)]) dX7_all_35 lk_X7_126 yv_X7_goThrough rfl rfl rfl (Nat.le_of_ble_eq_true rfl) sh_0 ci_X7 (Nat.le_of_ble_eq_true rfl) ⟨Nat.le_of_ble_eq_true rfl, Nat.le_of_ble_eq_true rfl⟩ (k_D_go l hB h hC p x c n 100 hp hz hx hc hn (-1) (fun e he => by rw [show (-1 : Int32).toInt = -1 from by decide]; omega) E U hE hU) ?_
        intro w' u q
        refine e_iret dX7_all_38 (mret_i _) ?_
        exact hR _ _ ⟨q.1, q.2.1⟩
      · intro e_22_f c_22_f
        exfalso; omega
  · intro e_4_f c_4_f
    exfalso; omega
set_option maxHeartbeats 1000000 in
theorem k_D_row1 (l : Launch) {sg : Nat → Int32} {ln sz : Nat → Nat} (hB : aWB sg ln sz) (h : mH) (hC : CB sg ln sz h) (p x c n : Nat) (hp : p < 4) (hz : 0 < sz p) (hx : x < 8) (hc : c ≤ 2) (hn : n ≤ 4) (w : Nat) (hw9 : w ≤ 9) (i : Int32) (E U : Nat → Nat) (hE : ∀ k, E k = (rnC sg ln sz p x (c + 1) n k).1.toNat) (hU : ∀ k, U k = eU (rnC sg ln sz p x (c + 1) n k)) : mG l Sh0 iX7_row [.inr 0, .inl (nI p), .inl (nI x), .inl (nI n), .inl (nI c), .inl (nI w), .inl i] h (fun v h' => v = some (rAns c n (rS E U w ((c + 1) ^ n)) i) ∧ KQ h h') := by
  have hE9 : ∀ k, E k ≤ 9 := fun k => by
    have h9 := rnR_ok hB hp hz hx (dg8 (n := n) (code := k) hc)
    rw [hE]
    have h8 : (rnC sg ln sz p x (c + 1) n k).1 ≤ 9 := h9.2.1
    omega
  intro RT hR
  show mE l Sh0 none iX7_row RT 0 [some (.inr 0), some (.inl (nI p)), some (.inl (nI x)), some (.inl (nI n)), some (.inl (nI c)), some (.inl (nI w)), some (.inl i), none] [] h
  refine e_iload_n (i := 1) dX7_row_0 rfl rfl ?_
  refine e_invSi (As := [.inl (nI p)]) (v := 1) (h2 := h) dX7_row_1 lk_X7_70 ys_X7_isText rfl rfl rfl (Nat.le_of_ble_eq_true rfl) (Nat.le_of_ble_eq_true rfl) ⟨Nat.le_of_ble_eq_true rfl, Nat.le_of_ble_eq_true rfl⟩ (k_cTextX l h (nI p) (if_pos (by rw [nI_toInt (by omega)]; omega))) ?_
  refine b_if_ne (X := 1) (tgt := 9) (by decide) dX7_row_4 (by decide) ?_ ?_
  · intro e_4_t c_4_t
    refine e_iload_n (i := 2) dX7_row_9 rfl rfl ?_
    refine e_invSi (As := [.inl (nI x)]) (v := 1) (h2 := h) dX7_row_10 lk_X7_94 ys_X7_isNumber rfl rfl rfl (Nat.le_of_ble_eq_true rfl) (Nat.le_of_ble_eq_true rfl) ⟨Nat.le_of_ble_eq_true rfl, Nat.le_of_ble_eq_true rfl⟩ (k_cNumX l h (nI x) (if_pos (by rw [nI_toInt (by omega)]; omega))) ?_
    refine b_if_eq (X := 1) (tgt := 37) (by decide) dX7_row_13 (by decide) ?_ ?_
    · intro e_13_t c_13_t
      exfalso; omega
    · intro e_13_f c_13_f
      refine e_iload_n (i := 3) dX7_row_16 rfl rfl ?_
      refine e_iload dX7_row_17 rfl ?_
      refine e_invSi (As := [.inl (nI n), .inl (nI c)]) (v := 1) (h2 := h) dX7_row_19 lk_X7_123 ys_X7_areRows rfl rfl rfl (Nat.le_of_ble_eq_true rfl) (Nat.le_of_ble_eq_true rfl) ⟨Nat.le_of_ble_eq_true rfl, Nat.le_of_ble_eq_true rfl⟩ (k_cRowsX l h (nI n) (nI c) (if_pos (by rw [nI_toInt (by omega), nI_toInt (by omega)]; omega))) ?_
      refine b_if_eq (X := 1) (tgt := 37) (by decide) dX7_row_22 (by decide) ?_ ?_
      · intro e_22_t c_22_t
        exfalso; omega
      · intro e_22_f c_22_f
        refine e_iload dX7_row_25 rfl ?_
        refine b_if_lt (X := ((w : Nat) : Int)) (tgt := 37) (nI_toInt (by omega)) dX7_row_27 (by decide) ?_ ?_
        · intro c_27_t
          exfalso; omega
        · intro c_27_f
          refine e_iload dX7_row_30 rfl ?_
          refine e_bipush (v := 9) dX7_row_32 (by decide) ?_
          refine b_icmp_le (X := ((w : Nat) : Int)) (Y := 9) (tgt := 40) (nI_toInt (by omega)) (by decide) dX7_row_34 (by decide) ?_ ?_
          · intro c_34_t
            refine e_aload_n (i := 0) dX7_row_40 rfl rfl ?_
            refine e_iload_n (i := 1) dX7_row_41 rfl rfl ?_
            refine e_iload_n (i := 2) dX7_row_42 rfl rfl ?_
            refine e_iload_n (i := 3) dX7_row_43 rfl rfl ?_
            refine e_iload dX7_row_44 rfl ?_
            refine e_iload dX7_row_46 rfl ?_
            refine e_invViG (As := [.inl (nI p), .inl (nI x), .inl (nI n), .inl (nI c), .inl (nI w)]) dX7_row_48 lk_X7_126 yv_X7_goThrough rfl rfl rfl (Nat.le_of_ble_eq_true rfl) sh_0 ci_X7 (Nat.le_of_ble_eq_true rfl) ⟨Nat.le_of_ble_eq_true rfl, Nat.le_of_ble_eq_true rfl⟩ (k_D_go l hB h hC p x c n w hp hz hx hc hn (nI w) (fun e he => by rw [nI_toInt (by omega)]; omega) E U hE hU) ?_
            rintro w' u ⟨hv, kq, fo⟩
            obtain rfl := Option.some.inj hv
            have hlt := eA_lt hE9 ((c + 1) ^ n)
            have hbit := eA_bit (E := E) (U := U) (w := w) ((c + 1) ^ n)
            refine e_istore (ls2 := [some (.inr 0), some (.inl (nI p)), some (.inl (nI x)), some (.inl (nI n)), some (.inl (nI c)), some (.inl (nI w)), some (.inl i), some (.inl (nI (eA E ((c + 1) ^ n))))]) dX7_row_51 (Nat.le_of_ble_eq_true rfl) rfl ?_
            refine e_iload dX7_row_53 rfl ?_
            refine e_iload dX7_row_55 rfl ?_
            refine e_ishr dX7_row_57 ?_
            refine e_iconst (v := 1) dX7_row_58 (by decide) ?_
            refine z_iand (z := nI (eA E ((c + 1) ^ n) / 2 ^ w % 2)) (bit10 hlt hw9) dX7_row_59 ?_
            refine b_if_ne (X := ((eA E ((c + 1) ^ n) / 2 ^ w % 2 : Nat) : Int)) (tgt := 68) (nI_toInt (by omega)) dX7_row_60 (by decide) ?_ ?_
            · intro e_60_t c_60_t
              refine e_aload_n (i := 0) dX7_row_68 rfl rfl ?_
              refine e_getR (r := 5) dX7_row_69 fl_X7_33 sh_0 fj_0_4 ?_
              refine e_iload dX7_row_72 rfl ?_
              refine e_invVi (As := [.inl i]) (v := rTell u 5 18 i) (h2 := u) dX7_row_74 lk_X7_130 yv_X3_tell rfl rfl rfl (Nat.le_of_ble_eq_true rfl) sh_5 ci_X3 (Nat.le_of_ble_eq_true rfl) ⟨Nat.le_of_ble_eq_true rfl, Nat.le_of_ble_eq_true rfl⟩ (k_R_tell l sh_5 sh_18 u i) ?_
              refine e_iret dX7_row_77 (mret_i _) ?_
              have hb9 : (eA E ((c + 1) ^ n)).testBit w = true := bit_tb.mp (by omega)
              cases hr9 : rS E U w ((c + 1) ^ n) with
              | none => exact absurd hr9 (hbit.mp hb9)
              | some q => exact hR _ _ ⟨by rw [tell_row hn fo hr9 i], kq⟩
            · intro e_60_f c_60_f
              refine e_bipush (v := (-5)) dX7_row_63 (by decide) ?_
              refine e_goto (tgt := 77) dX7_row_65 (by decide) ?_
              refine e_iret dX7_row_77 (mret_i _) ?_
              have hb9 : ¬ (eA E ((c + 1) ^ n)).testBit w = true := fun z => by have := bit_tb.mpr z; omega
              have hnone : rS E U w ((c + 1) ^ n) = none := Classical.byContradiction (fun z => hb9 (hbit.mpr z))
              exact hR _ _ ⟨by rw [hnone]; rfl, kq⟩
          · intro c_34_f
            exfalso; omega
  · intro e_4_f c_4_f
    exfalso; omega
set_option maxHeartbeats 1000000 in
theorem k_M_all1 (l : Launch) {sg : Nat → Int32} {ln sz : Nat → Nat} (hB : aWB sg ln sz) (h : mH) (hM : MB sg ln sz h) (p x c n : Nat) (hp : p < 4) (hz : 0 < sz p) (hx : x < 8) (hc : c ≤ 2) (hn : n ≤ 4) (E U : Nat → Nat) (hE : ∀ k, E k = (rnC sg ln sz p x (c + 1) n k).1.toNat) (hU : ∀ k, U k = eU (rnC sg ln sz p x (c + 1) n k)) : mG l Sh0 iX8_all [.inr 10, .inl (nI p), .inl (nI x), .inl (nI n), .inl (nI c)] h (fun v h' => v = some (nI (eA E ((c + 1) ^ n))) ∧ KL h h') := by
  intro RT hR
  show mE l Sh0 none iX8_all RT 0 [some (.inr 10), some (.inl (nI p)), some (.inl (nI x)), some (.inl (nI n)), some (.inl (nI c)), none, none] [] h
  refine e_iload_n (i := 1) dX8_all_0 rfl rfl ?_
  refine e_invSi (As := [.inl (nI p)]) (v := 1) (h2 := h) dX8_all_1 lk_X8_101 ys_X8_isFour rfl rfl rfl (Nat.le_of_ble_eq_true rfl) (Nat.le_of_ble_eq_true rfl) ⟨Nat.le_of_ble_eq_true rfl, Nat.le_of_ble_eq_true rfl⟩ (k_M_four1 l h (nI p) (by rw [nI_toInt (by omega)]; omega)) ?_
  refine b_if_ne (X := 1) (tgt := 9) (by decide) dX8_all_4 (by decide) ?_ ?_
  · intro e_4_t c_4_t
    refine e_iload_n (i := 2) dX8_all_9 rfl rfl ?_
    refine e_iload_n (i := 3) dX8_all_10 rfl rfl ?_
    refine e_iload dX8_all_11 rfl ?_
    refine e_invSi (As := [.inl (nI x), .inl (nI n), .inl (nI c)]) (v := 1) (h2 := h) dX8_all_13 lk_X8_218 ys_X8_areTold rfl rfl rfl (Nat.le_of_ble_eq_true rfl) (Nat.le_of_ble_eq_true rfl) ⟨Nat.le_of_ble_eq_true rfl, Nat.le_of_ble_eq_true rfl⟩ (k_M_areTold1 l h (nI x) (nI n) (nI c) (by rw [nI_toInt (by omega)]; omega) (by rw [nI_toInt (by omega)]; omega) (by rw [nI_toInt (by omega)]; omega)) ?_
    refine b_if_ne (X := 1) (tgt := 22) (by decide) dX8_all_16 (by decide) ?_ ?_
    · intro e_16_t c_16_t
      refine e_iconst (v := 0) dX8_all_22 (by decide) ?_
      refine e_istore (ls2 := [some (.inr 10), some (.inl (nI p)), some (.inl (nI x)), some (.inl (nI n)), some (.inl (nI c)), some (.inl 0), none]) dX8_all_23 (Nat.le_of_ble_eq_true rfl) rfl ?_
      refine e_iconst (v := 0) dX8_all_25 (by decide) ?_
      refine e_istore (ls2 := [some (.inr 10), some (.inl (nI p)), some (.inl (nI x)), some (.inl (nI n)), some (.inl (nI c)), some (.inl 0), some (.inl 0)]) dX8_all_26 (Nat.le_of_ble_eq_true rfl) rfl ?_
      exact lp_M_all l hB h hM p x c n hp hz hx hc hn E U hE hU RT (fun h' a => hR _ _ ⟨rfl, a⟩) _ 0 h (Nat.zero_add _) (KL.refl h)
    · intro e_16_f c_16_f
      exfalso; omega
  · intro e_4_f c_4_f
    exfalso; omega
set_option maxHeartbeats 1000000 in
theorem k_M_row1 (l : Launch) {sg : Nat → Int32} {ln sz : Nat → Nat} (hB : aWB sg ln sz) (h : mH) (hM : MB sg ln sz h) (p x c n : Nat) (hp : p < 4) (hz : 0 < sz p) (hx : x < 8) (hc : c ≤ 2) (hn : n ≤ 4) (w : Nat) (hw9 : w ≤ 9) (i : Int32) (E U : Nat → Nat) (hE : ∀ k, E k = (rnC sg ln sz p x (c + 1) n k).1.toNat) (hU : ∀ k, U k = eU (rnC sg ln sz p x (c + 1) n k)) : mG l Sh0 iX8_row [.inr 10, .inl (nI p), .inl (nI x), .inl (nI n), .inl (nI c), .inl (nI w), .inl i] h (fun v h' => v = some (rAns c n (rS E U w ((c + 1) ^ n)) i) ∧ KL h h') := by
  intro RT hR
  show mE l Sh0 none iX8_row RT 0 [some (.inr 10), some (.inl (nI p)), some (.inl (nI x)), some (.inl (nI n)), some (.inl (nI c)), some (.inl (nI w)), some (.inl i), none, none, none] [] h
  refine e_iload_n (i := 1) dX8_row_0 rfl rfl ?_
  refine e_invSi (As := [.inl (nI p)]) (v := 1) (h2 := h) dX8_row_1 lk_X8_101 ys_X8_isFour rfl rfl rfl (Nat.le_of_ble_eq_true rfl) (Nat.le_of_ble_eq_true rfl) ⟨Nat.le_of_ble_eq_true rfl, Nat.le_of_ble_eq_true rfl⟩ (k_M_four1 l h (nI p) (by rw [nI_toInt (by omega)]; omega)) ?_
  refine b_if_ne (X := 1) (tgt := 9) (by decide) dX8_row_4 (by decide) ?_ ?_
  · intro e_4_t c_4_t
    refine e_iload_n (i := 2) dX8_row_9 rfl rfl ?_
    refine e_iload_n (i := 3) dX8_row_10 rfl rfl ?_
    refine e_iload dX8_row_11 rfl ?_
    refine e_invSi (As := [.inl (nI x), .inl (nI n), .inl (nI c)]) (v := 1) (h2 := h) dX8_row_13 lk_X8_218 ys_X8_areTold rfl rfl rfl (Nat.le_of_ble_eq_true rfl) (Nat.le_of_ble_eq_true rfl) ⟨Nat.le_of_ble_eq_true rfl, Nat.le_of_ble_eq_true rfl⟩ (k_M_areTold1 l h (nI x) (nI n) (nI c) (by rw [nI_toInt (by omega)]; omega) (by rw [nI_toInt (by omega)]; omega) (by rw [nI_toInt (by omega)]; omega)) ?_
    refine b_if_eq (X := 1) (tgt := 30) (by decide) dX8_row_16 (by decide) ?_ ?_
    · intro e_16_t c_16_t
      exfalso; omega
    · intro e_16_f c_16_f
      refine e_iload dX8_row_19 rfl ?_
      refine e_iconst (v := 0) dX8_row_21 (by decide) ?_
      refine e_bipush (v := 9) dX8_row_22 (by decide) ?_
      refine e_invSi (As := [.inl (nI w), .inl 0, .inl 9]) (v := 1) (h2 := h) dX8_row_24 lk_X8_85 ys_X8_in rfl rfl rfl (Nat.le_of_ble_eq_true rfl) (Nat.le_of_ble_eq_true rfl) ⟨Nat.le_of_ble_eq_true rfl, Nat.le_of_ble_eq_true rfl⟩ (k_M_in (X := (w : Int)) (Y := 0) (Z := 9) l h (nI w) 0 9 (nI_toInt (by omega)) (by decide) (by decide) (if_pos (by omega))) ?_
      refine b_if_ne (X := 1) (tgt := 33) (by decide) dX8_row_27 (by decide) ?_ ?_
      · intro e_27_t c_27_t
        refine e_bipush (v := (-6)) dX8_row_33 (by decide) ?_
        refine e_istore (ls2 := [some (.inr 10), some (.inl (nI p)), some (.inl (nI x)), some (.inl (nI n)), some (.inl (nI c)), some (.inl (nI w)), some (.inl i), some (.inl (-6)), none, none]) dX8_row_35 (Nat.le_of_ble_eq_true rfl) rfl ?_
        refine e_iconst (v := 0) dX8_row_37 (by decide) ?_
        refine e_istore (ls2 := [some (.inr 10), some (.inl (nI p)), some (.inl (nI x)), some (.inl (nI n)), some (.inl (nI c)), some (.inl (nI w)), some (.inl i), some (.inl (-6)), some (.inl 0), none]) dX8_row_38 (Nat.le_of_ble_eq_true rfl) rfl ?_
        exact lp_M_row l hB h hM p x c n hp hz hx hc hn w hw9 i E U hE hU RT (fun h' a => hR _ _ ⟨rfl, a⟩) _ 0 h _ (Nat.zero_add _) (KL.refl h) (fun q hq => by cases hq)
      · intro e_27_f c_27_f
        exfalso; omega
  · intro e_4_f c_4_f
    exfalso; omega
set_option maxHeartbeats 1000000 in
theorem k_D_allU (l : Launch) (h : mH) (x y z c : Int32) (h1 : ¬ (0 ≤ x.toInt ∧ x.toInt < 4)) : mD l Sh0 iX7_all [.inr 0, .inl x, .inl y, .inl z, .inl c] h (some (-1)) h := by
  intro RT hR
  show mE l Sh0 none iX7_all RT 0 [some (.inr 0), some (.inl x), some (.inl y), some (.inl z), some (.inl c)] [] h
  refine e_iload_n (i := 1) dX7_all_0 rfl rfl ?_
  refine e_invSi (As := [.inl x]) (v := 0) (h2 := h) dX7_all_1 lk_X7_70 ys_X7_isText rfl rfl rfl (Nat.le_of_ble_eq_true rfl) (Nat.le_of_ble_eq_true rfl) ⟨Nat.le_of_ble_eq_true rfl, Nat.le_of_ble_eq_true rfl⟩ (k_cTextX l h x (if_neg h1)) ?_
  refine b_if_ne (X := 0) (tgt := 9) (by decide) dX7_all_4 (by decide) ?_ ?_
  · intro e_4_t c_4_t
    exfalso; omega
  · intro e_4_f c_4_f
    refine e_iconst (v := (-1)) dX7_all_7 (by decide) ?_
    refine e_iret dX7_all_8 (mret_i _) ?_
    exact hR
set_option maxHeartbeats 1000000 in
theorem k_M_allU (l : Launch) (h : mH) (x y z c : Int32) (h1 : ¬ (0 ≤ x.toInt ∧ x.toInt < 4)) : mD l Sh0 iX8_all [.inr 10, .inl x, .inl y, .inl z, .inl c] h (some (-1)) h := by
  intro RT hR
  show mE l Sh0 none iX8_all RT 0 [some (.inr 10), some (.inl x), some (.inl y), some (.inl z), some (.inl c), none, none] [] h
  refine e_iload_n (i := 1) dX8_all_0 rfl rfl ?_
  refine e_invSi (As := [.inl x]) (v := 0) (h2 := h) dX8_all_1 lk_X8_101 ys_X8_isFour rfl rfl rfl (Nat.le_of_ble_eq_true rfl) (Nat.le_of_ble_eq_true rfl) ⟨Nat.le_of_ble_eq_true rfl, Nat.le_of_ble_eq_true rfl⟩ (k_M_four0 l h x (by omega)) ?_
  refine b_if_ne (X := 0) (tgt := 9) (by decide) dX8_all_4 (by decide) ?_ ?_
  · intro e_4_t c_4_t
    exfalso; omega
  · intro e_4_f c_4_f
    refine e_iconst (v := (-1)) dX8_all_7 (by decide) ?_
    refine e_iret dX8_all_8 (mret_i _) ?_
    exact hR
set_option maxHeartbeats 1000000 in
theorem k_D_allO1 (l : Launch) (h : mH) (x y z c : Int32) (h1 : 0 ≤ x.toInt ∧ x.toInt < 4) (h2 : ¬ (0 ≤ y.toInt ∧ y.toInt < 8)) : mD l Sh0 iX7_all [.inr 0, .inl x, .inl y, .inl z, .inl c] h (some (-2)) h := by
  intro RT hR
  show mE l Sh0 none iX7_all RT 0 [some (.inr 0), some (.inl x), some (.inl y), some (.inl z), some (.inl c)] [] h
  refine e_iload_n (i := 1) dX7_all_0 rfl rfl ?_
  refine e_invSi (As := [.inl x]) (v := 1) (h2 := h) dX7_all_1 lk_X7_70 ys_X7_isText rfl rfl rfl (Nat.le_of_ble_eq_true rfl) (Nat.le_of_ble_eq_true rfl) ⟨Nat.le_of_ble_eq_true rfl, Nat.le_of_ble_eq_true rfl⟩ (k_cTextX l h x (if_pos h1)) ?_
  refine b_if_ne (X := 1) (tgt := 9) (by decide) dX7_all_4 (by decide) ?_ ?_
  · intro e_4_t c_4_t
    refine e_iload_n (i := 2) dX7_all_9 rfl rfl ?_
    refine e_invSi (As := [.inl y]) (v := 0) (h2 := h) dX7_all_10 lk_X7_94 ys_X7_isNumber rfl rfl rfl (Nat.le_of_ble_eq_true rfl) (Nat.le_of_ble_eq_true rfl) ⟨Nat.le_of_ble_eq_true rfl, Nat.le_of_ble_eq_true rfl⟩ (k_cNumX l h y (if_neg h2)) ?_
    refine b_if_eq (X := 0) (tgt := 25) (by decide) dX7_all_13 (by decide) ?_ ?_
    · intro e_13_t c_13_t
      refine e_bipush (v := (-2)) dX7_all_25 (by decide) ?_
      refine e_iret dX7_all_27 (mret_i _) ?_
      exact hR
    · intro e_13_f c_13_f
      exfalso; omega
  · intro e_4_f c_4_f
    exfalso; omega
set_option maxHeartbeats 1000000 in
theorem k_D_allO2 (l : Launch) (h : mH) (x y z c : Int32) (h1 : 0 ≤ x.toInt ∧ x.toInt < 4) (h2 : 0 ≤ y.toInt ∧ y.toInt < 8) (h3 : ¬ (0 ≤ z.toInt ∧ z.toInt ≤ 4 ∧ 0 ≤ c.toInt ∧ c.toInt ≤ 2)) : mD l Sh0 iX7_all [.inr 0, .inl x, .inl y, .inl z, .inl c] h (some (-2)) h := by
  intro RT hR
  show mE l Sh0 none iX7_all RT 0 [some (.inr 0), some (.inl x), some (.inl y), some (.inl z), some (.inl c)] [] h
  refine e_iload_n (i := 1) dX7_all_0 rfl rfl ?_
  refine e_invSi (As := [.inl x]) (v := 1) (h2 := h) dX7_all_1 lk_X7_70 ys_X7_isText rfl rfl rfl (Nat.le_of_ble_eq_true rfl) (Nat.le_of_ble_eq_true rfl) ⟨Nat.le_of_ble_eq_true rfl, Nat.le_of_ble_eq_true rfl⟩ (k_cTextX l h x (if_pos h1)) ?_
  refine b_if_ne (X := 1) (tgt := 9) (by decide) dX7_all_4 (by decide) ?_ ?_
  · intro e_4_t c_4_t
    refine e_iload_n (i := 2) dX7_all_9 rfl rfl ?_
    refine e_invSi (As := [.inl y]) (v := 1) (h2 := h) dX7_all_10 lk_X7_94 ys_X7_isNumber rfl rfl rfl (Nat.le_of_ble_eq_true rfl) (Nat.le_of_ble_eq_true rfl) ⟨Nat.le_of_ble_eq_true rfl, Nat.le_of_ble_eq_true rfl⟩ (k_cNumX l h y (if_pos h2)) ?_
    refine b_if_eq (X := 1) (tgt := 25) (by decide) dX7_all_13 (by decide) ?_ ?_
    · intro e_13_t c_13_t
      exfalso; omega
    · intro e_13_f c_13_f
      refine e_iload_n (i := 3) dX7_all_16 rfl rfl ?_
      refine e_iload dX7_all_17 rfl ?_
      refine e_invSi (As := [.inl z, .inl c]) (v := 0) (h2 := h) dX7_all_19 lk_X7_123 ys_X7_areRows rfl rfl rfl (Nat.le_of_ble_eq_true rfl) (Nat.le_of_ble_eq_true rfl) ⟨Nat.le_of_ble_eq_true rfl, Nat.le_of_ble_eq_true rfl⟩ (k_cRowsX l h z c (if_neg h3)) ?_
      refine b_if_ne (X := 0) (tgt := 28) (by decide) dX7_all_22 (by decide) ?_ ?_
      · intro e_22_t c_22_t
        exfalso; omega
      · intro e_22_f c_22_f
        refine e_bipush (v := (-2)) dX7_all_25 (by decide) ?_
        refine e_iret dX7_all_27 (mret_i _) ?_
        exact hR
  · intro e_4_f c_4_f
    exfalso; omega
set_option maxHeartbeats 1000000 in
theorem k_M_allO (l : Launch) (h : mH) (x y z c : Int32) (h1 : 0 ≤ x.toInt ∧ x.toInt < 4) (h2 : ¬ ((0 ≤ y.toInt ∧ y.toInt ≤ 7) ∧ (0 ≤ z.toInt ∧ z.toInt ≤ 4) ∧ (0 ≤ c.toInt ∧ c.toInt ≤ 2))) : mD l Sh0 iX8_all [.inr 10, .inl x, .inl y, .inl z, .inl c] h (some (-2)) h := by
  intro RT hR
  show mE l Sh0 none iX8_all RT 0 [some (.inr 10), some (.inl x), some (.inl y), some (.inl z), some (.inl c), none, none] [] h
  refine e_iload_n (i := 1) dX8_all_0 rfl rfl ?_
  refine e_invSi (As := [.inl x]) (v := 1) (h2 := h) dX8_all_1 lk_X8_101 ys_X8_isFour rfl rfl rfl (Nat.le_of_ble_eq_true rfl) (Nat.le_of_ble_eq_true rfl) ⟨Nat.le_of_ble_eq_true rfl, Nat.le_of_ble_eq_true rfl⟩ (k_M_four1 l h x (by omega)) ?_
  refine b_if_ne (X := 1) (tgt := 9) (by decide) dX8_all_4 (by decide) ?_ ?_
  · intro e_4_t c_4_t
    refine e_iload_n (i := 2) dX8_all_9 rfl rfl ?_
    refine e_iload_n (i := 3) dX8_all_10 rfl rfl ?_
    refine e_iload dX8_all_11 rfl ?_
    refine e_invSi (As := [.inl y, .inl z, .inl c]) (v := 0) (h2 := h) dX8_all_13 lk_X8_218 ys_X8_areTold rfl rfl rfl (Nat.le_of_ble_eq_true rfl) (Nat.le_of_ble_eq_true rfl) ⟨Nat.le_of_ble_eq_true rfl, Nat.le_of_ble_eq_true rfl⟩ (k_M_areTold0 l h y z c h2) ?_
    refine b_if_ne (X := 0) (tgt := 22) (by decide) dX8_all_16 (by decide) ?_ ?_
    · intro e_16_t c_16_t
      exfalso; omega
    · intro e_16_f c_16_f
      refine e_bipush (v := (-2)) dX8_all_19 (by decide) ?_
      refine e_iret dX8_all_21 (mret_i _) ?_
      exact hR
  · intro e_4_f c_4_f
    exfalso; omega
set_option maxHeartbeats 1000000 in
theorem k_D_rowU (l : Launch) (h : mH) (x y z c e i : Int32) (h1 : ¬ (0 ≤ x.toInt ∧ x.toInt < 4)) : mD l Sh0 iX7_row [.inr 0, .inl x, .inl y, .inl z, .inl c, .inl e, .inl i] h (some (-1)) h := by
  intro RT hR
  show mE l Sh0 none iX7_row RT 0 [some (.inr 0), some (.inl x), some (.inl y), some (.inl z), some (.inl c), some (.inl e), some (.inl i), none] [] h
  refine e_iload_n (i := 1) dX7_row_0 rfl rfl ?_
  refine e_invSi (As := [.inl x]) (v := 0) (h2 := h) dX7_row_1 lk_X7_70 ys_X7_isText rfl rfl rfl (Nat.le_of_ble_eq_true rfl) (Nat.le_of_ble_eq_true rfl) ⟨Nat.le_of_ble_eq_true rfl, Nat.le_of_ble_eq_true rfl⟩ (k_cTextX l h x (if_neg h1)) ?_
  refine b_if_ne (X := 0) (tgt := 9) (by decide) dX7_row_4 (by decide) ?_ ?_
  · intro e_4_t c_4_t
    exfalso; omega
  · intro e_4_f c_4_f
    refine e_iconst (v := (-1)) dX7_row_7 (by decide) ?_
    refine e_iret dX7_row_8 (mret_i _) ?_
    exact hR
set_option maxHeartbeats 1000000 in
theorem k_M_rowU (l : Launch) (h : mH) (x y z c e i : Int32) (h1 : ¬ (0 ≤ x.toInt ∧ x.toInt < 4)) : mD l Sh0 iX8_row [.inr 10, .inl x, .inl y, .inl z, .inl c, .inl e, .inl i] h (some (-1)) h := by
  intro RT hR
  show mE l Sh0 none iX8_row RT 0 [some (.inr 10), some (.inl x), some (.inl y), some (.inl z), some (.inl c), some (.inl e), some (.inl i), none, none, none] [] h
  refine e_iload_n (i := 1) dX8_row_0 rfl rfl ?_
  refine e_invSi (As := [.inl x]) (v := 0) (h2 := h) dX8_row_1 lk_X8_101 ys_X8_isFour rfl rfl rfl (Nat.le_of_ble_eq_true rfl) (Nat.le_of_ble_eq_true rfl) ⟨Nat.le_of_ble_eq_true rfl, Nat.le_of_ble_eq_true rfl⟩ (k_M_four0 l h x (by omega)) ?_
  refine b_if_ne (X := 0) (tgt := 9) (by decide) dX8_row_4 (by decide) ?_ ?_
  · intro e_4_t c_4_t
    exfalso; omega
  · intro e_4_f c_4_f
    refine e_iconst (v := (-1)) dX8_row_7 (by decide) ?_
    refine e_iret dX8_row_8 (mret_i _) ?_
    exact hR
set_option maxHeartbeats 1000000 in
theorem k_D_rowO1 (l : Launch) (h : mH) (x y z c e i : Int32) (h1 : 0 ≤ x.toInt ∧ x.toInt < 4) (h2 : ¬ (0 ≤ y.toInt ∧ y.toInt < 8)) : mD l Sh0 iX7_row [.inr 0, .inl x, .inl y, .inl z, .inl c, .inl e, .inl i] h (some (-2)) h := by
  intro RT hR
  show mE l Sh0 none iX7_row RT 0 [some (.inr 0), some (.inl x), some (.inl y), some (.inl z), some (.inl c), some (.inl e), some (.inl i), none] [] h
  refine e_iload_n (i := 1) dX7_row_0 rfl rfl ?_
  refine e_invSi (As := [.inl x]) (v := 1) (h2 := h) dX7_row_1 lk_X7_70 ys_X7_isText rfl rfl rfl (Nat.le_of_ble_eq_true rfl) (Nat.le_of_ble_eq_true rfl) ⟨Nat.le_of_ble_eq_true rfl, Nat.le_of_ble_eq_true rfl⟩ (k_cTextX l h x (if_pos h1)) ?_
  refine b_if_ne (X := 1) (tgt := 9) (by decide) dX7_row_4 (by decide) ?_ ?_
  · intro e_4_t c_4_t
    refine e_iload_n (i := 2) dX7_row_9 rfl rfl ?_
    refine e_invSi (As := [.inl y]) (v := 0) (h2 := h) dX7_row_10 lk_X7_94 ys_X7_isNumber rfl rfl rfl (Nat.le_of_ble_eq_true rfl) (Nat.le_of_ble_eq_true rfl) ⟨Nat.le_of_ble_eq_true rfl, Nat.le_of_ble_eq_true rfl⟩ (k_cNumX l h y (if_neg h2)) ?_
    refine b_if_eq (X := 0) (tgt := 37) (by decide) dX7_row_13 (by decide) ?_ ?_
    · intro e_13_t c_13_t
      refine e_bipush (v := (-2)) dX7_row_37 (by decide) ?_
      refine e_iret dX7_row_39 (mret_i _) ?_
      exact hR
    · intro e_13_f c_13_f
      exfalso; omega
  · intro e_4_f c_4_f
    exfalso; omega
set_option maxHeartbeats 1000000 in
theorem k_D_rowO2 (l : Launch) (h : mH) (x y z c e i : Int32) (h1 : 0 ≤ x.toInt ∧ x.toInt < 4) (h2 : 0 ≤ y.toInt ∧ y.toInt < 8) (h3 : ¬ (0 ≤ z.toInt ∧ z.toInt ≤ 4 ∧ 0 ≤ c.toInt ∧ c.toInt ≤ 2)) : mD l Sh0 iX7_row [.inr 0, .inl x, .inl y, .inl z, .inl c, .inl e, .inl i] h (some (-2)) h := by
  intro RT hR
  show mE l Sh0 none iX7_row RT 0 [some (.inr 0), some (.inl x), some (.inl y), some (.inl z), some (.inl c), some (.inl e), some (.inl i), none] [] h
  refine e_iload_n (i := 1) dX7_row_0 rfl rfl ?_
  refine e_invSi (As := [.inl x]) (v := 1) (h2 := h) dX7_row_1 lk_X7_70 ys_X7_isText rfl rfl rfl (Nat.le_of_ble_eq_true rfl) (Nat.le_of_ble_eq_true rfl) ⟨Nat.le_of_ble_eq_true rfl, Nat.le_of_ble_eq_true rfl⟩ (k_cTextX l h x (if_pos h1)) ?_
  refine b_if_ne (X := 1) (tgt := 9) (by decide) dX7_row_4 (by decide) ?_ ?_
  · intro e_4_t c_4_t
    refine e_iload_n (i := 2) dX7_row_9 rfl rfl ?_
    refine e_invSi (As := [.inl y]) (v := 1) (h2 := h) dX7_row_10 lk_X7_94 ys_X7_isNumber rfl rfl rfl (Nat.le_of_ble_eq_true rfl) (Nat.le_of_ble_eq_true rfl) ⟨Nat.le_of_ble_eq_true rfl, Nat.le_of_ble_eq_true rfl⟩ (k_cNumX l h y (if_pos h2)) ?_
    refine b_if_eq (X := 1) (tgt := 37) (by decide) dX7_row_13 (by decide) ?_ ?_
    · intro e_13_t c_13_t
      exfalso; omega
    · intro e_13_f c_13_f
      refine e_iload_n (i := 3) dX7_row_16 rfl rfl ?_
      refine e_iload dX7_row_17 rfl ?_
      refine e_invSi (As := [.inl z, .inl c]) (v := 0) (h2 := h) dX7_row_19 lk_X7_123 ys_X7_areRows rfl rfl rfl (Nat.le_of_ble_eq_true rfl) (Nat.le_of_ble_eq_true rfl) ⟨Nat.le_of_ble_eq_true rfl, Nat.le_of_ble_eq_true rfl⟩ (k_cRowsX l h z c (if_neg h3)) ?_
      refine b_if_eq (X := 0) (tgt := 37) (by decide) dX7_row_22 (by decide) ?_ ?_
      · intro e_22_t c_22_t
        refine e_bipush (v := (-2)) dX7_row_37 (by decide) ?_
        refine e_iret dX7_row_39 (mret_i _) ?_
        exact hR
      · intro e_22_f c_22_f
        exfalso; omega
  · intro e_4_f c_4_f
    exfalso; omega
set_option maxHeartbeats 1000000 in
theorem k_M_rowO (l : Launch) (h : mH) (x y z c e i : Int32) (h1 : 0 ≤ x.toInt ∧ x.toInt < 4) (h2 : ¬ ((0 ≤ y.toInt ∧ y.toInt ≤ 7) ∧ (0 ≤ z.toInt ∧ z.toInt ≤ 4) ∧ (0 ≤ c.toInt ∧ c.toInt ≤ 2))) : mD l Sh0 iX8_row [.inr 10, .inl x, .inl y, .inl z, .inl c, .inl e, .inl i] h (some (-2)) h := by
  intro RT hR
  show mE l Sh0 none iX8_row RT 0 [some (.inr 10), some (.inl x), some (.inl y), some (.inl z), some (.inl c), some (.inl e), some (.inl i), none, none, none] [] h
  refine e_iload_n (i := 1) dX8_row_0 rfl rfl ?_
  refine e_invSi (As := [.inl x]) (v := 1) (h2 := h) dX8_row_1 lk_X8_101 ys_X8_isFour rfl rfl rfl (Nat.le_of_ble_eq_true rfl) (Nat.le_of_ble_eq_true rfl) ⟨Nat.le_of_ble_eq_true rfl, Nat.le_of_ble_eq_true rfl⟩ (k_M_four1 l h x (by omega)) ?_
  refine b_if_ne (X := 1) (tgt := 9) (by decide) dX8_row_4 (by decide) ?_ ?_
  · intro e_4_t c_4_t
    refine e_iload_n (i := 2) dX8_row_9 rfl rfl ?_
    refine e_iload_n (i := 3) dX8_row_10 rfl rfl ?_
    refine e_iload dX8_row_11 rfl ?_
    refine e_invSi (As := [.inl y, .inl z, .inl c]) (v := 0) (h2 := h) dX8_row_13 lk_X8_218 ys_X8_areTold rfl rfl rfl (Nat.le_of_ble_eq_true rfl) (Nat.le_of_ble_eq_true rfl) ⟨Nat.le_of_ble_eq_true rfl, Nat.le_of_ble_eq_true rfl⟩ (k_M_areTold0 l h y z c h2) ?_
    refine b_if_eq (X := 0) (tgt := 30) (by decide) dX8_row_16 (by decide) ?_ ?_
    · intro e_16_t c_16_t
      refine e_bipush (v := (-2)) dX8_row_30 (by decide) ?_
      refine e_iret dX8_row_32 (mret_i _) ?_
      exact hR
    · intro e_16_f c_16_f
      exfalso; omega
  · intro e_4_f c_4_f
    exfalso; omega
set_option maxHeartbeats 1000000 in
theorem k_D_rowO3 (l : Launch) (h : mH) (x y z c e i : Int32) (h1 : 0 ≤ x.toInt ∧ x.toInt < 4) (h2 : 0 ≤ y.toInt ∧ y.toInt < 8) (h3 : 0 ≤ z.toInt ∧ z.toInt ≤ 4 ∧ 0 ≤ c.toInt ∧ c.toInt ≤ 2) (h4 : ¬ (0 ≤ e.toInt ∧ e.toInt ≤ 9)) : mD l Sh0 iX7_row [.inr 0, .inl x, .inl y, .inl z, .inl c, .inl e, .inl i] h (some (-2)) h := by
  intro RT hR
  show mE l Sh0 none iX7_row RT 0 [some (.inr 0), some (.inl x), some (.inl y), some (.inl z), some (.inl c), some (.inl e), some (.inl i), none] [] h
  refine e_iload_n (i := 1) dX7_row_0 rfl rfl ?_
  refine e_invSi (As := [.inl x]) (v := 1) (h2 := h) dX7_row_1 lk_X7_70 ys_X7_isText rfl rfl rfl (Nat.le_of_ble_eq_true rfl) (Nat.le_of_ble_eq_true rfl) ⟨Nat.le_of_ble_eq_true rfl, Nat.le_of_ble_eq_true rfl⟩ (k_cTextX l h x (if_pos h1)) ?_
  refine b_if_ne (X := 1) (tgt := 9) (by decide) dX7_row_4 (by decide) ?_ ?_
  · intro e_4_t c_4_t
    refine e_iload_n (i := 2) dX7_row_9 rfl rfl ?_
    refine e_invSi (As := [.inl y]) (v := 1) (h2 := h) dX7_row_10 lk_X7_94 ys_X7_isNumber rfl rfl rfl (Nat.le_of_ble_eq_true rfl) (Nat.le_of_ble_eq_true rfl) ⟨Nat.le_of_ble_eq_true rfl, Nat.le_of_ble_eq_true rfl⟩ (k_cNumX l h y (if_pos h2)) ?_
    refine b_if_eq (X := 1) (tgt := 37) (by decide) dX7_row_13 (by decide) ?_ ?_
    · intro e_13_t c_13_t
      exfalso; omega
    · intro e_13_f c_13_f
      refine e_iload_n (i := 3) dX7_row_16 rfl rfl ?_
      refine e_iload dX7_row_17 rfl ?_
      refine e_invSi (As := [.inl z, .inl c]) (v := 1) (h2 := h) dX7_row_19 lk_X7_123 ys_X7_areRows rfl rfl rfl (Nat.le_of_ble_eq_true rfl) (Nat.le_of_ble_eq_true rfl) ⟨Nat.le_of_ble_eq_true rfl, Nat.le_of_ble_eq_true rfl⟩ (k_cRowsX l h z c (if_pos h3)) ?_
      refine b_if_eq (X := 1) (tgt := 37) (by decide) dX7_row_22 (by decide) ?_ ?_
      · intro e_22_t c_22_t
        exfalso; omega
      · intro e_22_f c_22_f
        refine e_iload dX7_row_25 rfl ?_
        refine b_if_lt (X := e.toInt) (tgt := 37) rfl dX7_row_27 (by decide) ?_ ?_
        · intro c_27_t
          refine e_bipush (v := (-2)) dX7_row_37 (by decide) ?_
          refine e_iret dX7_row_39 (mret_i _) ?_
          exact hR
        · intro c_27_f
          refine e_iload dX7_row_30 rfl ?_
          refine e_bipush (v := 9) dX7_row_32 (by decide) ?_
          refine b_icmp_le (X := e.toInt) (Y := 9) (tgt := 40) rfl (by decide) dX7_row_34 (by decide) ?_ ?_
          · intro c_34_t
            exfalso; omega
          · intro c_34_f
            refine e_bipush (v := (-2)) dX7_row_37 (by decide) ?_
            refine e_iret dX7_row_39 (mret_i _) ?_
            exact hR
  · intro e_4_f c_4_f
    exfalso; omega
set_option maxHeartbeats 1000000 in
theorem k_M_rowO3 (l : Launch) (h : mH) (x y z c e i : Int32) (h1 : 0 ≤ x.toInt ∧ x.toInt < 4) (h2 : 0 ≤ y.toInt ∧ y.toInt < 8) (h3 : 0 ≤ z.toInt ∧ z.toInt ≤ 4 ∧ 0 ≤ c.toInt ∧ c.toInt ≤ 2) (h4 : ¬ (0 ≤ e.toInt ∧ e.toInt ≤ 9)) : mD l Sh0 iX8_row [.inr 10, .inl x, .inl y, .inl z, .inl c, .inl e, .inl i] h (some (-2)) h := by
  intro RT hR
  show mE l Sh0 none iX8_row RT 0 [some (.inr 10), some (.inl x), some (.inl y), some (.inl z), some (.inl c), some (.inl e), some (.inl i), none, none, none] [] h
  refine e_iload_n (i := 1) dX8_row_0 rfl rfl ?_
  refine e_invSi (As := [.inl x]) (v := 1) (h2 := h) dX8_row_1 lk_X8_101 ys_X8_isFour rfl rfl rfl (Nat.le_of_ble_eq_true rfl) (Nat.le_of_ble_eq_true rfl) ⟨Nat.le_of_ble_eq_true rfl, Nat.le_of_ble_eq_true rfl⟩ (k_M_four1 l h x (by omega)) ?_
  refine b_if_ne (X := 1) (tgt := 9) (by decide) dX8_row_4 (by decide) ?_ ?_
  · intro e_4_t c_4_t
    refine e_iload_n (i := 2) dX8_row_9 rfl rfl ?_
    refine e_iload_n (i := 3) dX8_row_10 rfl rfl ?_
    refine e_iload dX8_row_11 rfl ?_
    refine e_invSi (As := [.inl y, .inl z, .inl c]) (v := 1) (h2 := h) dX8_row_13 lk_X8_218 ys_X8_areTold rfl rfl rfl (Nat.le_of_ble_eq_true rfl) (Nat.le_of_ble_eq_true rfl) ⟨Nat.le_of_ble_eq_true rfl, Nat.le_of_ble_eq_true rfl⟩ (k_M_areTold1 l h y z c (by omega) (by omega) (by omega)) ?_
    refine b_if_eq (X := 1) (tgt := 30) (by decide) dX8_row_16 (by decide) ?_ ?_
    · intro e_16_t c_16_t
      exfalso; omega
    · intro e_16_f c_16_f
      refine e_iload dX8_row_19 rfl ?_
      refine e_iconst (v := 0) dX8_row_21 (by decide) ?_
      refine e_bipush (v := 9) dX8_row_22 (by decide) ?_
      refine e_invSi (As := [.inl e, .inl 0, .inl 9]) (v := 0) (h2 := h) dX8_row_24 lk_X8_85 ys_X8_in rfl rfl rfl (Nat.le_of_ble_eq_true rfl) (Nat.le_of_ble_eq_true rfl) ⟨Nat.le_of_ble_eq_true rfl, Nat.le_of_ble_eq_true rfl⟩ (k_M_in (Y := 0) (Z := 9) l h e 0 9 rfl (by decide) (by decide) (if_neg h4)) ?_
      refine b_if_ne (X := 0) (tgt := 33) (by decide) dX8_row_27 (by decide) ?_ ?_
      · intro e_27_t c_27_t
        exfalso; omega
      · intro e_27_f c_27_f
        refine e_bipush (v := (-2)) dX8_row_30 (by decide) ?_
        refine e_iret dX8_row_32 (mret_i _) ?_
        exact hR
  · intro e_4_f c_4_f
    exfalso; omega
/-- promise 15 -/
theorem j_all (l : Launch) (h : mH) (hI : Inv h) (x y z c : Int32) : jP l iX7_all iX8_all [.inl x, .inl y, .inl z, .inl c] h := by
  have hI0 := hI
  obtain ⟨n, pd, sg, ln, sz, r, w, cs, m⟩ := hI
  have hB := w.2.2.1
  by_cases h1 : 0 ≤ x.toInt ∧ x.toInt < 4
  · by_cases h2 : 0 ≤ y.toInt ∧ y.toInt < 8
    · by_cases h3 : 0 ≤ z.toInt ∧ z.toInt ≤ 4 ∧ 0 ≤ c.toInt ∧ c.toInt ≤ 2
      · have hz := w.2.2.2.1 x.toInt.toNat (by omega)
        have kd := k_D_all1 l hB h cs.2.2.1 x.toInt.toNat y.toInt.toNat c.toInt.toNat z.toInt.toNat (by omega) hz (by omega) (by omega) (by omega) _ _ (fun _ => rfl) (fun _ => rfl)
        rw [← nI_ofInt h1.1, ← nI_ofInt h2.1, ← nI_ofInt h3.1, ← nI_ofInt h3.2.2.1] at kd
        refine kd.weaken (fun v1 u1 q1 => ⟨_, q1.1, ?_⟩)
        have km := k_M_all1 l hB u1 (MS_kq m q1.2) x.toInt.toNat y.toInt.toNat c.toInt.toNat z.toInt.toNat (by omega) hz (by omega) (by omega) (by omega) _ _ (fun _ => rfl) (fun _ => rfl)
        rw [← nI_ofInt h1.1, ← nI_ofInt h2.1, ← nI_ofInt h3.1, ← nI_ofInt h3.2.2.1] at km
        exact km.weaken (fun v2 u2 q2 => ⟨q2.1, Inv_kq w cs m q1.2 q2.2⟩)
      · exact jP_D (k_D_allO2 l h x y z c h1 h2 h3) (k_M_allO l h x y z c h1 (fun q => h3 ⟨q.2.1.1, q.2.1.2, q.2.2.1, q.2.2.2⟩)) hI0
    · exact jP_D (k_D_allO1 l h x y z c h1 h2) (k_M_allO l h x y z c h1 (fun q => h2 ⟨q.1.1, by have := q.1.2; omega⟩)) hI0
  · exact jP_D (k_D_allU l h x y z c h1) (k_M_allU l h x y z c h1) hI0
/-- promise 16 -/
theorem j_row (l : Launch) (h : mH) (hI : Inv h) (x y z c e i : Int32) : jP l iX7_row iX8_row [.inl x, .inl y, .inl z, .inl c, .inl e, .inl i] h := by
  have hI0 := hI
  obtain ⟨n, pd, sg, ln, sz, r, w, cs, m⟩ := hI
  have hB := w.2.2.1
  by_cases h1 : 0 ≤ x.toInt ∧ x.toInt < 4
  · by_cases h2 : 0 ≤ y.toInt ∧ y.toInt < 8
    · by_cases h3 : 0 ≤ z.toInt ∧ z.toInt ≤ 4 ∧ 0 ≤ c.toInt ∧ c.toInt ≤ 2
      · by_cases h4 : 0 ≤ e.toInt ∧ e.toInt ≤ 9
        · have hz := w.2.2.2.1 x.toInt.toNat (by omega)
          have kd := k_D_row1 l hB h cs.2.2.1 x.toInt.toNat y.toInt.toNat c.toInt.toNat z.toInt.toNat (by omega) hz (by omega) (by omega) (by omega) e.toInt.toNat (by omega) i _ _ (fun _ => rfl) (fun _ => rfl)
          rw [← nI_ofInt h1.1, ← nI_ofInt h2.1, ← nI_ofInt h3.1, ← nI_ofInt h3.2.2.1, ← nI_ofInt h4.1] at kd
          refine kd.weaken (fun v1 u1 q1 => ⟨_, q1.1, ?_⟩)
          have km := k_M_row1 l hB u1 (MS_kq m q1.2) x.toInt.toNat y.toInt.toNat c.toInt.toNat z.toInt.toNat (by omega) hz (by omega) (by omega) (by omega) e.toInt.toNat (by omega) i _ _ (fun _ => rfl) (fun _ => rfl)
          rw [← nI_ofInt h1.1, ← nI_ofInt h2.1, ← nI_ofInt h3.1, ← nI_ofInt h3.2.2.1, ← nI_ofInt h4.1] at km
          exact km.weaken (fun v2 u2 q2 => ⟨q2.1, Inv_kq w cs m q1.2 q2.2⟩)
        · exact jP_D (k_D_rowO3 l h x y z c e i h1 h2 h3 h4) (k_M_rowO3 l h x y z c e i h1 h2 h3 h4) hI0
      · exact jP_D (k_D_rowO2 l h x y z c e i h1 h2 h3) (k_M_rowO l h x y z c e i h1 (fun q => h3 ⟨q.2.1.1, q.2.1.2, q.2.2.1, q.2.2.2⟩)) hI0
    · exact jP_D (k_D_rowO1 l h x y z c e i h1 h2) (k_M_rowO l h x y z c e i h1 (fun q => h2 ⟨q.1.1, by have := q.1.2; omega⟩)) hI0
  · exact jP_D (k_D_rowU l h x y z c e i h1) (k_M_rowU l h x y z c e i h1) hI0
