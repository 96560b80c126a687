/-! The reference keeps a page. -/
theorem nSg_step {p0 k : Nat} {pd f : Nat → Int32} (hk : k < 40) : upd (nSg p0 k pd f) (40 * p0 + k) (pd k) = nSg p0 (k + 1) pd f := by
  funext q
  by_cases e : q = 40 * p0 + k
  · subst e
    rw [pk_us]
    unfold nSg
    rw [if_pos (by omega), show (40 * p0 + k) % 40 = k from by omega]
  · rw [pk_un e]
    unfold nSg
    by_cases z : q / 40 = p0 ∧ q % 40 < k
    · rw [if_pos z, if_pos (by omega)]
    · rw [if_neg z, if_neg (by omega)]
theorem nSg_0 (p0 : Nat) (pd f : Nat → Int32) : nSg p0 0 pd f = f := by
  funext q
  unfold nSg
  rw [if_neg (by omega)]
set_option maxHeartbeats 1000000 in
theorem lp_M_keep1 (l : Launch) (h : mH) (pd : Nat → Int32) (n p0 : Nat) (hn : n ≤ 40) (hp0 : p0 < 20) (hpd : ∀ i, i < n → h 28 i = pd i) (f : Nat → Int32) (y4 y5 y6 y7 : Option mV) (RT : Option Int32 → mH → Prop) (hR : mE l Sh0 none iX8_keep RT 35 [some (.inr 10), some (.inl (nI p0)), some (.inl (nI n)), some (.inl (nI n)), y4, y5, y6, y7] [] (hr h 30 (nSg p0 n pd f))) : ∀ (d k : Nat), k + d = n → mE l Sh0 none iX8_keep RT 7 [some (.inr 10), some (.inl (nI p0)), some (.inl (nI n)), some (.inl (nI k)), y4, y5, y6, y7] [] (hr h 30 (nSg p0 k pd f)) := by
  intro d
  induction d with
  | zero =>
    intro k hd
    refine e_iload_n (i := 3) dX8_keep_7 rfl rfl ?_
    refine e_iload_n (i := 2) dX8_keep_8 rfl rfl ?_
    refine b_icmp_ge (X := ((k : Nat) : Int)) (Y := ((n : Nat) : Int)) (tgt := 35) (nI_toInt (by omega)) (nI_toInt (by omega)) dX8_keep_9 (by decide) ?_ ?_
    · intro c_9_t
      have e : k = n := by omega
      subst e
      exact hR
    · intro c_9_f
      exfalso; omega
  | succ d ih =>
    intro k hd
    refine e_iload_n (i := 3) dX8_keep_7 rfl rfl ?_
    refine e_iload_n (i := 2) dX8_keep_8 rfl rfl ?_
    refine b_icmp_ge (X := ((k : Nat) : Int)) (Y := ((n : Nat) : Int)) (tgt := 35) (nI_toInt (by omega)) (nI_toInt (by omega)) dX8_keep_9 (by decide) ?_ ?_
    · intro c_9_t
      exfalso; omega
    · intro c_9_f
      refine e_aload_n (i := 0) dX8_keep_12 rfl rfl ?_
      refine e_getR (r := 30) dX8_keep_13 fl_X8_16 sh_10 fj_10_3 ?_
      refine e_bipush (v := 40) dX8_keep_16 (by decide) ?_
      refine e_iload_n (i := 1) dX8_keep_18 rfl rfl ?_
      refine z_imul (z := nI (40 * p0)) (nI_mulcl 40 _) dX8_keep_19 ?_
      refine e_iload_n (i := 3) dX8_keep_20 rfl rfl ?_
      refine z_iadd (z := nI (40 * p0 + k)) (nI_add _ _) dX8_keep_21 ?_
      refine e_aload_n (i := 0) dX8_keep_22 rfl rfl ?_
      refine e_getR (r := 28) dX8_keep_23 fl_X8_7 sh_10 fj_10_1 ?_
      refine e_iload_n (i := 3) dX8_keep_26 rfl rfl ?_
      refine e_iald (x := pd k) dX8_keep_27 sh_28 (vin_ofX (X := ((k : Nat) : Int)) (nI_toInt (by omega)) (by omega) (by omega)) (by rw [nI_clamp (by omega)]; exact (hpd k (by omega))) ?_
      refine e_iast dX8_keep_28 sh_30 (vin_ofX (X := ((40 * p0 + k : Nat) : Int)) (nI_toInt (by omega)) (by omega) (by omega)) ?_
      rw [nI_clamp (by omega)]
      refine e_iinc (v := nI (k + 1)) (ls2 := [some (.inr 10), some (.inl (nI p0)), some (.inl (nI n)), some (.inl (nI (k + 1))), y4, y5, y6, y7]) dX8_keep_29 rfl (nI_inc1 _) (Nat.le_of_ble_eq_true rfl) rfl ?_
      refine e_goto (tgt := 7) dX8_keep_32 (by decide) ?_
      rw [hr_hs, nSg_step (by omega)]
      exact ih (k + 1) (by omega)
set_option maxHeartbeats 1000000 in
theorem lp_M_keep3 (l : Launch) (h : mH) (pd : Nat → Int32) (n p0 m own : Nat) (hn : n ≤ 40) (hp0 : p0 < 20) (hm : m < n) (ho : own ≤ 3) (f : Nat → Int32) (hlt : ∀ i, i < own → pOf (lT pd n) (aFs pd m) i < n) (hf : ∀ j, m < j → j < n → f (40 * p0 + j) = nI (lT pd n j)) (hle : pOf (lT pd n) (aFs pd m) own ≤ n) (y5 : Option mV) (RT : Option Int32 → mH → Prop) (hR : mE l Sh0 none iX8_keep RT 174 [some (.inr 10), some (.inl (nI p0)), some (.inl (nI n)), some (.inl (nI m)), some (.inl (nI (40 * p0 + m))), y5, some (.inl (nI own)), some (.inl (nI own))] [] (hr h 31 (upd f (40 * p0 + m) (nI (pOf (lT pd n) (aFs pd m) own - m))))) : ∀ (d i : Nat), i + d = own → mE l Sh0 none iX8_keep RT 136 [some (.inr 10), some (.inl (nI p0)), some (.inl (nI n)), some (.inl (nI m)), some (.inl (nI (40 * p0 + m))), y5, some (.inl (nI own)), some (.inl (nI i))] [] (hr h 31 (upd f (40 * p0 + m) (nI (pOf (lT pd n) (aFs pd m) i - m)))) := by
  intro d
  induction d with
  | zero =>
    intro i hd
    refine e_iload dX8_keep_136 rfl ?_
    refine e_iload dX8_keep_138 rfl ?_
    refine b_icmp_ge (X := ((i : Nat) : Int)) (Y := ((own : Nat) : Int)) (tgt := 174) (nI_toInt (by omega)) (nI_toInt (by omega)) dX8_keep_140 (by decide) ?_ ?_
    · intro c_140_t
      have e : i = own := by omega
      subst e
      exact hR
    · intro c_140_f
      exfalso; omega
  | succ d ih =>
    intro i hd
    have h9 := hlt i (by omega)
    have h8 := pOf_ge (lT pd n) (aFs pd m) i
    have h7 := aFs_gt pd m
    have h6 : pOf (lT pd n) (aFs pd m) (i + 1) = pOf (lT pd n) (aFs pd m) i + lT pd n (pOf (lT pd n) (aFs pd m) i) := rfl
    have h5 : pOf (lT pd n) (aFs pd m) (i + 1) ≤ n := Nat.le_trans (pOf_mono _ _ (by omega)) hle
    have r1 : (hr h 31 (upd f (40 * p0 + m) (nI (pOf (lT pd n) (aFs pd m) i - m)))) 31 (40 * p0 + m) = nI (pOf (lT pd n) (aFs pd m) i - m) := by rw [hr_at]; exact pk_us
    have r2 : (hr h 31 (upd f (40 * p0 + m) (nI (pOf (lT pd n) (aFs pd m) i - m)))) 31 (40 * p0 + pOf (lT pd n) (aFs pd m) i) = nI (lT pd n (pOf (lT pd n) (aFs pd m) i)) := by rw [hr_at, pk_un (by omega)]; exact hf _ (by omega) h9
    refine e_iload dX8_keep_136 rfl ?_
    refine e_iload dX8_keep_138 rfl ?_
    refine b_icmp_ge (X := ((i : Nat) : Int)) (Y := ((own : Nat) : Int)) (tgt := 174) (nI_toInt (by omega)) (nI_toInt (by omega)) dX8_keep_140 (by decide) ?_ ?_
    · intro c_140_t
      exfalso; omega
    · intro c_140_f
      refine e_aload_n (i := 0) dX8_keep_143 rfl rfl ?_
      refine e_getR (r := 31) dX8_keep_144 fl_X8_19 sh_10 fj_10_4 ?_
      refine e_iload dX8_keep_147 rfl ?_
      refine e_dup2 dX8_keep_149 ?_
      refine e_iald (x := nI (pOf (lT pd n) (aFs pd m) i - m)) dX8_keep_150 sh_31 (vin_ofX (X := ((40 * p0 + m : Nat) : Int)) (nI_toInt (by omega)) (by omega) (by omega)) (by rw [nI_clamp (by omega)]; exact r1) ?_
      refine e_aload_n (i := 0) dX8_keep_151 rfl rfl ?_
      refine e_getR (r := 31) dX8_keep_152 fl_X8_19 sh_10 fj_10_4 ?_
      refine e_iload dX8_keep_155 rfl ?_
      refine e_aload_n (i := 0) dX8_keep_157 rfl rfl ?_
      refine e_getR (r := 31) dX8_keep_158 fl_X8_19 sh_10 fj_10_4 ?_
      refine e_iload dX8_keep_161 rfl ?_
      refine e_iald (x := nI (pOf (lT pd n) (aFs pd m) i - m)) dX8_keep_163 sh_31 (vin_ofX (X := ((40 * p0 + m : Nat) : Int)) (nI_toInt (by omega)) (by omega) (by omega)) (by rw [nI_clamp (by omega)]; exact r1) ?_
      refine z_iadd (z := nI (40 * p0 + pOf (lT pd n) (aFs pd m) i)) (by rw [nI_add]; congr 1; omega) dX8_keep_164 ?_
      refine e_iald (x := nI (lT pd n (pOf (lT pd n) (aFs pd m) i))) dX8_keep_165 sh_31 (vin_ofX (X := ((40 * p0 + pOf (lT pd n) (aFs pd m) i : Nat) : Int)) (nI_toInt (by omega)) (by omega) (by omega)) (by rw [nI_clamp (by omega)]; exact r2) ?_
      refine z_iadd (z := nI (pOf (lT pd n) (aFs pd m) (i + 1) - m)) (by rw [nI_add]; congr 1; omega) dX8_keep_166 ?_
      refine e_iast dX8_keep_167 sh_31 (vin_ofX (X := ((40 * p0 + m : Nat) : Int)) (nI_toInt (by omega)) (by omega) (by omega)) ?_
      rw [nI_clamp (by omega)]
      refine e_iinc (v := nI (i + 1)) (ls2 := [some (.inr 10), some (.inl (nI p0)), some (.inl (nI n)), some (.inl (nI m)), some (.inl (nI (40 * p0 + m))), y5, some (.inl (nI own)), some (.inl (nI (i + 1)))]) dX8_keep_168 rfl (nI_inc1 _) (Nat.le_of_ble_eq_true rfl) rfl ?_
      refine e_goto (tgt := 136) dX8_keep_171 (by decide) ?_
      have e : upd (upd f (40 * p0 + m) (nI (pOf (lT pd n) (aFs pd m) i - m))) (40 * p0 + m) (nI (pOf (lT pd n) (aFs pd m) (i + 1) - m)) = upd f (40 * p0 + m) (nI (pOf (lT pd n) (aFs pd m) (i + 1) - m)) := by
        funext q
        by_cases z : q = 40 * p0 + m
        · subst z; rw [pk_us, pk_us]
        · rw [pk_un z, pk_un z, pk_un z]
      rw [hr_hs, e]
      exact ih (i + 1) (by omega)
theorem mP_own {x : Int} (h : 0 ≤ aOf x) : mP x 1 = nI (aOf x).toNat := by
  rcases aOf_cases x with z | z | z | z | z
  · rw [z]
    have hx : (48 ≤ x ∧ x ≤ 55) ∨ x = 120 := by
      by_cases q : x = 120
      · exact Or.inr q
      · exact Or.inl (aOf_0 z q)
    unfold mP
    rw [if_neg (by omega), if_neg (by omega), if_neg (by omega), if_pos hx]
    rfl
  · rcases aOf_1 z with rfl | rfl | rfl | rfl | rfl <;> decide
  · rcases aOf_2 z with rfl | rfl | rfl | rfl <;> decide
  · rw [aOf_3 z]; decide
  · omega
theorem k_M_partsX (l : Launch) (h : mH) (x : Int32) (hx : 0 ≤ aOf x.toInt) : mD l Sh0 iX8_partsOf [.inl x, .inl 1] h (some (nI (aOf x.toInt).toNat)) h := by
  have q := k_M_partsOf l h x 1
  rw [show (1 : Int32).toInt = 1 from by decide, mP_own hx] at q
  exact q
set_option maxHeartbeats 2000000 in
theorem lp_M_keep2 (l : Launch) (h : mH) (pd : Nat → Int32) (n p0 : Nat) (g : Int) (hn : n ≤ 40) (hp0 : p0 < 20) (hpd : ∀ i, i < n → h 28 i = pd i) (ok : ∀ j, j < n → tOk pd n g j) (g31 : Nat → Int32) (RT : Option Int32 → mH → Prop) (hR : ∀ f, (∀ j, j < n → f (40 * p0 + j) = nI (lT pd n j)) → (∀ q, ¬ (q / 40 = p0 ∧ q % 40 < n) → f q = g31 q) → RT (some (nI n)) (hs (hr h 31 f) 10 0 0)) : ∀ (m : Nat) (f : Nat → Int32) (y4 y5 y6 y7 : Option mV), m ≤ n → (∀ j, m ≤ j → j < n → f (40 * p0 + j) = nI (lT pd n j)) → (∀ q, ¬ (q / 40 = p0 ∧ q % 40 < n) → f q = g31 q) → mE l Sh0 none iX8_keep RT 46 [some (.inr 10), some (.inl (nI p0)), some (.inl (nI n)), some (.inl (dn m)), y4, y5, y6, y7] [] (hr h 31 f) := by
  intro m
  induction m with
  | zero =>
    intro f y4 y5 y6 y7 hm hj hq
    rw [dn_0]
    refine e_iload_n (i := 3) dX8_keep_46 rfl rfl ?_
    refine b_if_lt (X := (-1)) (tgt := 180) (by decide) dX8_keep_47 (by decide) ?_ ?_
    · intro c_47_t
      refine e_aload_n (i := 0) dX8_keep_180 rfl rfl ?_
      refine e_iconst (v := 0) dX8_keep_181 (by decide) ?_
      refine e_putI dX8_keep_182 fl_X8_89 fp_X8_0 sh_10 fj_10_0 ?_
      refine e_iload_n (i := 2) dX8_keep_185 rfl rfl ?_
      refine e_iret dX8_keep_186 (mret_i _) ?_
      exact hR f (fun j hj2 => hj j (Nat.zero_le _) hj2) hq
    · intro c_47_f
      exfalso; omega
  | succ m ih =>
    intro f y4 y5 y6 y7 hm hj hq
    rw [dn_s]
    obtain ⟨a1, a2, a3, a4⟩ := tAll ok (show m < n by omega)
    have hL := lT_eq (pd := pd) (show m < n by omega)
    have hgt := aFs_gt pd m
    have ho : (aOf (pd m).toInt).toNat ≤ 3 := by have := aOf_le (pd m).toInt; omega
    have fin : ∀ (y5 y6 y7 : Option mV), mE l Sh0 none iX8_keep RT 174 [some (.inr 10), some (.inl (nI p0)), some (.inl (nI n)), some (.inl (nI m)), some (.inl (nI (40 * p0 + m))), y5, y6, y7] [] (hr h 31 (upd f (40 * p0 + m) (nI (lT pd n m)))) := by
      intro y5 y6 y7
      refine e_iinc (v := dn m) (ls2 := [some (.inr 10), some (.inl (nI p0)), some (.inl (nI n)), some (.inl (dn m)), some (.inl (nI (40 * p0 + m))), y5, y6, y7]) dX8_keep_174 rfl (dn_dec _) (Nat.le_of_ble_eq_true rfl) rfl ?_
      refine e_goto (tgt := 46) dX8_keep_177 (by decide) ?_
      refine ih _ _ _ _ _ (by omega) (fun j j1 j2 => ?_) (fun q hqq => ?_)
      · by_cases ej : j = m
        · subst ej; exact pk_us
        · rw [pk_un (by omega)]; exact hj j (by omega) j2
      · rw [pk_un (by intro z; apply hqq; omega)]; exact hq q hqq
    by_cases hV : tV pd m
    · by_cases h64 : (pd m).toInt = 64
      · refine e_iload_n (i := 3) dX8_keep_46 rfl rfl ?_
        refine b_if_lt (X := ((m : Nat) : Int)) (tgt := 180) (nI_toInt (by omega)) dX8_keep_47 (by decide) ?_ ?_
        · intro c_47_t
          exfalso; omega
        · intro c_47_f
          refine e_bipush (v := 40) dX8_keep_50 (by decide) ?_
          refine e_iload_n (i := 1) dX8_keep_52 rfl rfl ?_
          refine z_imul (z := nI (40 * p0)) (nI_mulcl 40 _) dX8_keep_53 ?_
          refine e_iload_n (i := 3) dX8_keep_54 rfl rfl ?_
          refine z_iadd (z := nI (40 * p0 + m)) (nI_add _ _) dX8_keep_55 ?_
          refine e_istore (ls2 := [some (.inr 10), some (.inl (nI p0)), some (.inl (nI n)), some (.inl (nI m)), some (.inl (nI (40 * p0 + m))), y5, y6, y7]) dX8_keep_56 (Nat.le_of_ble_eq_true rfl) rfl ?_
          refine e_iload_n (i := 3) dX8_keep_58 rfl rfl ?_
          refine b_if_le (X := ((m : Nat) : Int)) (tgt := 79) (nI_toInt (by omega)) dX8_keep_59 (by decide) ?_ ?_
          · intro c_59_t
            refine e_iconst (v := 0) dX8_keep_79 (by decide) ?_
            refine e_istore (ls2 := [some (.inr 10), some (.inl (nI p0)), some (.inl (nI n)), some (.inl (nI m)), some (.inl (nI (40 * p0 + m))), some (.inl 0), y6, y7]) dX8_keep_80 (Nat.le_of_ble_eq_true rfl) rfl ?_
            refine e_aload_n (i := 0) dX8_keep_82 rfl rfl ?_
            refine e_getR (r := 31) dX8_keep_83 fl_X8_19 sh_10 fj_10_4 ?_
            refine e_iload dX8_keep_86 rfl ?_
            refine e_iconst (v := 1) dX8_keep_88 (by decide) ?_
            refine e_aload_n (i := 0) dX8_keep_89 rfl rfl ?_
            refine e_getR (r := 28) dX8_keep_90 fl_X8_7 sh_10 fj_10_1 ?_
            refine e_iload_n (i := 3) dX8_keep_93 rfl rfl ?_
            refine e_iald (x := pd m) dX8_keep_94 sh_28 (vin_ofX (X := ((m : Nat) : Int)) (nI_toInt (by omega)) (by omega) (by omega)) (by rw [nI_clamp (by omega)]; exact (hpd m (by omega))) ?_
            refine e_bipush (v := 64) dX8_keep_95 (by decide) ?_
            refine b_icmp_ne (X := (pd m).toInt) (Y := 64) (tgt := 109) rfl (by decide) dX8_keep_97 (by decide) ?_ ?_
            · intro e_97_t c_97_t
              exact absurd h64 c_97_t
            · intro e_97_f c_97_f
              refine e_iload dX8_keep_100 rfl ?_
              refine b_if_ne (X := 0) (tgt := 109) (by decide) dX8_keep_102 (by decide) ?_ ?_
              · intro e_102_t c_102_t
                exfalso; omega
              · intro e_102_f c_102_f
                refine e_iconst (v := 1) dX8_keep_105 (by decide) ?_
                refine e_goto (tgt := 110) dX8_keep_106 (by decide) ?_
                refine z_iadd (z := nI 2) (by decide) dX8_keep_110 ?_
                refine e_iast dX8_keep_111 sh_31 (vin_ofX (X := ((40 * p0 + m : Nat) : Int)) (nI_toInt (by omega)) (by omega) (by omega)) ?_
                rw [nI_clamp (by omega)]
                refine e_iload dX8_keep_112 rfl ?_
                refine b_if_eq (X := 0) (tgt := 121) (by decide) dX8_keep_114 (by decide) ?_ ?_
                · intro e_114_t c_114_t
                  refine e_aload_n (i := 0) dX8_keep_121 rfl rfl ?_
                  refine e_getR (r := 28) dX8_keep_122 fl_X8_7 sh_10 fj_10_1 ?_
                  refine e_iload_n (i := 3) dX8_keep_125 rfl rfl ?_
                  refine e_iald (x := pd m) dX8_keep_126 sh_28 (vin_ofX (X := ((m : Nat) : Int)) (nI_toInt (by omega)) (by omega) (by omega)) (by rw [nI_clamp (by omega)]; exact (hpd m (by omega))) ?_
                  refine e_iconst (v := 1) dX8_keep_127 (by decide) ?_
                  refine e_invSi (As := [.inl (pd m), .inl 1]) (v := nI ((aOf (pd m).toInt).toNat)) (h2 := (hs (hr h 31 f) 31 (40 * p0 + m) (nI 2))) dX8_keep_128 lk_X8_93 ys_X8_partsOf rfl rfl rfl (Nat.le_of_ble_eq_true rfl) (Nat.le_of_ble_eq_true rfl) ⟨Nat.le_of_ble_eq_true rfl, Nat.le_of_ble_eq_true rfl⟩ (k_M_partsX l (hs (hr h 31 f) 31 (40 * p0 + m) (nI 2)) (pd m) a1) ?_
                  refine e_istore (ls2 := [some (.inr 10), some (.inl (nI p0)), some (.inl (nI n)), some (.inl (nI m)), some (.inl (nI (40 * p0 + m))), some (.inl 0), some (.inl (nI ((aOf (pd m).toInt).toNat))), y7]) dX8_keep_131 (Nat.le_of_ble_eq_true rfl) rfl ?_
                  refine e_iconst (v := 0) dX8_keep_133 (by decide) ?_
                  refine e_istore (ls2 := [some (.inr 10), some (.inl (nI p0)), some (.inl (nI n)), some (.inl (nI m)), some (.inl (nI (40 * p0 + m))), some (.inl 0), some (.inl (nI ((aOf (pd m).toInt).toNat))), some (.inl 0)]) dX8_keep_134 (Nat.le_of_ble_eq_true rfl) rfl ?_
                  rw [hr_hs]
                  have hfs : aFs pd m = m + 2 := by unfold aFs; rw [if_pos h64]
                  have q := lp_M_keep3 l h pd n p0 m (aOf (pd m).toInt).toNat hn hp0 (by omega) ho f a2 (fun j j1 j2 => hj j (by omega) j2) (by omega) (some (.inl 0)) RT (by rw [← hL, Nat.add_sub_cancel_left]; exact fin _ _ _) _ 0 (Nat.zero_add _)
                  rw [show pOf (lT pd n) (aFs pd m) 0 - m = 2 from by show aFs pd m - m = 2; omega] at q
                  exact q
                · intro e_114_f c_114_f
                  exfalso; omega
          · intro c_59_f
            refine e_aload_n (i := 0) dX8_keep_62 rfl rfl ?_
            refine e_getR (r := 28) dX8_keep_63 fl_X8_7 sh_10 fj_10_1 ?_
            refine e_iload_n (i := 3) dX8_keep_66 rfl rfl ?_
            refine e_iconst (v := 1) dX8_keep_67 (by decide) ?_
            refine z_isub (z := nI (m - 1)) (nI_subc 1 (by omega)) dX8_keep_68 ?_
            refine e_iald (x := pd (m - 1)) dX8_keep_69 sh_28 (vin_ofX (X := ((m - 1 : Nat) : Int)) (nI_toInt (by omega)) (by omega) (by omega)) (by rw [nI_clamp (by omega)]; exact (hpd (m - 1) (by omega))) ?_
            refine e_bipush (v := 64) dX8_keep_70 (by decide) ?_
            refine b_icmp_ne (X := (pd (m - 1)).toInt) (Y := 64) (tgt := 79) rfl (by decide) dX8_keep_72 (by decide) ?_ ?_
            · intro e_72_t c_72_t
              refine e_iconst (v := 0) dX8_keep_79 (by decide) ?_
              refine e_istore (ls2 := [some (.inr 10), some (.inl (nI p0)), some (.inl (nI n)), some (.inl (nI m)), some (.inl (nI (40 * p0 + m))), some (.inl 0), y6, y7]) dX8_keep_80 (Nat.le_of_ble_eq_true rfl) rfl ?_
              refine e_aload_n (i := 0) dX8_keep_82 rfl rfl ?_
              refine e_getR (r := 31) dX8_keep_83 fl_X8_19 sh_10 fj_10_4 ?_
              refine e_iload dX8_keep_86 rfl ?_
              refine e_iconst (v := 1) dX8_keep_88 (by decide) ?_
              refine e_aload_n (i := 0) dX8_keep_89 rfl rfl ?_
              refine e_getR (r := 28) dX8_keep_90 fl_X8_7 sh_10 fj_10_1 ?_
              refine e_iload_n (i := 3) dX8_keep_93 rfl rfl ?_
              refine e_iald (x := pd m) dX8_keep_94 sh_28 (vin_ofX (X := ((m : Nat) : Int)) (nI_toInt (by omega)) (by omega) (by omega)) (by rw [nI_clamp (by omega)]; exact (hpd m (by omega))) ?_
              refine e_bipush (v := 64) dX8_keep_95 (by decide) ?_
              refine b_icmp_ne (X := (pd m).toInt) (Y := 64) (tgt := 109) rfl (by decide) dX8_keep_97 (by decide) ?_ ?_
              · intro e_97_t c_97_t
                exact absurd h64 c_97_t
              · intro e_97_f c_97_f
                refine e_iload dX8_keep_100 rfl ?_
                refine b_if_ne (X := 0) (tgt := 109) (by decide) dX8_keep_102 (by decide) ?_ ?_
                · intro e_102_t c_102_t
                  exfalso; omega
                · intro e_102_f c_102_f
                  refine e_iconst (v := 1) dX8_keep_105 (by decide) ?_
                  refine e_goto (tgt := 110) dX8_keep_106 (by decide) ?_
                  refine z_iadd (z := nI 2) (by decide) dX8_keep_110 ?_
                  refine e_iast dX8_keep_111 sh_31 (vin_ofX (X := ((40 * p0 + m : Nat) : Int)) (nI_toInt (by omega)) (by omega) (by omega)) ?_
                  rw [nI_clamp (by omega)]
                  refine e_iload dX8_keep_112 rfl ?_
                  refine b_if_eq (X := 0) (tgt := 121) (by decide) dX8_keep_114 (by decide) ?_ ?_
                  · intro e_114_t c_114_t
                    refine e_aload_n (i := 0) dX8_keep_121 rfl rfl ?_
                    refine e_getR (r := 28) dX8_keep_122 fl_X8_7 sh_10 fj_10_1 ?_
                    refine e_iload_n (i := 3) dX8_keep_125 rfl rfl ?_
                    refine e_iald (x := pd m) dX8_keep_126 sh_28 (vin_ofX (X := ((m : Nat) : Int)) (nI_toInt (by omega)) (by omega) (by omega)) (by rw [nI_clamp (by omega)]; exact (hpd m (by omega))) ?_
                    refine e_iconst (v := 1) dX8_keep_127 (by decide) ?_
                    refine e_invSi (As := [.inl (pd m), .inl 1]) (v := nI ((aOf (pd m).toInt).toNat)) (h2 := (hs (hr h 31 f) 31 (40 * p0 + m) (nI 2))) dX8_keep_128 lk_X8_93 ys_X8_partsOf rfl rfl rfl (Nat.le_of_ble_eq_true rfl) (Nat.le_of_ble_eq_true rfl) ⟨Nat.le_of_ble_eq_true rfl, Nat.le_of_ble_eq_true rfl⟩ (k_M_partsX l (hs (hr h 31 f) 31 (40 * p0 + m) (nI 2)) (pd m) a1) ?_
                    refine e_istore (ls2 := [some (.inr 10), some (.inl (nI p0)), some (.inl (nI n)), some (.inl (nI m)), some (.inl (nI (40 * p0 + m))), some (.inl 0), some (.inl (nI ((aOf (pd m).toInt).toNat))), y7]) dX8_keep_131 (Nat.le_of_ble_eq_true rfl) rfl ?_
                    refine e_iconst (v := 0) dX8_keep_133 (by decide) ?_
                    refine e_istore (ls2 := [some (.inr 10), some (.inl (nI p0)), some (.inl (nI n)), some (.inl (nI m)), some (.inl (nI (40 * p0 + m))), some (.inl 0), some (.inl (nI ((aOf (pd m).toInt).toNat))), some (.inl 0)]) dX8_keep_134 (Nat.le_of_ble_eq_true rfl) rfl ?_
                    rw [hr_hs]
                    have hfs : aFs pd m = m + 2 := by unfold aFs; rw [if_pos h64]
                    have q := lp_M_keep3 l h pd n p0 m (aOf (pd m).toInt).toNat hn hp0 (by omega) ho f a2 (fun j j1 j2 => hj j (by omega) j2) (by omega) (some (.inl 0)) RT (by rw [← hL, Nat.add_sub_cancel_left]; exact fin _ _ _) _ 0 (Nat.zero_add _)
                    rw [show pOf (lT pd n) (aFs pd m) 0 - m = 2 from by show aFs pd m - m = 2; omega] at q
                    exact q
                  · intro e_114_f c_114_f
                    exfalso; omega
            · intro e_72_f c_72_f
              exact absurd ⟨by omega, c_72_f⟩ hV
      · refine e_iload_n (i := 3) dX8_keep_46 rfl rfl ?_
        refine b_if_lt (X := ((m : Nat) : Int)) (tgt := 180) (nI_toInt (by omega)) dX8_keep_47 (by decide) ?_ ?_
        · intro c_47_t
          exfalso; omega
        · intro c_47_f
          refine e_bipush (v := 40) dX8_keep_50 (by decide) ?_
          refine e_iload_n (i := 1) dX8_keep_52 rfl rfl ?_
          refine z_imul (z := nI (40 * p0)) (nI_mulcl 40 _) dX8_keep_53 ?_
          refine e_iload_n (i := 3) dX8_keep_54 rfl rfl ?_
          refine z_iadd (z := nI (40 * p0 + m)) (nI_add _ _) dX8_keep_55 ?_
          refine e_istore (ls2 := [some (.inr 10), some (.inl (nI p0)), some (.inl (nI n)), some (.inl (nI m)), some (.inl (nI (40 * p0 + m))), y5, y6, y7]) dX8_keep_56 (Nat.le_of_ble_eq_true rfl) rfl ?_
          refine e_iload_n (i := 3) dX8_keep_58 rfl rfl ?_
          refine b_if_le (X := ((m : Nat) : Int)) (tgt := 79) (nI_toInt (by omega)) dX8_keep_59 (by decide) ?_ ?_
          · intro c_59_t
            refine e_iconst (v := 0) dX8_keep_79 (by decide) ?_
            refine e_istore (ls2 := [some (.inr 10), some (.inl (nI p0)), some (.inl (nI n)), some (.inl (nI m)), some (.inl (nI (40 * p0 + m))), some (.inl 0), y6, y7]) dX8_keep_80 (Nat.le_of_ble_eq_true rfl) rfl ?_
            refine e_aload_n (i := 0) dX8_keep_82 rfl rfl ?_
            refine e_getR (r := 31) dX8_keep_83 fl_X8_19 sh_10 fj_10_4 ?_
            refine e_iload dX8_keep_86 rfl ?_
            refine e_iconst (v := 1) dX8_keep_88 (by decide) ?_
            refine e_aload_n (i := 0) dX8_keep_89 rfl rfl ?_
            refine e_getR (r := 28) dX8_keep_90 fl_X8_7 sh_10 fj_10_1 ?_
            refine e_iload_n (i := 3) dX8_keep_93 rfl rfl ?_
            refine e_iald (x := pd m) dX8_keep_94 sh_28 (vin_ofX (X := ((m : Nat) : Int)) (nI_toInt (by omega)) (by omega) (by omega)) (by rw [nI_clamp (by omega)]; exact (hpd m (by omega))) ?_
            refine e_bipush (v := 64) dX8_keep_95 (by decide) ?_
            refine b_icmp_ne (X := (pd m).toInt) (Y := 64) (tgt := 109) rfl (by decide) dX8_keep_97 (by decide) ?_ ?_
            · intro e_97_t c_97_t
              refine e_iconst (v := 0) dX8_keep_109 (by decide) ?_
              refine z_iadd (z := nI 1) (by decide) dX8_keep_110 ?_
              refine e_iast dX8_keep_111 sh_31 (vin_ofX (X := ((40 * p0 + m : Nat) : Int)) (nI_toInt (by omega)) (by omega) (by omega)) ?_
              rw [nI_clamp (by omega)]
              refine e_iload dX8_keep_112 rfl ?_
              refine b_if_eq (X := 0) (tgt := 121) (by decide) dX8_keep_114 (by decide) ?_ ?_
              · intro e_114_t c_114_t
                refine e_aload_n (i := 0) dX8_keep_121 rfl rfl ?_
                refine e_getR (r := 28) dX8_keep_122 fl_X8_7 sh_10 fj_10_1 ?_
                refine e_iload_n (i := 3) dX8_keep_125 rfl rfl ?_
                refine e_iald (x := pd m) dX8_keep_126 sh_28 (vin_ofX (X := ((m : Nat) : Int)) (nI_toInt (by omega)) (by omega) (by omega)) (by rw [nI_clamp (by omega)]; exact (hpd m (by omega))) ?_
                refine e_iconst (v := 1) dX8_keep_127 (by decide) ?_
                refine e_invSi (As := [.inl (pd m), .inl 1]) (v := nI ((aOf (pd m).toInt).toNat)) (h2 := (hs (hr h 31 f) 31 (40 * p0 + m) (nI 1))) dX8_keep_128 lk_X8_93 ys_X8_partsOf rfl rfl rfl (Nat.le_of_ble_eq_true rfl) (Nat.le_of_ble_eq_true rfl) ⟨Nat.le_of_ble_eq_true rfl, Nat.le_of_ble_eq_true rfl⟩ (k_M_partsX l (hs (hr h 31 f) 31 (40 * p0 + m) (nI 1)) (pd m) a1) ?_
                refine e_istore (ls2 := [some (.inr 10), some (.inl (nI p0)), some (.inl (nI n)), some (.inl (nI m)), some (.inl (nI (40 * p0 + m))), some (.inl 0), some (.inl (nI ((aOf (pd m).toInt).toNat))), y7]) dX8_keep_131 (Nat.le_of_ble_eq_true rfl) rfl ?_
                refine e_iconst (v := 0) dX8_keep_133 (by decide) ?_
                refine e_istore (ls2 := [some (.inr 10), some (.inl (nI p0)), some (.inl (nI n)), some (.inl (nI m)), some (.inl (nI (40 * p0 + m))), some (.inl 0), some (.inl (nI ((aOf (pd m).toInt).toNat))), some (.inl 0)]) dX8_keep_134 (Nat.le_of_ble_eq_true rfl) rfl ?_
                rw [hr_hs]
                have hfs : aFs pd m = m + 1 := by unfold aFs; rw [if_neg h64]
                have q := lp_M_keep3 l h pd n p0 m (aOf (pd m).toInt).toNat hn hp0 (by omega) ho f a2 (fun j j1 j2 => hj j (by omega) j2) (by omega) (some (.inl 0)) RT (by rw [← hL, Nat.add_sub_cancel_left]; exact fin _ _ _) _ 0 (Nat.zero_add _)
                rw [show pOf (lT pd n) (aFs pd m) 0 - m = 1 from by show aFs pd m - m = 1; omega] at q
                exact q
              · intro e_114_f c_114_f
                exfalso; omega
            · intro e_97_f c_97_f
              exact absurd c_97_f h64
          · intro c_59_f
            refine e_aload_n (i := 0) dX8_keep_62 rfl rfl ?_
            refine e_getR (r := 28) dX8_keep_63 fl_X8_7 sh_10 fj_10_1 ?_
            refine e_iload_n (i := 3) dX8_keep_66 rfl rfl ?_
            refine e_iconst (v := 1) dX8_keep_67 (by decide) ?_
            refine z_isub (z := nI (m - 1)) (nI_subc 1 (by omega)) dX8_keep_68 ?_
            refine e_iald (x := pd (m - 1)) dX8_keep_69 sh_28 (vin_ofX (X := ((m - 1 : Nat) : Int)) (nI_toInt (by omega)) (by omega) (by omega)) (by rw [nI_clamp (by omega)]; exact (hpd (m - 1) (by omega))) ?_
            refine e_bipush (v := 64) dX8_keep_70 (by decide) ?_
            refine b_icmp_ne (X := (pd (m - 1)).toInt) (Y := 64) (tgt := 79) rfl (by decide) dX8_keep_72 (by decide) ?_ ?_
            · intro e_72_t c_72_t
              refine e_iconst (v := 0) dX8_keep_79 (by decide) ?_
              refine e_istore (ls2 := [some (.inr 10), some (.inl (nI p0)), some (.inl (nI n)), some (.inl (nI m)), some (.inl (nI (40 * p0 + m))), some (.inl 0), y6, y7]) dX8_keep_80 (Nat.le_of_ble_eq_true rfl) rfl ?_
              refine e_aload_n (i := 0) dX8_keep_82 rfl rfl ?_
              refine e_getR (r := 31) dX8_keep_83 fl_X8_19 sh_10 fj_10_4 ?_
              refine e_iload dX8_keep_86 rfl ?_
              refine e_iconst (v := 1) dX8_keep_88 (by decide) ?_
              refine e_aload_n (i := 0) dX8_keep_89 rfl rfl ?_
              refine e_getR (r := 28) dX8_keep_90 fl_X8_7 sh_10 fj_10_1 ?_
              refine e_iload_n (i := 3) dX8_keep_93 rfl rfl ?_
              refine e_iald (x := pd m) dX8_keep_94 sh_28 (vin_ofX (X := ((m : Nat) : Int)) (nI_toInt (by omega)) (by omega) (by omega)) (by rw [nI_clamp (by omega)]; exact (hpd m (by omega))) ?_
              refine e_bipush (v := 64) dX8_keep_95 (by decide) ?_
              refine b_icmp_ne (X := (pd m).toInt) (Y := 64) (tgt := 109) rfl (by decide) dX8_keep_97 (by decide) ?_ ?_
              · intro e_97_t c_97_t
                refine e_iconst (v := 0) dX8_keep_109 (by decide) ?_
                refine z_iadd (z := nI 1) (by decide) dX8_keep_110 ?_
                refine e_iast dX8_keep_111 sh_31 (vin_ofX (X := ((40 * p0 + m : Nat) : Int)) (nI_toInt (by omega)) (by omega) (by omega)) ?_
                rw [nI_clamp (by omega)]
                refine e_iload dX8_keep_112 rfl ?_
                refine b_if_eq (X := 0) (tgt := 121) (by decide) dX8_keep_114 (by decide) ?_ ?_
                · intro e_114_t c_114_t
                  refine e_aload_n (i := 0) dX8_keep_121 rfl rfl ?_
                  refine e_getR (r := 28) dX8_keep_122 fl_X8_7 sh_10 fj_10_1 ?_
                  refine e_iload_n (i := 3) dX8_keep_125 rfl rfl ?_
                  refine e_iald (x := pd m) dX8_keep_126 sh_28 (vin_ofX (X := ((m : Nat) : Int)) (nI_toInt (by omega)) (by omega) (by omega)) (by rw [nI_clamp (by omega)]; exact (hpd m (by omega))) ?_
                  refine e_iconst (v := 1) dX8_keep_127 (by decide) ?_
                  refine e_invSi (As := [.inl (pd m), .inl 1]) (v := nI ((aOf (pd m).toInt).toNat)) (h2 := (hs (hr h 31 f) 31 (40 * p0 + m) (nI 1))) dX8_keep_128 lk_X8_93 ys_X8_partsOf rfl rfl rfl (Nat.le_of_ble_eq_true rfl) (Nat.le_of_ble_eq_true rfl) ⟨Nat.le_of_ble_eq_true rfl, Nat.le_of_ble_eq_true rfl⟩ (k_M_partsX l (hs (hr h 31 f) 31 (40 * p0 + m) (nI 1)) (pd m) a1) ?_
                  refine e_istore (ls2 := [some (.inr 10), some (.inl (nI p0)), some (.inl (nI n)), some (.inl (nI m)), some (.inl (nI (40 * p0 + m))), some (.inl 0), some (.inl (nI ((aOf (pd m).toInt).toNat))), y7]) dX8_keep_131 (Nat.le_of_ble_eq_true rfl) rfl ?_
                  refine e_iconst (v := 0) dX8_keep_133 (by decide) ?_
                  refine e_istore (ls2 := [some (.inr 10), some (.inl (nI p0)), some (.inl (nI n)), some (.inl (nI m)), some (.inl (nI (40 * p0 + m))), some (.inl 0), some (.inl (nI ((aOf (pd m).toInt).toNat))), some (.inl 0)]) dX8_keep_134 (Nat.le_of_ble_eq_true rfl) rfl ?_
                  rw [hr_hs]
                  have hfs : aFs pd m = m + 1 := by unfold aFs; rw [if_neg h64]
                  have q := lp_M_keep3 l h pd n p0 m (aOf (pd m).toInt).toNat hn hp0 (by omega) ho f a2 (fun j j1 j2 => hj j (by omega) j2) (by omega) (some (.inl 0)) RT (by rw [← hL, Nat.add_sub_cancel_left]; exact fin _ _ _) _ 0 (Nat.zero_add _)
                  rw [show pOf (lT pd n) (aFs pd m) 0 - m = 1 from by show aFs pd m - m = 1; omega] at q
                  exact q
                · intro e_114_f c_114_f
                  exfalso; omega
              · intro e_97_f c_97_f
                exact absurd c_97_f h64
            · intro e_72_f c_72_f
              exact absurd ⟨by omega, c_72_f⟩ hV
    · have hx : 0 < m ∧ (pd (m - 1)).toInt = 64 := Classical.byContradiction (fun z => hV z)
      obtain ⟨b1, b2, b3⟩ := a3 hV
      refine e_iload_n (i := 3) dX8_keep_46 rfl rfl ?_
      refine b_if_lt (X := ((m : Nat) : Int)) (tgt := 180) (nI_toInt (by omega)) dX8_keep_47 (by decide) ?_ ?_
      · intro c_47_t
        exfalso; omega
      · intro c_47_f
        refine e_bipush (v := 40) dX8_keep_50 (by decide) ?_
        refine e_iload_n (i := 1) dX8_keep_52 rfl rfl ?_
        refine z_imul (z := nI (40 * p0)) (nI_mulcl 40 _) dX8_keep_53 ?_
        refine e_iload_n (i := 3) dX8_keep_54 rfl rfl ?_
        refine z_iadd (z := nI (40 * p0 + m)) (nI_add _ _) dX8_keep_55 ?_
        refine e_istore (ls2 := [some (.inr 10), some (.inl (nI p0)), some (.inl (nI n)), some (.inl (nI m)), some (.inl (nI (40 * p0 + m))), y5, y6, y7]) dX8_keep_56 (Nat.le_of_ble_eq_true rfl) rfl ?_
        refine e_iload_n (i := 3) dX8_keep_58 rfl rfl ?_
        refine b_if_le (X := ((m : Nat) : Int)) (tgt := 79) (nI_toInt (by omega)) dX8_keep_59 (by decide) ?_ ?_
        · intro c_59_t
          exfalso; omega
        · intro c_59_f
          refine e_aload_n (i := 0) dX8_keep_62 rfl rfl ?_
          refine e_getR (r := 28) dX8_keep_63 fl_X8_7 sh_10 fj_10_1 ?_
          refine e_iload_n (i := 3) dX8_keep_66 rfl rfl ?_
          refine e_iconst (v := 1) dX8_keep_67 (by decide) ?_
          refine z_isub (z := nI (m - 1)) (nI_subc 1 (by omega)) dX8_keep_68 ?_
          refine e_iald (x := pd (m - 1)) dX8_keep_69 sh_28 (vin_ofX (X := ((m - 1 : Nat) : Int)) (nI_toInt (by omega)) (by omega) (by omega)) (by rw [nI_clamp (by omega)]; exact (hpd (m - 1) (by omega))) ?_
          refine e_bipush (v := 64) dX8_keep_70 (by decide) ?_
          refine b_icmp_ne (X := (pd (m - 1)).toInt) (Y := 64) (tgt := 79) rfl (by decide) dX8_keep_72 (by decide) ?_ ?_
          · intro e_72_t c_72_t
            exact absurd hx.2 c_72_t
          · intro e_72_f c_72_f
            refine e_iconst (v := 1) dX8_keep_75 (by decide) ?_
            refine e_goto (tgt := 80) dX8_keep_76 (by decide) ?_
            refine e_istore (ls2 := [some (.inr 10), some (.inl (nI p0)), some (.inl (nI n)), some (.inl (nI m)), some (.inl (nI (40 * p0 + m))), some (.inl 1), y6, y7]) dX8_keep_80 (Nat.le_of_ble_eq_true rfl) rfl ?_
            refine e_aload_n (i := 0) dX8_keep_82 rfl rfl ?_
            refine e_getR (r := 31) dX8_keep_83 fl_X8_19 sh_10 fj_10_4 ?_
            refine e_iload dX8_keep_86 rfl ?_
            refine e_iconst (v := 1) dX8_keep_88 (by decide) ?_
            refine e_aload_n (i := 0) dX8_keep_89 rfl rfl ?_
            refine e_getR (r := 28) dX8_keep_90 fl_X8_7 sh_10 fj_10_1 ?_
            refine e_iload_n (i := 3) dX8_keep_93 rfl rfl ?_
            refine e_iald (x := pd m) dX8_keep_94 sh_28 (vin_ofX (X := ((m : Nat) : Int)) (nI_toInt (by omega)) (by omega) (by omega)) (by rw [nI_clamp (by omega)]; exact (hpd m (by omega))) ?_
            refine e_bipush (v := 64) dX8_keep_95 (by decide) ?_
            refine b_icmp_ne (X := (pd m).toInt) (Y := 64) (tgt := 109) rfl (by decide) dX8_keep_97 (by decide) ?_ ?_
            · intro e_97_t c_97_t
              refine e_iconst (v := 0) dX8_keep_109 (by decide) ?_
              refine z_iadd (z := nI 1) (by decide) dX8_keep_110 ?_
              refine e_iast dX8_keep_111 sh_31 (vin_ofX (X := ((40 * p0 + m : Nat) : Int)) (nI_toInt (by omega)) (by omega) (by omega)) ?_
              rw [nI_clamp (by omega)]
              refine e_iload dX8_keep_112 rfl ?_
              refine b_if_eq (X := 1) (tgt := 121) (by decide) dX8_keep_114 (by decide) ?_ ?_
              · intro e_114_t c_114_t
                exfalso; omega
              · intro e_114_f c_114_f
                refine e_iconst (v := 0) dX8_keep_117 (by decide) ?_
                refine e_goto (tgt := 131) dX8_keep_118 (by decide) ?_
                refine e_istore (ls2 := [some (.inr 10), some (.inl (nI p0)), some (.inl (nI n)), some (.inl (nI m)), some (.inl (nI (40 * p0 + m))), some (.inl 1), some (.inl 0), y7]) dX8_keep_131 (Nat.le_of_ble_eq_true rfl) rfl ?_
                refine e_iconst (v := 0) dX8_keep_133 (by decide) ?_
                refine e_istore (ls2 := [some (.inr 10), some (.inl (nI p0)), some (.inl (nI n)), some (.inl (nI m)), some (.inl (nI (40 * p0 + m))), some (.inl 1), some (.inl 0), some (.inl 0)]) dX8_keep_134 (Nat.le_of_ble_eq_true rfl) rfl ?_
                rw [hr_hs]
                have q := lp_M_keep3 l h pd n p0 m 0 hn hp0 (by omega) (by omega) f (fun i hi => absurd hi (Nat.not_lt_zero _)) (fun j j1 j2 => hj j (by omega) j2) (by show aFs pd m ≤ n; rw [b1] at hL; have hL : m + lT pd n m = aFs pd m := hL; omega) (some (.inl 1)) RT (by rw [b1] at hL; have hL : m + lT pd n m = aFs pd m := hL; show mE l Sh0 none iX8_keep RT 174 _ [] (hr h 31 (upd f (40 * p0 + m) (nI (aFs pd m - m)))); rw [← hL, Nat.add_sub_cancel_left]; exact fin _ _ _) _ 0 (Nat.zero_add _)
                rw [show pOf (lT pd n) (aFs pd m) 0 - m = 1 from by show aFs pd m - m = 1; unfold aFs; rw [if_neg b2]; omega] at q
                exact q
            · intro e_97_f c_97_f
              exact absurd c_97_f b2
set_option maxHeartbeats 1000000 in
theorem k_M_keep (l : Launch) (h : mH) (pd : Nat → Int32) (n p0 : Nat) (g : Int) (hn : n ≤ 40) (hp0 : p0 < 20) (hc : h 10 0 = nI n) (hpd : ∀ i, i < n → h 28 i = pd i) (ok : ∀ j, j < n → tOk pd n g j) : mG l Sh0 iX8_keep [.inr 10, .inl (nI p0)] h (fun v h' => v = some (nI n) ∧ ∃ f, h' = hs (hr (hs (hr h 30 (nSg p0 n pd (h 30))) 29 p0 (nI n)) 31 f) 10 0 0 ∧ (∀ j, j < n → f (40 * p0 + j) = nI (lT pd n j)) ∧ (∀ q, ¬ (q / 40 = p0 ∧ q % 40 < n) → f q = h 31 q)) := by
  have k2 : ∀ (RT : Option Int32 → mH → Prop), (∀ f, (∀ j, j < n → f (40 * p0 + j) = nI (lT pd n j)) → (∀ q, ¬ (q / 40 = p0 ∧ q % 40 < n) → f q = h 31 q) → RT (some (nI n)) (hs (hr (hs (hr h 30 (nSg p0 n pd (h 30))) 29 p0 (nI n)) 31 f) 10 0 0)) → mE l Sh0 none iX8_keep RT 46 [some (.inr 10), some (.inl (nI p0)), some (.inl (nI n)), some (.inl (dn n)), none, none, none, none] [] (hs (hr h 30 (nSg p0 n pd (h 30))) 29 p0 (nI n)) := by
    intro RT hR
    have q := lp_M_keep2 l (hs (hr h 30 (nSg p0 n pd (h 30))) 29 p0 (nI n)) pd n p0 g hn hp0 hpd ok (h 31) RT hR n (h 31) none none none none (Nat.le_refl _) (fun j j1 j2 => absurd j1 (by omega)) (fun q _ => rfl)
    have e : hr (hs (hr h 30 (nSg p0 n pd (h 30))) 29 p0 (nI n)) 31 (h 31) = hs (hr h 30 (nSg p0 n pd (h 30))) 29 p0 (nI n) := hr_self _ 31
    rw [e] at q
    exact q
  intro RT hR
  show mE l Sh0 none iX8_keep RT 0 [some (.inr 10), some (.inl (nI p0)), none, none, none, none, none, none] [] h
  refine e_aload_n (i := 0) dX8_keep_0 rfl rfl ?_
  refine e_getI (x := nI n) dX8_keep_1 fl_X8_89 sh_10 fj_10_0 hc ?_
  refine e_istore_n (i := 2) (ls2 := [some (.inr 10), some (.inl (nI p0)), some (.inl (nI n)), none, none, none, none, none]) dX8_keep_4 rfl (Nat.le_of_ble_eq_true rfl) rfl ?_
  refine e_iconst (v := 0) dX8_keep_5 (by decide) ?_
  refine e_istore_n (i := 3) (ls2 := [some (.inr 10), some (.inl (nI p0)), some (.inl (nI n)), some (.inl 0), none, none, none, none]) dX8_keep_6 rfl (Nat.le_of_ble_eq_true rfl) rfl ?_
  have q := lp_M_keep1 l h pd n p0 hn hp0 hpd (h 30) none none none none RT ?_ n 0 (Nat.zero_add _)
  · rw [nSg_0, hr_self] at q
    exact q
  · refine e_aload_n (i := 0) dX8_keep_35 rfl rfl ?_
    refine e_getR (r := 29) dX8_keep_36 fl_X8_13 sh_10 fj_10_2 ?_
    refine e_iload_n (i := 1) dX8_keep_39 rfl rfl ?_
    refine e_iload_n (i := 2) dX8_keep_40 rfl rfl ?_
    refine e_iast dX8_keep_41 sh_29 (vin_ofX (X := ((p0 : Nat) : Int)) (nI_toInt (by omega)) (by omega) (by omega)) ?_
    rw [nI_clamp (by omega)]
    refine e_iload_n (i := 2) dX8_keep_42 rfl rfl ?_
    refine e_iconst (v := 1) dX8_keep_43 (by decide) ?_
    refine z_isub (z := dn n) rfl dX8_keep_44 ?_
    refine e_istore_n (i := 3) (ls2 := [some (.inr 10), some (.inl (nI p0)), some (.inl (nI n)), some (.inl (dn n)), none, none, none, none]) dX8_keep_45 rfl (Nat.le_of_ble_eq_true rfl) rfl ?_
    exact k2 RT (fun f a b => hR _ _ ⟨rfl, f, rfl, a, b⟩)
