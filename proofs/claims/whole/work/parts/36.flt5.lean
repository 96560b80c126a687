/-! The class's fault finder, its loop. -/
theorem k_P_signX (l : Launch) (h : mH) (i n : Nat) (hc : h 1 2 = nI n) (hi : i < n) (hn : n ≤ 40) {s : Int32} (e : h 11 i = s) : mD l Sh0 iX2_sign [.inr 1, .inl (nI i)] h (some s) h := by
  have q := k_P_sign l h i n hc hi hn
  rw [e] at q
  exact q
theorem k_P_canX (l : Launch) (h : mH) (x d g : Int32) {D : Int} (hd : d.toInt = D) {v : Int32} (e : cCan x.toInt D g.toInt = v) : mD l Sh0 iX2_canStand [.inl x, .inl d, .inl g] h (some v) h := by
  have q := k_P_canStand l h x d g
  rw [hd, e] at q
  exact q
theorem k_P_depthX (l : Launch) (h : mH) (d : Nat) (hd : d ≤ 9) {c : Nat → Int32} (hc : h 12 = c) {v : Int32} (e : dNx c (d + 1) = v) : mD l Sh0 iX2_depthOfNext [.inr 1, .inl (nI d)] h (some v) h := by
  have q := k_P_depth l h d hd
  rw [hc, e] at q
  exact q
theorem lp_C_done (l : Launch) (h : mH) (n k : Nat) (hn : n ≤ 40) (hk : k ≤ n) (c0 : h 1 2 = nI n) (gg : Int32) (y4 : Option mV) (RT : Option Int32 → mH → Prop) (hR : ∀ v : Int32, v.toInt = (if k = n then -6 else (k : Int)) → RT (some v) h) : mE l Sh0 none iX2_firstFault RT 11 [some (.inr 1), some (.inl gg), some (.inl (-1)), some (.inl (nI k)), y4] [] h := by
  by_cases hkn : k = n
  · rw [if_pos hkn] at hR
    refine e_iload_n (i := 3) dX2_firstFault_11 rfl rfl ?_
    refine e_aload_n (i := 0) dX2_firstFault_12 rfl rfl ?_
    refine e_getI (x := nI n) dX2_firstFault_13 fl_X2_18 sh_1 fj_1_2 c0 ?_
    refine b_icmp_ge (X := ((k : Nat) : Int)) (Y := ((n : Nat) : Int)) (tgt := 126) (nI_toInt (by omega)) (nI_toInt (by omega)) dX2_firstFault_16 (by decide) ?_ ?_
    · intro c_16_t
      refine e_iload_n (i := 2) dX2_firstFault_126 rfl rfl ?_
      refine b_if_ge (X := (-1)) (tgt := 135) (by decide) dX2_firstFault_127 (by decide) ?_ ?_
      · intro c_127_t
        exfalso; omega
      · intro c_127_f
        refine e_bipush (v := (-6)) dX2_firstFault_130 (by decide) ?_
        refine e_goto (tgt := 139) dX2_firstFault_132 (by decide) ?_
        refine e_iret dX2_firstFault_139 (mret_i _) ?_
        exact hR _ (by decide)
    · intro c_16_f
      exfalso; omega
  · rw [if_neg hkn] at hR
    refine e_iload_n (i := 3) dX2_firstFault_11 rfl rfl ?_
    refine e_aload_n (i := 0) dX2_firstFault_12 rfl rfl ?_
    refine e_getI (x := nI n) dX2_firstFault_13 fl_X2_18 sh_1 fj_1_2 c0 ?_
    refine b_icmp_ge (X := ((k : Nat) : Int)) (Y := ((n : Nat) : Int)) (tgt := 126) (nI_toInt (by omega)) (nI_toInt (by omega)) dX2_firstFault_16 (by decide) ?_ ?_
    · intro c_16_t
      exfalso; omega
    · intro c_16_f
      refine e_iload_n (i := 2) dX2_firstFault_19 rfl rfl ?_
      refine b_if_lt (X := (-1)) (tgt := 42) (by decide) dX2_firstFault_20 (by decide) ?_ ?_
      · intro c_20_t
        refine e_iload_n (i := 3) dX2_firstFault_42 rfl rfl ?_
        refine e_iret dX2_firstFault_43 (mret_i _) ?_
        exact hR _ (nI_toInt (by omega))
      · intro c_20_f
        exfalso; omega
theorem tv_ok : ∀ {st : List Nat}, dOk st → 1 ≤ tv st ∧ tv st ≤ 3
  | [], _ => by decide
  | d :: st, q => q d List.mem_cons_self
set_option maxHeartbeats 4000000 in
theorem lp_C_fault (l : Launch) (h : mH) (pd : Nat → Int32) (n : Nat) (hn : n ≤ 40) (gg : Int32) (m0 : h 1 2 = nI n) (hpd : ∀ i, i < n → h 11 i = pd i) (RT : Option Int32 → mH → Prop) : ∀ (fu k : Nat) (st : List Nat) (c : Nat → Int32) (y4 : Option mV), n < k + fu → k ≤ 41 → dOk st → st.length ≤ 9 → cDu c true st → (∀ v c', v.toInt = ff pd n gg.toInt fu k st → RT (some v) (hr h 12 c')) → mE l Sh0 none iX2_firstFault RT 11 [some (.inr 1), some (.inl gg), some (.inl (nI st.length)), some (.inl (nI k)), y4] [] (hr h 12 c) := by
  intro fu
  induction fu with
  | zero =>
    intro k st c y4 hf hk hok hlen hdu hR
    have c0 : hr h 12 c 1 2 = nI n := m0
    refine e_iload_n (i := 3) dX2_firstFault_11 rfl rfl ?_
    refine e_aload_n (i := 0) dX2_firstFault_12 rfl rfl ?_
    refine e_getI (x := nI n) dX2_firstFault_13 fl_X2_18 sh_1 fj_1_2 c0 ?_
    refine b_icmp_ge (X := ((k : Nat) : Int)) (Y := ((n : Nat) : Int)) (tgt := 126) (nI_toInt (by omega)) (nI_toInt (by omega)) dX2_firstFault_16 (by decide) ?_ ?_
    · intro c_16_t
      refine e_iload_n (i := 2) dX2_firstFault_126 rfl rfl ?_
      refine b_if_ge (X := ((st.length : Nat) : Int)) (tgt := 135) (nI_toInt (by omega)) dX2_firstFault_127 (by decide) ?_ ?_
      · intro c_127_t
        refine e_aload_n (i := 0) dX2_firstFault_135 rfl rfl ?_
        refine e_getI (x := nI n) dX2_firstFault_136 fl_X2_18 sh_1 fj_1_2 c0 ?_
        refine e_iret dX2_firstFault_139 (mret_i _) ?_
        exact hR _ _ (by rw [nI_toInt (by omega)]; rfl)
      · intro c_127_f
        exfalso; omega
    · intro c_16_f
      exfalso; omega
  | succ fu ih =>
    intro k st c y4 hf hk hok hlen hdu hR
    have c0 : hr h 12 c 1 2 = nI n := m0
    obtain ⟨tv1, tv2⟩ := tv_ok hok
    by_cases hkn : n ≤ k
    · have e : ff pd n gg.toInt (fu + 1) k st = n := by unfold ff; rw [if_pos hkn]
      refine e_iload_n (i := 3) dX2_firstFault_11 rfl rfl ?_
      refine e_aload_n (i := 0) dX2_firstFault_12 rfl rfl ?_
      refine e_getI (x := nI n) dX2_firstFault_13 fl_X2_18 sh_1 fj_1_2 c0 ?_
      refine b_icmp_ge (X := ((k : Nat) : Int)) (Y := ((n : Nat) : Int)) (tgt := 126) (nI_toInt (by omega)) (nI_toInt (by omega)) dX2_firstFault_16 (by decide) ?_ ?_
      · intro c_16_t
        refine e_iload_n (i := 2) dX2_firstFault_126 rfl rfl ?_
        refine b_if_ge (X := ((st.length : Nat) : Int)) (tgt := 135) (nI_toInt (by omega)) dX2_firstFault_127 (by decide) ?_ ?_
        · intro c_127_t
          refine e_aload_n (i := 0) dX2_firstFault_135 rfl rfl ?_
          refine e_getI (x := nI n) dX2_firstFault_136 fl_X2_18 sh_1 fj_1_2 c0 ?_
          refine e_iret dX2_firstFault_139 (mret_i _) ?_
          exact hR _ _ (by rw [nI_toInt (by omega), e])
        · intro c_127_f
          exfalso; omega
      · intro c_16_f
        exfalso; omega
    · have c28 : hr h 12 c 11 k = pd k := hpd k (by omega)
      have ctv : hr h 12 c 12 st.length = nI (tv st) := by rw [hr_at]; exact cDu_tv hdu
      have hdec := cDu_dec hdu
      have hP4 : (mP (pd k).toInt gg.toInt).toInt = 2 ∨ (mP (pd k).toInt gg.toInt).toInt = 3 ∨ (mP (pd k).toInt gg.toInt).toInt = 1 ∨ (mP (pd k).toInt gg.toInt).toInt = 0 ∨ (mP (pd k).toInt gg.toInt).toInt = -6 := by
        rcases mP_cases (pd k).toInt gg.toInt with z | z | z | z | z <;> rw [z] <;> decide
      by_cases hbad : (mP (pd k).toInt gg.toInt).toInt < 0 ∨ (0 < (mP (pd k).toInt gg.toInt).toInt ∧ st.length = 9)
      · have e : ff pd n gg.toInt (fu + 1) k st = k := by unfold ff; rw [if_neg hkn, if_pos hbad]
        refine e_iload_n (i := 3) dX2_firstFault_11 rfl rfl ?_
        refine e_aload_n (i := 0) dX2_firstFault_12 rfl rfl ?_
        refine e_getI (x := nI n) dX2_firstFault_13 fl_X2_18 sh_1 fj_1_2 c0 ?_
        refine b_icmp_ge (X := ((k : Nat) : Int)) (Y := ((n : Nat) : Int)) (tgt := 126) (nI_toInt (by omega)) (nI_toInt (by omega)) dX2_firstFault_16 (by decide) ?_ ?_
        · intro c_16_t
          exfalso; omega
        · intro c_16_f
          refine e_iload_n (i := 2) dX2_firstFault_19 rfl rfl ?_
          refine b_if_lt (X := ((st.length : Nat) : Int)) (tgt := 42) (nI_toInt (by omega)) dX2_firstFault_20 (by decide) ?_ ?_
          · intro c_20_t
            exfalso; omega
          · intro c_20_f
            refine e_iload_n (i := 2) dX2_firstFault_23 rfl rfl ?_
            refine e_bipush (v := 9) dX2_firstFault_24 (by decide) ?_
            refine b_icmp_gt (X := ((st.length : Nat) : Int)) (Y := 9) (tgt := 42) (nI_toInt (by omega)) (by decide) dX2_firstFault_26 (by decide) ?_ ?_
            · intro c_26_t
              exfalso; omega
            · intro c_26_f
              refine e_aload_n (i := 0) dX2_firstFault_29 rfl rfl ?_
              refine e_iload_n (i := 3) dX2_firstFault_30 rfl rfl ?_
              refine e_invVi (As := [.inl (nI k)]) (v := pd k) (h2 := (hr h 12 c)) dX2_firstFault_31 lk_X2_22 yv_X2_sign rfl rfl rfl (Nat.le_of_ble_eq_true rfl) sh_1 ci_X2 (Nat.le_of_ble_eq_true rfl) ⟨Nat.le_of_ble_eq_true rfl, Nat.le_of_ble_eq_true rfl⟩ (k_P_signX l (hr h 12 c) (k) n c0 (by omega) hn c28) ?_
              refine e_iload_n (i := 2) dX2_firstFault_34 rfl rfl ?_
              refine e_iload_n (i := 1) dX2_firstFault_35 rfl rfl ?_
              refine e_invSi (As := [.inl (pd k), .inl (nI st.length), .inl gg]) (v := 0) (h2 := (hr h 12 c)) dX2_firstFault_36 lk_X2_26 ys_X2_canStand rfl rfl rfl (Nat.le_of_ble_eq_true rfl) (Nat.le_of_ble_eq_true rfl) ⟨Nat.le_of_ble_eq_true rfl, Nat.le_of_ble_eq_true rfl⟩ (k_P_canX l (hr h 12 c) (pd k) (nI st.length) gg (nI_toInt (by omega)) (cCan_0 (by omega) (by omega))) ?_
              refine b_if_ne (X := 0) (tgt := 44) (by decide) dX2_firstFault_39 (by decide) ?_ ?_
              · intro e_39_t c_39_t
                exfalso; omega
              · intro e_39_f c_39_f
                refine e_iload_n (i := 3) dX2_firstFault_42 rfl rfl ?_
                refine e_iret dX2_firstFault_43 (mret_i _) ?_
                exact hR _ _ (by rw [nI_toInt (by omega), e])
      · have hao := mP_aOf (x := (pd k).toInt) (g := gg.toInt) (by omega)
        have hcan : cCan (pd k).toInt ((st.length : Nat) : Int) gg.toInt = 1 := cCan_1 (by omega) (by omega)
        have haI : ∀ a : Nat, (mP (pd k).toInt gg.toInt).toInt = a → aI (pd k).toInt = nI a := fun a ha => toInt_nI (by rw [aI_toInt, hao, ha])
        by_cases h64 : (pd k).toInt = 64
        · have hp1 : (mP (pd k).toInt gg.toInt).toInt = 1 := by rw [h64, mP_64]; decide
          by_cases hin : k + 1 < n ∧ ¬ (48 ≤ (pd (k + 1)).toInt ∧ (pd (k + 1)).toInt ≤ 51)
          · have c29 : hr h 12 c 11 (k + 1) = pd (k + 1) := hpd _ hin.1
            have e : ff pd n gg.toInt (fu + 1) k st = ((k + 1 : Nat) : Int) := by unfold ff; rw [if_neg hkn, if_neg hbad, if_pos h64, if_pos hin]
            refine e_iload_n (i := 3) dX2_firstFault_11 rfl rfl ?_
            refine e_aload_n (i := 0) dX2_firstFault_12 rfl rfl ?_
            refine e_getI (x := nI n) dX2_firstFault_13 fl_X2_18 sh_1 fj_1_2 c0 ?_
            refine b_icmp_ge (X := ((k : Nat) : Int)) (Y := ((n : Nat) : Int)) (tgt := 126) (nI_toInt (by omega)) (nI_toInt (by omega)) dX2_firstFault_16 (by decide) ?_ ?_
            · intro c_16_t
              exfalso; omega
            · intro c_16_f
              refine e_iload_n (i := 2) dX2_firstFault_19 rfl rfl ?_
              refine b_if_lt (X := ((st.length : Nat) : Int)) (tgt := 42) (nI_toInt (by omega)) dX2_firstFault_20 (by decide) ?_ ?_
              · intro c_20_t
                exfalso; omega
              · intro c_20_f
                refine e_iload_n (i := 2) dX2_firstFault_23 rfl rfl ?_
                refine e_bipush (v := 9) dX2_firstFault_24 (by decide) ?_
                refine b_icmp_gt (X := ((st.length : Nat) : Int)) (Y := 9) (tgt := 42) (nI_toInt (by omega)) (by decide) dX2_firstFault_26 (by decide) ?_ ?_
                · intro c_26_t
                  exfalso; omega
                · intro c_26_f
                  refine e_aload_n (i := 0) dX2_firstFault_29 rfl rfl ?_
                  refine e_iload_n (i := 3) dX2_firstFault_30 rfl rfl ?_
                  refine e_invVi (As := [.inl (nI k)]) (v := pd k) (h2 := (hr h 12 c)) dX2_firstFault_31 lk_X2_22 yv_X2_sign rfl rfl rfl (Nat.le_of_ble_eq_true rfl) sh_1 ci_X2 (Nat.le_of_ble_eq_true rfl) ⟨Nat.le_of_ble_eq_true rfl, Nat.le_of_ble_eq_true rfl⟩ (k_P_signX l (hr h 12 c) (k) n c0 (by omega) hn c28) ?_
                  refine e_iload_n (i := 2) dX2_firstFault_34 rfl rfl ?_
                  refine e_iload_n (i := 1) dX2_firstFault_35 rfl rfl ?_
                  refine e_invSi (As := [.inl (pd k), .inl (nI st.length), .inl gg]) (v := 1) (h2 := (hr h 12 c)) dX2_firstFault_36 lk_X2_26 ys_X2_canStand rfl rfl rfl (Nat.le_of_ble_eq_true rfl) (Nat.le_of_ble_eq_true rfl) ⟨Nat.le_of_ble_eq_true rfl, Nat.le_of_ble_eq_true rfl⟩ (k_P_canX l (hr h 12 c) (pd k) (nI st.length) gg (nI_toInt (by omega)) hcan) ?_
                  refine b_if_ne (X := 1) (tgt := 44) (by decide) dX2_firstFault_39 (by decide) ?_ ?_
                  · intro e_39_t c_39_t
                    refine e_aload_n (i := 0) dX2_firstFault_44 rfl rfl ?_
                    refine e_getR (r := 12) dX2_firstFault_45 fl_X2_15 sh_1 fj_1_1 ?_
                    refine e_iload_n (i := 2) dX2_firstFault_48 rfl rfl ?_
                    refine e_dup2 dX2_firstFault_49 ?_
                    refine e_iald (x := nI (tv st)) dX2_firstFault_50 sh_12 (vin_ofX (X := ((st.length : Nat) : Int)) (nI_toInt (by omega)) (by omega) (by omega)) (by rw [nI_clamp (by omega)]; exact ctv) ?_
                    refine e_iconst (v := 1) dX2_firstFault_51 (by decide) ?_
                    refine z_isub (z := nI (tv st - 1)) (nI_subc 1 (by omega)) dX2_firstFault_52 ?_
                    refine e_iast dX2_firstFault_53 sh_12 (vin_ofX (X := ((st.length : Nat) : Int)) (nI_toInt (by omega)) (by omega) (by omega)) ?_
                    rw [nI_clamp (by omega)]
                    refine e_aload_n (i := 0) dX2_firstFault_54 rfl rfl ?_
                    refine e_iload_n (i := 3) dX2_firstFault_55 rfl rfl ?_
                    refine e_invVi (As := [.inl (nI k)]) (v := pd k) (h2 := (hs (hr h 12 c) 12 st.length (nI (tv st - 1)))) dX2_firstFault_56 lk_X2_22 yv_X2_sign rfl rfl rfl (Nat.le_of_ble_eq_true rfl) sh_1 ci_X2 (Nat.le_of_ble_eq_true rfl) ⟨Nat.le_of_ble_eq_true rfl, Nat.le_of_ble_eq_true rfl⟩ (k_P_signX l (hs (hr h 12 c) 12 st.length (nI (tv st - 1))) (k) n c0 (by omega) hn c28) ?_
                    refine e_invSi (As := [.inl (pd k)]) (v := aI (pd k).toInt) (h2 := (hs (hr h 12 c) 12 st.length (nI (tv st - 1)))) dX2_firstFault_59 lk_X2_30 ys_X7_textsOf rfl rfl rfl (Nat.le_of_ble_eq_true rfl) (Nat.le_of_ble_eq_true rfl) ⟨Nat.le_of_ble_eq_true rfl, Nat.le_of_ble_eq_true rfl⟩ (k_textsOf l (hs (hr h 12 c) 12 st.length (nI (tv st - 1))) (pd k)) ?_
                    refine e_istore (ls2 := [some (.inr 1), some (.inl gg), some (.inl (nI st.length)), some (.inl (nI k)), some (.inl (aI (pd k).toInt))]) dX2_firstFault_62 (Nat.le_of_ble_eq_true rfl) rfl ?_
                    refine e_aload_n (i := 0) dX2_firstFault_64 rfl rfl ?_
                    refine e_iload_n (i := 3) dX2_firstFault_65 rfl rfl ?_
                    refine e_invVi (As := [.inl (nI k)]) (v := pd k) (h2 := (hs (hr h 12 c) 12 st.length (nI (tv st - 1)))) dX2_firstFault_66 lk_X2_22 yv_X2_sign rfl rfl rfl (Nat.le_of_ble_eq_true rfl) sh_1 ci_X2 (Nat.le_of_ble_eq_true rfl) ⟨Nat.le_of_ble_eq_true rfl, Nat.le_of_ble_eq_true rfl⟩ (k_P_signX l (hs (hr h 12 c) 12 st.length (nI (tv st - 1))) (k) n c0 (by omega) hn c28) ?_
                    refine e_bipush (v := 64) dX2_firstFault_69 (by decide) ?_
                    refine b_icmp_ne (X := (pd k).toInt) (Y := 64) (tgt := 98) rfl (by decide) dX2_firstFault_71 (by decide) ?_ ?_
                    · intro e_71_t c_71_t
                      exfalso; omega
                    · intro e_71_f c_71_f
                      refine e_iinc (v := nI (k + 1)) (ls2 := [some (.inr 1), some (.inl gg), some (.inl (nI st.length)), some (.inl (nI (k + 1))), some (.inl (aI (pd k).toInt))]) dX2_firstFault_74 rfl (nI_inc1 _) (Nat.le_of_ble_eq_true rfl) rfl ?_
                      refine e_iload_n (i := 3) dX2_firstFault_77 rfl rfl ?_
                      refine e_aload_n (i := 0) dX2_firstFault_78 rfl rfl ?_
                      refine e_getI (x := nI n) dX2_firstFault_79 fl_X2_18 sh_1 fj_1_2 c0 ?_
                      refine b_icmp_ge (X := ((k + 1 : Nat) : Int)) (Y := ((n : Nat) : Int)) (tgt := 98) (nI_toInt (by omega)) (nI_toInt (by omega)) dX2_firstFault_82 (by decide) ?_ ?_
                      · intro c_82_t
                        exfalso; omega
                      · intro c_82_f
                        refine e_aload_n (i := 0) dX2_firstFault_85 rfl rfl ?_
                        refine e_iload_n (i := 3) dX2_firstFault_86 rfl rfl ?_
                        refine e_invVi (As := [.inl (nI (k + 1))]) (v := pd (k + 1)) (h2 := (hs (hr h 12 c) 12 st.length (nI (tv st - 1)))) dX2_firstFault_87 lk_X2_22 yv_X2_sign rfl rfl rfl (Nat.le_of_ble_eq_true rfl) sh_1 ci_X2 (Nat.le_of_ble_eq_true rfl) ⟨Nat.le_of_ble_eq_true rfl, Nat.le_of_ble_eq_true rfl⟩ (k_P_signX l (hs (hr h 12 c) 12 st.length (nI (tv st - 1))) (k + 1) n c0 (by omega) hn c29) ?_
                        refine e_invSi (As := [.inl (pd (k + 1))]) (v := 0) (h2 := (hs (hr h 12 c) 12 st.length (nI (tv st - 1)))) dX2_firstFault_90 lk_X2_33 ys_X2_isHandSign rfl rfl rfl (Nat.le_of_ble_eq_true rfl) (Nat.le_of_ble_eq_true rfl) ⟨Nat.le_of_ble_eq_true rfl, Nat.le_of_ble_eq_true rfl⟩ (k_cHandSignX l (hs (hr h 12 c) 12 st.length (nI (tv st - 1))) (pd (k + 1)) (if_neg (by omega))) ?_
                        refine b_if_ne (X := 0) (tgt := 98) (by decide) dX2_firstFault_93 (by decide) ?_ ?_
                        · intro e_93_t c_93_t
                          exfalso; omega
                        · intro e_93_f c_93_f
                          refine e_iload_n (i := 3) dX2_firstFault_96 rfl rfl ?_
                          refine e_iret dX2_firstFault_97 (mret_i _) ?_
                          rw [hr_hs]
                          exact hR _ _ (by rw [nI_toInt (by omega), e])
                  · intro e_39_f c_39_f
                    exfalso; omega
          · have e : ff pd n gg.toInt (fu + 1) k st = ff pd n gg.toInt fu (k + 2) (1 :: st) := by rw [ff, if_neg hkn, if_neg hbad, if_pos h64, if_neg hin]
            have hdn : dNx (upd (upd c st.length (nI (tv st - 1))) (st.length + 1) (aI (pd k).toInt)) (st.length + 1 + 1) = nI (st.length + 1) := by
              show (if 0 < ((upd (upd c st.length (nI (tv st - 1))) (st.length + 1) (aI (pd k).toInt)) (st.length + 1)).toInt then nI (st.length + 1) else _) = _
              rw [pk_us, if_pos (by rw [aI_toInt]; omega)]
            have hcd : cDu (upd (upd c st.length (nI (tv st - 1))) (st.length + 1) (aI (pd k).toInt)) true (1 :: st) := ⟨by rw [pk_us, if_pos rfl]; exact haI (1) (by omega), cDu_hi (Nat.lt_succ_self _) hdec⟩
            by_cases hk1 : k + 1 < n
            · have c29 : hr h 12 c 11 (k + 1) = pd (k + 1) := hpd _ hk1
              have hgood : 48 ≤ (pd (k + 1)).toInt ∧ (pd (k + 1)).toInt ≤ 51 := Decidable.of_not_not (fun z => hin ⟨hk1, z⟩)
              refine e_iload_n (i := 3) dX2_firstFault_11 rfl rfl ?_
              refine e_aload_n (i := 0) dX2_firstFault_12 rfl rfl ?_
              refine e_getI (x := nI n) dX2_firstFault_13 fl_X2_18 sh_1 fj_1_2 c0 ?_
              refine b_icmp_ge (X := ((k : Nat) : Int)) (Y := ((n : Nat) : Int)) (tgt := 126) (nI_toInt (by omega)) (nI_toInt (by omega)) dX2_firstFault_16 (by decide) ?_ ?_
              · intro c_16_t
                exfalso; omega
              · intro c_16_f
                refine e_iload_n (i := 2) dX2_firstFault_19 rfl rfl ?_
                refine b_if_lt (X := ((st.length : Nat) : Int)) (tgt := 42) (nI_toInt (by omega)) dX2_firstFault_20 (by decide) ?_ ?_
                · intro c_20_t
                  exfalso; omega
                · intro c_20_f
                  refine e_iload_n (i := 2) dX2_firstFault_23 rfl rfl ?_
                  refine e_bipush (v := 9) dX2_firstFault_24 (by decide) ?_
                  refine b_icmp_gt (X := ((st.length : Nat) : Int)) (Y := 9) (tgt := 42) (nI_toInt (by omega)) (by decide) dX2_firstFault_26 (by decide) ?_ ?_
                  · intro c_26_t
                    exfalso; omega
                  · intro c_26_f
                    refine e_aload_n (i := 0) dX2_firstFault_29 rfl rfl ?_
                    refine e_iload_n (i := 3) dX2_firstFault_30 rfl rfl ?_
                    refine e_invVi (As := [.inl (nI k)]) (v := pd k) (h2 := (hr h 12 c)) dX2_firstFault_31 lk_X2_22 yv_X2_sign rfl rfl rfl (Nat.le_of_ble_eq_true rfl) sh_1 ci_X2 (Nat.le_of_ble_eq_true rfl) ⟨Nat.le_of_ble_eq_true rfl, Nat.le_of_ble_eq_true rfl⟩ (k_P_signX l (hr h 12 c) (k) n c0 (by omega) hn c28) ?_
                    refine e_iload_n (i := 2) dX2_firstFault_34 rfl rfl ?_
                    refine e_iload_n (i := 1) dX2_firstFault_35 rfl rfl ?_
                    refine e_invSi (As := [.inl (pd k), .inl (nI st.length), .inl gg]) (v := 1) (h2 := (hr h 12 c)) dX2_firstFault_36 lk_X2_26 ys_X2_canStand rfl rfl rfl (Nat.le_of_ble_eq_true rfl) (Nat.le_of_ble_eq_true rfl) ⟨Nat.le_of_ble_eq_true rfl, Nat.le_of_ble_eq_true rfl⟩ (k_P_canX l (hr h 12 c) (pd k) (nI st.length) gg (nI_toInt (by omega)) hcan) ?_
                    refine b_if_ne (X := 1) (tgt := 44) (by decide) dX2_firstFault_39 (by decide) ?_ ?_
                    · intro e_39_t c_39_t
                      refine e_aload_n (i := 0) dX2_firstFault_44 rfl rfl ?_
                      refine e_getR (r := 12) dX2_firstFault_45 fl_X2_15 sh_1 fj_1_1 ?_
                      refine e_iload_n (i := 2) dX2_firstFault_48 rfl rfl ?_
                      refine e_dup2 dX2_firstFault_49 ?_
                      refine e_iald (x := nI (tv st)) dX2_firstFault_50 sh_12 (vin_ofX (X := ((st.length : Nat) : Int)) (nI_toInt (by omega)) (by omega) (by omega)) (by rw [nI_clamp (by omega)]; exact ctv) ?_
                      refine e_iconst (v := 1) dX2_firstFault_51 (by decide) ?_
                      refine z_isub (z := nI (tv st - 1)) (nI_subc 1 (by omega)) dX2_firstFault_52 ?_
                      refine e_iast dX2_firstFault_53 sh_12 (vin_ofX (X := ((st.length : Nat) : Int)) (nI_toInt (by omega)) (by omega) (by omega)) ?_
                      rw [nI_clamp (by omega)]
                      refine e_aload_n (i := 0) dX2_firstFault_54 rfl rfl ?_
                      refine e_iload_n (i := 3) dX2_firstFault_55 rfl rfl ?_
                      refine e_invVi (As := [.inl (nI k)]) (v := pd k) (h2 := (hs (hr h 12 c) 12 st.length (nI (tv st - 1)))) dX2_firstFault_56 lk_X2_22 yv_X2_sign rfl rfl rfl (Nat.le_of_ble_eq_true rfl) sh_1 ci_X2 (Nat.le_of_ble_eq_true rfl) ⟨Nat.le_of_ble_eq_true rfl, Nat.le_of_ble_eq_true rfl⟩ (k_P_signX l (hs (hr h 12 c) 12 st.length (nI (tv st - 1))) (k) n c0 (by omega) hn c28) ?_
                      refine e_invSi (As := [.inl (pd k)]) (v := aI (pd k).toInt) (h2 := (hs (hr h 12 c) 12 st.length (nI (tv st - 1)))) dX2_firstFault_59 lk_X2_30 ys_X7_textsOf rfl rfl rfl (Nat.le_of_ble_eq_true rfl) (Nat.le_of_ble_eq_true rfl) ⟨Nat.le_of_ble_eq_true rfl, Nat.le_of_ble_eq_true rfl⟩ (k_textsOf l (hs (hr h 12 c) 12 st.length (nI (tv st - 1))) (pd k)) ?_
                      refine e_istore (ls2 := [some (.inr 1), some (.inl gg), some (.inl (nI st.length)), some (.inl (nI k)), some (.inl (aI (pd k).toInt))]) dX2_firstFault_62 (Nat.le_of_ble_eq_true rfl) rfl ?_
                      refine e_aload_n (i := 0) dX2_firstFault_64 rfl rfl ?_
                      refine e_iload_n (i := 3) dX2_firstFault_65 rfl rfl ?_
                      refine e_invVi (As := [.inl (nI k)]) (v := pd k) (h2 := (hs (hr h 12 c) 12 st.length (nI (tv st - 1)))) dX2_firstFault_66 lk_X2_22 yv_X2_sign rfl rfl rfl (Nat.le_of_ble_eq_true rfl) sh_1 ci_X2 (Nat.le_of_ble_eq_true rfl) ⟨Nat.le_of_ble_eq_true rfl, Nat.le_of_ble_eq_true rfl⟩ (k_P_signX l (hs (hr h 12 c) 12 st.length (nI (tv st - 1))) (k) n c0 (by omega) hn c28) ?_
                      refine e_bipush (v := 64) dX2_firstFault_69 (by decide) ?_
                      refine b_icmp_ne (X := (pd k).toInt) (Y := 64) (tgt := 98) rfl (by decide) dX2_firstFault_71 (by decide) ?_ ?_
                      · intro e_71_t c_71_t
                        exfalso; omega
                      · intro e_71_f c_71_f
                        refine e_iinc (v := nI (k + 1)) (ls2 := [some (.inr 1), some (.inl gg), some (.inl (nI st.length)), some (.inl (nI (k + 1))), some (.inl (aI (pd k).toInt))]) dX2_firstFault_74 rfl (nI_inc1 _) (Nat.le_of_ble_eq_true rfl) rfl ?_
                        refine e_iload_n (i := 3) dX2_firstFault_77 rfl rfl ?_
                        refine e_aload_n (i := 0) dX2_firstFault_78 rfl rfl ?_
                        refine e_getI (x := nI n) dX2_firstFault_79 fl_X2_18 sh_1 fj_1_2 c0 ?_
                        refine b_icmp_ge (X := ((k + 1 : Nat) : Int)) (Y := ((n : Nat) : Int)) (tgt := 98) (nI_toInt (by omega)) (nI_toInt (by omega)) dX2_firstFault_82 (by decide) ?_ ?_
                        · intro c_82_t
                          exfalso; omega
                        · intro c_82_f
                          refine e_aload_n (i := 0) dX2_firstFault_85 rfl rfl ?_
                          refine e_iload_n (i := 3) dX2_firstFault_86 rfl rfl ?_
                          refine e_invVi (As := [.inl (nI (k + 1))]) (v := pd (k + 1)) (h2 := (hs (hr h 12 c) 12 st.length (nI (tv st - 1)))) dX2_firstFault_87 lk_X2_22 yv_X2_sign rfl rfl rfl (Nat.le_of_ble_eq_true rfl) sh_1 ci_X2 (Nat.le_of_ble_eq_true rfl) ⟨Nat.le_of_ble_eq_true rfl, Nat.le_of_ble_eq_true rfl⟩ (k_P_signX l (hs (hr h 12 c) 12 st.length (nI (tv st - 1))) (k + 1) n c0 (by omega) hn c29) ?_
                          refine e_invSi (As := [.inl (pd (k + 1))]) (v := 1) (h2 := (hs (hr h 12 c) 12 st.length (nI (tv st - 1)))) dX2_firstFault_90 lk_X2_33 ys_X2_isHandSign rfl rfl rfl (Nat.le_of_ble_eq_true rfl) (Nat.le_of_ble_eq_true rfl) ⟨Nat.le_of_ble_eq_true rfl, Nat.le_of_ble_eq_true rfl⟩ (k_cHandSignX l (hs (hr h 12 c) 12 st.length (nI (tv st - 1))) (pd (k + 1)) (if_pos (by omega))) ?_
                          refine b_if_ne (X := 1) (tgt := 98) (by decide) dX2_firstFault_93 (by decide) ?_ ?_
                          · intro e_93_t c_93_t
                            refine e_iload dX2_firstFault_98 rfl ?_
                            refine b_if_le (X := aOf (pd k).toInt) (tgt := 114) (aI_toInt _) dX2_firstFault_100 (by decide) ?_ ?_
                            · intro c_100_t
                              exfalso; omega
                            · intro c_100_f
                              refine e_iinc (v := nI (st.length + 1)) (ls2 := [some (.inr 1), some (.inl gg), some (.inl (nI (st.length + 1))), some (.inl (nI (k + 1))), some (.inl (aI (pd k).toInt))]) dX2_firstFault_103 rfl (nI_inc1 _) (Nat.le_of_ble_eq_true rfl) rfl ?_
                              refine e_aload_n (i := 0) dX2_firstFault_106 rfl rfl ?_
                              refine e_getR (r := 12) dX2_firstFault_107 fl_X2_15 sh_1 fj_1_1 ?_
                              refine e_iload_n (i := 2) dX2_firstFault_110 rfl rfl ?_
                              refine e_iload dX2_firstFault_111 rfl ?_
                              refine e_iast dX2_firstFault_113 sh_12 (vin_ofX (X := ((st.length + 1 : Nat) : Int)) (nI_toInt (by omega)) (by omega) (by omega)) ?_
                              rw [nI_clamp (by omega)]
                              rw [hr_hs, hr_hs]
                              refine e_aload_n (i := 0) dX2_firstFault_114 rfl rfl ?_
                              refine e_iload_n (i := 2) dX2_firstFault_115 rfl rfl ?_
                              refine e_invVi (As := [.inl (nI (st.length + 1))]) (v := nI (st.length + 1)) (h2 := (hr h 12 (upd (upd c st.length (nI (tv st - 1))) (st.length + 1) (aI (pd k).toInt)))) dX2_firstFault_116 lk_X2_37 yv_X2_depthOfNext rfl rfl rfl (Nat.le_of_ble_eq_true rfl) sh_1 ci_X2 (Nat.le_of_ble_eq_true rfl) ⟨Nat.le_of_ble_eq_true rfl, Nat.le_of_ble_eq_true rfl⟩ (k_P_depthX l (hr h 12 (upd (upd c st.length (nI (tv st - 1))) (st.length + 1) (aI (pd k).toInt))) (st.length + 1) (by omega) (hr_at _ _ _) hdn) ?_
                              refine e_istore_n (i := 2) (ls2 := [some (.inr 1), some (.inl gg), some (.inl (nI (st.length + 1))), some (.inl (nI (k + 1))), some (.inl (aI (pd k).toInt))]) dX2_firstFault_119 rfl (Nat.le_of_ble_eq_true rfl) rfl ?_
                              refine e_iinc (v := nI (k + 1 + 1)) (ls2 := [some (.inr 1), some (.inl gg), some (.inl (nI (st.length + 1))), some (.inl (nI (k + 1 + 1))), some (.inl (aI (pd k).toInt))]) dX2_firstFault_120 rfl (nI_inc1 _) (Nat.le_of_ble_eq_true rfl) rfl ?_
                              refine e_goto (tgt := 11) dX2_firstFault_123 (by decide) ?_
                              refine ih (k + 2) (1 :: st) (upd (upd c st.length (nI (tv st - 1))) (st.length + 1) (aI (pd k).toInt)) _ (by omega) (by omega) (fun z hz => ?_) (by simp only [List.length_cons]; omega) hcd (fun v c' hv => hR v c' (by rw [e]; exact hv))
                              rcases List.mem_cons.mp hz with rfl | hz
                              · omega
                              · exact hok z hz
                          · intro e_93_f c_93_f
                            exfalso; omega
                    · intro e_39_f c_39_f
                      exfalso; omega
            · skip
              refine e_iload_n (i := 3) dX2_firstFault_11 rfl rfl ?_
              refine e_aload_n (i := 0) dX2_firstFault_12 rfl rfl ?_
              refine e_getI (x := nI n) dX2_firstFault_13 fl_X2_18 sh_1 fj_1_2 c0 ?_
              refine b_icmp_ge (X := ((k : Nat) : Int)) (Y := ((n : Nat) : Int)) (tgt := 126) (nI_toInt (by omega)) (nI_toInt (by omega)) dX2_firstFault_16 (by decide) ?_ ?_
              · intro c_16_t
                exfalso; omega
              · intro c_16_f
                refine e_iload_n (i := 2) dX2_firstFault_19 rfl rfl ?_
                refine b_if_lt (X := ((st.length : Nat) : Int)) (tgt := 42) (nI_toInt (by omega)) dX2_firstFault_20 (by decide) ?_ ?_
                · intro c_20_t
                  exfalso; omega
                · intro c_20_f
                  refine e_iload_n (i := 2) dX2_firstFault_23 rfl rfl ?_
                  refine e_bipush (v := 9) dX2_firstFault_24 (by decide) ?_
                  refine b_icmp_gt (X := ((st.length : Nat) : Int)) (Y := 9) (tgt := 42) (nI_toInt (by omega)) (by decide) dX2_firstFault_26 (by decide) ?_ ?_
                  · intro c_26_t
                    exfalso; omega
                  · intro c_26_f
                    refine e_aload_n (i := 0) dX2_firstFault_29 rfl rfl ?_
                    refine e_iload_n (i := 3) dX2_firstFault_30 rfl rfl ?_
                    refine e_invVi (As := [.inl (nI k)]) (v := pd k) (h2 := (hr h 12 c)) dX2_firstFault_31 lk_X2_22 yv_X2_sign rfl rfl rfl (Nat.le_of_ble_eq_true rfl) sh_1 ci_X2 (Nat.le_of_ble_eq_true rfl) ⟨Nat.le_of_ble_eq_true rfl, Nat.le_of_ble_eq_true rfl⟩ (k_P_signX l (hr h 12 c) (k) n c0 (by omega) hn c28) ?_
                    refine e_iload_n (i := 2) dX2_firstFault_34 rfl rfl ?_
                    refine e_iload_n (i := 1) dX2_firstFault_35 rfl rfl ?_
                    refine e_invSi (As := [.inl (pd k), .inl (nI st.length), .inl gg]) (v := 1) (h2 := (hr h 12 c)) dX2_firstFault_36 lk_X2_26 ys_X2_canStand rfl rfl rfl (Nat.le_of_ble_eq_true rfl) (Nat.le_of_ble_eq_true rfl) ⟨Nat.le_of_ble_eq_true rfl, Nat.le_of_ble_eq_true rfl⟩ (k_P_canX l (hr h 12 c) (pd k) (nI st.length) gg (nI_toInt (by omega)) hcan) ?_
                    refine b_if_ne (X := 1) (tgt := 44) (by decide) dX2_firstFault_39 (by decide) ?_ ?_
                    · intro e_39_t c_39_t
                      refine e_aload_n (i := 0) dX2_firstFault_44 rfl rfl ?_
                      refine e_getR (r := 12) dX2_firstFault_45 fl_X2_15 sh_1 fj_1_1 ?_
                      refine e_iload_n (i := 2) dX2_firstFault_48 rfl rfl ?_
                      refine e_dup2 dX2_firstFault_49 ?_
                      refine e_iald (x := nI (tv st)) dX2_firstFault_50 sh_12 (vin_ofX (X := ((st.length : Nat) : Int)) (nI_toInt (by omega)) (by omega) (by omega)) (by rw [nI_clamp (by omega)]; exact ctv) ?_
                      refine e_iconst (v := 1) dX2_firstFault_51 (by decide) ?_
                      refine z_isub (z := nI (tv st - 1)) (nI_subc 1 (by omega)) dX2_firstFault_52 ?_
                      refine e_iast dX2_firstFault_53 sh_12 (vin_ofX (X := ((st.length : Nat) : Int)) (nI_toInt (by omega)) (by omega) (by omega)) ?_
                      rw [nI_clamp (by omega)]
                      refine e_aload_n (i := 0) dX2_firstFault_54 rfl rfl ?_
                      refine e_iload_n (i := 3) dX2_firstFault_55 rfl rfl ?_
                      refine e_invVi (As := [.inl (nI k)]) (v := pd k) (h2 := (hs (hr h 12 c) 12 st.length (nI (tv st - 1)))) dX2_firstFault_56 lk_X2_22 yv_X2_sign rfl rfl rfl (Nat.le_of_ble_eq_true rfl) sh_1 ci_X2 (Nat.le_of_ble_eq_true rfl) ⟨Nat.le_of_ble_eq_true rfl, Nat.le_of_ble_eq_true rfl⟩ (k_P_signX l (hs (hr h 12 c) 12 st.length (nI (tv st - 1))) (k) n c0 (by omega) hn c28) ?_
                      refine e_invSi (As := [.inl (pd k)]) (v := aI (pd k).toInt) (h2 := (hs (hr h 12 c) 12 st.length (nI (tv st - 1)))) dX2_firstFault_59 lk_X2_30 ys_X7_textsOf rfl rfl rfl (Nat.le_of_ble_eq_true rfl) (Nat.le_of_ble_eq_true rfl) ⟨Nat.le_of_ble_eq_true rfl, Nat.le_of_ble_eq_true rfl⟩ (k_textsOf l (hs (hr h 12 c) 12 st.length (nI (tv st - 1))) (pd k)) ?_
                      refine e_istore (ls2 := [some (.inr 1), some (.inl gg), some (.inl (nI st.length)), some (.inl (nI k)), some (.inl (aI (pd k).toInt))]) dX2_firstFault_62 (Nat.le_of_ble_eq_true rfl) rfl ?_
                      refine e_aload_n (i := 0) dX2_firstFault_64 rfl rfl ?_
                      refine e_iload_n (i := 3) dX2_firstFault_65 rfl rfl ?_
                      refine e_invVi (As := [.inl (nI k)]) (v := pd k) (h2 := (hs (hr h 12 c) 12 st.length (nI (tv st - 1)))) dX2_firstFault_66 lk_X2_22 yv_X2_sign rfl rfl rfl (Nat.le_of_ble_eq_true rfl) sh_1 ci_X2 (Nat.le_of_ble_eq_true rfl) ⟨Nat.le_of_ble_eq_true rfl, Nat.le_of_ble_eq_true rfl⟩ (k_P_signX l (hs (hr h 12 c) 12 st.length (nI (tv st - 1))) (k) n c0 (by omega) hn c28) ?_
                      refine e_bipush (v := 64) dX2_firstFault_69 (by decide) ?_
                      refine b_icmp_ne (X := (pd k).toInt) (Y := 64) (tgt := 98) rfl (by decide) dX2_firstFault_71 (by decide) ?_ ?_
                      · intro e_71_t c_71_t
                        exfalso; omega
                      · intro e_71_f c_71_f
                        refine e_iinc (v := nI (k + 1)) (ls2 := [some (.inr 1), some (.inl gg), some (.inl (nI st.length)), some (.inl (nI (k + 1))), some (.inl (aI (pd k).toInt))]) dX2_firstFault_74 rfl (nI_inc1 _) (Nat.le_of_ble_eq_true rfl) rfl ?_
                        refine e_iload_n (i := 3) dX2_firstFault_77 rfl rfl ?_
                        refine e_aload_n (i := 0) dX2_firstFault_78 rfl rfl ?_
                        refine e_getI (x := nI n) dX2_firstFault_79 fl_X2_18 sh_1 fj_1_2 c0 ?_
                        refine b_icmp_ge (X := ((k + 1 : Nat) : Int)) (Y := ((n : Nat) : Int)) (tgt := 98) (nI_toInt (by omega)) (nI_toInt (by omega)) dX2_firstFault_82 (by decide) ?_ ?_
                        · intro c_82_t
                          refine e_iload dX2_firstFault_98 rfl ?_
                          refine b_if_le (X := aOf (pd k).toInt) (tgt := 114) (aI_toInt _) dX2_firstFault_100 (by decide) ?_ ?_
                          · intro c_100_t
                            exfalso; omega
                          · intro c_100_f
                            refine e_iinc (v := nI (st.length + 1)) (ls2 := [some (.inr 1), some (.inl gg), some (.inl (nI (st.length + 1))), some (.inl (nI (k + 1))), some (.inl (aI (pd k).toInt))]) dX2_firstFault_103 rfl (nI_inc1 _) (Nat.le_of_ble_eq_true rfl) rfl ?_
                            refine e_aload_n (i := 0) dX2_firstFault_106 rfl rfl ?_
                            refine e_getR (r := 12) dX2_firstFault_107 fl_X2_15 sh_1 fj_1_1 ?_
                            refine e_iload_n (i := 2) dX2_firstFault_110 rfl rfl ?_
                            refine e_iload dX2_firstFault_111 rfl ?_
                            refine e_iast dX2_firstFault_113 sh_12 (vin_ofX (X := ((st.length + 1 : Nat) : Int)) (nI_toInt (by omega)) (by omega) (by omega)) ?_
                            rw [nI_clamp (by omega)]
                            rw [hr_hs, hr_hs]
                            refine e_aload_n (i := 0) dX2_firstFault_114 rfl rfl ?_
                            refine e_iload_n (i := 2) dX2_firstFault_115 rfl rfl ?_
                            refine e_invVi (As := [.inl (nI (st.length + 1))]) (v := nI (st.length + 1)) (h2 := (hr h 12 (upd (upd c st.length (nI (tv st - 1))) (st.length + 1) (aI (pd k).toInt)))) dX2_firstFault_116 lk_X2_37 yv_X2_depthOfNext rfl rfl rfl (Nat.le_of_ble_eq_true rfl) sh_1 ci_X2 (Nat.le_of_ble_eq_true rfl) ⟨Nat.le_of_ble_eq_true rfl, Nat.le_of_ble_eq_true rfl⟩ (k_P_depthX l (hr h 12 (upd (upd c st.length (nI (tv st - 1))) (st.length + 1) (aI (pd k).toInt))) (st.length + 1) (by omega) (hr_at _ _ _) hdn) ?_
                            refine e_istore_n (i := 2) (ls2 := [some (.inr 1), some (.inl gg), some (.inl (nI (st.length + 1))), some (.inl (nI (k + 1))), some (.inl (aI (pd k).toInt))]) dX2_firstFault_119 rfl (Nat.le_of_ble_eq_true rfl) rfl ?_
                            refine e_iinc (v := nI (k + 1 + 1)) (ls2 := [some (.inr 1), some (.inl gg), some (.inl (nI (st.length + 1))), some (.inl (nI (k + 1 + 1))), some (.inl (aI (pd k).toInt))]) dX2_firstFault_120 rfl (nI_inc1 _) (Nat.le_of_ble_eq_true rfl) rfl ?_
                            refine e_goto (tgt := 11) dX2_firstFault_123 (by decide) ?_
                            refine ih (k + 2) (1 :: st) (upd (upd c st.length (nI (tv st - 1))) (st.length + 1) (aI (pd k).toInt)) _ (by omega) (by omega) (fun z hz => ?_) (by simp only [List.length_cons]; omega) hcd (fun v c' hv => hR v c' (by rw [e]; exact hv))
                            rcases List.mem_cons.mp hz with rfl | hz
                            · omega
                            · exact hok z hz
                        · intro c_82_f
                          exfalso; omega
                    · intro e_39_f c_39_f
                      exfalso; omega
        · by_cases hpos : 0 < (mP (pd k).toInt gg.toInt).toInt
          · have e : ff pd n gg.toInt (fu + 1) k st = ff pd n gg.toInt fu (k + 1) ((mP (pd k).toInt gg.toInt).toInt.toNat :: st) := by rw [ff, if_neg hkn, if_neg hbad, if_neg h64, if_pos hpos]
            have hdn : dNx (upd (upd c st.length (nI (tv st - 1))) (st.length + 1) (aI (pd k).toInt)) (st.length + 1 + 1) = nI (st.length + 1) := by
              show (if 0 < ((upd (upd c st.length (nI (tv st - 1))) (st.length + 1) (aI (pd k).toInt)) (st.length + 1)).toInt then nI (st.length + 1) else _) = _
              rw [pk_us, if_pos (by rw [aI_toInt]; omega)]
            have hcd : cDu (upd (upd c st.length (nI (tv st - 1))) (st.length + 1) (aI (pd k).toInt)) true ((mP (pd k).toInt gg.toInt).toInt.toNat :: st) := ⟨by rw [pk_us, if_pos rfl]; exact haI ((mP (pd k).toInt gg.toInt).toInt.toNat) (by omega), cDu_hi (Nat.lt_succ_self _) hdec⟩
            refine e_iload_n (i := 3) dX2_firstFault_11 rfl rfl ?_
            refine e_aload_n (i := 0) dX2_firstFault_12 rfl rfl ?_
            refine e_getI (x := nI n) dX2_firstFault_13 fl_X2_18 sh_1 fj_1_2 c0 ?_
            refine b_icmp_ge (X := ((k : Nat) : Int)) (Y := ((n : Nat) : Int)) (tgt := 126) (nI_toInt (by omega)) (nI_toInt (by omega)) dX2_firstFault_16 (by decide) ?_ ?_
            · intro c_16_t
              exfalso; omega
            · intro c_16_f
              refine e_iload_n (i := 2) dX2_firstFault_19 rfl rfl ?_
              refine b_if_lt (X := ((st.length : Nat) : Int)) (tgt := 42) (nI_toInt (by omega)) dX2_firstFault_20 (by decide) ?_ ?_
              · intro c_20_t
                exfalso; omega
              · intro c_20_f
                refine e_iload_n (i := 2) dX2_firstFault_23 rfl rfl ?_
                refine e_bipush (v := 9) dX2_firstFault_24 (by decide) ?_
                refine b_icmp_gt (X := ((st.length : Nat) : Int)) (Y := 9) (tgt := 42) (nI_toInt (by omega)) (by decide) dX2_firstFault_26 (by decide) ?_ ?_
                · intro c_26_t
                  exfalso; omega
                · intro c_26_f
                  refine e_aload_n (i := 0) dX2_firstFault_29 rfl rfl ?_
                  refine e_iload_n (i := 3) dX2_firstFault_30 rfl rfl ?_
                  refine e_invVi (As := [.inl (nI k)]) (v := pd k) (h2 := (hr h 12 c)) dX2_firstFault_31 lk_X2_22 yv_X2_sign rfl rfl rfl (Nat.le_of_ble_eq_true rfl) sh_1 ci_X2 (Nat.le_of_ble_eq_true rfl) ⟨Nat.le_of_ble_eq_true rfl, Nat.le_of_ble_eq_true rfl⟩ (k_P_signX l (hr h 12 c) (k) n c0 (by omega) hn c28) ?_
                  refine e_iload_n (i := 2) dX2_firstFault_34 rfl rfl ?_
                  refine e_iload_n (i := 1) dX2_firstFault_35 rfl rfl ?_
                  refine e_invSi (As := [.inl (pd k), .inl (nI st.length), .inl gg]) (v := 1) (h2 := (hr h 12 c)) dX2_firstFault_36 lk_X2_26 ys_X2_canStand rfl rfl rfl (Nat.le_of_ble_eq_true rfl) (Nat.le_of_ble_eq_true rfl) ⟨Nat.le_of_ble_eq_true rfl, Nat.le_of_ble_eq_true rfl⟩ (k_P_canX l (hr h 12 c) (pd k) (nI st.length) gg (nI_toInt (by omega)) hcan) ?_
                  refine b_if_ne (X := 1) (tgt := 44) (by decide) dX2_firstFault_39 (by decide) ?_ ?_
                  · intro e_39_t c_39_t
                    refine e_aload_n (i := 0) dX2_firstFault_44 rfl rfl ?_
                    refine e_getR (r := 12) dX2_firstFault_45 fl_X2_15 sh_1 fj_1_1 ?_
                    refine e_iload_n (i := 2) dX2_firstFault_48 rfl rfl ?_
                    refine e_dup2 dX2_firstFault_49 ?_
                    refine e_iald (x := nI (tv st)) dX2_firstFault_50 sh_12 (vin_ofX (X := ((st.length : Nat) : Int)) (nI_toInt (by omega)) (by omega) (by omega)) (by rw [nI_clamp (by omega)]; exact ctv) ?_
                    refine e_iconst (v := 1) dX2_firstFault_51 (by decide) ?_
                    refine z_isub (z := nI (tv st - 1)) (nI_subc 1 (by omega)) dX2_firstFault_52 ?_
                    refine e_iast dX2_firstFault_53 sh_12 (vin_ofX (X := ((st.length : Nat) : Int)) (nI_toInt (by omega)) (by omega) (by omega)) ?_
                    rw [nI_clamp (by omega)]
                    refine e_aload_n (i := 0) dX2_firstFault_54 rfl rfl ?_
                    refine e_iload_n (i := 3) dX2_firstFault_55 rfl rfl ?_
                    refine e_invVi (As := [.inl (nI k)]) (v := pd k) (h2 := (hs (hr h 12 c) 12 st.length (nI (tv st - 1)))) dX2_firstFault_56 lk_X2_22 yv_X2_sign rfl rfl rfl (Nat.le_of_ble_eq_true rfl) sh_1 ci_X2 (Nat.le_of_ble_eq_true rfl) ⟨Nat.le_of_ble_eq_true rfl, Nat.le_of_ble_eq_true rfl⟩ (k_P_signX l (hs (hr h 12 c) 12 st.length (nI (tv st - 1))) (k) n c0 (by omega) hn c28) ?_
                    refine e_invSi (As := [.inl (pd k)]) (v := aI (pd k).toInt) (h2 := (hs (hr h 12 c) 12 st.length (nI (tv st - 1)))) dX2_firstFault_59 lk_X2_30 ys_X7_textsOf rfl rfl rfl (Nat.le_of_ble_eq_true rfl) (Nat.le_of_ble_eq_true rfl) ⟨Nat.le_of_ble_eq_true rfl, Nat.le_of_ble_eq_true rfl⟩ (k_textsOf l (hs (hr h 12 c) 12 st.length (nI (tv st - 1))) (pd k)) ?_
                    refine e_istore (ls2 := [some (.inr 1), some (.inl gg), some (.inl (nI st.length)), some (.inl (nI k)), some (.inl (aI (pd k).toInt))]) dX2_firstFault_62 (Nat.le_of_ble_eq_true rfl) rfl ?_
                    refine e_aload_n (i := 0) dX2_firstFault_64 rfl rfl ?_
                    refine e_iload_n (i := 3) dX2_firstFault_65 rfl rfl ?_
                    refine e_invVi (As := [.inl (nI k)]) (v := pd k) (h2 := (hs (hr h 12 c) 12 st.length (nI (tv st - 1)))) dX2_firstFault_66 lk_X2_22 yv_X2_sign rfl rfl rfl (Nat.le_of_ble_eq_true rfl) sh_1 ci_X2 (Nat.le_of_ble_eq_true rfl) ⟨Nat.le_of_ble_eq_true rfl, Nat.le_of_ble_eq_true rfl⟩ (k_P_signX l (hs (hr h 12 c) 12 st.length (nI (tv st - 1))) (k) n c0 (by omega) hn c28) ?_
                    refine e_bipush (v := 64) dX2_firstFault_69 (by decide) ?_
                    refine b_icmp_ne (X := (pd k).toInt) (Y := 64) (tgt := 98) rfl (by decide) dX2_firstFault_71 (by decide) ?_ ?_
                    · intro e_71_t c_71_t
                      refine e_iload dX2_firstFault_98 rfl ?_
                      refine b_if_le (X := aOf (pd k).toInt) (tgt := 114) (aI_toInt _) dX2_firstFault_100 (by decide) ?_ ?_
                      · intro c_100_t
                        exfalso; omega
                      · intro c_100_f
                        refine e_iinc (v := nI (st.length + 1)) (ls2 := [some (.inr 1), some (.inl gg), some (.inl (nI (st.length + 1))), some (.inl (nI k)), some (.inl (aI (pd k).toInt))]) dX2_firstFault_103 rfl (nI_inc1 _) (Nat.le_of_ble_eq_true rfl) rfl ?_
                        refine e_aload_n (i := 0) dX2_firstFault_106 rfl rfl ?_
                        refine e_getR (r := 12) dX2_firstFault_107 fl_X2_15 sh_1 fj_1_1 ?_
                        refine e_iload_n (i := 2) dX2_firstFault_110 rfl rfl ?_
                        refine e_iload dX2_firstFault_111 rfl ?_
                        refine e_iast dX2_firstFault_113 sh_12 (vin_ofX (X := ((st.length + 1 : Nat) : Int)) (nI_toInt (by omega)) (by omega) (by omega)) ?_
                        rw [nI_clamp (by omega)]
                        rw [hr_hs, hr_hs]
                        refine e_aload_n (i := 0) dX2_firstFault_114 rfl rfl ?_
                        refine e_iload_n (i := 2) dX2_firstFault_115 rfl rfl ?_
                        refine e_invVi (As := [.inl (nI (st.length + 1))]) (v := nI (st.length + 1)) (h2 := (hr h 12 (upd (upd c st.length (nI (tv st - 1))) (st.length + 1) (aI (pd k).toInt)))) dX2_firstFault_116 lk_X2_37 yv_X2_depthOfNext rfl rfl rfl (Nat.le_of_ble_eq_true rfl) sh_1 ci_X2 (Nat.le_of_ble_eq_true rfl) ⟨Nat.le_of_ble_eq_true rfl, Nat.le_of_ble_eq_true rfl⟩ (k_P_depthX l (hr h 12 (upd (upd c st.length (nI (tv st - 1))) (st.length + 1) (aI (pd k).toInt))) (st.length + 1) (by omega) (hr_at _ _ _) hdn) ?_
                        refine e_istore_n (i := 2) (ls2 := [some (.inr 1), some (.inl gg), some (.inl (nI (st.length + 1))), some (.inl (nI k)), some (.inl (aI (pd k).toInt))]) dX2_firstFault_119 rfl (Nat.le_of_ble_eq_true rfl) rfl ?_
                        refine e_iinc (v := nI (k + 1)) (ls2 := [some (.inr 1), some (.inl gg), some (.inl (nI (st.length + 1))), some (.inl (nI (k + 1))), some (.inl (aI (pd k).toInt))]) dX2_firstFault_120 rfl (nI_inc1 _) (Nat.le_of_ble_eq_true rfl) rfl ?_
                        refine e_goto (tgt := 11) dX2_firstFault_123 (by decide) ?_
                        refine ih (k + 1) ((mP (pd k).toInt gg.toInt).toInt.toNat :: st) (upd (upd c st.length (nI (tv st - 1))) (st.length + 1) (aI (pd k).toInt)) _ (by omega) (by omega) (fun z hz => ?_) (by simp only [List.length_cons]; omega) hcd (fun v c' hv => hR v c' (by rw [e]; exact hv))
                        rcases List.mem_cons.mp hz with rfl | hz
                        · omega
                        · exact hok z hz
                    · intro e_71_f c_71_f
                      exfalso; omega
                  · intro e_39_f c_39_f
                    exfalso; omega
          · have e : ff pd n gg.toInt (fu + 1) k st = (if popd st = [] then (if k + 1 = n then -6 else ((k + 1 : Nat) : Int)) else ff pd n gg.toInt fu (k + 1) (popd st)) := by rw [ff, if_neg hkn, if_neg hbad, if_neg h64, if_neg hpos]
            obtain ⟨dp1, dp2⟩ := dNx_pop hok hdec
            obtain ⟨pk1, pk2⟩ := popd_ok hok
            by_cases hpe : popd st = []
            · rw [if_pos hpe] at e
              have hdn := dp1 hpe
              refine e_iload_n (i := 3) dX2_firstFault_11 rfl rfl ?_
              refine e_aload_n (i := 0) dX2_firstFault_12 rfl rfl ?_
              refine e_getI (x := nI n) dX2_firstFault_13 fl_X2_18 sh_1 fj_1_2 c0 ?_
              refine b_icmp_ge (X := ((k : Nat) : Int)) (Y := ((n : Nat) : Int)) (tgt := 126) (nI_toInt (by omega)) (nI_toInt (by omega)) dX2_firstFault_16 (by decide) ?_ ?_
              · intro c_16_t
                exfalso; omega
              · intro c_16_f
                refine e_iload_n (i := 2) dX2_firstFault_19 rfl rfl ?_
                refine b_if_lt (X := ((st.length : Nat) : Int)) (tgt := 42) (nI_toInt (by omega)) dX2_firstFault_20 (by decide) ?_ ?_
                · intro c_20_t
                  exfalso; omega
                · intro c_20_f
                  refine e_iload_n (i := 2) dX2_firstFault_23 rfl rfl ?_
                  refine e_bipush (v := 9) dX2_firstFault_24 (by decide) ?_
                  refine b_icmp_gt (X := ((st.length : Nat) : Int)) (Y := 9) (tgt := 42) (nI_toInt (by omega)) (by decide) dX2_firstFault_26 (by decide) ?_ ?_
                  · intro c_26_t
                    exfalso; omega
                  · intro c_26_f
                    refine e_aload_n (i := 0) dX2_firstFault_29 rfl rfl ?_
                    refine e_iload_n (i := 3) dX2_firstFault_30 rfl rfl ?_
                    refine e_invVi (As := [.inl (nI k)]) (v := pd k) (h2 := (hr h 12 c)) dX2_firstFault_31 lk_X2_22 yv_X2_sign rfl rfl rfl (Nat.le_of_ble_eq_true rfl) sh_1 ci_X2 (Nat.le_of_ble_eq_true rfl) ⟨Nat.le_of_ble_eq_true rfl, Nat.le_of_ble_eq_true rfl⟩ (k_P_signX l (hr h 12 c) (k) n c0 (by omega) hn c28) ?_
                    refine e_iload_n (i := 2) dX2_firstFault_34 rfl rfl ?_
                    refine e_iload_n (i := 1) dX2_firstFault_35 rfl rfl ?_
                    refine e_invSi (As := [.inl (pd k), .inl (nI st.length), .inl gg]) (v := 1) (h2 := (hr h 12 c)) dX2_firstFault_36 lk_X2_26 ys_X2_canStand rfl rfl rfl (Nat.le_of_ble_eq_true rfl) (Nat.le_of_ble_eq_true rfl) ⟨Nat.le_of_ble_eq_true rfl, Nat.le_of_ble_eq_true rfl⟩ (k_P_canX l (hr h 12 c) (pd k) (nI st.length) gg (nI_toInt (by omega)) hcan) ?_
                    refine b_if_ne (X := 1) (tgt := 44) (by decide) dX2_firstFault_39 (by decide) ?_ ?_
                    · intro e_39_t c_39_t
                      refine e_aload_n (i := 0) dX2_firstFault_44 rfl rfl ?_
                      refine e_getR (r := 12) dX2_firstFault_45 fl_X2_15 sh_1 fj_1_1 ?_
                      refine e_iload_n (i := 2) dX2_firstFault_48 rfl rfl ?_
                      refine e_dup2 dX2_firstFault_49 ?_
                      refine e_iald (x := nI (tv st)) dX2_firstFault_50 sh_12 (vin_ofX (X := ((st.length : Nat) : Int)) (nI_toInt (by omega)) (by omega) (by omega)) (by rw [nI_clamp (by omega)]; exact ctv) ?_
                      refine e_iconst (v := 1) dX2_firstFault_51 (by decide) ?_
                      refine z_isub (z := nI (tv st - 1)) (nI_subc 1 (by omega)) dX2_firstFault_52 ?_
                      refine e_iast dX2_firstFault_53 sh_12 (vin_ofX (X := ((st.length : Nat) : Int)) (nI_toInt (by omega)) (by omega) (by omega)) ?_
                      rw [nI_clamp (by omega)]
                      refine e_aload_n (i := 0) dX2_firstFault_54 rfl rfl ?_
                      refine e_iload_n (i := 3) dX2_firstFault_55 rfl rfl ?_
                      refine e_invVi (As := [.inl (nI k)]) (v := pd k) (h2 := (hs (hr h 12 c) 12 st.length (nI (tv st - 1)))) dX2_firstFault_56 lk_X2_22 yv_X2_sign rfl rfl rfl (Nat.le_of_ble_eq_true rfl) sh_1 ci_X2 (Nat.le_of_ble_eq_true rfl) ⟨Nat.le_of_ble_eq_true rfl, Nat.le_of_ble_eq_true rfl⟩ (k_P_signX l (hs (hr h 12 c) 12 st.length (nI (tv st - 1))) (k) n c0 (by omega) hn c28) ?_
                      refine e_invSi (As := [.inl (pd k)]) (v := aI (pd k).toInt) (h2 := (hs (hr h 12 c) 12 st.length (nI (tv st - 1)))) dX2_firstFault_59 lk_X2_30 ys_X7_textsOf rfl rfl rfl (Nat.le_of_ble_eq_true rfl) (Nat.le_of_ble_eq_true rfl) ⟨Nat.le_of_ble_eq_true rfl, Nat.le_of_ble_eq_true rfl⟩ (k_textsOf l (hs (hr h 12 c) 12 st.length (nI (tv st - 1))) (pd k)) ?_
                      refine e_istore (ls2 := [some (.inr 1), some (.inl gg), some (.inl (nI st.length)), some (.inl (nI k)), some (.inl (aI (pd k).toInt))]) dX2_firstFault_62 (Nat.le_of_ble_eq_true rfl) rfl ?_
                      refine e_aload_n (i := 0) dX2_firstFault_64 rfl rfl ?_
                      refine e_iload_n (i := 3) dX2_firstFault_65 rfl rfl ?_
                      refine e_invVi (As := [.inl (nI k)]) (v := pd k) (h2 := (hs (hr h 12 c) 12 st.length (nI (tv st - 1)))) dX2_firstFault_66 lk_X2_22 yv_X2_sign rfl rfl rfl (Nat.le_of_ble_eq_true rfl) sh_1 ci_X2 (Nat.le_of_ble_eq_true rfl) ⟨Nat.le_of_ble_eq_true rfl, Nat.le_of_ble_eq_true rfl⟩ (k_P_signX l (hs (hr h 12 c) 12 st.length (nI (tv st - 1))) (k) n c0 (by omega) hn c28) ?_
                      refine e_bipush (v := 64) dX2_firstFault_69 (by decide) ?_
                      refine b_icmp_ne (X := (pd k).toInt) (Y := 64) (tgt := 98) rfl (by decide) dX2_firstFault_71 (by decide) ?_ ?_
                      · intro e_71_t c_71_t
                        refine e_iload dX2_firstFault_98 rfl ?_
                        refine b_if_le (X := aOf (pd k).toInt) (tgt := 114) (aI_toInt _) dX2_firstFault_100 (by decide) ?_ ?_
                        · intro c_100_t
                          rw [hr_hs]
                          refine e_aload_n (i := 0) dX2_firstFault_114 rfl rfl ?_
                          refine e_iload_n (i := 2) dX2_firstFault_115 rfl rfl ?_
                          refine e_invVi (As := [.inl (nI st.length)]) (v := (-1)) (h2 := (hr h 12 (upd c st.length (nI (tv st - 1))))) dX2_firstFault_116 lk_X2_37 yv_X2_depthOfNext rfl rfl rfl (Nat.le_of_ble_eq_true rfl) sh_1 ci_X2 (Nat.le_of_ble_eq_true rfl) ⟨Nat.le_of_ble_eq_true rfl, Nat.le_of_ble_eq_true rfl⟩ (k_P_depthX l (hr h 12 (upd c st.length (nI (tv st - 1)))) st.length (by omega) (hr_at _ _ _) hdn) ?_
                          refine e_istore_n (i := 2) (ls2 := [some (.inr 1), some (.inl gg), some (.inl (-1)), some (.inl (nI k)), some (.inl (aI (pd k).toInt))]) dX2_firstFault_119 rfl (Nat.le_of_ble_eq_true rfl) rfl ?_
                          refine e_iinc (v := nI (k + 1)) (ls2 := [some (.inr 1), some (.inl gg), some (.inl (-1)), some (.inl (nI (k + 1))), some (.inl (aI (pd k).toInt))]) dX2_firstFault_120 rfl (nI_inc1 _) (Nat.le_of_ble_eq_true rfl) rfl ?_
                          refine e_goto (tgt := 11) dX2_firstFault_123 (by decide) ?_
                          exact lp_C_done l (hr h 12 (upd c st.length (nI (tv st - 1)))) n (k + 1) hn (by omega) m0 gg _ RT (fun v hv => hR v _ (by rw [e]; exact hv))
                        · intro c_100_f
                          exfalso; omega
                      · intro e_71_f c_71_f
                        exfalso; omega
                    · intro e_39_f c_39_f
                      exfalso; omega
            · rw [if_neg hpe] at e
              obtain ⟨hdn, hcd⟩ := dp2 hpe
              refine e_iload_n (i := 3) dX2_firstFault_11 rfl rfl ?_
              refine e_aload_n (i := 0) dX2_firstFault_12 rfl rfl ?_
              refine e_getI (x := nI n) dX2_firstFault_13 fl_X2_18 sh_1 fj_1_2 c0 ?_
              refine b_icmp_ge (X := ((k : Nat) : Int)) (Y := ((n : Nat) : Int)) (tgt := 126) (nI_toInt (by omega)) (nI_toInt (by omega)) dX2_firstFault_16 (by decide) ?_ ?_
              · intro c_16_t
                exfalso; omega
              · intro c_16_f
                refine e_iload_n (i := 2) dX2_firstFault_19 rfl rfl ?_
                refine b_if_lt (X := ((st.length : Nat) : Int)) (tgt := 42) (nI_toInt (by omega)) dX2_firstFault_20 (by decide) ?_ ?_
                · intro c_20_t
                  exfalso; omega
                · intro c_20_f
                  refine e_iload_n (i := 2) dX2_firstFault_23 rfl rfl ?_
                  refine e_bipush (v := 9) dX2_firstFault_24 (by decide) ?_
                  refine b_icmp_gt (X := ((st.length : Nat) : Int)) (Y := 9) (tgt := 42) (nI_toInt (by omega)) (by decide) dX2_firstFault_26 (by decide) ?_ ?_
                  · intro c_26_t
                    exfalso; omega
                  · intro c_26_f
                    refine e_aload_n (i := 0) dX2_firstFault_29 rfl rfl ?_
                    refine e_iload_n (i := 3) dX2_firstFault_30 rfl rfl ?_
                    refine e_invVi (As := [.inl (nI k)]) (v := pd k) (h2 := (hr h 12 c)) dX2_firstFault_31 lk_X2_22 yv_X2_sign rfl rfl rfl (Nat.le_of_ble_eq_true rfl) sh_1 ci_X2 (Nat.le_of_ble_eq_true rfl) ⟨Nat.le_of_ble_eq_true rfl, Nat.le_of_ble_eq_true rfl⟩ (k_P_signX l (hr h 12 c) (k) n c0 (by omega) hn c28) ?_
                    refine e_iload_n (i := 2) dX2_firstFault_34 rfl rfl ?_
                    refine e_iload_n (i := 1) dX2_firstFault_35 rfl rfl ?_
                    refine e_invSi (As := [.inl (pd k), .inl (nI st.length), .inl gg]) (v := 1) (h2 := (hr h 12 c)) dX2_firstFault_36 lk_X2_26 ys_X2_canStand rfl rfl rfl (Nat.le_of_ble_eq_true rfl) (Nat.le_of_ble_eq_true rfl) ⟨Nat.le_of_ble_eq_true rfl, Nat.le_of_ble_eq_true rfl⟩ (k_P_canX l (hr h 12 c) (pd k) (nI st.length) gg (nI_toInt (by omega)) hcan) ?_
                    refine b_if_ne (X := 1) (tgt := 44) (by decide) dX2_firstFault_39 (by decide) ?_ ?_
                    · intro e_39_t c_39_t
                      refine e_aload_n (i := 0) dX2_firstFault_44 rfl rfl ?_
                      refine e_getR (r := 12) dX2_firstFault_45 fl_X2_15 sh_1 fj_1_1 ?_
                      refine e_iload_n (i := 2) dX2_firstFault_48 rfl rfl ?_
                      refine e_dup2 dX2_firstFault_49 ?_
                      refine e_iald (x := nI (tv st)) dX2_firstFault_50 sh_12 (vin_ofX (X := ((st.length : Nat) : Int)) (nI_toInt (by omega)) (by omega) (by omega)) (by rw [nI_clamp (by omega)]; exact ctv) ?_
                      refine e_iconst (v := 1) dX2_firstFault_51 (by decide) ?_
                      refine z_isub (z := nI (tv st - 1)) (nI_subc 1 (by omega)) dX2_firstFault_52 ?_
                      refine e_iast dX2_firstFault_53 sh_12 (vin_ofX (X := ((st.length : Nat) : Int)) (nI_toInt (by omega)) (by omega) (by omega)) ?_
                      rw [nI_clamp (by omega)]
                      refine e_aload_n (i := 0) dX2_firstFault_54 rfl rfl ?_
                      refine e_iload_n (i := 3) dX2_firstFault_55 rfl rfl ?_
                      refine e_invVi (As := [.inl (nI k)]) (v := pd k) (h2 := (hs (hr h 12 c) 12 st.length (nI (tv st - 1)))) dX2_firstFault_56 lk_X2_22 yv_X2_sign rfl rfl rfl (Nat.le_of_ble_eq_true rfl) sh_1 ci_X2 (Nat.le_of_ble_eq_true rfl) ⟨Nat.le_of_ble_eq_true rfl, Nat.le_of_ble_eq_true rfl⟩ (k_P_signX l (hs (hr h 12 c) 12 st.length (nI (tv st - 1))) (k) n c0 (by omega) hn c28) ?_
                      refine e_invSi (As := [.inl (pd k)]) (v := aI (pd k).toInt) (h2 := (hs (hr h 12 c) 12 st.length (nI (tv st - 1)))) dX2_firstFault_59 lk_X2_30 ys_X7_textsOf rfl rfl rfl (Nat.le_of_ble_eq_true rfl) (Nat.le_of_ble_eq_true rfl) ⟨Nat.le_of_ble_eq_true rfl, Nat.le_of_ble_eq_true rfl⟩ (k_textsOf l (hs (hr h 12 c) 12 st.length (nI (tv st - 1))) (pd k)) ?_
                      refine e_istore (ls2 := [some (.inr 1), some (.inl gg), some (.inl (nI st.length)), some (.inl (nI k)), some (.inl (aI (pd k).toInt))]) dX2_firstFault_62 (Nat.le_of_ble_eq_true rfl) rfl ?_
                      refine e_aload_n (i := 0) dX2_firstFault_64 rfl rfl ?_
                      refine e_iload_n (i := 3) dX2_firstFault_65 rfl rfl ?_
                      refine e_invVi (As := [.inl (nI k)]) (v := pd k) (h2 := (hs (hr h 12 c) 12 st.length (nI (tv st - 1)))) dX2_firstFault_66 lk_X2_22 yv_X2_sign rfl rfl rfl (Nat.le_of_ble_eq_true rfl) sh_1 ci_X2 (Nat.le_of_ble_eq_true rfl) ⟨Nat.le_of_ble_eq_true rfl, Nat.le_of_ble_eq_true rfl⟩ (k_P_signX l (hs (hr h 12 c) 12 st.length (nI (tv st - 1))) (k) n c0 (by omega) hn c28) ?_
                      refine e_bipush (v := 64) dX2_firstFault_69 (by decide) ?_
                      refine b_icmp_ne (X := (pd k).toInt) (Y := 64) (tgt := 98) rfl (by decide) dX2_firstFault_71 (by decide) ?_ ?_
                      · intro e_71_t c_71_t
                        refine e_iload dX2_firstFault_98 rfl ?_
                        refine b_if_le (X := aOf (pd k).toInt) (tgt := 114) (aI_toInt _) dX2_firstFault_100 (by decide) ?_ ?_
                        · intro c_100_t
                          rw [hr_hs]
                          refine e_aload_n (i := 0) dX2_firstFault_114 rfl rfl ?_
                          refine e_iload_n (i := 2) dX2_firstFault_115 rfl rfl ?_
                          refine e_invVi (As := [.inl (nI st.length)]) (v := nI ((popd st).length)) (h2 := (hr h 12 (upd c st.length (nI (tv st - 1))))) dX2_firstFault_116 lk_X2_37 yv_X2_depthOfNext rfl rfl rfl (Nat.le_of_ble_eq_true rfl) sh_1 ci_X2 (Nat.le_of_ble_eq_true rfl) ⟨Nat.le_of_ble_eq_true rfl, Nat.le_of_ble_eq_true rfl⟩ (k_P_depthX l (hr h 12 (upd c st.length (nI (tv st - 1)))) st.length (by omega) (hr_at _ _ _) hdn) ?_
                          refine e_istore_n (i := 2) (ls2 := [some (.inr 1), some (.inl gg), some (.inl (nI ((popd st).length))), some (.inl (nI k)), some (.inl (aI (pd k).toInt))]) dX2_firstFault_119 rfl (Nat.le_of_ble_eq_true rfl) rfl ?_
                          refine e_iinc (v := nI (k + 1)) (ls2 := [some (.inr 1), some (.inl gg), some (.inl (nI ((popd st).length))), some (.inl (nI (k + 1))), some (.inl (aI (pd k).toInt))]) dX2_firstFault_120 rfl (nI_inc1 _) (Nat.le_of_ble_eq_true rfl) rfl ?_
                          refine e_goto (tgt := 11) dX2_firstFault_123 (by decide) ?_
                          exact ih (k + 1) (popd st) (upd c st.length (nI (tv st - 1))) _ (by omega) (by omega) pk1 (by omega) hcd (fun v c' hv => hR v c' (by rw [e]; exact hv))
                        · intro c_100_f
                          exfalso; omega
                      · intro e_71_f c_71_f
                        exfalso; omega
                    · intro e_39_f c_39_f
                      exfalso; omega
