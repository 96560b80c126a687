/-! The reference's fault finder. -/
theorem popd_nil {st : List Nat} : popd st = [] ∨ 1 ≤ (popd st).length := by
  cases h : popd st with
  | nil => exact Or.inl rfl
  | cons a b => exact Or.inr (by simp)
set_option maxHeartbeats 4000000 in
theorem lp_M_fault (l : Launch) (h : mH) (pd : Nat → Int32) (n : Nat) (hn : n ≤ 40) (gg : Int32) (m0 : h 10 0 = nI n) (hpd : ∀ i, i < n → h 28 i = pd i) (RT : Option Int32 → mH → Prop) : ∀ (fu k : Nat) (st : List Nat) (f : Nat → Int32) (y4 y5 y6 : Option mV), n < k + fu → k ≤ 41 → dOk st → st.length ≤ 9 → mDu f st → (∀ v f', v.toInt = ff pd n gg.toInt fu k st → RT (some v) (hr h 33 f')) → mE l Sh0 none iX8_faultOf RT 4 [some (.inr 10), some (.inl gg), some (.inl (nI st.length)), some (.inl (nI k)), y4, y5, y6] [] (hr h 33 f) := by
  intro fu
  induction fu with
  | zero =>
    intro k st f y4 y5 y6 hf hk hok hlen hdu hR
    have c0 : hr h 33 f 10 0 = nI n := m0
    refine e_iload_n (i := 3) dX8_faultOf_4 rfl rfl ?_
    refine e_aload_n (i := 0) dX8_faultOf_5 rfl rfl ?_
    refine e_getI (x := nI n) dX8_faultOf_6 fl_X8_89 sh_10 fj_10_0 c0 ?_
    refine b_icmp_ge (X := ((k : Nat) : Int)) (Y := ((n : Nat) : Int)) (tgt := 204) (nI_toInt (by omega)) (nI_toInt (by omega)) dX8_faultOf_9 (by decide) ?_ ?_
    · intro c_9_t
      refine e_aload_n (i := 0) dX8_faultOf_204 rfl rfl ?_
      refine e_getI (x := nI n) dX8_faultOf_205 fl_X8_89 sh_10 fj_10_0 c0 ?_
      refine e_iret dX8_faultOf_208 (mret_i _) ?_
      exact hR _ _ (by rw [nI_toInt (by omega)]; rfl)
    · intro c_9_f
      exfalso; omega
  | succ fu ih =>
    intro k st f y4 y5 y6 hf hk hok hlen hdu hR
    have c0 : hr h 33 f 10 0 = nI n := m0
    by_cases hkn : n ≤ k
    · have e : ff pd n gg.toInt (fu + 1) k st = n := by unfold ff; rw [if_pos hkn]
      refine e_iload_n (i := 3) dX8_faultOf_4 rfl rfl ?_
      refine e_aload_n (i := 0) dX8_faultOf_5 rfl rfl ?_
      refine e_getI (x := nI n) dX8_faultOf_6 fl_X8_89 sh_10 fj_10_0 c0 ?_
      refine b_icmp_ge (X := ((k : Nat) : Int)) (Y := ((n : Nat) : Int)) (tgt := 204) (nI_toInt (by omega)) (nI_toInt (by omega)) dX8_faultOf_9 (by decide) ?_ ?_
      · intro c_9_t
        refine e_aload_n (i := 0) dX8_faultOf_204 rfl rfl ?_
        refine e_getI (x := nI n) dX8_faultOf_205 fl_X8_89 sh_10 fj_10_0 c0 ?_
        refine e_iret dX8_faultOf_208 (mret_i _) ?_
        exact hR _ _ (by rw [nI_toInt (by omega), e])
      · intro c_9_f
        exfalso; omega
    · have c28 : hr h 33 f 28 k = pd k := hpd k (by omega)
      have hP4 : (mP (pd k).toInt gg.toInt).toInt = 2 ∨ (mP (pd k).toInt gg.toInt).toInt = 3 ∨ (mP (pd k).toInt gg.toInt).toInt = 1 ∨ (mP (pd k).toInt gg.toInt).toInt = 0 ∨ (mP (pd k).toInt gg.toInt).toInt = -6 := by
        rcases mP_cases (pd k).toInt gg.toInt with z | z | z | z | z <;> rw [z] <;> decide
      by_cases hb1 : (mP (pd k).toInt gg.toInt).toInt < 0
      · have e : ff pd n gg.toInt (fu + 1) k st = k := by unfold ff; rw [if_neg hkn, if_pos (Or.inl hb1)]
        refine e_iload_n (i := 3) dX8_faultOf_4 rfl rfl ?_
        refine e_aload_n (i := 0) dX8_faultOf_5 rfl rfl ?_
        refine e_getI (x := nI n) dX8_faultOf_6 fl_X8_89 sh_10 fj_10_0 c0 ?_
        refine b_icmp_ge (X := ((k : Nat) : Int)) (Y := ((n : Nat) : Int)) (tgt := 204) (nI_toInt (by omega)) (nI_toInt (by omega)) dX8_faultOf_9 (by decide) ?_ ?_
        · intro c_9_t
          exfalso; omega
        · intro c_9_f
          refine e_aload_n (i := 0) dX8_faultOf_12 rfl rfl ?_
          refine e_getR (r := 28) dX8_faultOf_13 fl_X8_7 sh_10 fj_10_1 ?_
          refine e_iload_n (i := 3) dX8_faultOf_16 rfl rfl ?_
          refine e_iald (x := pd k) dX8_faultOf_17 sh_28 (vin_ofX (X := ((k : Nat) : Int)) (nI_toInt (by omega)) (by omega) (by omega)) (by rw [nI_clamp (by omega)]; exact c28) ?_
          refine e_istore (ls2 := [some (.inr 10), some (.inl gg), some (.inl (nI st.length)), some (.inl (nI k)), some (.inl (pd k)), y5, y6]) dX8_faultOf_18 (Nat.le_of_ble_eq_true rfl) rfl ?_
          refine e_iload dX8_faultOf_20 rfl ?_
          refine e_iload_n (i := 1) dX8_faultOf_22 rfl rfl ?_
          refine e_invSi (As := [.inl (pd k), .inl gg]) (v := mP (pd k).toInt gg.toInt) (h2 := (hr h 33 f)) dX8_faultOf_23 lk_X8_93 ys_X8_partsOf rfl rfl rfl (Nat.le_of_ble_eq_true rfl) (Nat.le_of_ble_eq_true rfl) ⟨Nat.le_of_ble_eq_true rfl, Nat.le_of_ble_eq_true rfl⟩ (k_M_partsOf l (hr h 33 f) (pd k) gg) ?_
          refine e_istore (ls2 := [some (.inr 10), some (.inl gg), some (.inl (nI st.length)), some (.inl (nI k)), some (.inl (pd k)), some (.inl (mP (pd k).toInt gg.toInt)), y6]) dX8_faultOf_26 (Nat.le_of_ble_eq_true rfl) rfl ?_
          refine e_iload dX8_faultOf_28 rfl ?_
          refine b_if_lt (X := (mP (pd k).toInt gg.toInt).toInt) (tgt := 44) rfl dX8_faultOf_30 (by decide) ?_ ?_
          · intro c_30_t
            refine e_iload_n (i := 3) dX8_faultOf_44 rfl rfl ?_
            refine e_iret dX8_faultOf_45 (mret_i _) ?_
            exact hR _ _ (by rw [nI_toInt (by omega), e])
          · intro c_30_f
            exfalso; omega
      · by_cases hb2 : 0 < (mP (pd k).toInt gg.toInt).toInt ∧ st.length = 9
        · have e : ff pd n gg.toInt (fu + 1) k st = k := by unfold ff; rw [if_neg hkn, if_pos (Or.inr hb2)]
          refine e_iload_n (i := 3) dX8_faultOf_4 rfl rfl ?_
          refine e_aload_n (i := 0) dX8_faultOf_5 rfl rfl ?_
          refine e_getI (x := nI n) dX8_faultOf_6 fl_X8_89 sh_10 fj_10_0 c0 ?_
          refine b_icmp_ge (X := ((k : Nat) : Int)) (Y := ((n : Nat) : Int)) (tgt := 204) (nI_toInt (by omega)) (nI_toInt (by omega)) dX8_faultOf_9 (by decide) ?_ ?_
          · intro c_9_t
            exfalso; omega
          · intro c_9_f
            refine e_aload_n (i := 0) dX8_faultOf_12 rfl rfl ?_
            refine e_getR (r := 28) dX8_faultOf_13 fl_X8_7 sh_10 fj_10_1 ?_
            refine e_iload_n (i := 3) dX8_faultOf_16 rfl rfl ?_
            refine e_iald (x := pd k) dX8_faultOf_17 sh_28 (vin_ofX (X := ((k : Nat) : Int)) (nI_toInt (by omega)) (by omega) (by omega)) (by rw [nI_clamp (by omega)]; exact c28) ?_
            refine e_istore (ls2 := [some (.inr 10), some (.inl gg), some (.inl (nI st.length)), some (.inl (nI k)), some (.inl (pd k)), y5, y6]) dX8_faultOf_18 (Nat.le_of_ble_eq_true rfl) rfl ?_
            refine e_iload dX8_faultOf_20 rfl ?_
            refine e_iload_n (i := 1) dX8_faultOf_22 rfl rfl ?_
            refine e_invSi (As := [.inl (pd k), .inl gg]) (v := mP (pd k).toInt gg.toInt) (h2 := (hr h 33 f)) dX8_faultOf_23 lk_X8_93 ys_X8_partsOf rfl rfl rfl (Nat.le_of_ble_eq_true rfl) (Nat.le_of_ble_eq_true rfl) ⟨Nat.le_of_ble_eq_true rfl, Nat.le_of_ble_eq_true rfl⟩ (k_M_partsOf l (hr h 33 f) (pd k) gg) ?_
            refine e_istore (ls2 := [some (.inr 10), some (.inl gg), some (.inl (nI st.length)), some (.inl (nI k)), some (.inl (pd k)), some (.inl (mP (pd k).toInt gg.toInt)), y6]) dX8_faultOf_26 (Nat.le_of_ble_eq_true rfl) rfl ?_
            refine e_iload dX8_faultOf_28 rfl ?_
            refine b_if_lt (X := (mP (pd k).toInt gg.toInt).toInt) (tgt := 44) rfl dX8_faultOf_30 (by decide) ?_ ?_
            · intro c_30_t
              exfalso; omega
            · intro c_30_f
              refine e_iload dX8_faultOf_33 rfl ?_
              refine b_if_le (X := (mP (pd k).toInt gg.toInt).toInt) (tgt := 46) rfl dX8_faultOf_35 (by decide) ?_ ?_
              · intro c_35_t
                exfalso; omega
              · intro c_35_f
                refine e_iload_n (i := 2) dX8_faultOf_38 rfl rfl ?_
                refine e_bipush (v := 9) dX8_faultOf_39 (by decide) ?_
                refine b_icmp_ne (X := ((st.length : Nat) : Int)) (Y := 9) (tgt := 46) (nI_toInt (by omega)) (by decide) dX8_faultOf_41 (by decide) ?_ ?_
                · intro e_41_t c_41_t
                  exfalso; omega
                · intro e_41_f c_41_f
                  refine e_iload_n (i := 3) dX8_faultOf_44 rfl rfl ?_
                  refine e_iret dX8_faultOf_45 (mret_i _) ?_
                  exact hR _ _ (by rw [nI_toInt (by omega), e])
        · have hnb : ¬ ((mP (pd k).toInt gg.toInt).toInt < 0 ∨ (0 < (mP (pd k).toInt gg.toInt).toInt ∧ st.length = 9)) := by omega
          by_cases h64 : (pd k).toInt = 64
          · have hp1 : mP (pd k).toInt gg.toInt = 1 := by rw [h64]; exact mP_64 _
            have hp1i : (mP (pd k).toInt gg.toInt).toInt = 1 := by rw [hp1]; decide
            by_cases hin : k + 1 < n ∧ ¬ (48 ≤ (pd (k + 1)).toInt ∧ (pd (k + 1)).toInt ≤ 51)
            · have c29 : hr h 33 f 28 (k + 1) = pd (k + 1) := hpd _ hin.1
              have e : ff pd n gg.toInt (fu + 1) k st = ((k + 1 : Nat) : Int) := by unfold ff; rw [if_neg hkn, if_neg hnb, if_pos h64, if_pos hin]
              refine e_iload_n (i := 3) dX8_faultOf_4 rfl rfl ?_
              refine e_aload_n (i := 0) dX8_faultOf_5 rfl rfl ?_
              refine e_getI (x := nI n) dX8_faultOf_6 fl_X8_89 sh_10 fj_10_0 c0 ?_
              refine b_icmp_ge (X := ((k : Nat) : Int)) (Y := ((n : Nat) : Int)) (tgt := 204) (nI_toInt (by omega)) (nI_toInt (by omega)) dX8_faultOf_9 (by decide) ?_ ?_
              · intro c_9_t
                exfalso; omega
              · intro c_9_f
                refine e_aload_n (i := 0) dX8_faultOf_12 rfl rfl ?_
                refine e_getR (r := 28) dX8_faultOf_13 fl_X8_7 sh_10 fj_10_1 ?_
                refine e_iload_n (i := 3) dX8_faultOf_16 rfl rfl ?_
                refine e_iald (x := pd k) dX8_faultOf_17 sh_28 (vin_ofX (X := ((k : Nat) : Int)) (nI_toInt (by omega)) (by omega) (by omega)) (by rw [nI_clamp (by omega)]; exact c28) ?_
                refine e_istore (ls2 := [some (.inr 10), some (.inl gg), some (.inl (nI st.length)), some (.inl (nI k)), some (.inl (pd k)), y5, y6]) dX8_faultOf_18 (Nat.le_of_ble_eq_true rfl) rfl ?_
                refine e_iload dX8_faultOf_20 rfl ?_
                refine e_iload_n (i := 1) dX8_faultOf_22 rfl rfl ?_
                refine e_invSi (As := [.inl (pd k), .inl gg]) (v := mP (pd k).toInt gg.toInt) (h2 := (hr h 33 f)) dX8_faultOf_23 lk_X8_93 ys_X8_partsOf rfl rfl rfl (Nat.le_of_ble_eq_true rfl) (Nat.le_of_ble_eq_true rfl) ⟨Nat.le_of_ble_eq_true rfl, Nat.le_of_ble_eq_true rfl⟩ (k_M_partsOf l (hr h 33 f) (pd k) gg) ?_
                refine e_istore (ls2 := [some (.inr 10), some (.inl gg), some (.inl (nI st.length)), some (.inl (nI k)), some (.inl (pd k)), some (.inl (mP (pd k).toInt gg.toInt)), y6]) dX8_faultOf_26 (Nat.le_of_ble_eq_true rfl) rfl ?_
                refine e_iload dX8_faultOf_28 rfl ?_
                refine b_if_lt (X := (mP (pd k).toInt gg.toInt).toInt) (tgt := 44) rfl dX8_faultOf_30 (by decide) ?_ ?_
                · intro c_30_t
                  exfalso; omega
                · intro c_30_f
                  refine e_iload dX8_faultOf_33 rfl ?_
                  refine b_if_le (X := (mP (pd k).toInt gg.toInt).toInt) (tgt := 46) rfl dX8_faultOf_35 (by decide) ?_ ?_
                  · intro c_35_t
                    exfalso; omega
                  · intro c_35_f
                    refine e_iload_n (i := 2) dX8_faultOf_38 rfl rfl ?_
                    refine e_bipush (v := 9) dX8_faultOf_39 (by decide) ?_
                    refine b_icmp_ne (X := ((st.length : Nat) : Int)) (Y := 9) (tgt := 46) (nI_toInt (by omega)) (by decide) dX8_faultOf_41 (by decide) ?_ ?_
                    · intro e_41_t c_41_t
                      refine e_iload dX8_faultOf_46 rfl ?_
                      refine e_bipush (v := 64) dX8_faultOf_48 (by decide) ?_
                      refine b_icmp_ne (X := (pd k).toInt) (Y := 64) (tgt := 82) rfl (by decide) dX8_faultOf_50 (by decide) ?_ ?_
                      · intro e_50_t c_50_t
                        exfalso; omega
                      · intro e_50_f c_50_f
                        refine e_iinc (v := nI (k + 1)) (ls2 := [some (.inr 10), some (.inl gg), some (.inl (nI st.length)), some (.inl (nI (k + 1))), some (.inl (pd k)), some (.inl (mP (pd k).toInt gg.toInt)), y6]) dX8_faultOf_53 rfl (nI_inc1 _) (Nat.le_of_ble_eq_true rfl) rfl ?_
                        refine e_iload_n (i := 3) dX8_faultOf_56 rfl rfl ?_
                        refine e_aload_n (i := 0) dX8_faultOf_57 rfl rfl ?_
                        refine e_getI (x := nI n) dX8_faultOf_58 fl_X8_89 sh_10 fj_10_0 c0 ?_
                        refine b_icmp_ge (X := ((k + 1 : Nat) : Int)) (Y := ((n : Nat) : Int)) (tgt := 82) (nI_toInt (by omega)) (nI_toInt (by omega)) dX8_faultOf_61 (by decide) ?_ ?_
                        · intro c_61_t
                          exfalso; omega
                        · intro c_61_f
                          refine e_aload_n (i := 0) dX8_faultOf_64 rfl rfl ?_
                          refine e_getR (r := 28) dX8_faultOf_65 fl_X8_7 sh_10 fj_10_1 ?_
                          refine e_iload_n (i := 3) dX8_faultOf_68 rfl rfl ?_
                          refine e_iald (x := pd (k + 1)) dX8_faultOf_69 sh_28 (vin_ofX (X := ((k + 1 : Nat) : Int)) (nI_toInt (by omega)) (by omega) (by omega)) (by rw [nI_clamp (by omega)]; exact c29) ?_
                          refine e_bipush (v := 48) dX8_faultOf_70 (by decide) ?_
                          refine e_bipush (v := 51) dX8_faultOf_72 (by decide) ?_
                          refine e_invSi (As := [.inl (pd (k + 1)), .inl 48, .inl 51]) (v := 0) (h2 := (hr h 33 f)) dX8_faultOf_74 lk_X8_85 ys_X8_in rfl rfl rfl (Nat.le_of_ble_eq_true rfl) (Nat.le_of_ble_eq_true rfl) ⟨Nat.le_of_ble_eq_true rfl, Nat.le_of_ble_eq_true rfl⟩ (k_M_in (Y := 48) (Z := 51) l (hr h 33 f) (pd (k + 1)) 48 51 rfl (by decide) (by decide) (if_neg hin.2)) ?_
                          refine b_if_ne (X := 0) (tgt := 82) (by decide) dX8_faultOf_77 (by decide) ?_ ?_
                          · intro e_77_t c_77_t
                            exfalso; omega
                          · intro e_77_f c_77_f
                            refine e_iload_n (i := 3) dX8_faultOf_80 rfl rfl ?_
                            refine e_iret dX8_faultOf_81 (mret_i _) ?_
                            exact hR _ _ (by rw [nI_toInt (by omega), e])
                    · intro e_41_f c_41_f
                      exfalso; omega
            · have e : ff pd n gg.toInt (fu + 1) k st = ff pd n gg.toInt fu (k + 2) (1 :: st) := by rw [ff, if_neg hkn, if_neg hnb, if_pos h64, if_neg hin]
              by_cases hk1 : k + 1 < n
              · have c29 : hr h 33 f 28 (k + 1) = pd (k + 1) := hpd _ hk1
                refine e_iload_n (i := 3) dX8_faultOf_4 rfl rfl ?_
                refine e_aload_n (i := 0) dX8_faultOf_5 rfl rfl ?_
                refine e_getI (x := nI n) dX8_faultOf_6 fl_X8_89 sh_10 fj_10_0 c0 ?_
                refine b_icmp_ge (X := ((k : Nat) : Int)) (Y := ((n : Nat) : Int)) (tgt := 204) (nI_toInt (by omega)) (nI_toInt (by omega)) dX8_faultOf_9 (by decide) ?_ ?_
                · intro c_9_t
                  exfalso; omega
                · intro c_9_f
                  refine e_aload_n (i := 0) dX8_faultOf_12 rfl rfl ?_
                  refine e_getR (r := 28) dX8_faultOf_13 fl_X8_7 sh_10 fj_10_1 ?_
                  refine e_iload_n (i := 3) dX8_faultOf_16 rfl rfl ?_
                  refine e_iald (x := pd k) dX8_faultOf_17 sh_28 (vin_ofX (X := ((k : Nat) : Int)) (nI_toInt (by omega)) (by omega) (by omega)) (by rw [nI_clamp (by omega)]; exact c28) ?_
                  refine e_istore (ls2 := [some (.inr 10), some (.inl gg), some (.inl (nI st.length)), some (.inl (nI k)), some (.inl (pd k)), y5, y6]) dX8_faultOf_18 (Nat.le_of_ble_eq_true rfl) rfl ?_
                  refine e_iload dX8_faultOf_20 rfl ?_
                  refine e_iload_n (i := 1) dX8_faultOf_22 rfl rfl ?_
                  refine e_invSi (As := [.inl (pd k), .inl gg]) (v := mP (pd k).toInt gg.toInt) (h2 := (hr h 33 f)) dX8_faultOf_23 lk_X8_93 ys_X8_partsOf rfl rfl rfl (Nat.le_of_ble_eq_true rfl) (Nat.le_of_ble_eq_true rfl) ⟨Nat.le_of_ble_eq_true rfl, Nat.le_of_ble_eq_true rfl⟩ (k_M_partsOf l (hr h 33 f) (pd k) gg) ?_
                  refine e_istore (ls2 := [some (.inr 10), some (.inl gg), some (.inl (nI st.length)), some (.inl (nI k)), some (.inl (pd k)), some (.inl (mP (pd k).toInt gg.toInt)), y6]) dX8_faultOf_26 (Nat.le_of_ble_eq_true rfl) rfl ?_
                  refine e_iload dX8_faultOf_28 rfl ?_
                  refine b_if_lt (X := (mP (pd k).toInt gg.toInt).toInt) (tgt := 44) rfl dX8_faultOf_30 (by decide) ?_ ?_
                  · intro c_30_t
                    exfalso; omega
                  · intro c_30_f
                    refine e_iload dX8_faultOf_33 rfl ?_
                    refine b_if_le (X := (mP (pd k).toInt gg.toInt).toInt) (tgt := 46) rfl dX8_faultOf_35 (by decide) ?_ ?_
                    · intro c_35_t
                      exfalso; omega
                    · intro c_35_f
                      refine e_iload_n (i := 2) dX8_faultOf_38 rfl rfl ?_
                      refine e_bipush (v := 9) dX8_faultOf_39 (by decide) ?_
                      refine b_icmp_ne (X := ((st.length : Nat) : Int)) (Y := 9) (tgt := 46) (nI_toInt (by omega)) (by decide) dX8_faultOf_41 (by decide) ?_ ?_
                      · intro e_41_t c_41_t
                        refine e_iload dX8_faultOf_46 rfl ?_
                        refine e_bipush (v := 64) dX8_faultOf_48 (by decide) ?_
                        refine b_icmp_ne (X := (pd k).toInt) (Y := 64) (tgt := 82) rfl (by decide) dX8_faultOf_50 (by decide) ?_ ?_
                        · intro e_50_t c_50_t
                          exfalso; omega
                        · intro e_50_f c_50_f
                          refine e_iinc (v := nI (k + 1)) (ls2 := [some (.inr 10), some (.inl gg), some (.inl (nI st.length)), some (.inl (nI (k + 1))), some (.inl (pd k)), some (.inl (mP (pd k).toInt gg.toInt)), y6]) dX8_faultOf_53 rfl (nI_inc1 _) (Nat.le_of_ble_eq_true rfl) rfl ?_
                          refine e_iload_n (i := 3) dX8_faultOf_56 rfl rfl ?_
                          refine e_aload_n (i := 0) dX8_faultOf_57 rfl rfl ?_
                          refine e_getI (x := nI n) dX8_faultOf_58 fl_X8_89 sh_10 fj_10_0 c0 ?_
                          refine b_icmp_ge (X := ((k + 1 : Nat) : Int)) (Y := ((n : Nat) : Int)) (tgt := 82) (nI_toInt (by omega)) (nI_toInt (by omega)) dX8_faultOf_61 (by decide) ?_ ?_
                          · intro c_61_t
                            exfalso; omega
                          · intro c_61_f
                            refine e_aload_n (i := 0) dX8_faultOf_64 rfl rfl ?_
                            refine e_getR (r := 28) dX8_faultOf_65 fl_X8_7 sh_10 fj_10_1 ?_
                            refine e_iload_n (i := 3) dX8_faultOf_68 rfl rfl ?_
                            refine e_iald (x := pd (k + 1)) dX8_faultOf_69 sh_28 (vin_ofX (X := ((k + 1 : Nat) : Int)) (nI_toInt (by omega)) (by omega) (by omega)) (by rw [nI_clamp (by omega)]; exact c29) ?_
                            refine e_bipush (v := 48) dX8_faultOf_70 (by decide) ?_
                            refine e_bipush (v := 51) dX8_faultOf_72 (by decide) ?_
                            refine e_invSi (As := [.inl (pd (k + 1)), .inl 48, .inl 51]) (v := 1) (h2 := (hr h 33 f)) dX8_faultOf_74 lk_X8_85 ys_X8_in rfl rfl rfl (Nat.le_of_ble_eq_true rfl) (Nat.le_of_ble_eq_true rfl) ⟨Nat.le_of_ble_eq_true rfl, Nat.le_of_ble_eq_true rfl⟩ (k_M_in (Y := 48) (Z := 51) l (hr h 33 f) (pd (k + 1)) 48 51 rfl (by decide) (by decide) (if_pos (Decidable.of_not_not (fun z => hin ⟨hk1, z⟩)))) ?_
                            refine b_if_ne (X := 1) (tgt := 82) (by decide) dX8_faultOf_77 (by decide) ?_ ?_
                            · intro e_77_t c_77_t
                              refine e_iinc (v := nI (k + 1 + 1)) (ls2 := [some (.inr 10), some (.inl gg), some (.inl (nI st.length)), some (.inl (nI (k + 1 + 1))), some (.inl (pd k)), some (.inl (mP (pd k).toInt gg.toInt)), y6]) dX8_faultOf_82 rfl (nI_inc1 _) (Nat.le_of_ble_eq_true rfl) rfl ?_
                              refine e_iload dX8_faultOf_85 rfl ?_
                              refine b_if_le (X := (mP (pd k).toInt gg.toInt).toInt) (tgt := 104) rfl dX8_faultOf_87 (by decide) ?_ ?_
                              · intro c_87_t
                                exfalso; omega
                              · intro c_87_f
                                refine e_aload_n (i := 0) dX8_faultOf_90 rfl rfl ?_
                                refine e_getR (r := 33) dX8_faultOf_91 fl_X8_25 sh_10 fj_10_7 ?_
                                refine e_iload_n (i := 2) dX8_faultOf_94 rfl rfl ?_
                                refine e_iload dX8_faultOf_95 rfl ?_
                                refine e_iast dX8_faultOf_97 sh_33 (vin_ofX (X := ((st.length : Nat) : Int)) (nI_toInt (by omega)) (by omega) (by omega)) ?_
                                rw [nI_clamp (by omega)]
                                refine e_iinc (v := nI (st.length + 1)) (ls2 := [some (.inr 10), some (.inl gg), some (.inl (nI (st.length + 1))), some (.inl (nI (k + 1 + 1))), some (.inl (pd k)), some (.inl (mP (pd k).toInt gg.toInt)), y6]) dX8_faultOf_98 rfl (nI_inc1 _) (Nat.le_of_ble_eq_true rfl) rfl ?_
                                refine e_goto (tgt := 201) dX8_faultOf_101 (by decide) ?_
                                refine e_goto (tgt := 4) dX8_faultOf_201 (by decide) ?_
                                rw [hr_hs]
                                refine ih (k + 2) (1 :: st) (upd f st.length (mP (pd k).toInt gg.toInt)) _ _ _ (by omega) (by omega) (fun z hz => ?_) (by simp only [List.length_cons]; omega) ⟨by rw [pk_us, hp1]; rfl, mDu_up (Nat.le_refl _) hdu⟩ (fun v f' hv => hR v f' (by rw [e]; exact hv))
                                rcases List.mem_cons.mp hz with rfl | hz
                                · decide
                                · exact hok z hz
                            · intro e_77_f c_77_f
                              exfalso; omega
                      · intro e_41_f c_41_f
                        exfalso; omega
              · skip
                refine e_iload_n (i := 3) dX8_faultOf_4 rfl rfl ?_
                refine e_aload_n (i := 0) dX8_faultOf_5 rfl rfl ?_
                refine e_getI (x := nI n) dX8_faultOf_6 fl_X8_89 sh_10 fj_10_0 c0 ?_
                refine b_icmp_ge (X := ((k : Nat) : Int)) (Y := ((n : Nat) : Int)) (tgt := 204) (nI_toInt (by omega)) (nI_toInt (by omega)) dX8_faultOf_9 (by decide) ?_ ?_
                · intro c_9_t
                  exfalso; omega
                · intro c_9_f
                  refine e_aload_n (i := 0) dX8_faultOf_12 rfl rfl ?_
                  refine e_getR (r := 28) dX8_faultOf_13 fl_X8_7 sh_10 fj_10_1 ?_
                  refine e_iload_n (i := 3) dX8_faultOf_16 rfl rfl ?_
                  refine e_iald (x := pd k) dX8_faultOf_17 sh_28 (vin_ofX (X := ((k : Nat) : Int)) (nI_toInt (by omega)) (by omega) (by omega)) (by rw [nI_clamp (by omega)]; exact c28) ?_
                  refine e_istore (ls2 := [some (.inr 10), some (.inl gg), some (.inl (nI st.length)), some (.inl (nI k)), some (.inl (pd k)), y5, y6]) dX8_faultOf_18 (Nat.le_of_ble_eq_true rfl) rfl ?_
                  refine e_iload dX8_faultOf_20 rfl ?_
                  refine e_iload_n (i := 1) dX8_faultOf_22 rfl rfl ?_
                  refine e_invSi (As := [.inl (pd k), .inl gg]) (v := mP (pd k).toInt gg.toInt) (h2 := (hr h 33 f)) dX8_faultOf_23 lk_X8_93 ys_X8_partsOf rfl rfl rfl (Nat.le_of_ble_eq_true rfl) (Nat.le_of_ble_eq_true rfl) ⟨Nat.le_of_ble_eq_true rfl, Nat.le_of_ble_eq_true rfl⟩ (k_M_partsOf l (hr h 33 f) (pd k) gg) ?_
                  refine e_istore (ls2 := [some (.inr 10), some (.inl gg), some (.inl (nI st.length)), some (.inl (nI k)), some (.inl (pd k)), some (.inl (mP (pd k).toInt gg.toInt)), y6]) dX8_faultOf_26 (Nat.le_of_ble_eq_true rfl) rfl ?_
                  refine e_iload dX8_faultOf_28 rfl ?_
                  refine b_if_lt (X := (mP (pd k).toInt gg.toInt).toInt) (tgt := 44) rfl dX8_faultOf_30 (by decide) ?_ ?_
                  · intro c_30_t
                    exfalso; omega
                  · intro c_30_f
                    refine e_iload dX8_faultOf_33 rfl ?_
                    refine b_if_le (X := (mP (pd k).toInt gg.toInt).toInt) (tgt := 46) rfl dX8_faultOf_35 (by decide) ?_ ?_
                    · intro c_35_t
                      exfalso; omega
                    · intro c_35_f
                      refine e_iload_n (i := 2) dX8_faultOf_38 rfl rfl ?_
                      refine e_bipush (v := 9) dX8_faultOf_39 (by decide) ?_
                      refine b_icmp_ne (X := ((st.length : Nat) : Int)) (Y := 9) (tgt := 46) (nI_toInt (by omega)) (by decide) dX8_faultOf_41 (by decide) ?_ ?_
                      · intro e_41_t c_41_t
                        refine e_iload dX8_faultOf_46 rfl ?_
                        refine e_bipush (v := 64) dX8_faultOf_48 (by decide) ?_
                        refine b_icmp_ne (X := (pd k).toInt) (Y := 64) (tgt := 82) rfl (by decide) dX8_faultOf_50 (by decide) ?_ ?_
                        · intro e_50_t c_50_t
                          exfalso; omega
                        · intro e_50_f c_50_f
                          refine e_iinc (v := nI (k + 1)) (ls2 := [some (.inr 10), some (.inl gg), some (.inl (nI st.length)), some (.inl (nI (k + 1))), some (.inl (pd k)), some (.inl (mP (pd k).toInt gg.toInt)), y6]) dX8_faultOf_53 rfl (nI_inc1 _) (Nat.le_of_ble_eq_true rfl) rfl ?_
                          refine e_iload_n (i := 3) dX8_faultOf_56 rfl rfl ?_
                          refine e_aload_n (i := 0) dX8_faultOf_57 rfl rfl ?_
                          refine e_getI (x := nI n) dX8_faultOf_58 fl_X8_89 sh_10 fj_10_0 c0 ?_
                          refine b_icmp_ge (X := ((k + 1 : Nat) : Int)) (Y := ((n : Nat) : Int)) (tgt := 82) (nI_toInt (by omega)) (nI_toInt (by omega)) dX8_faultOf_61 (by decide) ?_ ?_
                          · intro c_61_t
                            refine e_iinc (v := nI (k + 1 + 1)) (ls2 := [some (.inr 10), some (.inl gg), some (.inl (nI st.length)), some (.inl (nI (k + 1 + 1))), some (.inl (pd k)), some (.inl (mP (pd k).toInt gg.toInt)), y6]) dX8_faultOf_82 rfl (nI_inc1 _) (Nat.le_of_ble_eq_true rfl) rfl ?_
                            refine e_iload dX8_faultOf_85 rfl ?_
                            refine b_if_le (X := (mP (pd k).toInt gg.toInt).toInt) (tgt := 104) rfl dX8_faultOf_87 (by decide) ?_ ?_
                            · intro c_87_t
                              exfalso; omega
                            · intro c_87_f
                              refine e_aload_n (i := 0) dX8_faultOf_90 rfl rfl ?_
                              refine e_getR (r := 33) dX8_faultOf_91 fl_X8_25 sh_10 fj_10_7 ?_
                              refine e_iload_n (i := 2) dX8_faultOf_94 rfl rfl ?_
                              refine e_iload dX8_faultOf_95 rfl ?_
                              refine e_iast dX8_faultOf_97 sh_33 (vin_ofX (X := ((st.length : Nat) : Int)) (nI_toInt (by omega)) (by omega) (by omega)) ?_
                              rw [nI_clamp (by omega)]
                              refine e_iinc (v := nI (st.length + 1)) (ls2 := [some (.inr 10), some (.inl gg), some (.inl (nI (st.length + 1))), some (.inl (nI (k + 1 + 1))), some (.inl (pd k)), some (.inl (mP (pd k).toInt gg.toInt)), y6]) dX8_faultOf_98 rfl (nI_inc1 _) (Nat.le_of_ble_eq_true rfl) rfl ?_
                              refine e_goto (tgt := 201) dX8_faultOf_101 (by decide) ?_
                              refine e_goto (tgt := 4) dX8_faultOf_201 (by decide) ?_
                              rw [hr_hs]
                              refine ih (k + 2) (1 :: st) (upd f st.length (mP (pd k).toInt gg.toInt)) _ _ _ (by omega) (by omega) (fun z hz => ?_) (by simp only [List.length_cons]; omega) ⟨by rw [pk_us, hp1]; rfl, mDu_up (Nat.le_refl _) hdu⟩ (fun v f' hv => hR v f' (by rw [e]; exact hv))
                              rcases List.mem_cons.mp hz with rfl | hz
                              · decide
                              · exact hok z hz
                          · intro c_61_f
                            exfalso; omega
                      · intro e_41_f c_41_f
                        exfalso; omega
          · by_cases hpos : 0 < (mP (pd k).toInt gg.toInt).toInt
            · have e : ff pd n gg.toInt (fu + 1) k st = ff pd n gg.toInt fu (k + 1) ((mP (pd k).toInt gg.toInt).toInt.toNat :: st) := by rw [ff, if_neg hkn, if_neg hnb, if_neg h64, if_pos hpos]
              refine e_iload_n (i := 3) dX8_faultOf_4 rfl rfl ?_
              refine e_aload_n (i := 0) dX8_faultOf_5 rfl rfl ?_
              refine e_getI (x := nI n) dX8_faultOf_6 fl_X8_89 sh_10 fj_10_0 c0 ?_
              refine b_icmp_ge (X := ((k : Nat) : Int)) (Y := ((n : Nat) : Int)) (tgt := 204) (nI_toInt (by omega)) (nI_toInt (by omega)) dX8_faultOf_9 (by decide) ?_ ?_
              · intro c_9_t
                exfalso; omega
              · intro c_9_f
                refine e_aload_n (i := 0) dX8_faultOf_12 rfl rfl ?_
                refine e_getR (r := 28) dX8_faultOf_13 fl_X8_7 sh_10 fj_10_1 ?_
                refine e_iload_n (i := 3) dX8_faultOf_16 rfl rfl ?_
                refine e_iald (x := pd k) dX8_faultOf_17 sh_28 (vin_ofX (X := ((k : Nat) : Int)) (nI_toInt (by omega)) (by omega) (by omega)) (by rw [nI_clamp (by omega)]; exact c28) ?_
                refine e_istore (ls2 := [some (.inr 10), some (.inl gg), some (.inl (nI st.length)), some (.inl (nI k)), some (.inl (pd k)), y5, y6]) dX8_faultOf_18 (Nat.le_of_ble_eq_true rfl) rfl ?_
                refine e_iload dX8_faultOf_20 rfl ?_
                refine e_iload_n (i := 1) dX8_faultOf_22 rfl rfl ?_
                refine e_invSi (As := [.inl (pd k), .inl gg]) (v := mP (pd k).toInt gg.toInt) (h2 := (hr h 33 f)) dX8_faultOf_23 lk_X8_93 ys_X8_partsOf rfl rfl rfl (Nat.le_of_ble_eq_true rfl) (Nat.le_of_ble_eq_true rfl) ⟨Nat.le_of_ble_eq_true rfl, Nat.le_of_ble_eq_true rfl⟩ (k_M_partsOf l (hr h 33 f) (pd k) gg) ?_
                refine e_istore (ls2 := [some (.inr 10), some (.inl gg), some (.inl (nI st.length)), some (.inl (nI k)), some (.inl (pd k)), some (.inl (mP (pd k).toInt gg.toInt)), y6]) dX8_faultOf_26 (Nat.le_of_ble_eq_true rfl) rfl ?_
                refine e_iload dX8_faultOf_28 rfl ?_
                refine b_if_lt (X := (mP (pd k).toInt gg.toInt).toInt) (tgt := 44) rfl dX8_faultOf_30 (by decide) ?_ ?_
                · intro c_30_t
                  exfalso; omega
                · intro c_30_f
                  refine e_iload dX8_faultOf_33 rfl ?_
                  refine b_if_le (X := (mP (pd k).toInt gg.toInt).toInt) (tgt := 46) rfl dX8_faultOf_35 (by decide) ?_ ?_
                  · intro c_35_t
                    exfalso; omega
                  · intro c_35_f
                    refine e_iload_n (i := 2) dX8_faultOf_38 rfl rfl ?_
                    refine e_bipush (v := 9) dX8_faultOf_39 (by decide) ?_
                    refine b_icmp_ne (X := ((st.length : Nat) : Int)) (Y := 9) (tgt := 46) (nI_toInt (by omega)) (by decide) dX8_faultOf_41 (by decide) ?_ ?_
                    · intro e_41_t c_41_t
                      refine e_iload dX8_faultOf_46 rfl ?_
                      refine e_bipush (v := 64) dX8_faultOf_48 (by decide) ?_
                      refine b_icmp_ne (X := (pd k).toInt) (Y := 64) (tgt := 82) rfl (by decide) dX8_faultOf_50 (by decide) ?_ ?_
                      · intro e_50_t c_50_t
                        refine e_iinc (v := nI (k + 1)) (ls2 := [some (.inr 10), some (.inl gg), some (.inl (nI st.length)), some (.inl (nI (k + 1))), some (.inl (pd k)), some (.inl (mP (pd k).toInt gg.toInt)), y6]) dX8_faultOf_82 rfl (nI_inc1 _) (Nat.le_of_ble_eq_true rfl) rfl ?_
                        refine e_iload dX8_faultOf_85 rfl ?_
                        refine b_if_le (X := (mP (pd k).toInt gg.toInt).toInt) (tgt := 104) rfl dX8_faultOf_87 (by decide) ?_ ?_
                        · intro c_87_t
                          exfalso; omega
                        · intro c_87_f
                          refine e_aload_n (i := 0) dX8_faultOf_90 rfl rfl ?_
                          refine e_getR (r := 33) dX8_faultOf_91 fl_X8_25 sh_10 fj_10_7 ?_
                          refine e_iload_n (i := 2) dX8_faultOf_94 rfl rfl ?_
                          refine e_iload dX8_faultOf_95 rfl ?_
                          refine e_iast dX8_faultOf_97 sh_33 (vin_ofX (X := ((st.length : Nat) : Int)) (nI_toInt (by omega)) (by omega) (by omega)) ?_
                          rw [nI_clamp (by omega)]
                          refine e_iinc (v := nI (st.length + 1)) (ls2 := [some (.inr 10), some (.inl gg), some (.inl (nI (st.length + 1))), some (.inl (nI (k + 1))), some (.inl (pd k)), some (.inl (mP (pd k).toInt gg.toInt)), y6]) dX8_faultOf_98 rfl (nI_inc1 _) (Nat.le_of_ble_eq_true rfl) rfl ?_
                          refine e_goto (tgt := 201) dX8_faultOf_101 (by decide) ?_
                          refine e_goto (tgt := 4) dX8_faultOf_201 (by decide) ?_
                          rw [hr_hs]
                          refine ih (k + 1) ((mP (pd k).toInt gg.toInt).toInt.toNat :: st) (upd f st.length (mP (pd k).toInt gg.toInt)) _ _ _ (by omega) (by omega) (fun z hz => ?_) (by simp only [List.length_cons]; omega) ⟨by rw [pk_us]; exact nI_ofInt (by omega), mDu_up (Nat.le_refl _) hdu⟩ (fun v f' hv => hR v f' (by rw [e]; exact hv))
                          rcases List.mem_cons.mp hz with rfl | hz
                          · omega
                          · exact hok z hz
                      · intro e_50_f c_50_f
                        exfalso; omega
                    · intro e_41_f c_41_f
                      exfalso; omega
            · have e : ff pd n gg.toInt (fu + 1) k st = (if popd st = [] then (if k + 1 = n then -6 else ((k + 1 : Nat) : Int)) else ff pd n gg.toInt fu (k + 1) (popd st)) := by rw [ff, if_neg hkn, if_neg hnb, if_neg h64, if_neg hpos]
              obtain ⟨pk1, pk2⟩ := popd_ok hok
              have hend : ∀ f', mDu f' (popd st) → mE l Sh0 none iX8_faultOf RT 182 [some (.inr 10), some (.inl gg), some (.inl (nI (popd st).length)), some (.inl (nI (k + 1))), some (.inl (pd k)), some (.inl (mP (pd k).toInt gg.toInt)), some (.inl 0)] [] (hr h 33 f') := by
                intro f' hf'
                have c0 : hr h 33 f' 10 0 = nI n := m0
                by_cases hpe : popd st = []
                · rw [if_pos hpe] at e
                  have hl0 : (popd st).length = 0 := by rw [hpe]; rfl
                  by_cases hkk : k + 1 = n
                  · rw [if_pos hkk] at e
                    refine e_iload_n (i := 2) dX8_faultOf_182 rfl rfl ?_
                    refine b_if_ne (X := (((popd st).length : Nat) : Int)) (tgt := 201) (nI_toInt (by omega)) dX8_faultOf_183 (by decide) ?_ ?_
                    · intro e_183_t c_183_t
                      exfalso; omega
                    · intro e_183_f c_183_f
                      refine e_iload_n (i := 3) dX8_faultOf_186 rfl rfl ?_
                      refine e_aload_n (i := 0) dX8_faultOf_187 rfl rfl ?_
                      refine e_getI (x := nI n) dX8_faultOf_188 fl_X8_89 sh_10 fj_10_0 c0 ?_
                      refine b_icmp_ne (X := ((k + 1 : Nat) : Int)) (Y := ((n : Nat) : Int)) (tgt := 199) (nI_toInt (by omega)) (nI_toInt (by omega)) dX8_faultOf_191 (by decide) ?_ ?_
                      · intro e_191_t c_191_t
                        exfalso; omega
                      · intro e_191_f c_191_f
                        refine e_bipush (v := (-6)) dX8_faultOf_194 (by decide) ?_
                        refine e_goto (tgt := 200) dX8_faultOf_196 (by decide) ?_
                        refine e_iret dX8_faultOf_200 (mret_i _) ?_
                        exact hR _ _ (by rw [e]; decide)
                  · rw [if_neg hkk] at e
                    refine e_iload_n (i := 2) dX8_faultOf_182 rfl rfl ?_
                    refine b_if_ne (X := (((popd st).length : Nat) : Int)) (tgt := 201) (nI_toInt (by omega)) dX8_faultOf_183 (by decide) ?_ ?_
                    · intro e_183_t c_183_t
                      exfalso; omega
                    · intro e_183_f c_183_f
                      refine e_iload_n (i := 3) dX8_faultOf_186 rfl rfl ?_
                      refine e_aload_n (i := 0) dX8_faultOf_187 rfl rfl ?_
                      refine e_getI (x := nI n) dX8_faultOf_188 fl_X8_89 sh_10 fj_10_0 c0 ?_
                      refine b_icmp_ne (X := ((k + 1 : Nat) : Int)) (Y := ((n : Nat) : Int)) (tgt := 199) (nI_toInt (by omega)) (nI_toInt (by omega)) dX8_faultOf_191 (by decide) ?_ ?_
                      · intro e_191_t c_191_t
                        refine e_iload_n (i := 3) dX8_faultOf_199 rfl rfl ?_
                        refine e_iret dX8_faultOf_200 (mret_i _) ?_
                        exact hR _ _ (by rw [nI_toInt (by omega), e])
                      · intro e_191_f c_191_f
                        exfalso; omega
                · rw [if_neg hpe] at e
                  have hl1 : 1 ≤ (popd st).length := popd_nil.resolve_left hpe
                  refine e_iload_n (i := 2) dX8_faultOf_182 rfl rfl ?_
                  refine b_if_ne (X := (((popd st).length : Nat) : Int)) (tgt := 201) (nI_toInt (by omega)) dX8_faultOf_183 (by decide) ?_ ?_
                  · intro e_183_t c_183_t
                    refine e_goto (tgt := 4) dX8_faultOf_201 (by decide) ?_
                    exact ih (k + 1) (popd st) f' _ _ _ (by omega) (by omega) pk1 (by omega) hf' (fun v f2 hv => hR v f2 (by rw [e]; exact hv))
                  · intro e_183_f c_183_f
                    exfalso; omega
              by_cases hst : st = []
              · have hl0 : st.length = 0 := by rw [hst]; rfl
                have hpl : popd st = st := by rw [hst]; rfl
                refine e_iload_n (i := 3) dX8_faultOf_4 rfl rfl ?_
                refine e_aload_n (i := 0) dX8_faultOf_5 rfl rfl ?_
                refine e_getI (x := nI n) dX8_faultOf_6 fl_X8_89 sh_10 fj_10_0 c0 ?_
                refine b_icmp_ge (X := ((k : Nat) : Int)) (Y := ((n : Nat) : Int)) (tgt := 204) (nI_toInt (by omega)) (nI_toInt (by omega)) dX8_faultOf_9 (by decide) ?_ ?_
                · intro c_9_t
                  exfalso; omega
                · intro c_9_f
                  refine e_aload_n (i := 0) dX8_faultOf_12 rfl rfl ?_
                  refine e_getR (r := 28) dX8_faultOf_13 fl_X8_7 sh_10 fj_10_1 ?_
                  refine e_iload_n (i := 3) dX8_faultOf_16 rfl rfl ?_
                  refine e_iald (x := pd k) dX8_faultOf_17 sh_28 (vin_ofX (X := ((k : Nat) : Int)) (nI_toInt (by omega)) (by omega) (by omega)) (by rw [nI_clamp (by omega)]; exact c28) ?_
                  refine e_istore (ls2 := [some (.inr 10), some (.inl gg), some (.inl (nI st.length)), some (.inl (nI k)), some (.inl (pd k)), y5, y6]) dX8_faultOf_18 (Nat.le_of_ble_eq_true rfl) rfl ?_
                  refine e_iload dX8_faultOf_20 rfl ?_
                  refine e_iload_n (i := 1) dX8_faultOf_22 rfl rfl ?_
                  refine e_invSi (As := [.inl (pd k), .inl gg]) (v := mP (pd k).toInt gg.toInt) (h2 := (hr h 33 f)) dX8_faultOf_23 lk_X8_93 ys_X8_partsOf rfl rfl rfl (Nat.le_of_ble_eq_true rfl) (Nat.le_of_ble_eq_true rfl) ⟨Nat.le_of_ble_eq_true rfl, Nat.le_of_ble_eq_true rfl⟩ (k_M_partsOf l (hr h 33 f) (pd k) gg) ?_
                  refine e_istore (ls2 := [some (.inr 10), some (.inl gg), some (.inl (nI st.length)), some (.inl (nI k)), some (.inl (pd k)), some (.inl (mP (pd k).toInt gg.toInt)), y6]) dX8_faultOf_26 (Nat.le_of_ble_eq_true rfl) rfl ?_
                  refine e_iload dX8_faultOf_28 rfl ?_
                  refine b_if_lt (X := (mP (pd k).toInt gg.toInt).toInt) (tgt := 44) rfl dX8_faultOf_30 (by decide) ?_ ?_
                  · intro c_30_t
                    exfalso; omega
                  · intro c_30_f
                    refine e_iload dX8_faultOf_33 rfl ?_
                    refine b_if_le (X := (mP (pd k).toInt gg.toInt).toInt) (tgt := 46) rfl dX8_faultOf_35 (by decide) ?_ ?_
                    · intro c_35_t
                      refine e_iload dX8_faultOf_46 rfl ?_
                      refine e_bipush (v := 64) dX8_faultOf_48 (by decide) ?_
                      refine b_icmp_ne (X := (pd k).toInt) (Y := 64) (tgt := 82) rfl (by decide) dX8_faultOf_50 (by decide) ?_ ?_
                      · intro e_50_t c_50_t
                        refine e_iinc (v := nI (k + 1)) (ls2 := [some (.inr 10), some (.inl gg), some (.inl (nI st.length)), some (.inl (nI (k + 1))), some (.inl (pd k)), some (.inl (mP (pd k).toInt gg.toInt)), y6]) dX8_faultOf_82 rfl (nI_inc1 _) (Nat.le_of_ble_eq_true rfl) rfl ?_
                        refine e_iload dX8_faultOf_85 rfl ?_
                        refine b_if_le (X := (mP (pd k).toInt gg.toInt).toInt) (tgt := 104) rfl dX8_faultOf_87 (by decide) ?_ ?_
                        · intro c_87_t
                          refine e_iload_n (i := 2) dX8_faultOf_104 rfl rfl ?_
                          refine b_if_le (X := ((st.length : Nat) : Int)) (tgt := 112) (nI_toInt (by omega)) dX8_faultOf_105 (by decide) ?_ ?_
                          · intro c_105_t
                            refine e_iconst (v := 0) dX8_faultOf_112 (by decide) ?_
                            refine e_istore (ls2 := [some (.inr 10), some (.inl gg), some (.inl (nI st.length)), some (.inl (nI (k + 1))), some (.inl (pd k)), some (.inl (mP (pd k).toInt gg.toInt)), some (.inl 0)]) dX8_faultOf_113 (Nat.le_of_ble_eq_true rfl) rfl ?_
                            refine lp_M_popx l _ _ _ _ _ _ RT ?_
                            have q := hend f (by rw [hpl]; exact hdu)
                            rw [hpl] at q
                            exact q
                          · intro c_105_f
                            exfalso; omega
                        · intro c_87_f
                          exfalso; omega
                      · intro e_50_f c_50_f
                        exfalso; omega
                    · intro c_35_f
                      exfalso; omega
              · have hl1 : 1 ≤ st.length := by cases st with | nil => exact absurd rfl hst | cons a b => simp
                refine e_iload_n (i := 3) dX8_faultOf_4 rfl rfl ?_
                refine e_aload_n (i := 0) dX8_faultOf_5 rfl rfl ?_
                refine e_getI (x := nI n) dX8_faultOf_6 fl_X8_89 sh_10 fj_10_0 c0 ?_
                refine b_icmp_ge (X := ((k : Nat) : Int)) (Y := ((n : Nat) : Int)) (tgt := 204) (nI_toInt (by omega)) (nI_toInt (by omega)) dX8_faultOf_9 (by decide) ?_ ?_
                · intro c_9_t
                  exfalso; omega
                · intro c_9_f
                  refine e_aload_n (i := 0) dX8_faultOf_12 rfl rfl ?_
                  refine e_getR (r := 28) dX8_faultOf_13 fl_X8_7 sh_10 fj_10_1 ?_
                  refine e_iload_n (i := 3) dX8_faultOf_16 rfl rfl ?_
                  refine e_iald (x := pd k) dX8_faultOf_17 sh_28 (vin_ofX (X := ((k : Nat) : Int)) (nI_toInt (by omega)) (by omega) (by omega)) (by rw [nI_clamp (by omega)]; exact c28) ?_
                  refine e_istore (ls2 := [some (.inr 10), some (.inl gg), some (.inl (nI st.length)), some (.inl (nI k)), some (.inl (pd k)), y5, y6]) dX8_faultOf_18 (Nat.le_of_ble_eq_true rfl) rfl ?_
                  refine e_iload dX8_faultOf_20 rfl ?_
                  refine e_iload_n (i := 1) dX8_faultOf_22 rfl rfl ?_
                  refine e_invSi (As := [.inl (pd k), .inl gg]) (v := mP (pd k).toInt gg.toInt) (h2 := (hr h 33 f)) dX8_faultOf_23 lk_X8_93 ys_X8_partsOf rfl rfl rfl (Nat.le_of_ble_eq_true rfl) (Nat.le_of_ble_eq_true rfl) ⟨Nat.le_of_ble_eq_true rfl, Nat.le_of_ble_eq_true rfl⟩ (k_M_partsOf l (hr h 33 f) (pd k) gg) ?_
                  refine e_istore (ls2 := [some (.inr 10), some (.inl gg), some (.inl (nI st.length)), some (.inl (nI k)), some (.inl (pd k)), some (.inl (mP (pd k).toInt gg.toInt)), y6]) dX8_faultOf_26 (Nat.le_of_ble_eq_true rfl) rfl ?_
                  refine e_iload dX8_faultOf_28 rfl ?_
                  refine b_if_lt (X := (mP (pd k).toInt gg.toInt).toInt) (tgt := 44) rfl dX8_faultOf_30 (by decide) ?_ ?_
                  · intro c_30_t
                    exfalso; omega
                  · intro c_30_f
                    refine e_iload dX8_faultOf_33 rfl ?_
                    refine b_if_le (X := (mP (pd k).toInt gg.toInt).toInt) (tgt := 46) rfl dX8_faultOf_35 (by decide) ?_ ?_
                    · intro c_35_t
                      refine e_iload dX8_faultOf_46 rfl ?_
                      refine e_bipush (v := 64) dX8_faultOf_48 (by decide) ?_
                      refine b_icmp_ne (X := (pd k).toInt) (Y := 64) (tgt := 82) rfl (by decide) dX8_faultOf_50 (by decide) ?_ ?_
                      · intro e_50_t c_50_t
                        refine e_iinc (v := nI (k + 1)) (ls2 := [some (.inr 10), some (.inl gg), some (.inl (nI st.length)), some (.inl (nI (k + 1))), some (.inl (pd k)), some (.inl (mP (pd k).toInt gg.toInt)), y6]) dX8_faultOf_82 rfl (nI_inc1 _) (Nat.le_of_ble_eq_true rfl) rfl ?_
                        refine e_iload dX8_faultOf_85 rfl ?_
                        refine b_if_le (X := (mP (pd k).toInt gg.toInt).toInt) (tgt := 104) rfl dX8_faultOf_87 (by decide) ?_ ?_
                        · intro c_87_t
                          refine e_iload_n (i := 2) dX8_faultOf_104 rfl rfl ?_
                          refine b_if_le (X := ((st.length : Nat) : Int)) (tgt := 112) (nI_toInt (by omega)) dX8_faultOf_105 (by decide) ?_ ?_
                          · intro c_105_t
                            exfalso; omega
                          · intro c_105_f
                            refine e_iconst (v := 1) dX8_faultOf_108 (by decide) ?_
                            refine e_goto (tgt := 113) dX8_faultOf_109 (by decide) ?_
                            refine e_istore (ls2 := [some (.inr 10), some (.inl gg), some (.inl (nI st.length)), some (.inl (nI (k + 1))), some (.inl (pd k)), some (.inl (mP (pd k).toInt gg.toInt)), some (.inl 1)]) dX8_faultOf_113 (Nat.le_of_ble_eq_true rfl) rfl ?_
                            exact lp_M_pop l h _ _ _ _ RT st f hst hok hlen hdu hend
                        · intro c_87_f
                          exfalso; omega
                      · intro e_50_f c_50_f
                        exfalso; omega
                    · intro c_35_f
                      exfalso; omega
