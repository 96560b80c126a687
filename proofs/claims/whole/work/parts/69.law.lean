/-! The law's loop. -/
abbrev iL_law : mI := (RL, code, 4, ret, room_1)
theorem nI_inc8 (i : Nat) : nI i + Int32.ofInt 8 = nI (i + 8) := by
  rw [show Int32.ofInt 8 = nI 8 from by decide, nI_add]
theorem subL {L : Nat} (h : L ≤ 4096) : (nI L - 8).toInt = (L : Int) - 8 := by
  by_cases z : 8 ≤ L
  · rw [show nI L - 8 = nI (L - 8) from nI_subc 8 z, nI_toInt (by omega)]
    omega
  · have hc : L = 0 ∨ L = 1 ∨ L = 2 ∨ L = 3 ∨ L = 4 ∨ L = 5 ∨ L = 6 ∨ L = 7 := by omega
    rcases hc with rfl | rfl | rfl | rfl | rfl | rfl | rfl | rfl <;> decide
set_option maxHeartbeats 8000000 in
theorem lp_law (l : Launch) (L : Nat) (xs : Nat → Int32) (hL : L ≤ 4096) : ∀ (d i : Nat) (h : mH), L ≤ i + d → i ≤ L → Inv h → mE2 l Sh0 (some (L, xs)) iL_law (fun v _ => v = some 1) 53 74474 18 [some (.inr 1000), some (.inr 0), some (.inr 10), some (.inl (nI i))] [] h := by
  have hkn : 53 + 0 ≤ iL_law.2.2.2.2.cells ∧ 74474 + 0 ≤ iL_law.2.2.2.2.slots := ⟨Nat.le_of_ble_eq_true rfl, Nat.le_of_ble_eq_true rfl⟩
  have hsl := subL hL
  intro d
  induction d using Nat.strongRecOn with
  | ind d ih =>
    intro i h hd hi hI
    refine e2_iload_n (i := 3) dL_law_18 rfl rfl ?_
    refine e2_aload_n (i := 0) dL_law_19 rfl rfl ?_
    refine e2_slen dL_law_20 rfl ?_
    refine e2_bipush (v := 8) dL_law_21 (by decide) ?_
    refine e2_isub dL_law_23 ?_
    refine b2_icmp_gt (X := ((i : Nat) : Int)) (Y := (((L : Nat) : Int) - 8)) (tgt := 719) (nI_toInt (by omega)) hsl dL_law_24 (by decide) ?_ ?_
    · intro c_24_t
      refine e2_iconst (v := 1) dL_law_719 (by decide) ?_
      refine e2_iret dL_law_720 (mret_z (by first | decide | (simp only []; split <;> decide))) ?_
      rfl
    · intro c_24_f
      refine e2_aload_n (i := 0) dL_law_27 rfl rfl ?_
      refine e2_iload_n (i := 3) dL_law_28 rfl rfl ?_
      refine e2_sld dL_law_29 rfl (vin_ofX (X := ((i : Nat) : Int)) (nI_toInt (by omega)) (by omega) (by omega)) ?_
      rw [nI_clamp (by omega)]
      refine e2_bipush (v := 31) dL_law_30 (by decide) ?_
      refine e2_iand dL_law_32 ?_
      by_cases sw_33 : (xs i &&& 31).toInt < 0 ∨ 16 < (xs i &&& 31).toInt
      · refine e2_tableOut (tgt := 713) dL_law_33 sw_33 (by decide) ?_
        refine e2_iinc (v := nI (i + 8)) (ls2 := [some (.inr 1000), some (.inr 0), some (.inr 10), some (.inl (nI (i + 8)))]) dL_law_713 rfl (nI_inc8 _) (Nat.le_of_ble_eq_true rfl) rfl ?_
        refine e2_goto (tgt := 18) dL_law_716 (by decide) ?_
        exact ih (d - 8) (by omega) (i + 8) h (by omega) (by omega) hI
      · have sw2_33 : (xs i &&& 31).toInt = 0 ∨ (xs i &&& 31).toInt = 1 ∨ (xs i &&& 31).toInt = 2 ∨ (xs i &&& 31).toInt = 3 ∨ (xs i &&& 31).toInt = 4 ∨ (xs i &&& 31).toInt = 5 ∨ (xs i &&& 31).toInt = 6 ∨ (xs i &&& 31).toInt = 7 ∨ (xs i &&& 31).toInt = 8 ∨ (xs i &&& 31).toInt = 9 ∨ (xs i &&& 31).toInt = 10 ∨ (xs i &&& 31).toInt = 11 ∨ (xs i &&& 31).toInt = 12 ∨ (xs i &&& 31).toInt = 13 ∨ (xs i &&& 31).toInt = 14 ∨ (xs i &&& 31).toInt = 15 ∨ (xs i &&& 31).toInt = 16 := by omega
        rcases sw2_33 with sv_33 | sv_33 | sv_33 | sv_33 | sv_33 | sv_33 | sv_33 | sv_33 | sv_33 | sv_33 | sv_33 | sv_33 | sv_33 | sv_33 | sv_33 | sv_33 | sv_33
        · refine e2_tableIn (off := 83) (tgt := 116) dL_law_33 (by omega) (by omega) (by rw [sv_33]; rfl) (by decide) ?_
          refine e2_aload_n (i := 1) dL_law_116 rfl rfl ?_
          refine e2_aload_n (i := 0) dL_law_117 rfl rfl ?_
          refine e2_iload_n (i := 3) dL_law_118 rfl rfl ?_
          refine e2_iconst (v := 1) dL_law_119 (by decide) ?_
          refine z2_iadd (z := nI (i + 1)) (nI_addc _ 1) dL_law_120 ?_
          refine e2_sld dL_law_121 rfl (vin_ofX (X := ((i + 1 : Nat) : Int)) (nI_toInt (by omega)) (by omega) (by omega)) ?_
          rw [nI_clamp (by omega)]
          refine e2_invViG (hkn := hkn) (As := [.inl (xs (i + 1))]) dL_law_122 lk_L_13 yv_X7_say rfl rfl rfl (Nat.le_of_ble_eq_true rfl) sh_0 ci_X7 (Nat.le_of_ble_eq_true rfl) ⟨Nat.le_of_ble_eq_true rfl, Nat.le_of_ble_eq_true rfl⟩ (j_say l h hI (xs (i + 1))) ?_
          rintro w1 h1 ⟨v1, hv1, km⟩
          obtain rfl := Option.some.inj hv1
          refine e2_aload_n (i := 2) dL_law_125 rfl rfl ?_
          refine e2_aload_n (i := 0) dL_law_126 rfl rfl ?_
          refine e2_iload_n (i := 3) dL_law_127 rfl rfl ?_
          refine e2_iconst (v := 1) dL_law_128 (by decide) ?_
          refine z2_iadd (z := nI (i + 1)) (nI_addc _ 1) dL_law_129 ?_
          refine e2_sld dL_law_130 rfl (vin_ofX (X := ((i + 1 : Nat) : Int)) (nI_toInt (by omega)) (by omega) (by omega)) ?_
          rw [nI_clamp (by omega)]
          refine e2_invViG (hkn := hkn) (As := [.inl (xs (i + 1))]) dL_law_131 lk_L_17 yv_X8_say rfl rfl rfl (Nat.le_of_ble_eq_true rfl) sh_10 ci_X8 (Nat.le_of_ble_eq_true rfl) ⟨Nat.le_of_ble_eq_true rfl, Nat.le_of_ble_eq_true rfl⟩ km ?_
          rintro w2 h2 ⟨hv2, hI2⟩
          have ew := Option.some.inj hv2
          refine b2_icmp_eq (X := w1.toInt) (Y := w2.toInt) (tgt := 713) rfl rfl dL_law_134 (by decide) ?_ ?_
          · intro e_134_t c_134_t
            refine e2_iinc (v := nI (i + 8)) (ls2 := [some (.inr 1000), some (.inr 0), some (.inr 10), some (.inl (nI (i + 8)))]) dL_law_713 rfl (nI_inc8 _) (Nat.le_of_ble_eq_true rfl) rfl ?_
            refine e2_goto (tgt := 18) dL_law_716 (by decide) ?_
            exact ih (d - 8) (by omega) (i + 8) h2 (by omega) (by omega) hI2
          · intro e_134_f c_134_f
            exact absurd ew.symm e_134_f
        · refine e2_tableIn (off := 106) (tgt := 139) dL_law_33 (by omega) (by omega) (by rw [sv_33]; rfl) (by decide) ?_
          refine e2_aload_n (i := 1) dL_law_139 rfl rfl ?_
          refine e2_invViG (hkn := hkn) (As := []) dL_law_140 lk_L_18 yv_X7_wipe rfl rfl rfl (Nat.le_of_ble_eq_true rfl) sh_0 ci_X7 (Nat.le_of_ble_eq_true rfl) ⟨Nat.le_of_ble_eq_true rfl, Nat.le_of_ble_eq_true rfl⟩ (j_wipe l h hI) ?_
          rintro w1 h1 ⟨v1, hv1, km⟩
          obtain rfl := Option.some.inj hv1
          refine e2_aload_n (i := 2) dL_law_143 rfl rfl ?_
          refine e2_invViG (hkn := hkn) (As := []) dL_law_144 lk_L_22 yv_X8_wipe rfl rfl rfl (Nat.le_of_ble_eq_true rfl) sh_10 ci_X8 (Nat.le_of_ble_eq_true rfl) ⟨Nat.le_of_ble_eq_true rfl, Nat.le_of_ble_eq_true rfl⟩ km ?_
          rintro w2 h2 ⟨hv2, hI2⟩
          have ew := Option.some.inj hv2
          refine b2_icmp_eq (X := w1.toInt) (Y := w2.toInt) (tgt := 713) rfl rfl dL_law_147 (by decide) ?_ ?_
          · intro e_147_t c_147_t
            refine e2_iinc (v := nI (i + 8)) (ls2 := [some (.inr 1000), some (.inr 0), some (.inr 10), some (.inl (nI (i + 8)))]) dL_law_713 rfl (nI_inc8 _) (Nat.le_of_ble_eq_true rfl) rfl ?_
            refine e2_goto (tgt := 18) dL_law_716 (by decide) ?_
            exact ih (d - 8) (by omega) (i + 8) h2 (by omega) (by omega) hI2
          · intro e_147_f c_147_f
            exact absurd ew.symm e_147_f
        · refine e2_tableIn (off := 119) (tgt := 152) dL_law_33 (by omega) (by omega) (by rw [sv_33]; rfl) (by decide) ?_
          refine e2_aload_n (i := 1) dL_law_152 rfl rfl ?_
          refine e2_aload_n (i := 0) dL_law_153 rfl rfl ?_
          refine e2_iload_n (i := 3) dL_law_154 rfl rfl ?_
          refine e2_iconst (v := 1) dL_law_155 (by decide) ?_
          refine z2_iadd (z := nI (i + 1)) (nI_addc _ 1) dL_law_156 ?_
          refine e2_sld dL_law_157 rfl (vin_ofX (X := ((i + 1 : Nat) : Int)) (nI_toInt (by omega)) (by omega) (by omega)) ?_
          rw [nI_clamp (by omega)]
          refine e2_invViG (hkn := hkn) (As := [.inl (xs (i + 1))]) dL_law_158 lk_L_23 yv_X7_fault rfl rfl rfl (Nat.le_of_ble_eq_true rfl) sh_0 ci_X7 (Nat.le_of_ble_eq_true rfl) ⟨Nat.le_of_ble_eq_true rfl, Nat.le_of_ble_eq_true rfl⟩ (j_fault l h hI (xs (i + 1))) ?_
          rintro w1 h1 ⟨v1, hv1, km⟩
          obtain rfl := Option.some.inj hv1
          refine e2_aload_n (i := 2) dL_law_161 rfl rfl ?_
          refine e2_aload_n (i := 0) dL_law_162 rfl rfl ?_
          refine e2_iload_n (i := 3) dL_law_163 rfl rfl ?_
          refine e2_iconst (v := 1) dL_law_164 (by decide) ?_
          refine z2_iadd (z := nI (i + 1)) (nI_addc _ 1) dL_law_165 ?_
          refine e2_sld dL_law_166 rfl (vin_ofX (X := ((i + 1 : Nat) : Int)) (nI_toInt (by omega)) (by omega) (by omega)) ?_
          rw [nI_clamp (by omega)]
          refine e2_invViG (hkn := hkn) (As := [.inl (xs (i + 1))]) dL_law_167 lk_L_26 yv_X8_fault rfl rfl rfl (Nat.le_of_ble_eq_true rfl) sh_10 ci_X8 (Nat.le_of_ble_eq_true rfl) ⟨Nat.le_of_ble_eq_true rfl, Nat.le_of_ble_eq_true rfl⟩ km ?_
          rintro w2 h2 ⟨hv2, hI2⟩
          have ew := Option.some.inj hv2
          refine b2_icmp_eq (X := w1.toInt) (Y := w2.toInt) (tgt := 713) rfl rfl dL_law_170 (by decide) ?_ ?_
          · intro e_170_t c_170_t
            refine e2_iinc (v := nI (i + 8)) (ls2 := [some (.inr 1000), some (.inr 0), some (.inr 10), some (.inl (nI (i + 8)))]) dL_law_713 rfl (nI_inc8 _) (Nat.le_of_ble_eq_true rfl) rfl ?_
            refine e2_goto (tgt := 18) dL_law_716 (by decide) ?_
            exact ih (d - 8) (by omega) (i + 8) h2 (by omega) (by omega) hI2
          · intro e_170_f c_170_f
            exact absurd ew.symm e_170_f
        · refine e2_tableIn (off := 142) (tgt := 175) dL_law_33 (by omega) (by omega) (by rw [sv_33]; rfl) (by decide) ?_
          refine e2_aload_n (i := 1) dL_law_175 rfl rfl ?_
          refine e2_aload_n (i := 0) dL_law_176 rfl rfl ?_
          refine e2_iload_n (i := 3) dL_law_177 rfl rfl ?_
          refine e2_iconst (v := 1) dL_law_178 (by decide) ?_
          refine z2_iadd (z := nI (i + 1)) (nI_addc _ 1) dL_law_179 ?_
          refine e2_sld dL_law_180 rfl (vin_ofX (X := ((i + 1 : Nat) : Int)) (nI_toInt (by omega)) (by omega) (by omega)) ?_
          rw [nI_clamp (by omega)]
          refine e2_invViG (hkn := hkn) (As := [.inl (xs (i + 1))]) dL_law_181 lk_L_27 yv_X7_text rfl rfl rfl (Nat.le_of_ble_eq_true rfl) sh_0 ci_X7 (Nat.le_of_ble_eq_true rfl) ⟨Nat.le_of_ble_eq_true rfl, Nat.le_of_ble_eq_true rfl⟩ (j_text l h hI (xs (i + 1))) ?_
          rintro w1 h1 ⟨v1, hv1, km⟩
          obtain rfl := Option.some.inj hv1
          refine e2_aload_n (i := 2) dL_law_184 rfl rfl ?_
          refine e2_aload_n (i := 0) dL_law_185 rfl rfl ?_
          refine e2_iload_n (i := 3) dL_law_186 rfl rfl ?_
          refine e2_iconst (v := 1) dL_law_187 (by decide) ?_
          refine z2_iadd (z := nI (i + 1)) (nI_addc _ 1) dL_law_188 ?_
          refine e2_sld dL_law_189 rfl (vin_ofX (X := ((i + 1 : Nat) : Int)) (nI_toInt (by omega)) (by omega) (by omega)) ?_
          rw [nI_clamp (by omega)]
          refine e2_invViG (hkn := hkn) (As := [.inl (xs (i + 1))]) dL_law_190 lk_L_30 yv_X8_text rfl rfl rfl (Nat.le_of_ble_eq_true rfl) sh_10 ci_X8 (Nat.le_of_ble_eq_true rfl) ⟨Nat.le_of_ble_eq_true rfl, Nat.le_of_ble_eq_true rfl⟩ km ?_
          rintro w2 h2 ⟨hv2, hI2⟩
          have ew := Option.some.inj hv2
          refine b2_icmp_eq (X := w1.toInt) (Y := w2.toInt) (tgt := 713) rfl rfl dL_law_193 (by decide) ?_ ?_
          · intro e_193_t c_193_t
            refine e2_iinc (v := nI (i + 8)) (ls2 := [some (.inr 1000), some (.inr 0), some (.inr 10), some (.inl (nI (i + 8)))]) dL_law_713 rfl (nI_inc8 _) (Nat.le_of_ble_eq_true rfl) rfl ?_
            refine e2_goto (tgt := 18) dL_law_716 (by decide) ?_
            exact ih (d - 8) (by omega) (i + 8) h2 (by omega) (by omega) hI2
          · intro e_193_f c_193_f
            exact absurd ew.symm e_193_f
        · refine e2_tableIn (off := 165) (tgt := 198) dL_law_33 (by omega) (by omega) (by rw [sv_33]; rfl) (by decide) ?_
          refine e2_aload_n (i := 1) dL_law_198 rfl rfl ?_
          refine e2_aload_n (i := 0) dL_law_199 rfl rfl ?_
          refine e2_iload_n (i := 3) dL_law_200 rfl rfl ?_
          refine e2_iconst (v := 1) dL_law_201 (by decide) ?_
          refine z2_iadd (z := nI (i + 1)) (nI_addc _ 1) dL_law_202 ?_
          refine e2_sld dL_law_203 rfl (vin_ofX (X := ((i + 1 : Nat) : Int)) (nI_toInt (by omega)) (by omega) (by omega)) ?_
          rw [nI_clamp (by omega)]
          refine e2_aload_n (i := 0) dL_law_204 rfl rfl ?_
          refine e2_iload_n (i := 3) dL_law_205 rfl rfl ?_
          refine e2_iconst (v := 2) dL_law_206 (by decide) ?_
          refine z2_iadd (z := nI (i + 2)) (nI_addc _ 2) dL_law_207 ?_
          refine e2_sld dL_law_208 rfl (vin_ofX (X := ((i + 2 : Nat) : Int)) (nI_toInt (by omega)) (by omega) (by omega)) ?_
          rw [nI_clamp (by omega)]
          refine e2_invViG (hkn := hkn) (As := [.inl (xs (i + 1)), .inl (xs (i + 2))]) dL_law_209 lk_L_31 yv_X7_clause rfl rfl rfl (Nat.le_of_ble_eq_true rfl) sh_0 ci_X7 (Nat.le_of_ble_eq_true rfl) ⟨Nat.le_of_ble_eq_true rfl, Nat.le_of_ble_eq_true rfl⟩ (j_clause l h hI (xs (i + 1)) (xs (i + 2))) ?_
          rintro w1 h1 ⟨v1, hv1, km⟩
          obtain rfl := Option.some.inj hv1
          refine e2_aload_n (i := 2) dL_law_212 rfl rfl ?_
          refine e2_aload_n (i := 0) dL_law_213 rfl rfl ?_
          refine e2_iload_n (i := 3) dL_law_214 rfl rfl ?_
          refine e2_iconst (v := 1) dL_law_215 (by decide) ?_
          refine z2_iadd (z := nI (i + 1)) (nI_addc _ 1) dL_law_216 ?_
          refine e2_sld dL_law_217 rfl (vin_ofX (X := ((i + 1 : Nat) : Int)) (nI_toInt (by omega)) (by omega) (by omega)) ?_
          rw [nI_clamp (by omega)]
          refine e2_aload_n (i := 0) dL_law_218 rfl rfl ?_
          refine e2_iload_n (i := 3) dL_law_219 rfl rfl ?_
          refine e2_iconst (v := 2) dL_law_220 (by decide) ?_
          refine z2_iadd (z := nI (i + 2)) (nI_addc _ 2) dL_law_221 ?_
          refine e2_sld dL_law_222 rfl (vin_ofX (X := ((i + 2 : Nat) : Int)) (nI_toInt (by omega)) (by omega) (by omega)) ?_
          rw [nI_clamp (by omega)]
          refine e2_invViG (hkn := hkn) (As := [.inl (xs (i + 1)), .inl (xs (i + 2))]) dL_law_223 lk_L_35 yv_X8_clause rfl rfl rfl (Nat.le_of_ble_eq_true rfl) sh_10 ci_X8 (Nat.le_of_ble_eq_true rfl) ⟨Nat.le_of_ble_eq_true rfl, Nat.le_of_ble_eq_true rfl⟩ km ?_
          rintro w2 h2 ⟨hv2, hI2⟩
          have ew := Option.some.inj hv2
          refine b2_icmp_eq (X := w1.toInt) (Y := w2.toInt) (tgt := 713) rfl rfl dL_law_226 (by decide) ?_ ?_
          · intro e_226_t c_226_t
            refine e2_iinc (v := nI (i + 8)) (ls2 := [some (.inr 1000), some (.inr 0), some (.inr 10), some (.inl (nI (i + 8)))]) dL_law_713 rfl (nI_inc8 _) (Nat.le_of_ble_eq_true rfl) rfl ?_
            refine e2_goto (tgt := 18) dL_law_716 (by decide) ?_
            exact ih (d - 8) (by omega) (i + 8) h2 (by omega) (by omega) hI2
          · intro e_226_f c_226_f
            exact absurd ew.symm e_226_f
        · refine e2_tableIn (off := 198) (tgt := 231) dL_law_33 (by omega) (by omega) (by rw [sv_33]; rfl) (by decide) ?_
          refine e2_aload_n (i := 1) dL_law_231 rfl rfl ?_
          refine e2_aload_n (i := 0) dL_law_232 rfl rfl ?_
          refine e2_iload_n (i := 3) dL_law_233 rfl rfl ?_
          refine e2_iconst (v := 1) dL_law_234 (by decide) ?_
          refine z2_iadd (z := nI (i + 1)) (nI_addc _ 1) dL_law_235 ?_
          refine e2_sld dL_law_236 rfl (vin_ofX (X := ((i + 1 : Nat) : Int)) (nI_toInt (by omega)) (by omega) (by omega)) ?_
          rw [nI_clamp (by omega)]
          refine e2_aload_n (i := 0) dL_law_237 rfl rfl ?_
          refine e2_iload_n (i := 3) dL_law_238 rfl rfl ?_
          refine e2_iconst (v := 2) dL_law_239 (by decide) ?_
          refine z2_iadd (z := nI (i + 2)) (nI_addc _ 2) dL_law_240 ?_
          refine e2_sld dL_law_241 rfl (vin_ofX (X := ((i + 2 : Nat) : Int)) (nI_toInt (by omega)) (by omega) (by omega)) ?_
          rw [nI_clamp (by omega)]
          refine e2_invViG (hkn := hkn) (As := [.inl (xs (i + 1)), .inl (xs (i + 2))]) dL_law_242 lk_L_36 yv_X7_drop rfl rfl rfl (Nat.le_of_ble_eq_true rfl) sh_0 ci_X7 (Nat.le_of_ble_eq_true rfl) ⟨Nat.le_of_ble_eq_true rfl, Nat.le_of_ble_eq_true rfl⟩ (j_drop l h hI (xs (i + 1)) (xs (i + 2))) ?_
          rintro w1 h1 ⟨v1, hv1, km⟩
          obtain rfl := Option.some.inj hv1
          refine e2_aload_n (i := 2) dL_law_245 rfl rfl ?_
          refine e2_aload_n (i := 0) dL_law_246 rfl rfl ?_
          refine e2_iload_n (i := 3) dL_law_247 rfl rfl ?_
          refine e2_iconst (v := 1) dL_law_248 (by decide) ?_
          refine z2_iadd (z := nI (i + 1)) (nI_addc _ 1) dL_law_249 ?_
          refine e2_sld dL_law_250 rfl (vin_ofX (X := ((i + 1 : Nat) : Int)) (nI_toInt (by omega)) (by omega) (by omega)) ?_
          rw [nI_clamp (by omega)]
          refine e2_aload_n (i := 0) dL_law_251 rfl rfl ?_
          refine e2_iload_n (i := 3) dL_law_252 rfl rfl ?_
          refine e2_iconst (v := 2) dL_law_253 (by decide) ?_
          refine z2_iadd (z := nI (i + 2)) (nI_addc _ 2) dL_law_254 ?_
          refine e2_sld dL_law_255 rfl (vin_ofX (X := ((i + 2 : Nat) : Int)) (nI_toInt (by omega)) (by omega) (by omega)) ?_
          rw [nI_clamp (by omega)]
          refine e2_invViG (hkn := hkn) (As := [.inl (xs (i + 1)), .inl (xs (i + 2))]) dL_law_256 lk_L_39 yv_X8_drop rfl rfl rfl (Nat.le_of_ble_eq_true rfl) sh_10 ci_X8 (Nat.le_of_ble_eq_true rfl) ⟨Nat.le_of_ble_eq_true rfl, Nat.le_of_ble_eq_true rfl⟩ km ?_
          rintro w2 h2 ⟨hv2, hI2⟩
          have ew := Option.some.inj hv2
          refine b2_icmp_eq (X := w1.toInt) (Y := w2.toInt) (tgt := 713) rfl rfl dL_law_259 (by decide) ?_ ?_
          · intro e_259_t c_259_t
            refine e2_iinc (v := nI (i + 8)) (ls2 := [some (.inr 1000), some (.inr 0), some (.inr 10), some (.inl (nI (i + 8)))]) dL_law_713 rfl (nI_inc8 _) (Nat.le_of_ble_eq_true rfl) rfl ?_
            refine e2_goto (tgt := 18) dL_law_716 (by decide) ?_
            exact ih (d - 8) (by omega) (i + 8) h2 (by omega) (by omega) hI2
          · intro e_259_f c_259_f
            exact absurd ew.symm e_259_f
        · refine e2_tableIn (off := 231) (tgt := 264) dL_law_33 (by omega) (by omega) (by rw [sv_33]; rfl) (by decide) ?_
          refine e2_aload_n (i := 1) dL_law_264 rfl rfl ?_
          refine e2_aload_n (i := 0) dL_law_265 rfl rfl ?_
          refine e2_iload_n (i := 3) dL_law_266 rfl rfl ?_
          refine e2_iconst (v := 1) dL_law_267 (by decide) ?_
          refine z2_iadd (z := nI (i + 1)) (nI_addc _ 1) dL_law_268 ?_
          refine e2_sld dL_law_269 rfl (vin_ofX (X := ((i + 1 : Nat) : Int)) (nI_toInt (by omega)) (by omega) (by omega)) ?_
          rw [nI_clamp (by omega)]
          refine e2_invViG (hkn := hkn) (As := [.inl (xs (i + 1))]) dL_law_270 lk_L_40 yv_X7_has rfl rfl rfl (Nat.le_of_ble_eq_true rfl) sh_0 ci_X7 (Nat.le_of_ble_eq_true rfl) ⟨Nat.le_of_ble_eq_true rfl, Nat.le_of_ble_eq_true rfl⟩ (j_has l h hI (xs (i + 1))) ?_
          rintro w1 h1 ⟨v1, hv1, km⟩
          obtain rfl := Option.some.inj hv1
          refine e2_aload_n (i := 2) dL_law_273 rfl rfl ?_
          refine e2_aload_n (i := 0) dL_law_274 rfl rfl ?_
          refine e2_iload_n (i := 3) dL_law_275 rfl rfl ?_
          refine e2_iconst (v := 1) dL_law_276 (by decide) ?_
          refine z2_iadd (z := nI (i + 1)) (nI_addc _ 1) dL_law_277 ?_
          refine e2_sld dL_law_278 rfl (vin_ofX (X := ((i + 1 : Nat) : Int)) (nI_toInt (by omega)) (by omega) (by omega)) ?_
          rw [nI_clamp (by omega)]
          refine e2_invViG (hkn := hkn) (As := [.inl (xs (i + 1))]) dL_law_279 lk_L_43 yv_X8_has rfl rfl rfl (Nat.le_of_ble_eq_true rfl) sh_10 ci_X8 (Nat.le_of_ble_eq_true rfl) ⟨Nat.le_of_ble_eq_true rfl, Nat.le_of_ble_eq_true rfl⟩ km ?_
          rintro w2 h2 ⟨hv2, hI2⟩
          have ew := Option.some.inj hv2
          refine b2_icmp_eq (X := w1.toInt) (Y := w2.toInt) (tgt := 713) rfl rfl dL_law_282 (by decide) ?_ ?_
          · intro e_282_t c_282_t
            refine e2_iinc (v := nI (i + 8)) (ls2 := [some (.inr 1000), some (.inr 0), some (.inr 10), some (.inl (nI (i + 8)))]) dL_law_713 rfl (nI_inc8 _) (Nat.le_of_ble_eq_true rfl) rfl ?_
            refine e2_goto (tgt := 18) dL_law_716 (by decide) ?_
            exact ih (d - 8) (by omega) (i + 8) h2 (by omega) (by omega) hI2
          · intro e_282_f c_282_f
            exact absurd ew.symm e_282_f
        · refine e2_tableIn (off := 254) (tgt := 287) dL_law_33 (by omega) (by omega) (by rw [sv_33]; rfl) (by decide) ?_
          refine e2_aload_n (i := 1) dL_law_287 rfl rfl ?_
          refine e2_aload_n (i := 0) dL_law_288 rfl rfl ?_
          refine e2_iload_n (i := 3) dL_law_289 rfl rfl ?_
          refine e2_iconst (v := 1) dL_law_290 (by decide) ?_
          refine z2_iadd (z := nI (i + 1)) (nI_addc _ 1) dL_law_291 ?_
          refine e2_sld dL_law_292 rfl (vin_ofX (X := ((i + 1 : Nat) : Int)) (nI_toInt (by omega)) (by omega) (by omega)) ?_
          rw [nI_clamp (by omega)]
          refine e2_invViG (hkn := hkn) (As := [.inl (xs (i + 1))]) dL_law_293 lk_L_44 yv_X7_reply rfl rfl rfl (Nat.le_of_ble_eq_true rfl) sh_0 ci_X7 (Nat.le_of_ble_eq_true rfl) ⟨Nat.le_of_ble_eq_true rfl, Nat.le_of_ble_eq_true rfl⟩ (j_reply l h hI (xs (i + 1))) ?_
          rintro w1 h1 ⟨v1, hv1, km⟩
          obtain rfl := Option.some.inj hv1
          refine e2_aload_n (i := 2) dL_law_296 rfl rfl ?_
          refine e2_aload_n (i := 0) dL_law_297 rfl rfl ?_
          refine e2_iload_n (i := 3) dL_law_298 rfl rfl ?_
          refine e2_iconst (v := 1) dL_law_299 (by decide) ?_
          refine z2_iadd (z := nI (i + 1)) (nI_addc _ 1) dL_law_300 ?_
          refine e2_sld dL_law_301 rfl (vin_ofX (X := ((i + 1 : Nat) : Int)) (nI_toInt (by omega)) (by omega) (by omega)) ?_
          rw [nI_clamp (by omega)]
          refine e2_invViG (hkn := hkn) (As := [.inl (xs (i + 1))]) dL_law_302 lk_L_47 yv_X8_reply rfl rfl rfl (Nat.le_of_ble_eq_true rfl) sh_10 ci_X8 (Nat.le_of_ble_eq_true rfl) ⟨Nat.le_of_ble_eq_true rfl, Nat.le_of_ble_eq_true rfl⟩ km ?_
          rintro w2 h2 ⟨hv2, hI2⟩
          have ew := Option.some.inj hv2
          refine b2_icmp_eq (X := w1.toInt) (Y := w2.toInt) (tgt := 713) rfl rfl dL_law_305 (by decide) ?_ ?_
          · intro e_305_t c_305_t
            refine e2_iinc (v := nI (i + 8)) (ls2 := [some (.inr 1000), some (.inr 0), some (.inr 10), some (.inl (nI (i + 8)))]) dL_law_713 rfl (nI_inc8 _) (Nat.le_of_ble_eq_true rfl) rfl ?_
            refine e2_goto (tgt := 18) dL_law_716 (by decide) ?_
            exact ih (d - 8) (by omega) (i + 8) h2 (by omega) (by omega) hI2
          · intro e_305_f c_305_f
            exact absurd ew.symm e_305_f
        · refine e2_tableIn (off := 277) (tgt := 310) dL_law_33 (by omega) (by omega) (by rw [sv_33]; rfl) (by decide) ?_
          refine e2_aload_n (i := 1) dL_law_310 rfl rfl ?_
          refine e2_invViG (hkn := hkn) (As := []) dL_law_311 lk_L_48 yv_X7_mute rfl rfl rfl (Nat.le_of_ble_eq_true rfl) sh_0 ci_X7 (Nat.le_of_ble_eq_true rfl) ⟨Nat.le_of_ble_eq_true rfl, Nat.le_of_ble_eq_true rfl⟩ (j_mute l h hI) ?_
          rintro w1 h1 ⟨v1, hv1, km⟩
          obtain rfl := Option.some.inj hv1
          refine e2_aload_n (i := 2) dL_law_314 rfl rfl ?_
          refine e2_invViG (hkn := hkn) (As := []) dL_law_315 lk_L_51 yv_X8_mute rfl rfl rfl (Nat.le_of_ble_eq_true rfl) sh_10 ci_X8 (Nat.le_of_ble_eq_true rfl) ⟨Nat.le_of_ble_eq_true rfl, Nat.le_of_ble_eq_true rfl⟩ km ?_
          rintro w2 h2 ⟨hv2, hI2⟩
          have ew := Option.some.inj hv2
          refine b2_icmp_eq (X := w1.toInt) (Y := w2.toInt) (tgt := 713) rfl rfl dL_law_318 (by decide) ?_ ?_
          · intro e_318_t c_318_t
            refine e2_iinc (v := nI (i + 8)) (ls2 := [some (.inr 1000), some (.inr 0), some (.inr 10), some (.inl (nI (i + 8)))]) dL_law_713 rfl (nI_inc8 _) (Nat.le_of_ble_eq_true rfl) rfl ?_
            refine e2_goto (tgt := 18) dL_law_716 (by decide) ?_
            exact ih (d - 8) (by omega) (i + 8) h2 (by omega) (by omega) hI2
          · intro e_318_f c_318_f
            exact absurd ew.symm e_318_f
        · refine e2_tableIn (off := 290) (tgt := 323) dL_law_33 (by omega) (by omega) (by rw [sv_33]; rfl) (by decide) ?_
          refine e2_aload_n (i := 1) dL_law_323 rfl rfl ?_
          refine e2_aload_n (i := 0) dL_law_324 rfl rfl ?_
          refine e2_iload_n (i := 3) dL_law_325 rfl rfl ?_
          refine e2_iconst (v := 1) dL_law_326 (by decide) ?_
          refine z2_iadd (z := nI (i + 1)) (nI_addc _ 1) dL_law_327 ?_
          refine e2_sld dL_law_328 rfl (vin_ofX (X := ((i + 1 : Nat) : Int)) (nI_toInt (by omega)) (by omega) (by omega)) ?_
          rw [nI_clamp (by omega)]
          refine e2_aload_n (i := 0) dL_law_329 rfl rfl ?_
          refine e2_iload_n (i := 3) dL_law_330 rfl rfl ?_
          refine e2_iconst (v := 2) dL_law_331 (by decide) ?_
          refine z2_iadd (z := nI (i + 2)) (nI_addc _ 2) dL_law_332 ?_
          refine e2_sld dL_law_333 rfl (vin_ofX (X := ((i + 2 : Nat) : Int)) (nI_toInt (by omega)) (by omega) (by omega)) ?_
          rw [nI_clamp (by omega)]
          refine e2_aload_n (i := 0) dL_law_334 rfl rfl ?_
          refine e2_iload_n (i := 3) dL_law_335 rfl rfl ?_
          refine e2_iconst (v := 3) dL_law_336 (by decide) ?_
          refine z2_iadd (z := nI (i + 3)) (nI_addc _ 3) dL_law_337 ?_
          refine e2_sld dL_law_338 rfl (vin_ofX (X := ((i + 3 : Nat) : Int)) (nI_toInt (by omega)) (by omega) (by omega)) ?_
          rw [nI_clamp (by omega)]
          refine e2_invViG (hkn := hkn) (As := [.inl (xs (i + 1)), .inl (xs (i + 2)), .inl (xs (i + 3))]) dL_law_339 lk_L_52 yv_X7_run rfl rfl rfl (Nat.le_of_ble_eq_true rfl) sh_0 ci_X7 (Nat.le_of_ble_eq_true rfl) ⟨Nat.le_of_ble_eq_true rfl, Nat.le_of_ble_eq_true rfl⟩ (j_run l h hI (xs (i + 1)) (xs (i + 2)) (xs (i + 3))) ?_
          rintro w1 h1 ⟨v1, hv1, km⟩
          obtain rfl := Option.some.inj hv1
          refine e2_aload_n (i := 2) dL_law_342 rfl rfl ?_
          refine e2_aload_n (i := 0) dL_law_343 rfl rfl ?_
          refine e2_iload_n (i := 3) dL_law_344 rfl rfl ?_
          refine e2_iconst (v := 1) dL_law_345 (by decide) ?_
          refine z2_iadd (z := nI (i + 1)) (nI_addc _ 1) dL_law_346 ?_
          refine e2_sld dL_law_347 rfl (vin_ofX (X := ((i + 1 : Nat) : Int)) (nI_toInt (by omega)) (by omega) (by omega)) ?_
          rw [nI_clamp (by omega)]
          refine e2_aload_n (i := 0) dL_law_348 rfl rfl ?_
          refine e2_iload_n (i := 3) dL_law_349 rfl rfl ?_
          refine e2_iconst (v := 2) dL_law_350 (by decide) ?_
          refine z2_iadd (z := nI (i + 2)) (nI_addc _ 2) dL_law_351 ?_
          refine e2_sld dL_law_352 rfl (vin_ofX (X := ((i + 2 : Nat) : Int)) (nI_toInt (by omega)) (by omega) (by omega)) ?_
          rw [nI_clamp (by omega)]
          refine e2_aload_n (i := 0) dL_law_353 rfl rfl ?_
          refine e2_iload_n (i := 3) dL_law_354 rfl rfl ?_
          refine e2_iconst (v := 3) dL_law_355 (by decide) ?_
          refine z2_iadd (z := nI (i + 3)) (nI_addc _ 3) dL_law_356 ?_
          refine e2_sld dL_law_357 rfl (vin_ofX (X := ((i + 3 : Nat) : Int)) (nI_toInt (by omega)) (by omega) (by omega)) ?_
          rw [nI_clamp (by omega)]
          refine e2_invViG (hkn := hkn) (As := [.inl (xs (i + 1)), .inl (xs (i + 2)), .inl (xs (i + 3))]) dL_law_358 lk_L_56 yv_X8_run rfl rfl rfl (Nat.le_of_ble_eq_true rfl) sh_10 ci_X8 (Nat.le_of_ble_eq_true rfl) ⟨Nat.le_of_ble_eq_true rfl, Nat.le_of_ble_eq_true rfl⟩ km ?_
          rintro w2 h2 ⟨hv2, hI2⟩
          have ew := Option.some.inj hv2
          refine b2_icmp_eq (X := w1.toInt) (Y := w2.toInt) (tgt := 713) rfl rfl dL_law_361 (by decide) ?_ ?_
          · intro e_361_t c_361_t
            refine e2_iinc (v := nI (i + 8)) (ls2 := [some (.inr 1000), some (.inr 0), some (.inr 10), some (.inl (nI (i + 8)))]) dL_law_713 rfl (nI_inc8 _) (Nat.le_of_ble_eq_true rfl) rfl ?_
            refine e2_goto (tgt := 18) dL_law_716 (by decide) ?_
            exact ih (d - 8) (by omega) (i + 8) h2 (by omega) (by omega) hI2
          · intro e_361_f c_361_f
            exact absurd ew.symm e_361_f
        · refine e2_tableIn (off := 333) (tgt := 366) dL_law_33 (by omega) (by omega) (by rw [sv_33]; rfl) (by decide) ?_
          refine e2_aload_n (i := 1) dL_law_366 rfl rfl ?_
          refine e2_aload_n (i := 0) dL_law_367 rfl rfl ?_
          refine e2_iload_n (i := 3) dL_law_368 rfl rfl ?_
          refine e2_iconst (v := 1) dL_law_369 (by decide) ?_
          refine z2_iadd (z := nI (i + 1)) (nI_addc _ 1) dL_law_370 ?_
          refine e2_sld dL_law_371 rfl (vin_ofX (X := ((i + 1 : Nat) : Int)) (nI_toInt (by omega)) (by omega) (by omega)) ?_
          rw [nI_clamp (by omega)]
          refine e2_aload_n (i := 0) dL_law_372 rfl rfl ?_
          refine e2_iload_n (i := 3) dL_law_373 rfl rfl ?_
          refine e2_iconst (v := 2) dL_law_374 (by decide) ?_
          refine z2_iadd (z := nI (i + 2)) (nI_addc _ 2) dL_law_375 ?_
          refine e2_sld dL_law_376 rfl (vin_ofX (X := ((i + 2 : Nat) : Int)) (nI_toInt (by omega)) (by omega) (by omega)) ?_
          rw [nI_clamp (by omega)]
          refine e2_aload_n (i := 0) dL_law_377 rfl rfl ?_
          refine e2_iload_n (i := 3) dL_law_378 rfl rfl ?_
          refine e2_iconst (v := 3) dL_law_379 (by decide) ?_
          refine z2_iadd (z := nI (i + 3)) (nI_addc _ 3) dL_law_380 ?_
          refine e2_sld dL_law_381 rfl (vin_ofX (X := ((i + 3 : Nat) : Int)) (nI_toInt (by omega)) (by omega) (by omega)) ?_
          rw [nI_clamp (by omega)]
          refine e2_invViG (hkn := hkn) (As := [.inl (xs (i + 1)), .inl (xs (i + 2)), .inl (xs (i + 3))]) dL_law_382 lk_L_57 yv_X7_who rfl rfl rfl (Nat.le_of_ble_eq_true rfl) sh_0 ci_X7 (Nat.le_of_ble_eq_true rfl) ⟨Nat.le_of_ble_eq_true rfl, Nat.le_of_ble_eq_true rfl⟩ (j_who l h hI (xs (i + 1)) (xs (i + 2)) (xs (i + 3))) ?_
          rintro w1 h1 ⟨v1, hv1, km⟩
          obtain rfl := Option.some.inj hv1
          refine e2_aload_n (i := 2) dL_law_385 rfl rfl ?_
          refine e2_aload_n (i := 0) dL_law_386 rfl rfl ?_
          refine e2_iload_n (i := 3) dL_law_387 rfl rfl ?_
          refine e2_iconst (v := 1) dL_law_388 (by decide) ?_
          refine z2_iadd (z := nI (i + 1)) (nI_addc _ 1) dL_law_389 ?_
          refine e2_sld dL_law_390 rfl (vin_ofX (X := ((i + 1 : Nat) : Int)) (nI_toInt (by omega)) (by omega) (by omega)) ?_
          rw [nI_clamp (by omega)]
          refine e2_aload_n (i := 0) dL_law_391 rfl rfl ?_
          refine e2_iload_n (i := 3) dL_law_392 rfl rfl ?_
          refine e2_iconst (v := 2) dL_law_393 (by decide) ?_
          refine z2_iadd (z := nI (i + 2)) (nI_addc _ 2) dL_law_394 ?_
          refine e2_sld dL_law_395 rfl (vin_ofX (X := ((i + 2 : Nat) : Int)) (nI_toInt (by omega)) (by omega) (by omega)) ?_
          rw [nI_clamp (by omega)]
          refine e2_aload_n (i := 0) dL_law_396 rfl rfl ?_
          refine e2_iload_n (i := 3) dL_law_397 rfl rfl ?_
          refine e2_iconst (v := 3) dL_law_398 (by decide) ?_
          refine z2_iadd (z := nI (i + 3)) (nI_addc _ 3) dL_law_399 ?_
          refine e2_sld dL_law_400 rfl (vin_ofX (X := ((i + 3 : Nat) : Int)) (nI_toInt (by omega)) (by omega) (by omega)) ?_
          rw [nI_clamp (by omega)]
          refine e2_invViG (hkn := hkn) (As := [.inl (xs (i + 1)), .inl (xs (i + 2)), .inl (xs (i + 3))]) dL_law_401 lk_L_60 yv_X8_who rfl rfl rfl (Nat.le_of_ble_eq_true rfl) sh_10 ci_X8 (Nat.le_of_ble_eq_true rfl) ⟨Nat.le_of_ble_eq_true rfl, Nat.le_of_ble_eq_true rfl⟩ km ?_
          rintro w2 h2 ⟨hv2, hI2⟩
          have ew := Option.some.inj hv2
          refine b2_icmp_eq (X := w1.toInt) (Y := w2.toInt) (tgt := 713) rfl rfl dL_law_404 (by decide) ?_ ?_
          · intro e_404_t c_404_t
            refine e2_iinc (v := nI (i + 8)) (ls2 := [some (.inr 1000), some (.inr 0), some (.inr 10), some (.inl (nI (i + 8)))]) dL_law_713 rfl (nI_inc8 _) (Nat.le_of_ble_eq_true rfl) rfl ?_
            refine e2_goto (tgt := 18) dL_law_716 (by decide) ?_
            exact ih (d - 8) (by omega) (i + 8) h2 (by omega) (by omega) hI2
          · intro e_404_f c_404_f
            exact absurd ew.symm e_404_f
        · refine e2_tableIn (off := 376) (tgt := 409) dL_law_33 (by omega) (by omega) (by rw [sv_33]; rfl) (by decide) ?_
          refine e2_aload_n (i := 1) dL_law_409 rfl rfl ?_
          refine e2_aload_n (i := 0) dL_law_410 rfl rfl ?_
          refine e2_iload_n (i := 3) dL_law_411 rfl rfl ?_
          refine e2_iconst (v := 1) dL_law_412 (by decide) ?_
          refine z2_iadd (z := nI (i + 1)) (nI_addc _ 1) dL_law_413 ?_
          refine e2_sld dL_law_414 rfl (vin_ofX (X := ((i + 1 : Nat) : Int)) (nI_toInt (by omega)) (by omega) (by omega)) ?_
          rw [nI_clamp (by omega)]
          refine e2_aload_n (i := 0) dL_law_415 rfl rfl ?_
          refine e2_iload_n (i := 3) dL_law_416 rfl rfl ?_
          refine e2_iconst (v := 2) dL_law_417 (by decide) ?_
          refine z2_iadd (z := nI (i + 2)) (nI_addc _ 2) dL_law_418 ?_
          refine e2_sld dL_law_419 rfl (vin_ofX (X := ((i + 2 : Nat) : Int)) (nI_toInt (by omega)) (by omega) (by omega)) ?_
          rw [nI_clamp (by omega)]
          refine e2_invViG (hkn := hkn) (As := [.inl (xs (i + 1)), .inl (xs (i + 2))]) dL_law_420 lk_L_61 yv_X7_may rfl rfl rfl (Nat.le_of_ble_eq_true rfl) sh_0 ci_X7 (Nat.le_of_ble_eq_true rfl) ⟨Nat.le_of_ble_eq_true rfl, Nat.le_of_ble_eq_true rfl⟩ (j_may l h hI (xs (i + 1)) (xs (i + 2))) ?_
          rintro w1 h1 ⟨v1, hv1, km⟩
          obtain rfl := Option.some.inj hv1
          refine e2_aload_n (i := 2) dL_law_423 rfl rfl ?_
          refine e2_aload_n (i := 0) dL_law_424 rfl rfl ?_
          refine e2_iload_n (i := 3) dL_law_425 rfl rfl ?_
          refine e2_iconst (v := 1) dL_law_426 (by decide) ?_
          refine z2_iadd (z := nI (i + 1)) (nI_addc _ 1) dL_law_427 ?_
          refine e2_sld dL_law_428 rfl (vin_ofX (X := ((i + 1 : Nat) : Int)) (nI_toInt (by omega)) (by omega) (by omega)) ?_
          rw [nI_clamp (by omega)]
          refine e2_aload_n (i := 0) dL_law_429 rfl rfl ?_
          refine e2_iload_n (i := 3) dL_law_430 rfl rfl ?_
          refine e2_iconst (v := 2) dL_law_431 (by decide) ?_
          refine z2_iadd (z := nI (i + 2)) (nI_addc _ 2) dL_law_432 ?_
          refine e2_sld dL_law_433 rfl (vin_ofX (X := ((i + 2 : Nat) : Int)) (nI_toInt (by omega)) (by omega) (by omega)) ?_
          rw [nI_clamp (by omega)]
          refine e2_invViG (hkn := hkn) (As := [.inl (xs (i + 1)), .inl (xs (i + 2))]) dL_law_434 lk_L_64 yv_X8_may rfl rfl rfl (Nat.le_of_ble_eq_true rfl) sh_10 ci_X8 (Nat.le_of_ble_eq_true rfl) ⟨Nat.le_of_ble_eq_true rfl, Nat.le_of_ble_eq_true rfl⟩ km ?_
          rintro w2 h2 ⟨hv2, hI2⟩
          have ew := Option.some.inj hv2
          refine b2_icmp_eq (X := w1.toInt) (Y := w2.toInt) (tgt := 713) rfl rfl dL_law_437 (by decide) ?_ ?_
          · intro e_437_t c_437_t
            refine e2_iinc (v := nI (i + 8)) (ls2 := [some (.inr 1000), some (.inr 0), some (.inr 10), some (.inl (nI (i + 8)))]) dL_law_713 rfl (nI_inc8 _) (Nat.le_of_ble_eq_true rfl) rfl ?_
            refine e2_goto (tgt := 18) dL_law_716 (by decide) ?_
            exact ih (d - 8) (by omega) (i + 8) h2 (by omega) (by omega) hI2
          · intro e_437_f c_437_f
            exact absurd ew.symm e_437_f
        · refine e2_tableIn (off := 409) (tgt := 442) dL_law_33 (by omega) (by omega) (by rw [sv_33]; rfl) (by decide) ?_
          refine e2_aload_n (i := 1) dL_law_442 rfl rfl ?_
          refine e2_aload_n (i := 0) dL_law_443 rfl rfl ?_
          refine e2_iload_n (i := 3) dL_law_444 rfl rfl ?_
          refine e2_iconst (v := 1) dL_law_445 (by decide) ?_
          refine z2_iadd (z := nI (i + 1)) (nI_addc _ 1) dL_law_446 ?_
          refine e2_sld dL_law_447 rfl (vin_ofX (X := ((i + 1 : Nat) : Int)) (nI_toInt (by omega)) (by omega) (by omega)) ?_
          rw [nI_clamp (by omega)]
          refine e2_aload_n (i := 0) dL_law_448 rfl rfl ?_
          refine e2_iload_n (i := 3) dL_law_449 rfl rfl ?_
          refine e2_iconst (v := 2) dL_law_450 (by decide) ?_
          refine z2_iadd (z := nI (i + 2)) (nI_addc _ 2) dL_law_451 ?_
          refine e2_sld dL_law_452 rfl (vin_ofX (X := ((i + 2 : Nat) : Int)) (nI_toInt (by omega)) (by omega) (by omega)) ?_
          rw [nI_clamp (by omega)]
          refine e2_invViG (hkn := hkn) (As := [.inl (xs (i + 1)), .inl (xs (i + 2))]) dL_law_453 lk_L_65 yv_X7_often rfl rfl rfl (Nat.le_of_ble_eq_true rfl) sh_0 ci_X7 (Nat.le_of_ble_eq_true rfl) ⟨Nat.le_of_ble_eq_true rfl, Nat.le_of_ble_eq_true rfl⟩ (j_often l h hI (xs (i + 1)) (xs (i + 2))) ?_
          rintro w1 h1 ⟨v1, hv1, km⟩
          obtain rfl := Option.some.inj hv1
          refine e2_aload_n (i := 2) dL_law_456 rfl rfl ?_
          refine e2_aload_n (i := 0) dL_law_457 rfl rfl ?_
          refine e2_iload_n (i := 3) dL_law_458 rfl rfl ?_
          refine e2_iconst (v := 1) dL_law_459 (by decide) ?_
          refine z2_iadd (z := nI (i + 1)) (nI_addc _ 1) dL_law_460 ?_
          refine e2_sld dL_law_461 rfl (vin_ofX (X := ((i + 1 : Nat) : Int)) (nI_toInt (by omega)) (by omega) (by omega)) ?_
          rw [nI_clamp (by omega)]
          refine e2_aload_n (i := 0) dL_law_462 rfl rfl ?_
          refine e2_iload_n (i := 3) dL_law_463 rfl rfl ?_
          refine e2_iconst (v := 2) dL_law_464 (by decide) ?_
          refine z2_iadd (z := nI (i + 2)) (nI_addc _ 2) dL_law_465 ?_
          refine e2_sld dL_law_466 rfl (vin_ofX (X := ((i + 2 : Nat) : Int)) (nI_toInt (by omega)) (by omega) (by omega)) ?_
          rw [nI_clamp (by omega)]
          refine e2_invViG (hkn := hkn) (As := [.inl (xs (i + 1)), .inl (xs (i + 2))]) dL_law_467 lk_L_68 yv_X8_often rfl rfl rfl (Nat.le_of_ble_eq_true rfl) sh_10 ci_X8 (Nat.le_of_ble_eq_true rfl) ⟨Nat.le_of_ble_eq_true rfl, Nat.le_of_ble_eq_true rfl⟩ km ?_
          rintro w2 h2 ⟨hv2, hI2⟩
          have ew := Option.some.inj hv2
          refine b2_icmp_eq (X := w1.toInt) (Y := w2.toInt) (tgt := 713) rfl rfl dL_law_470 (by decide) ?_ ?_
          · intro e_470_t c_470_t
            refine e2_iinc (v := nI (i + 8)) (ls2 := [some (.inr 1000), some (.inr 0), some (.inr 10), some (.inl (nI (i + 8)))]) dL_law_713 rfl (nI_inc8 _) (Nat.le_of_ble_eq_true rfl) rfl ?_
            refine e2_goto (tgt := 18) dL_law_716 (by decide) ?_
            exact ih (d - 8) (by omega) (i + 8) h2 (by omega) (by omega) hI2
          · intro e_470_f c_470_f
            exact absurd ew.symm e_470_f
        · refine e2_tableIn (off := 442) (tgt := 475) dL_law_33 (by omega) (by omega) (by rw [sv_33]; rfl) (by decide) ?_
          refine e2_aload_n (i := 1) dL_law_475 rfl rfl ?_
          refine e2_aload_n (i := 0) dL_law_476 rfl rfl ?_
          refine e2_iload_n (i := 3) dL_law_477 rfl rfl ?_
          refine e2_iconst (v := 1) dL_law_478 (by decide) ?_
          refine z2_iadd (z := nI (i + 1)) (nI_addc _ 1) dL_law_479 ?_
          refine e2_sld dL_law_480 rfl (vin_ofX (X := ((i + 1 : Nat) : Int)) (nI_toInt (by omega)) (by omega) (by omega)) ?_
          rw [nI_clamp (by omega)]
          refine e2_aload_n (i := 0) dL_law_481 rfl rfl ?_
          refine e2_iload_n (i := 3) dL_law_482 rfl rfl ?_
          refine e2_iconst (v := 2) dL_law_483 (by decide) ?_
          refine z2_iadd (z := nI (i + 2)) (nI_addc _ 2) dL_law_484 ?_
          refine e2_sld dL_law_485 rfl (vin_ofX (X := ((i + 2 : Nat) : Int)) (nI_toInt (by omega)) (by omega) (by omega)) ?_
          rw [nI_clamp (by omega)]
          refine e2_aload_n (i := 0) dL_law_486 rfl rfl ?_
          refine e2_iload_n (i := 3) dL_law_487 rfl rfl ?_
          refine e2_iconst (v := 3) dL_law_488 (by decide) ?_
          refine z2_iadd (z := nI (i + 3)) (nI_addc _ 3) dL_law_489 ?_
          refine e2_sld dL_law_490 rfl (vin_ofX (X := ((i + 3 : Nat) : Int)) (nI_toInt (by omega)) (by omega) (by omega)) ?_
          rw [nI_clamp (by omega)]
          refine e2_aload_n (i := 0) dL_law_491 rfl rfl ?_
          refine e2_iload_n (i := 3) dL_law_492 rfl rfl ?_
          refine e2_iconst (v := 4) dL_law_493 (by decide) ?_
          refine z2_iadd (z := nI (i + 4)) (nI_addc _ 4) dL_law_494 ?_
          refine e2_sld dL_law_495 rfl (vin_ofX (X := ((i + 4 : Nat) : Int)) (nI_toInt (by omega)) (by omega) (by omega)) ?_
          rw [nI_clamp (by omega)]
          refine e2_invViG (hkn := hkn) (As := [.inl (xs (i + 1)), .inl (xs (i + 2)), .inl (xs (i + 3)), .inl (xs (i + 4))]) dL_law_496 lk_L_69 yv_X7_all rfl rfl rfl (Nat.le_of_ble_eq_true rfl) sh_0 ci_X7 (Nat.le_of_ble_eq_true rfl) ⟨Nat.le_of_ble_eq_true rfl, Nat.le_of_ble_eq_true rfl⟩ (j_all l h hI (xs (i + 1)) (xs (i + 2)) (xs (i + 3)) (xs (i + 4))) ?_
          rintro w1 h1 ⟨v1, hv1, km⟩
          obtain rfl := Option.some.inj hv1
          refine e2_aload_n (i := 2) dL_law_499 rfl rfl ?_
          refine e2_aload_n (i := 0) dL_law_500 rfl rfl ?_
          refine e2_iload_n (i := 3) dL_law_501 rfl rfl ?_
          refine e2_iconst (v := 1) dL_law_502 (by decide) ?_
          refine z2_iadd (z := nI (i + 1)) (nI_addc _ 1) dL_law_503 ?_
          refine e2_sld dL_law_504 rfl (vin_ofX (X := ((i + 1 : Nat) : Int)) (nI_toInt (by omega)) (by omega) (by omega)) ?_
          rw [nI_clamp (by omega)]
          refine e2_aload_n (i := 0) dL_law_505 rfl rfl ?_
          refine e2_iload_n (i := 3) dL_law_506 rfl rfl ?_
          refine e2_iconst (v := 2) dL_law_507 (by decide) ?_
          refine z2_iadd (z := nI (i + 2)) (nI_addc _ 2) dL_law_508 ?_
          refine e2_sld dL_law_509 rfl (vin_ofX (X := ((i + 2 : Nat) : Int)) (nI_toInt (by omega)) (by omega) (by omega)) ?_
          rw [nI_clamp (by omega)]
          refine e2_aload_n (i := 0) dL_law_510 rfl rfl ?_
          refine e2_iload_n (i := 3) dL_law_511 rfl rfl ?_
          refine e2_iconst (v := 3) dL_law_512 (by decide) ?_
          refine z2_iadd (z := nI (i + 3)) (nI_addc _ 3) dL_law_513 ?_
          refine e2_sld dL_law_514 rfl (vin_ofX (X := ((i + 3 : Nat) : Int)) (nI_toInt (by omega)) (by omega) (by omega)) ?_
          rw [nI_clamp (by omega)]
          refine e2_aload_n (i := 0) dL_law_515 rfl rfl ?_
          refine e2_iload_n (i := 3) dL_law_516 rfl rfl ?_
          refine e2_iconst (v := 4) dL_law_517 (by decide) ?_
          refine z2_iadd (z := nI (i + 4)) (nI_addc _ 4) dL_law_518 ?_
          refine e2_sld dL_law_519 rfl (vin_ofX (X := ((i + 4 : Nat) : Int)) (nI_toInt (by omega)) (by omega) (by omega)) ?_
          rw [nI_clamp (by omega)]
          refine e2_invViG (hkn := hkn) (As := [.inl (xs (i + 1)), .inl (xs (i + 2)), .inl (xs (i + 3)), .inl (xs (i + 4))]) dL_law_520 lk_L_73 yv_X8_all rfl rfl rfl (Nat.le_of_ble_eq_true rfl) sh_10 ci_X8 (Nat.le_of_ble_eq_true rfl) ⟨Nat.le_of_ble_eq_true rfl, Nat.le_of_ble_eq_true rfl⟩ km ?_
          rintro w2 h2 ⟨hv2, hI2⟩
          have ew := Option.some.inj hv2
          refine b2_icmp_eq (X := w1.toInt) (Y := w2.toInt) (tgt := 713) rfl rfl dL_law_523 (by decide) ?_ ?_
          · intro e_523_t c_523_t
            refine e2_iinc (v := nI (i + 8)) (ls2 := [some (.inr 1000), some (.inr 0), some (.inr 10), some (.inl (nI (i + 8)))]) dL_law_713 rfl (nI_inc8 _) (Nat.le_of_ble_eq_true rfl) rfl ?_
            refine e2_goto (tgt := 18) dL_law_716 (by decide) ?_
            exact ih (d - 8) (by omega) (i + 8) h2 (by omega) (by omega) hI2
          · intro e_523_f c_523_f
            exact absurd ew.symm e_523_f
        · refine e2_tableIn (off := 495) (tgt := 528) dL_law_33 (by omega) (by omega) (by rw [sv_33]; rfl) (by decide) ?_
          refine e2_aload_n (i := 1) dL_law_528 rfl rfl ?_
          refine e2_aload_n (i := 0) dL_law_529 rfl rfl ?_
          refine e2_iload_n (i := 3) dL_law_530 rfl rfl ?_
          refine e2_iconst (v := 1) dL_law_531 (by decide) ?_
          refine z2_iadd (z := nI (i + 1)) (nI_addc _ 1) dL_law_532 ?_
          refine e2_sld dL_law_533 rfl (vin_ofX (X := ((i + 1 : Nat) : Int)) (nI_toInt (by omega)) (by omega) (by omega)) ?_
          rw [nI_clamp (by omega)]
          refine e2_aload_n (i := 0) dL_law_534 rfl rfl ?_
          refine e2_iload_n (i := 3) dL_law_535 rfl rfl ?_
          refine e2_iconst (v := 2) dL_law_536 (by decide) ?_
          refine z2_iadd (z := nI (i + 2)) (nI_addc _ 2) dL_law_537 ?_
          refine e2_sld dL_law_538 rfl (vin_ofX (X := ((i + 2 : Nat) : Int)) (nI_toInt (by omega)) (by omega) (by omega)) ?_
          rw [nI_clamp (by omega)]
          refine e2_aload_n (i := 0) dL_law_539 rfl rfl ?_
          refine e2_iload_n (i := 3) dL_law_540 rfl rfl ?_
          refine e2_iconst (v := 3) dL_law_541 (by decide) ?_
          refine z2_iadd (z := nI (i + 3)) (nI_addc _ 3) dL_law_542 ?_
          refine e2_sld dL_law_543 rfl (vin_ofX (X := ((i + 3 : Nat) : Int)) (nI_toInt (by omega)) (by omega) (by omega)) ?_
          rw [nI_clamp (by omega)]
          refine e2_aload_n (i := 0) dL_law_544 rfl rfl ?_
          refine e2_iload_n (i := 3) dL_law_545 rfl rfl ?_
          refine e2_iconst (v := 4) dL_law_546 (by decide) ?_
          refine z2_iadd (z := nI (i + 4)) (nI_addc _ 4) dL_law_547 ?_
          refine e2_sld dL_law_548 rfl (vin_ofX (X := ((i + 4 : Nat) : Int)) (nI_toInt (by omega)) (by omega) (by omega)) ?_
          rw [nI_clamp (by omega)]
          refine e2_aload_n (i := 0) dL_law_549 rfl rfl ?_
          refine e2_iload_n (i := 3) dL_law_550 rfl rfl ?_
          refine e2_iconst (v := 5) dL_law_551 (by decide) ?_
          refine z2_iadd (z := nI (i + 5)) (nI_addc _ 5) dL_law_552 ?_
          refine e2_sld dL_law_553 rfl (vin_ofX (X := ((i + 5 : Nat) : Int)) (nI_toInt (by omega)) (by omega) (by omega)) ?_
          rw [nI_clamp (by omega)]
          refine e2_aload_n (i := 0) dL_law_554 rfl rfl ?_
          refine e2_iload_n (i := 3) dL_law_555 rfl rfl ?_
          refine e2_bipush (v := 6) dL_law_556 (by decide) ?_
          refine z2_iadd (z := nI (i + 6)) (nI_addc _ 6) dL_law_558 ?_
          refine e2_sld dL_law_559 rfl (vin_ofX (X := ((i + 6 : Nat) : Int)) (nI_toInt (by omega)) (by omega) (by omega)) ?_
          rw [nI_clamp (by omega)]
          refine e2_invViG (hkn := hkn) (As := [.inl (xs (i + 1)), .inl (xs (i + 2)), .inl (xs (i + 3)), .inl (xs (i + 4)), .inl (xs (i + 5)), .inl (xs (i + 6))]) dL_law_560 lk_L_74 yv_X7_row rfl rfl rfl (Nat.le_of_ble_eq_true rfl) sh_0 ci_X7 (Nat.le_of_ble_eq_true rfl) ⟨Nat.le_of_ble_eq_true rfl, Nat.le_of_ble_eq_true rfl⟩ (j_row l h hI (xs (i + 1)) (xs (i + 2)) (xs (i + 3)) (xs (i + 4)) (xs (i + 5)) (xs (i + 6))) ?_
          rintro w1 h1 ⟨v1, hv1, km⟩
          obtain rfl := Option.some.inj hv1
          refine e2_aload_n (i := 2) dL_law_563 rfl rfl ?_
          refine e2_aload_n (i := 0) dL_law_564 rfl rfl ?_
          refine e2_iload_n (i := 3) dL_law_565 rfl rfl ?_
          refine e2_iconst (v := 1) dL_law_566 (by decide) ?_
          refine z2_iadd (z := nI (i + 1)) (nI_addc _ 1) dL_law_567 ?_
          refine e2_sld dL_law_568 rfl (vin_ofX (X := ((i + 1 : Nat) : Int)) (nI_toInt (by omega)) (by omega) (by omega)) ?_
          rw [nI_clamp (by omega)]
          refine e2_aload_n (i := 0) dL_law_569 rfl rfl ?_
          refine e2_iload_n (i := 3) dL_law_570 rfl rfl ?_
          refine e2_iconst (v := 2) dL_law_571 (by decide) ?_
          refine z2_iadd (z := nI (i + 2)) (nI_addc _ 2) dL_law_572 ?_
          refine e2_sld dL_law_573 rfl (vin_ofX (X := ((i + 2 : Nat) : Int)) (nI_toInt (by omega)) (by omega) (by omega)) ?_
          rw [nI_clamp (by omega)]
          refine e2_aload_n (i := 0) dL_law_574 rfl rfl ?_
          refine e2_iload_n (i := 3) dL_law_575 rfl rfl ?_
          refine e2_iconst (v := 3) dL_law_576 (by decide) ?_
          refine z2_iadd (z := nI (i + 3)) (nI_addc _ 3) dL_law_577 ?_
          refine e2_sld dL_law_578 rfl (vin_ofX (X := ((i + 3 : Nat) : Int)) (nI_toInt (by omega)) (by omega) (by omega)) ?_
          rw [nI_clamp (by omega)]
          refine e2_aload_n (i := 0) dL_law_579 rfl rfl ?_
          refine e2_iload_n (i := 3) dL_law_580 rfl rfl ?_
          refine e2_iconst (v := 4) dL_law_581 (by decide) ?_
          refine z2_iadd (z := nI (i + 4)) (nI_addc _ 4) dL_law_582 ?_
          refine e2_sld dL_law_583 rfl (vin_ofX (X := ((i + 4 : Nat) : Int)) (nI_toInt (by omega)) (by omega) (by omega)) ?_
          rw [nI_clamp (by omega)]
          refine e2_aload_n (i := 0) dL_law_584 rfl rfl ?_
          refine e2_iload_n (i := 3) dL_law_585 rfl rfl ?_
          refine e2_iconst (v := 5) dL_law_586 (by decide) ?_
          refine z2_iadd (z := nI (i + 5)) (nI_addc _ 5) dL_law_587 ?_
          refine e2_sld dL_law_588 rfl (vin_ofX (X := ((i + 5 : Nat) : Int)) (nI_toInt (by omega)) (by omega) (by omega)) ?_
          rw [nI_clamp (by omega)]
          refine e2_aload_n (i := 0) dL_law_589 rfl rfl ?_
          refine e2_iload_n (i := 3) dL_law_590 rfl rfl ?_
          refine e2_bipush (v := 6) dL_law_591 (by decide) ?_
          refine z2_iadd (z := nI (i + 6)) (nI_addc _ 6) dL_law_593 ?_
          refine e2_sld dL_law_594 rfl (vin_ofX (X := ((i + 6 : Nat) : Int)) (nI_toInt (by omega)) (by omega) (by omega)) ?_
          rw [nI_clamp (by omega)]
          refine e2_invViG (hkn := hkn) (As := [.inl (xs (i + 1)), .inl (xs (i + 2)), .inl (xs (i + 3)), .inl (xs (i + 4)), .inl (xs (i + 5)), .inl (xs (i + 6))]) dL_law_595 lk_L_78 yv_X8_row rfl rfl rfl (Nat.le_of_ble_eq_true rfl) sh_10 ci_X8 (Nat.le_of_ble_eq_true rfl) ⟨Nat.le_of_ble_eq_true rfl, Nat.le_of_ble_eq_true rfl⟩ km ?_
          rintro w2 h2 ⟨hv2, hI2⟩
          have ew := Option.some.inj hv2
          refine b2_icmp_eq (X := w1.toInt) (Y := w2.toInt) (tgt := 713) rfl rfl dL_law_598 (by decide) ?_ ?_
          · intro e_598_t c_598_t
            refine e2_iinc (v := nI (i + 8)) (ls2 := [some (.inr 1000), some (.inr 0), some (.inr 10), some (.inl (nI (i + 8)))]) dL_law_713 rfl (nI_inc8 _) (Nat.le_of_ble_eq_true rfl) rfl ?_
            refine e2_goto (tgt := 18) dL_law_716 (by decide) ?_
            exact ih (d - 8) (by omega) (i + 8) h2 (by omega) (by omega) hI2
          · intro e_598_f c_598_f
            exact absurd ew.symm e_598_f
        · refine e2_tableIn (off := 570) (tgt := 603) dL_law_33 (by omega) (by omega) (by rw [sv_33]; rfl) (by decide) ?_
          refine e2_aload_n (i := 1) dL_law_603 rfl rfl ?_
          refine e2_aload_n (i := 0) dL_law_604 rfl rfl ?_
          refine e2_iload_n (i := 3) dL_law_605 rfl rfl ?_
          refine e2_iconst (v := 1) dL_law_606 (by decide) ?_
          refine z2_iadd (z := nI (i + 1)) (nI_addc _ 1) dL_law_607 ?_
          refine e2_sld dL_law_608 rfl (vin_ofX (X := ((i + 1 : Nat) : Int)) (nI_toInt (by omega)) (by omega) (by omega)) ?_
          rw [nI_clamp (by omega)]
          refine e2_aload_n (i := 0) dL_law_609 rfl rfl ?_
          refine e2_iload_n (i := 3) dL_law_610 rfl rfl ?_
          refine e2_iconst (v := 2) dL_law_611 (by decide) ?_
          refine z2_iadd (z := nI (i + 2)) (nI_addc _ 2) dL_law_612 ?_
          refine e2_sld dL_law_613 rfl (vin_ofX (X := ((i + 2 : Nat) : Int)) (nI_toInt (by omega)) (by omega) (by omega)) ?_
          rw [nI_clamp (by omega)]
          refine e2_aload_n (i := 0) dL_law_614 rfl rfl ?_
          refine e2_iload_n (i := 3) dL_law_615 rfl rfl ?_
          refine e2_iconst (v := 3) dL_law_616 (by decide) ?_
          refine z2_iadd (z := nI (i + 3)) (nI_addc _ 3) dL_law_617 ?_
          refine e2_sld dL_law_618 rfl (vin_ofX (X := ((i + 3 : Nat) : Int)) (nI_toInt (by omega)) (by omega) (by omega)) ?_
          rw [nI_clamp (by omega)]
          refine e2_aload_n (i := 0) dL_law_619 rfl rfl ?_
          refine e2_iload_n (i := 3) dL_law_620 rfl rfl ?_
          refine e2_iconst (v := 4) dL_law_621 (by decide) ?_
          refine z2_iadd (z := nI (i + 4)) (nI_addc _ 4) dL_law_622 ?_
          refine e2_sld dL_law_623 rfl (vin_ofX (X := ((i + 4 : Nat) : Int)) (nI_toInt (by omega)) (by omega) (by omega)) ?_
          rw [nI_clamp (by omega)]
          refine e2_aload_n (i := 0) dL_law_624 rfl rfl ?_
          refine e2_iload_n (i := 3) dL_law_625 rfl rfl ?_
          refine e2_iconst (v := 5) dL_law_626 (by decide) ?_
          refine z2_iadd (z := nI (i + 5)) (nI_addc _ 5) dL_law_627 ?_
          refine e2_sld dL_law_628 rfl (vin_ofX (X := ((i + 5 : Nat) : Int)) (nI_toInt (by omega)) (by omega) (by omega)) ?_
          rw [nI_clamp (by omega)]
          refine e2_aload_n (i := 0) dL_law_629 rfl rfl ?_
          refine e2_iload_n (i := 3) dL_law_630 rfl rfl ?_
          refine e2_bipush (v := 6) dL_law_631 (by decide) ?_
          refine z2_iadd (z := nI (i + 6)) (nI_addc _ 6) dL_law_633 ?_
          refine e2_sld dL_law_634 rfl (vin_ofX (X := ((i + 6 : Nat) : Int)) (nI_toInt (by omega)) (by omega) (by omega)) ?_
          rw [nI_clamp (by omega)]
          refine e2_aload_n (i := 0) dL_law_635 rfl rfl ?_
          refine e2_iload_n (i := 3) dL_law_636 rfl rfl ?_
          refine e2_bipush (v := 7) dL_law_637 (by decide) ?_
          refine z2_iadd (z := nI (i + 7)) (nI_addc _ 7) dL_law_639 ?_
          refine e2_sld dL_law_640 rfl (vin_ofX (X := ((i + 7 : Nat) : Int)) (nI_toInt (by omega)) (by omega) (by omega)) ?_
          rw [nI_clamp (by omega)]
          refine e2_invViG (hkn := hkn) (As := [.inl (xs (i + 1)), .inl (xs (i + 2)), .inl (xs (i + 3)), .inl (xs (i + 4)), .inl (xs (i + 5)), .inl (xs (i + 6)), .inl (xs (i + 7))]) dL_law_641 lk_L_79 yv_X7_apart rfl rfl rfl (Nat.le_of_ble_eq_true rfl) sh_0 ci_X7 (Nat.le_of_ble_eq_true rfl) ⟨Nat.le_of_ble_eq_true rfl, Nat.le_of_ble_eq_true rfl⟩ (j_apart l h hI (xs (i + 1)) (xs (i + 2)) (xs (i + 3)) (xs (i + 4)) (xs (i + 5)) (xs (i + 6)) (xs (i + 7))) ?_
          rintro w1 h1 ⟨v1, hv1, km⟩
          obtain rfl := Option.some.inj hv1
          refine e2_aload_n (i := 2) dL_law_644 rfl rfl ?_
          refine e2_aload_n (i := 0) dL_law_645 rfl rfl ?_
          refine e2_iload_n (i := 3) dL_law_646 rfl rfl ?_
          refine e2_iconst (v := 1) dL_law_647 (by decide) ?_
          refine z2_iadd (z := nI (i + 1)) (nI_addc _ 1) dL_law_648 ?_
          refine e2_sld dL_law_649 rfl (vin_ofX (X := ((i + 1 : Nat) : Int)) (nI_toInt (by omega)) (by omega) (by omega)) ?_
          rw [nI_clamp (by omega)]
          refine e2_aload_n (i := 0) dL_law_650 rfl rfl ?_
          refine e2_iload_n (i := 3) dL_law_651 rfl rfl ?_
          refine e2_iconst (v := 2) dL_law_652 (by decide) ?_
          refine z2_iadd (z := nI (i + 2)) (nI_addc _ 2) dL_law_653 ?_
          refine e2_sld dL_law_654 rfl (vin_ofX (X := ((i + 2 : Nat) : Int)) (nI_toInt (by omega)) (by omega) (by omega)) ?_
          rw [nI_clamp (by omega)]
          refine e2_aload_n (i := 0) dL_law_655 rfl rfl ?_
          refine e2_iload_n (i := 3) dL_law_656 rfl rfl ?_
          refine e2_iconst (v := 3) dL_law_657 (by decide) ?_
          refine z2_iadd (z := nI (i + 3)) (nI_addc _ 3) dL_law_658 ?_
          refine e2_sld dL_law_659 rfl (vin_ofX (X := ((i + 3 : Nat) : Int)) (nI_toInt (by omega)) (by omega) (by omega)) ?_
          rw [nI_clamp (by omega)]
          refine e2_aload_n (i := 0) dL_law_660 rfl rfl ?_
          refine e2_iload_n (i := 3) dL_law_661 rfl rfl ?_
          refine e2_iconst (v := 4) dL_law_662 (by decide) ?_
          refine z2_iadd (z := nI (i + 4)) (nI_addc _ 4) dL_law_663 ?_
          refine e2_sld dL_law_664 rfl (vin_ofX (X := ((i + 4 : Nat) : Int)) (nI_toInt (by omega)) (by omega) (by omega)) ?_
          rw [nI_clamp (by omega)]
          refine e2_aload_n (i := 0) dL_law_665 rfl rfl ?_
          refine e2_iload_n (i := 3) dL_law_666 rfl rfl ?_
          refine e2_iconst (v := 5) dL_law_667 (by decide) ?_
          refine z2_iadd (z := nI (i + 5)) (nI_addc _ 5) dL_law_668 ?_
          refine e2_sld dL_law_669 rfl (vin_ofX (X := ((i + 5 : Nat) : Int)) (nI_toInt (by omega)) (by omega) (by omega)) ?_
          rw [nI_clamp (by omega)]
          refine e2_aload_n (i := 0) dL_law_670 rfl rfl ?_
          refine e2_iload_n (i := 3) dL_law_671 rfl rfl ?_
          refine e2_bipush (v := 6) dL_law_672 (by decide) ?_
          refine z2_iadd (z := nI (i + 6)) (nI_addc _ 6) dL_law_674 ?_
          refine e2_sld dL_law_675 rfl (vin_ofX (X := ((i + 6 : Nat) : Int)) (nI_toInt (by omega)) (by omega) (by omega)) ?_
          rw [nI_clamp (by omega)]
          refine e2_aload_n (i := 0) dL_law_676 rfl rfl ?_
          refine e2_iload_n (i := 3) dL_law_677 rfl rfl ?_
          refine e2_bipush (v := 7) dL_law_678 (by decide) ?_
          refine z2_iadd (z := nI (i + 7)) (nI_addc _ 7) dL_law_680 ?_
          refine e2_sld dL_law_681 rfl (vin_ofX (X := ((i + 7 : Nat) : Int)) (nI_toInt (by omega)) (by omega) (by omega)) ?_
          rw [nI_clamp (by omega)]
          refine e2_invViG (hkn := hkn) (As := [.inl (xs (i + 1)), .inl (xs (i + 2)), .inl (xs (i + 3)), .inl (xs (i + 4)), .inl (xs (i + 5)), .inl (xs (i + 6)), .inl (xs (i + 7))]) dL_law_682 lk_L_83 yv_X8_apart rfl rfl rfl (Nat.le_of_ble_eq_true rfl) sh_10 ci_X8 (Nat.le_of_ble_eq_true rfl) ⟨Nat.le_of_ble_eq_true rfl, Nat.le_of_ble_eq_true rfl⟩ km ?_
          rintro w2 h2 ⟨hv2, hI2⟩
          have ew := Option.some.inj hv2
          refine b2_icmp_eq (X := w1.toInt) (Y := w2.toInt) (tgt := 713) rfl rfl dL_law_685 (by decide) ?_ ?_
          · intro e_685_t c_685_t
            refine e2_iinc (v := nI (i + 8)) (ls2 := [some (.inr 1000), some (.inr 0), some (.inr 10), some (.inl (nI (i + 8)))]) dL_law_713 rfl (nI_inc8 _) (Nat.le_of_ble_eq_true rfl) rfl ?_
            refine e2_goto (tgt := 18) dL_law_716 (by decide) ?_
            exact ih (d - 8) (by omega) (i + 8) h2 (by omega) (by omega) hI2
          · intro e_685_f c_685_f
            exact absurd ew.symm e_685_f
        · refine e2_tableIn (off := 657) (tgt := 690) dL_law_33 (by omega) (by omega) (by rw [sv_33]; rfl) (by decide) ?_
          refine e2_aload_n (i := 1) dL_law_690 rfl rfl ?_
          refine e2_aload_n (i := 0) dL_law_691 rfl rfl ?_
          refine e2_iload_n (i := 3) dL_law_692 rfl rfl ?_
          refine e2_iconst (v := 1) dL_law_693 (by decide) ?_
          refine z2_iadd (z := nI (i + 1)) (nI_addc _ 1) dL_law_694 ?_
          refine e2_sld dL_law_695 rfl (vin_ofX (X := ((i + 1 : Nat) : Int)) (nI_toInt (by omega)) (by omega) (by omega)) ?_
          rw [nI_clamp (by omega)]
          refine e2_invViG (hkn := hkn) (As := [.inl (xs (i + 1))]) dL_law_696 lk_L_84 yv_X7_told rfl rfl rfl (Nat.le_of_ble_eq_true rfl) sh_0 ci_X7 (Nat.le_of_ble_eq_true rfl) ⟨Nat.le_of_ble_eq_true rfl, Nat.le_of_ble_eq_true rfl⟩ (j_told l h hI (xs (i + 1))) ?_
          rintro w1 h1 ⟨v1, hv1, km⟩
          obtain rfl := Option.some.inj hv1
          refine e2_aload_n (i := 2) dL_law_699 rfl rfl ?_
          refine e2_aload_n (i := 0) dL_law_700 rfl rfl ?_
          refine e2_iload_n (i := 3) dL_law_701 rfl rfl ?_
          refine e2_iconst (v := 1) dL_law_702 (by decide) ?_
          refine z2_iadd (z := nI (i + 1)) (nI_addc _ 1) dL_law_703 ?_
          refine e2_sld dL_law_704 rfl (vin_ofX (X := ((i + 1 : Nat) : Int)) (nI_toInt (by omega)) (by omega) (by omega)) ?_
          rw [nI_clamp (by omega)]
          refine e2_invViG (hkn := hkn) (As := [.inl (xs (i + 1))]) dL_law_705 lk_L_87 yv_X8_told rfl rfl rfl (Nat.le_of_ble_eq_true rfl) sh_10 ci_X8 (Nat.le_of_ble_eq_true rfl) ⟨Nat.le_of_ble_eq_true rfl, Nat.le_of_ble_eq_true rfl⟩ km ?_
          rintro w2 h2 ⟨hv2, hI2⟩
          have ew := Option.some.inj hv2
          refine b2_icmp_eq (X := w1.toInt) (Y := w2.toInt) (tgt := 713) rfl rfl dL_law_708 (by decide) ?_ ?_
          · intro e_708_t c_708_t
            refine e2_iinc (v := nI (i + 8)) (ls2 := [some (.inr 1000), some (.inr 0), some (.inr 10), some (.inl (nI (i + 8)))]) dL_law_713 rfl (nI_inc8 _) (Nat.le_of_ble_eq_true rfl) rfl ?_
            refine e2_goto (tgt := 18) dL_law_716 (by decide) ?_
            exact ih (d - 8) (by omega) (i + 8) h2 (by omega) (by omega) hI2
          · intro e_708_f c_708_f
            exact absurd ew.symm e_708_f
