/-! The reference's OFTEN. -/
theorem oA_s (x : Int) (s : Nat → Nat) (i : Nat) : oA x s (i + 1) = if x = 63 ∧ 0 < i then oA x s i else oA x s i + s i := rfl
theorem oG_s (x : Int) (s : Nat → Nat) (i : Nat) : oG x s (i + 1) = if x = 63 ∧ 0 < i ∧ oG x s i < s i then s i else oG x s i := rfl
set_option maxHeartbeats 1000000 in
theorem lp_M_often3 (l : Launch) (h : mH) (sg : Nat → Int32) (ln : Nat → Nat) (f : Nat → Int32) (p m own : Nat) (hp : p < 20) (hm : m < 40) (ho : own ≤ 3) (S : Nat → Nat) (hS : ∀ i, S i ≤ 2) (he : ∀ i, i < own → pOf ln (aFs sg (40 * p + m)) i < 800 ∧ pOf ln (aFs sg (40 * p + m)) i / 40 = p ∧ f (pOf ln (aFs sg (40 * p + m)) i - 40 * p) = nI (S i) ∧ h 31 (pOf ln (aFs sg (40 * p + m)) i) = nI (ln (pOf ln (aFs sg (40 * p + m)) i)) ∧ pOf ln (aFs sg (40 * p + m)) (i + 1) ≤ 800) (y1 y2 y7 : Option mV) (RT : Option Int32 → mH → Prop) (hR : ∀ y9 y12 y13, mE l Sh0 none iX8_often RT 246 [some (.inr 10), y1, y2, some (.inl (nI p)), some (.inl (nI (40 * p))), some (.inl (nI m)), some (.inl (sg (40 * p + m))), y7, some (.inl (nI own)), y9, some (.inl (nI (oA (sg (40 * p + m)).toInt S own))), some (.inl (nI (oG (sg (40 * p + m)).toInt S own))), y12, y13] [] (hr h 51 f)) : ∀ (d i : Nat) (y13 : Option mV), i + d = own → mE l Sh0 none iX8_often RT 147 [some (.inr 10), y1, y2, some (.inl (nI p)), some (.inl (nI (40 * p))), some (.inl (nI m)), some (.inl (sg (40 * p + m))), y7, some (.inl (nI own)), some (.inl (nI (pOf ln (aFs sg (40 * p + m)) i - 40 * p))), some (.inl (nI (oA (sg (40 * p + m)).toInt S i))), some (.inl (nI (oG (sg (40 * p + m)).toInt S i))), some (.inl (nI i)), y13] [] (hr h 51 f) := by
  have hag := oAG_le (x := (sg (40 * p + m)).toInt) hS
  intro d
  induction d with
  | zero =>
    intro i y13 hd
    refine e_iload dX8_often_147 rfl ?_
    refine e_iload dX8_often_149 rfl ?_
    refine b_icmp_ge (X := ((i : Nat) : Int)) (Y := ((own : Nat) : Int)) (tgt := 246) (nI_toInt (by omega)) (nI_toInt (by omega)) dX8_often_151 (by decide) ?_ ?_
    · intro c_151_t
      have e : i = own := by omega
      subst e
      exact hR _ _ _
    · intro c_151_f
      exfalso; omega
  | succ d ih =>
    intro i y13 hd
    obtain ⟨b1, b2, b3, b4, b5⟩ := he i (by omega)
    obtain ⟨g1, g2⟩ := hag i
    have s0 := hS i
    have h6 : pOf ln (aFs sg (40 * p + m)) (i + 1) = pOf ln (aFs sg (40 * p + m)) i + ln (pOf ln (aFs sg (40 * p + m)) i) := rfl
    have r1 : hr h 51 f 51 (pOf ln (aFs sg (40 * p + m)) i - 40 * p) = nI (S i) := by rw [hr_at]; exact b3
    refine e_iload dX8_often_147 rfl ?_
    refine e_iload dX8_often_149 rfl ?_
    refine b_icmp_ge (X := ((i : Nat) : Int)) (Y := ((own : Nat) : Int)) (tgt := 246) (nI_toInt (by omega)) (nI_toInt (by omega)) dX8_often_151 (by decide) ?_ ?_
    · intro c_151_t
      exfalso; omega
    · intro c_151_f
      refine e_iload dX8_often_154 rfl ?_
      refine e_bipush (v := 63) dX8_often_156 (by decide) ?_
      refine b_icmp_ne (X := (sg (40 * p + m)).toInt) (Y := 63) (tgt := 170) rfl (by decide) dX8_often_158 (by decide) ?_ ?_
      · intro e_158_t c_158_t
        refine e_iconst (v := 0) dX8_often_170 (by decide) ?_
        refine e_istore (ls2 := [some (.inr 10), y1, y2, some (.inl (nI p)), some (.inl (nI (40 * p))), some (.inl (nI m)), some (.inl (sg (40 * p + m))), y7, some (.inl (nI own)), some (.inl (nI (pOf ln (aFs sg (40 * p + m)) i - 40 * p))), some (.inl (nI (oA (sg (40 * p + m)).toInt S i))), some (.inl (nI (oG (sg (40 * p + m)).toInt S i))), some (.inl (nI i)), some (.inl 0)]) dX8_often_171 (Nat.le_of_ble_eq_true rfl) rfl ?_
        refine e_iload dX8_often_173 rfl ?_
        refine b_if_eq (X := 0) (tgt := 200) (by decide) dX8_often_175 (by decide) ?_ ?_
        · intro e_175_t c_175_t
          refine e_iload dX8_often_200 rfl ?_
          refine e_istore (ls2 := [some (.inr 10), y1, y2, some (.inl (nI p)), some (.inl (nI (40 * p))), some (.inl (nI m)), some (.inl (sg (40 * p + m))), y7, some (.inl (nI own)), some (.inl (nI (pOf ln (aFs sg (40 * p + m)) i - 40 * p))), some (.inl (nI (oA (sg (40 * p + m)).toInt S i))), some (.inl (nI (oG (sg (40 * p + m)).toInt S i))), some (.inl (nI i)), some (.inl 0)]) dX8_often_202 (Nat.le_of_ble_eq_true rfl) rfl ?_
          refine e_iload dX8_often_204 rfl ?_
          refine e_iload dX8_often_206 rfl ?_
          refine b_if_eq (X := 0) (tgt := 215) (by decide) dX8_often_208 (by decide) ?_ ?_
          · intro e_208_t c_208_t
            refine e_aload_n (i := 0) dX8_often_215 rfl rfl ?_
            refine e_getR (r := 51) dX8_often_216 fl_X8_79 sh_10 fj_10_42 ?_
            refine e_iload dX8_often_219 rfl ?_
            refine e_iald (x := nI (S i)) dX8_often_221 sh_51 (vin_ofX (X := ((pOf ln (aFs sg (40 * p + m)) i - 40 * p : Nat) : Int)) (nI_toInt (by omega)) (by omega) (by omega)) (by rw [nI_clamp (by omega)]; exact r1) ?_
            refine z_iadd (z := nI (oA (sg (40 * p + m)).toInt S i + (S i))) (nI_add _ _) dX8_often_222 ?_
            refine e_istore (ls2 := [some (.inr 10), y1, y2, some (.inl (nI p)), some (.inl (nI (40 * p))), some (.inl (nI m)), some (.inl (sg (40 * p + m))), y7, some (.inl (nI own)), some (.inl (nI (pOf ln (aFs sg (40 * p + m)) i - 40 * p))), some (.inl (nI (oA (sg (40 * p + m)).toInt S i + (S i)))), some (.inl (nI (oG (sg (40 * p + m)).toInt S i))), some (.inl (nI i)), some (.inl 0)]) dX8_often_223 (Nat.le_of_ble_eq_true rfl) rfl ?_
            refine e_iload dX8_often_225 rfl ?_
            refine e_aload_n (i := 0) dX8_often_227 rfl rfl ?_
            refine e_getR (r := 31) dX8_often_228 fl_X8_19 sh_10 fj_10_4 ?_
            refine e_iload dX8_often_231 rfl ?_
            refine e_iload dX8_often_233 rfl ?_
            refine z_iadd (z := nI (pOf ln (aFs sg (40 * p + m)) i)) (by rw [nI_add]; congr 1; omega) dX8_often_235 ?_
            refine e_iald (x := nI (ln (pOf ln (aFs sg (40 * p + m)) i))) dX8_often_236 sh_31 (vin_ofX (X := ((pOf ln (aFs sg (40 * p + m)) i : Nat) : Int)) (nI_toInt (by omega)) (by omega) (by omega)) (by rw [nI_clamp (by omega)]; exact b4) ?_
            refine z_iadd (z := nI (pOf ln (aFs sg (40 * p + m)) (i + 1) - 40 * p)) (by rw [nI_add]; congr 1; omega) dX8_often_237 ?_
            refine e_istore (ls2 := [some (.inr 10), y1, y2, some (.inl (nI p)), some (.inl (nI (40 * p))), some (.inl (nI m)), some (.inl (sg (40 * p + m))), y7, some (.inl (nI own)), some (.inl (nI (pOf ln (aFs sg (40 * p + m)) (i + 1) - 40 * p))), some (.inl (nI (oA (sg (40 * p + m)).toInt S i + (S i)))), some (.inl (nI (oG (sg (40 * p + m)).toInt S i))), some (.inl (nI i)), some (.inl 0)]) dX8_often_238 (Nat.le_of_ble_eq_true rfl) rfl ?_
            refine e_iinc (v := nI (i + 1)) (ls2 := [some (.inr 10), y1, y2, some (.inl (nI p)), some (.inl (nI (40 * p))), some (.inl (nI m)), some (.inl (sg (40 * p + m))), y7, some (.inl (nI own)), some (.inl (nI (pOf ln (aFs sg (40 * p + m)) (i + 1) - 40 * p))), some (.inl (nI (oA (sg (40 * p + m)).toInt S i + (S i)))), some (.inl (nI (oG (sg (40 * p + m)).toInt S i))), some (.inl (nI (i + 1))), some (.inl 0)]) dX8_often_240 rfl (nI_inc1 _) (Nat.le_of_ble_eq_true rfl) rfl ?_
            refine e_goto (tgt := 147) dX8_often_243 (by decide) ?_
            have q := ih (i + 1) (some (.inl 0)) (by omega)
            rw [show oA (sg (40 * p + m)).toInt S (i + 1) = oA (sg (40 * p + m)).toInt S i + (S i) from by rw [oA_s]; split <;> omega, show oG (sg (40 * p + m)).toInt S (i + 1) = oG (sg (40 * p + m)).toInt S i from by rw [oG_s]; split <;> omega] at q
            exact q
          · intro e_208_f c_208_f
            exfalso; omega
        · intro e_175_f c_175_f
          exfalso; omega
      · intro e_158_f c_158_f
        refine e_iload dX8_often_161 rfl ?_
        refine b_if_le (X := ((i : Nat) : Int)) (tgt := 170) (nI_toInt (by omega)) dX8_often_163 (by decide) ?_ ?_
        · intro c_163_t
          refine e_iconst (v := 0) dX8_often_170 (by decide) ?_
          refine e_istore (ls2 := [some (.inr 10), y1, y2, some (.inl (nI p)), some (.inl (nI (40 * p))), some (.inl (nI m)), some (.inl (sg (40 * p + m))), y7, some (.inl (nI own)), some (.inl (nI (pOf ln (aFs sg (40 * p + m)) i - 40 * p))), some (.inl (nI (oA (sg (40 * p + m)).toInt S i))), some (.inl (nI (oG (sg (40 * p + m)).toInt S i))), some (.inl (nI i)), some (.inl 0)]) dX8_often_171 (Nat.le_of_ble_eq_true rfl) rfl ?_
          refine e_iload dX8_often_173 rfl ?_
          refine b_if_eq (X := 0) (tgt := 200) (by decide) dX8_often_175 (by decide) ?_ ?_
          · intro e_175_t c_175_t
            refine e_iload dX8_often_200 rfl ?_
            refine e_istore (ls2 := [some (.inr 10), y1, y2, some (.inl (nI p)), some (.inl (nI (40 * p))), some (.inl (nI m)), some (.inl (sg (40 * p + m))), y7, some (.inl (nI own)), some (.inl (nI (pOf ln (aFs sg (40 * p + m)) i - 40 * p))), some (.inl (nI (oA (sg (40 * p + m)).toInt S i))), some (.inl (nI (oG (sg (40 * p + m)).toInt S i))), some (.inl (nI i)), some (.inl 0)]) dX8_often_202 (Nat.le_of_ble_eq_true rfl) rfl ?_
            refine e_iload dX8_often_204 rfl ?_
            refine e_iload dX8_often_206 rfl ?_
            refine b_if_eq (X := 0) (tgt := 215) (by decide) dX8_often_208 (by decide) ?_ ?_
            · intro e_208_t c_208_t
              refine e_aload_n (i := 0) dX8_often_215 rfl rfl ?_
              refine e_getR (r := 51) dX8_often_216 fl_X8_79 sh_10 fj_10_42 ?_
              refine e_iload dX8_often_219 rfl ?_
              refine e_iald (x := nI (S i)) dX8_often_221 sh_51 (vin_ofX (X := ((pOf ln (aFs sg (40 * p + m)) i - 40 * p : Nat) : Int)) (nI_toInt (by omega)) (by omega) (by omega)) (by rw [nI_clamp (by omega)]; exact r1) ?_
              refine z_iadd (z := nI (oA (sg (40 * p + m)).toInt S i + (S i))) (nI_add _ _) dX8_often_222 ?_
              refine e_istore (ls2 := [some (.inr 10), y1, y2, some (.inl (nI p)), some (.inl (nI (40 * p))), some (.inl (nI m)), some (.inl (sg (40 * p + m))), y7, some (.inl (nI own)), some (.inl (nI (pOf ln (aFs sg (40 * p + m)) i - 40 * p))), some (.inl (nI (oA (sg (40 * p + m)).toInt S i + (S i)))), some (.inl (nI (oG (sg (40 * p + m)).toInt S i))), some (.inl (nI i)), some (.inl 0)]) dX8_often_223 (Nat.le_of_ble_eq_true rfl) rfl ?_
              refine e_iload dX8_often_225 rfl ?_
              refine e_aload_n (i := 0) dX8_often_227 rfl rfl ?_
              refine e_getR (r := 31) dX8_often_228 fl_X8_19 sh_10 fj_10_4 ?_
              refine e_iload dX8_often_231 rfl ?_
              refine e_iload dX8_often_233 rfl ?_
              refine z_iadd (z := nI (pOf ln (aFs sg (40 * p + m)) i)) (by rw [nI_add]; congr 1; omega) dX8_often_235 ?_
              refine e_iald (x := nI (ln (pOf ln (aFs sg (40 * p + m)) i))) dX8_often_236 sh_31 (vin_ofX (X := ((pOf ln (aFs sg (40 * p + m)) i : Nat) : Int)) (nI_toInt (by omega)) (by omega) (by omega)) (by rw [nI_clamp (by omega)]; exact b4) ?_
              refine z_iadd (z := nI (pOf ln (aFs sg (40 * p + m)) (i + 1) - 40 * p)) (by rw [nI_add]; congr 1; omega) dX8_often_237 ?_
              refine e_istore (ls2 := [some (.inr 10), y1, y2, some (.inl (nI p)), some (.inl (nI (40 * p))), some (.inl (nI m)), some (.inl (sg (40 * p + m))), y7, some (.inl (nI own)), some (.inl (nI (pOf ln (aFs sg (40 * p + m)) (i + 1) - 40 * p))), some (.inl (nI (oA (sg (40 * p + m)).toInt S i + (S i)))), some (.inl (nI (oG (sg (40 * p + m)).toInt S i))), some (.inl (nI i)), some (.inl 0)]) dX8_often_238 (Nat.le_of_ble_eq_true rfl) rfl ?_
              refine e_iinc (v := nI (i + 1)) (ls2 := [some (.inr 10), y1, y2, some (.inl (nI p)), some (.inl (nI (40 * p))), some (.inl (nI m)), some (.inl (sg (40 * p + m))), y7, some (.inl (nI own)), some (.inl (nI (pOf ln (aFs sg (40 * p + m)) (i + 1) - 40 * p))), some (.inl (nI (oA (sg (40 * p + m)).toInt S i + (S i)))), some (.inl (nI (oG (sg (40 * p + m)).toInt S i))), some (.inl (nI (i + 1))), some (.inl 0)]) dX8_often_240 rfl (nI_inc1 _) (Nat.le_of_ble_eq_true rfl) rfl ?_
              refine e_goto (tgt := 147) dX8_often_243 (by decide) ?_
              have q := ih (i + 1) (some (.inl 0)) (by omega)
              rw [show oA (sg (40 * p + m)).toInt S (i + 1) = oA (sg (40 * p + m)).toInt S i + (S i) from by rw [oA_s]; split <;> omega, show oG (sg (40 * p + m)).toInt S (i + 1) = oG (sg (40 * p + m)).toInt S i from by rw [oG_s]; split <;> omega] at q
              exact q
            · intro e_208_f c_208_f
              exfalso; omega
          · intro e_175_f c_175_f
            exfalso; omega
        · intro c_163_f
          refine e_iconst (v := 1) dX8_often_166 (by decide) ?_
          refine e_goto (tgt := 171) dX8_often_167 (by decide) ?_
          refine e_istore (ls2 := [some (.inr 10), y1, y2, some (.inl (nI p)), some (.inl (nI (40 * p))), some (.inl (nI m)), some (.inl (sg (40 * p + m))), y7, some (.inl (nI own)), some (.inl (nI (pOf ln (aFs sg (40 * p + m)) i - 40 * p))), some (.inl (nI (oA (sg (40 * p + m)).toInt S i))), some (.inl (nI (oG (sg (40 * p + m)).toInt S i))), some (.inl (nI i)), some (.inl 1)]) dX8_often_171 (Nat.le_of_ble_eq_true rfl) rfl ?_
          refine e_iload dX8_often_173 rfl ?_
          refine b_if_eq (X := 1) (tgt := 200) (by decide) dX8_often_175 (by decide) ?_ ?_
          · intro e_175_t c_175_t
            exfalso; omega
          · intro e_175_f c_175_f
            refine e_aload_n (i := 0) dX8_often_178 rfl rfl ?_
            refine e_getR (r := 51) dX8_often_179 fl_X8_79 sh_10 fj_10_42 ?_
            refine e_iload dX8_often_182 rfl ?_
            refine e_iald (x := nI (S i)) dX8_often_184 sh_51 (vin_ofX (X := ((pOf ln (aFs sg (40 * p + m)) i - 40 * p : Nat) : Int)) (nI_toInt (by omega)) (by omega) (by omega)) (by rw [nI_clamp (by omega)]; exact r1) ?_
            refine e_iload dX8_often_185 rfl ?_
            refine b_icmp_le (X := ((S i : Nat) : Int)) (Y := ((oG (sg (40 * p + m)).toInt S i : Nat) : Int)) (tgt := 200) (nI_toInt (by omega)) (nI_toInt (by omega)) dX8_often_187 (by decide) ?_ ?_
            · intro c_187_t
              refine e_iload dX8_often_200 rfl ?_
              refine e_istore (ls2 := [some (.inr 10), y1, y2, some (.inl (nI p)), some (.inl (nI (40 * p))), some (.inl (nI m)), some (.inl (sg (40 * p + m))), y7, some (.inl (nI own)), some (.inl (nI (pOf ln (aFs sg (40 * p + m)) i - 40 * p))), some (.inl (nI (oA (sg (40 * p + m)).toInt S i))), some (.inl (nI (oG (sg (40 * p + m)).toInt S i))), some (.inl (nI i)), some (.inl 1)]) dX8_often_202 (Nat.le_of_ble_eq_true rfl) rfl ?_
              refine e_iload dX8_often_204 rfl ?_
              refine e_iload dX8_often_206 rfl ?_
              refine b_if_eq (X := 1) (tgt := 215) (by decide) dX8_often_208 (by decide) ?_ ?_
              · intro e_208_t c_208_t
                exfalso; omega
              · intro e_208_f c_208_f
                refine e_iconst (v := 0) dX8_often_211 (by decide) ?_
                refine e_goto (tgt := 222) dX8_often_212 (by decide) ?_
                refine z_iadd (z := nI (oA (sg (40 * p + m)).toInt S i + 0)) (nI_addc _ 0) dX8_often_222 ?_
                refine e_istore (ls2 := [some (.inr 10), y1, y2, some (.inl (nI p)), some (.inl (nI (40 * p))), some (.inl (nI m)), some (.inl (sg (40 * p + m))), y7, some (.inl (nI own)), some (.inl (nI (pOf ln (aFs sg (40 * p + m)) i - 40 * p))), some (.inl (nI (oA (sg (40 * p + m)).toInt S i + 0))), some (.inl (nI (oG (sg (40 * p + m)).toInt S i))), some (.inl (nI i)), some (.inl 1)]) dX8_often_223 (Nat.le_of_ble_eq_true rfl) rfl ?_
                refine e_iload dX8_often_225 rfl ?_
                refine e_aload_n (i := 0) dX8_often_227 rfl rfl ?_
                refine e_getR (r := 31) dX8_often_228 fl_X8_19 sh_10 fj_10_4 ?_
                refine e_iload dX8_often_231 rfl ?_
                refine e_iload dX8_often_233 rfl ?_
                refine z_iadd (z := nI (pOf ln (aFs sg (40 * p + m)) i)) (by rw [nI_add]; congr 1; omega) dX8_often_235 ?_
                refine e_iald (x := nI (ln (pOf ln (aFs sg (40 * p + m)) i))) dX8_often_236 sh_31 (vin_ofX (X := ((pOf ln (aFs sg (40 * p + m)) i : Nat) : Int)) (nI_toInt (by omega)) (by omega) (by omega)) (by rw [nI_clamp (by omega)]; exact b4) ?_
                refine z_iadd (z := nI (pOf ln (aFs sg (40 * p + m)) (i + 1) - 40 * p)) (by rw [nI_add]; congr 1; omega) dX8_often_237 ?_
                refine e_istore (ls2 := [some (.inr 10), y1, y2, some (.inl (nI p)), some (.inl (nI (40 * p))), some (.inl (nI m)), some (.inl (sg (40 * p + m))), y7, some (.inl (nI own)), some (.inl (nI (pOf ln (aFs sg (40 * p + m)) (i + 1) - 40 * p))), some (.inl (nI (oA (sg (40 * p + m)).toInt S i + 0))), some (.inl (nI (oG (sg (40 * p + m)).toInt S i))), some (.inl (nI i)), some (.inl 1)]) dX8_often_238 (Nat.le_of_ble_eq_true rfl) rfl ?_
                refine e_iinc (v := nI (i + 1)) (ls2 := [some (.inr 10), y1, y2, some (.inl (nI p)), some (.inl (nI (40 * p))), some (.inl (nI m)), some (.inl (sg (40 * p + m))), y7, some (.inl (nI own)), some (.inl (nI (pOf ln (aFs sg (40 * p + m)) (i + 1) - 40 * p))), some (.inl (nI (oA (sg (40 * p + m)).toInt S i + 0))), some (.inl (nI (oG (sg (40 * p + m)).toInt S i))), some (.inl (nI (i + 1))), some (.inl 1)]) dX8_often_240 rfl (nI_inc1 _) (Nat.le_of_ble_eq_true rfl) rfl ?_
                refine e_goto (tgt := 147) dX8_often_243 (by decide) ?_
                have q := ih (i + 1) (some (.inl 1)) (by omega)
                rw [show oA (sg (40 * p + m)).toInt S (i + 1) = oA (sg (40 * p + m)).toInt S i + 0 from by rw [oA_s]; split <;> omega, show oG (sg (40 * p + m)).toInt S (i + 1) = oG (sg (40 * p + m)).toInt S i from by rw [oG_s]; split <;> omega] at q
                exact q
            · intro c_187_f
              refine e_aload_n (i := 0) dX8_often_190 rfl rfl ?_
              refine e_getR (r := 51) dX8_often_191 fl_X8_79 sh_10 fj_10_42 ?_
              refine e_iload dX8_often_194 rfl ?_
              refine e_iald (x := nI (S i)) dX8_often_196 sh_51 (vin_ofX (X := ((pOf ln (aFs sg (40 * p + m)) i - 40 * p : Nat) : Int)) (nI_toInt (by omega)) (by omega) (by omega)) (by rw [nI_clamp (by omega)]; exact r1) ?_
              refine e_goto (tgt := 202) dX8_often_197 (by decide) ?_
              refine e_istore (ls2 := [some (.inr 10), y1, y2, some (.inl (nI p)), some (.inl (nI (40 * p))), some (.inl (nI m)), some (.inl (sg (40 * p + m))), y7, some (.inl (nI own)), some (.inl (nI (pOf ln (aFs sg (40 * p + m)) i - 40 * p))), some (.inl (nI (oA (sg (40 * p + m)).toInt S i))), some (.inl (nI (S i))), some (.inl (nI i)), some (.inl 1)]) dX8_often_202 (Nat.le_of_ble_eq_true rfl) rfl ?_
              refine e_iload dX8_often_204 rfl ?_
              refine e_iload dX8_often_206 rfl ?_
              refine b_if_eq (X := 1) (tgt := 215) (by decide) dX8_often_208 (by decide) ?_ ?_
              · intro e_208_t c_208_t
                exfalso; omega
              · intro e_208_f c_208_f
                refine e_iconst (v := 0) dX8_often_211 (by decide) ?_
                refine e_goto (tgt := 222) dX8_often_212 (by decide) ?_
                refine z_iadd (z := nI (oA (sg (40 * p + m)).toInt S i + 0)) (nI_addc _ 0) dX8_often_222 ?_
                refine e_istore (ls2 := [some (.inr 10), y1, y2, some (.inl (nI p)), some (.inl (nI (40 * p))), some (.inl (nI m)), some (.inl (sg (40 * p + m))), y7, some (.inl (nI own)), some (.inl (nI (pOf ln (aFs sg (40 * p + m)) i - 40 * p))), some (.inl (nI (oA (sg (40 * p + m)).toInt S i + 0))), some (.inl (nI (S i))), some (.inl (nI i)), some (.inl 1)]) dX8_often_223 (Nat.le_of_ble_eq_true rfl) rfl ?_
                refine e_iload dX8_often_225 rfl ?_
                refine e_aload_n (i := 0) dX8_often_227 rfl rfl ?_
                refine e_getR (r := 31) dX8_often_228 fl_X8_19 sh_10 fj_10_4 ?_
                refine e_iload dX8_often_231 rfl ?_
                refine e_iload dX8_often_233 rfl ?_
                refine z_iadd (z := nI (pOf ln (aFs sg (40 * p + m)) i)) (by rw [nI_add]; congr 1; omega) dX8_often_235 ?_
                refine e_iald (x := nI (ln (pOf ln (aFs sg (40 * p + m)) i))) dX8_often_236 sh_31 (vin_ofX (X := ((pOf ln (aFs sg (40 * p + m)) i : Nat) : Int)) (nI_toInt (by omega)) (by omega) (by omega)) (by rw [nI_clamp (by omega)]; exact b4) ?_
                refine z_iadd (z := nI (pOf ln (aFs sg (40 * p + m)) (i + 1) - 40 * p)) (by rw [nI_add]; congr 1; omega) dX8_often_237 ?_
                refine e_istore (ls2 := [some (.inr 10), y1, y2, some (.inl (nI p)), some (.inl (nI (40 * p))), some (.inl (nI m)), some (.inl (sg (40 * p + m))), y7, some (.inl (nI own)), some (.inl (nI (pOf ln (aFs sg (40 * p + m)) (i + 1) - 40 * p))), some (.inl (nI (oA (sg (40 * p + m)).toInt S i + 0))), some (.inl (nI (S i))), some (.inl (nI i)), some (.inl 1)]) dX8_often_238 (Nat.le_of_ble_eq_true rfl) rfl ?_
                refine e_iinc (v := nI (i + 1)) (ls2 := [some (.inr 10), y1, y2, some (.inl (nI p)), some (.inl (nI (40 * p))), some (.inl (nI m)), some (.inl (sg (40 * p + m))), y7, some (.inl (nI own)), some (.inl (nI (pOf ln (aFs sg (40 * p + m)) (i + 1) - 40 * p))), some (.inl (nI (oA (sg (40 * p + m)).toInt S i + 0))), some (.inl (nI (S i))), some (.inl (nI (i + 1))), some (.inl 1)]) dX8_often_240 rfl (nI_inc1 _) (Nat.le_of_ble_eq_true rfl) rfl ?_
                refine e_goto (tgt := 147) dX8_often_243 (by decide) ?_
                have q := ih (i + 1) (some (.inl 1)) (by omega)
                rw [show oA (sg (40 * p + m)).toInt S (i + 1) = oA (sg (40 * p + m)).toInt S i + 0 from by rw [oA_s]; split <;> omega, show oG (sg (40 * p + m)).toInt S (i + 1) = S i from by rw [oG_s]; split <;> omega] at q
                exact q
set_option maxHeartbeats 2000000 in
theorem lp_M_often (l : Launch) {sg : Nat → Int32} {ln sz : Nat → Nat} (hB : aWB sg ln sz) (h : mH) (hM : MB sg ln sz h) (p : Nat) (hp0 : p < 20) (hz : 0 < sz p) (y1 y2 : Option mV) (RT : Option Int32 → mH → Prop) (hR : ∀ f, RT (some (nI (oV sg ln (40 * p)))) (hr h 51 f)) : ∀ (m : Nat) (f : Nat → Int32) (y6 y7 y8 y9 y10 y11 y12 y13 : Option mV), m ≤ sz p → (∀ j, m ≤ j → j < sz p → f j = nI (oV sg ln (40 * p + j))) → mE l Sh0 none iX8_often RT 47 [some (.inr 10), y1, y2, some (.inl (nI p)), some (.inl (nI (40 * p))), some (.inl (dn m)), y6, y7, y8, y9, y10, y11, y12, y13] [] (hr h 51 f) := by
  have hz40 := hB.1 p hp0
  intro m
  induction m with
  | zero =>
    intro f y6 y7 y8 y9 y10 y11 y12 y13 hm hj
    rw [dn_0]
    have r0 : hr h 51 f 51 (0 : Int32).toNatClampNeg = nI (oV sg ln (40 * p)) := by rw [hr_at]; exact hj 0 (Nat.zero_le _) hz
    refine e_iload dX8_often_47 rfl ?_
    refine b_if_lt (X := (-1)) (tgt := 290) (by decide) dX8_often_49 (by decide) ?_ ?_
    · intro c_49_t
      refine e_aload_n (i := 0) dX8_often_290 rfl rfl ?_
      refine e_getR (r := 51) dX8_often_291 fl_X8_79 sh_10 fj_10_42 ?_
      refine e_iconst (v := 0) dX8_often_294 (by decide) ?_
      refine e_iald (x := nI (oV sg ln (40 * p))) dX8_often_295 sh_51 (vin_ofX (X := 0) (by decide) (by omega) (by omega)) r0 ?_
      refine e_iret dX8_often_296 (mret_i _) ?_
      exact hR f
    · intro c_49_f
      exfalso; omega
  | succ m ih =>
    intro f y6 y7 y8 y9 y10 y11 y12 y13 hm hj
    rw [dn_s]
    have e40 : (40 * p + m) / 40 = p := by omega
    have e41 : (40 * p + m) % 40 = m := by omega
    obtain ⟨a1, a2, a3, a4⟩ := aPar hB (pl := 40 * p + m) (by omega) (by rw [e40, e41]; omega)
    have hS : ∀ i, (fun i => oV sg ln (pOf ln (aFs sg (40 * p + m)) i)) i ≤ 2 := fun i => oV_le sg ln _
    have ho : (aOf (sg (40 * p + m)).toInt).toNat ≤ 3 := by have := aOf_le (sg (40 * p + m)).toInt; omega
    have hag := oAG_le (x := (sg (40 * p + m)).toInt) hS (aOf (sg (40 * p + m)).toInt).toNat
    have hV0 := oV_eq sg ln (pl := 40 * p + m) (by omega)
    have fin : ∀ (A Gr : Nat) (y7 y8 y9 y12 y13 : Option mV), A ≤ 10 → Gr ≤ 2 → oW (sg (40 * p + m)).toInt (A + Gr) = oV sg ln (40 * p + m) → mE l Sh0 none iX8_often RT 246 [some (.inr 10), y1, y2, some (.inl (nI p)), some (.inl (nI (40 * p))), some (.inl (nI m)), some (.inl (sg (40 * p + m))), y7, y8, y9, some (.inl (nI A)), some (.inl (nI Gr)), y12, y13] [] (hr h 51 f) := by
      intro A Gr y7 y8 y9 y12 y13 hA hGr hW
      refine e_iload dX8_often_246 rfl ?_
      refine e_iload dX8_often_248 rfl ?_
      refine z_iadd (z := nI (A + Gr)) (nI_add _ _) dX8_often_250 ?_
      refine e_istore (ls2 := [some (.inr 10), y1, y2, some (.inl (nI p)), some (.inl (nI (40 * p))), some (.inl (nI m)), some (.inl (sg (40 * p + m))), y7, y8, y9, some (.inl (nI (A + Gr))), some (.inl (nI Gr)), y12, y13]) dX8_often_251 (Nat.le_of_ble_eq_true rfl) rfl ?_
      refine e_aload_n (i := 0) dX8_often_253 rfl rfl ?_
      refine e_getR (r := 51) dX8_often_254 fl_X8_79 sh_10 fj_10_42 ?_
      refine e_iload dX8_often_257 rfl ?_
      refine e_iload dX8_often_259 rfl ?_
      refine e_iconst (v := 1) dX8_often_261 (by decide) ?_
      refine b_icmp_gt (X := ((A + Gr : Nat) : Int)) (Y := 1) (tgt := 277) (nI_toInt (by omega)) (by decide) dX8_often_262 (by decide) ?_ ?_
      · intro c_262_t
        refine e_iconst (v := 2) dX8_often_277 (by decide) ?_
        refine e_goto (tgt := 283) dX8_often_278 (by decide) ?_
        refine e_iast dX8_often_283 sh_51 (vin_ofX (X := ((m : Nat) : Int)) (nI_toInt (by omega)) (by omega) (by omega)) ?_
        rw [nI_clamp (by omega)]
        refine e_iinc (v := dn m) (ls2 := [some (.inr 10), y1, y2, some (.inl (nI p)), some (.inl (nI (40 * p))), some (.inl (dn m)), some (.inl (sg (40 * p + m))), y7, y8, y9, some (.inl (nI (A + Gr))), some (.inl (nI Gr)), y12, y13]) dX8_often_284 rfl (dn_dec _) (Nat.le_of_ble_eq_true rfl) rfl ?_
        refine e_goto (tgt := 47) dX8_often_287 (by decide) ?_
        rw [hr_hs, show (2 : Int32) = nI (oV sg ln (40 * p + m)) from by rw [← hW]; unfold oW; first | (rw [if_pos (by omega)]; decide) | rw [if_neg (by omega)]]
        refine ih _ _ _ _ _ _ _ _ _ (by omega) (fun j j1 j2 => ?_)
        by_cases ej : j = m
        · subst ej; exact pk_us
        · rw [pk_un (by omega)]; exact hj j (by omega) j2
      · intro c_262_f
        refine e_iload dX8_often_265 rfl ?_
        refine e_bipush (v := 64) dX8_often_267 (by decide) ?_
        refine b_icmp_ne (X := (sg (40 * p + m)).toInt) (Y := 64) (tgt := 281) rfl (by decide) dX8_often_269 (by decide) ?_ ?_
        · intro e_269_t c_269_t
          refine e_iload dX8_often_281 rfl ?_
          refine e_iast dX8_often_283 sh_51 (vin_ofX (X := ((m : Nat) : Int)) (nI_toInt (by omega)) (by omega) (by omega)) ?_
          rw [nI_clamp (by omega)]
          refine e_iinc (v := dn m) (ls2 := [some (.inr 10), y1, y2, some (.inl (nI p)), some (.inl (nI (40 * p))), some (.inl (dn m)), some (.inl (sg (40 * p + m))), y7, y8, y9, some (.inl (nI (A + Gr))), some (.inl (nI Gr)), y12, y13]) dX8_often_284 rfl (dn_dec _) (Nat.le_of_ble_eq_true rfl) rfl ?_
          refine e_goto (tgt := 47) dX8_often_287 (by decide) ?_
          rw [hr_hs, show (nI (A + Gr) : Int32) = nI (oV sg ln (40 * p + m)) from by rw [← hW]; unfold oW; first | (rw [if_pos (by omega)]; decide) | rw [if_neg (by omega)]]
          refine ih _ _ _ _ _ _ _ _ _ (by omega) (fun j j1 j2 => ?_)
          by_cases ej : j = m
          · subst ej; exact pk_us
          · rw [pk_un (by omega)]; exact hj j (by omega) j2
        · intro e_269_f c_269_f
          refine e_iload dX8_often_272 rfl ?_
          refine b_if_le (X := ((A + Gr : Nat) : Int)) (tgt := 281) (nI_toInt (by omega)) dX8_often_274 (by decide) ?_ ?_
          · intro c_274_t
            refine e_iload dX8_often_281 rfl ?_
            refine e_iast dX8_often_283 sh_51 (vin_ofX (X := ((m : Nat) : Int)) (nI_toInt (by omega)) (by omega) (by omega)) ?_
            rw [nI_clamp (by omega)]
            refine e_iinc (v := dn m) (ls2 := [some (.inr 10), y1, y2, some (.inl (nI p)), some (.inl (nI (40 * p))), some (.inl (dn m)), some (.inl (sg (40 * p + m))), y7, y8, y9, some (.inl (nI (A + Gr))), some (.inl (nI Gr)), y12, y13]) dX8_often_284 rfl (dn_dec _) (Nat.le_of_ble_eq_true rfl) rfl ?_
            refine e_goto (tgt := 47) dX8_often_287 (by decide) ?_
            rw [hr_hs, show (nI (A + Gr) : Int32) = nI (oV sg ln (40 * p + m)) from by rw [← hW]; unfold oW; first | (rw [if_pos (by omega)]; decide) | rw [if_neg (by omega)]]
            refine ih _ _ _ _ _ _ _ _ _ (by omega) (fun j j1 j2 => ?_)
            by_cases ej : j = m
            · subst ej; exact pk_us
            · rw [pk_un (by omega)]; exact hj j (by omega) j2
          · intro c_274_f
            refine e_iconst (v := 2) dX8_often_277 (by decide) ?_
            refine e_goto (tgt := 283) dX8_often_278 (by decide) ?_
            refine e_iast dX8_often_283 sh_51 (vin_ofX (X := ((m : Nat) : Int)) (nI_toInt (by omega)) (by omega) (by omega)) ?_
            rw [nI_clamp (by omega)]
            refine e_iinc (v := dn m) (ls2 := [some (.inr 10), y1, y2, some (.inl (nI p)), some (.inl (nI (40 * p))), some (.inl (dn m)), some (.inl (sg (40 * p + m))), y7, y8, y9, some (.inl (nI (A + Gr))), some (.inl (nI Gr)), y12, y13]) dX8_often_284 rfl (dn_dec _) (Nat.le_of_ble_eq_true rfl) rfl ?_
            refine e_goto (tgt := 47) dX8_often_287 (by decide) ?_
            rw [hr_hs, show (2 : Int32) = nI (oV sg ln (40 * p + m)) from by rw [← hW]; unfold oW; first | (rw [if_pos (by omega)]; decide) | rw [if_neg (by omega)]]
            refine ih _ _ _ _ _ _ _ _ _ (by omega) (fun j j1 j2 => ?_)
            by_cases ej : j = m
            · subst ej; exact pk_us
            · rw [pk_un (by omega)]; exact hj j (by omega) j2
    by_cases hV : aV sg sz (40 * p + m)
    · refine e_iload dX8_often_47 rfl ?_
      refine b_if_lt (X := ((m : Nat) : Int)) (tgt := 290) (nI_toInt (by omega)) dX8_often_49 (by decide) ?_ ?_
      · intro c_49_t
        exfalso; omega
      · intro c_49_f
        refine e_aload_n (i := 0) dX8_often_52 rfl rfl ?_
        refine e_getR (r := 30) dX8_often_53 fl_X8_16 sh_10 fj_10_3 ?_
        refine e_iload dX8_often_56 rfl ?_
        refine e_iload dX8_often_58 rfl ?_
        refine z_iadd (z := nI (40 * p + m)) (nI_add _ _) dX8_often_60 ?_
        refine e_iald (x := sg (40 * p + m)) dX8_often_61 sh_30 (vin_ofX (X := ((40 * p + m : Nat) : Int)) (nI_toInt (by omega)) (by omega) (by omega)) (by rw [nI_clamp (by omega)]; exact (hM.1 _ (by omega))) ?_
        refine e_istore (ls2 := [some (.inr 10), y1, y2, some (.inl (nI p)), some (.inl (nI (40 * p))), some (.inl (nI m)), some (.inl (sg (40 * p + m))), y7, y8, y9, y10, y11, y12, y13]) dX8_often_62 (Nat.le_of_ble_eq_true rfl) rfl ?_
        refine e_iload dX8_often_64 rfl ?_
        refine b_if_le (X := ((m : Nat) : Int)) (tgt := 90) (nI_toInt (by omega)) dX8_often_66 (by decide) ?_ ?_
        · intro c_66_t
          refine e_iconst (v := 0) dX8_often_90 (by decide) ?_
          refine e_istore (ls2 := [some (.inr 10), y1, y2, some (.inl (nI p)), some (.inl (nI (40 * p))), some (.inl (nI m)), some (.inl (sg (40 * p + m))), some (.inl 0), y8, y9, y10, y11, y12, y13]) dX8_often_91 (Nat.le_of_ble_eq_true rfl) rfl ?_
          refine e_iload dX8_often_93 rfl ?_
          refine b_if_eq (X := 0) (tgt := 102) (by decide) dX8_often_95 (by decide) ?_ ?_
          · intro e_95_t c_95_t
            refine e_iload dX8_often_102 rfl ?_
            refine e_iconst (v := 1) dX8_often_104 (by decide) ?_
            refine e_invSi (As := [.inl (sg (40 * p + m)), .inl 1]) (v := nI ((aOf (sg (40 * p + m)).toInt).toNat)) (h2 := (hr h 51 f)) dX8_often_105 lk_X8_93 ys_X8_partsOf rfl rfl rfl (Nat.le_of_ble_eq_true rfl) (Nat.le_of_ble_eq_true rfl) ⟨Nat.le_of_ble_eq_true rfl, Nat.le_of_ble_eq_true rfl⟩ (k_M_partsX l (hr h 51 f) (sg (40 * p + m)) a1) ?_
            refine e_istore (ls2 := [some (.inr 10), y1, y2, some (.inl (nI p)), some (.inl (nI (40 * p))), some (.inl (nI m)), some (.inl (sg (40 * p + m))), some (.inl 0), some (.inl (nI ((aOf (sg (40 * p + m)).toInt).toNat))), y9, y10, y11, y12, y13]) dX8_often_108 (Nat.le_of_ble_eq_true rfl) rfl ?_
            refine e_iload dX8_often_110 rfl ?_
            refine e_iload dX8_often_112 rfl ?_
            refine e_bipush (v := 64) dX8_often_114 (by decide) ?_
            refine b_icmp_ne (X := (sg (40 * p + m)).toInt) (Y := 64) (tgt := 123) rfl (by decide) dX8_often_116 (by decide) ?_ ?_
            · intro e_116_t c_116_t
              refine e_iconst (v := 1) dX8_often_123 (by decide) ?_
              refine z_iadd (z := nI (m + 1)) (nI_addc _ 1) dX8_often_124 ?_
              refine e_istore (ls2 := [some (.inr 10), y1, y2, some (.inl (nI p)), some (.inl (nI (40 * p))), some (.inl (nI m)), some (.inl (sg (40 * p + m))), some (.inl 0), some (.inl (nI ((aOf (sg (40 * p + m)).toInt).toNat))), some (.inl (nI (m + 1))), y10, y11, y12, y13]) dX8_often_125 (Nat.le_of_ble_eq_true rfl) rfl ?_
              refine e_iload dX8_often_127 rfl ?_
              refine e_bipush (v := 107) dX8_often_129 (by decide) ?_
              refine b_icmp_ne (X := (sg (40 * p + m)).toInt) (Y := 107) (tgt := 138) rfl (by decide) dX8_often_131 (by decide) ?_ ?_
              · intro e_131_t c_131_t
                refine e_iconst (v := 0) dX8_often_138 (by decide) ?_
                refine e_istore (ls2 := [some (.inr 10), y1, y2, some (.inl (nI p)), some (.inl (nI (40 * p))), some (.inl (nI m)), some (.inl (sg (40 * p + m))), some (.inl 0), some (.inl (nI ((aOf (sg (40 * p + m)).toInt).toNat))), some (.inl (nI (m + 1))), some (.inl 0), y11, y12, y13]) dX8_often_139 (Nat.le_of_ble_eq_true rfl) rfl ?_
                refine e_iconst (v := 0) dX8_often_141 (by decide) ?_
                refine e_istore (ls2 := [some (.inr 10), y1, y2, some (.inl (nI p)), some (.inl (nI (40 * p))), some (.inl (nI m)), some (.inl (sg (40 * p + m))), some (.inl 0), some (.inl (nI ((aOf (sg (40 * p + m)).toInt).toNat))), some (.inl (nI (m + 1))), some (.inl 0), some (.inl 0), y12, y13]) dX8_often_142 (Nat.le_of_ble_eq_true rfl) rfl ?_
                refine e_iconst (v := 0) dX8_often_144 (by decide) ?_
                refine e_istore (ls2 := [some (.inr 10), y1, y2, some (.inl (nI p)), some (.inl (nI (40 * p))), some (.inl (nI m)), some (.inl (sg (40 * p + m))), some (.inl 0), some (.inl (nI ((aOf (sg (40 * p + m)).toInt).toNat))), some (.inl (nI (m + 1))), some (.inl 0), some (.inl 0), some (.inl 0), y13]) dX8_often_145 (Nat.le_of_ble_eq_true rfl) rfl ?_
                first
                  | (exfalso; omega)
                  | (have hfs : aFs sg (40 * p + m) = 40 * p + (m + 1) := by unfold aFs; rw [if_neg c_116_t]; omega
                     have q := lp_M_often3 l h sg ln f p m (aOf (sg (40 * p + m)).toInt).toNat hp0 (by omega) ho (fun i => oV sg ln (pOf ln (aFs sg (40 * p + m)) i)) hS (fun i hi => by
                       obtain ⟨b1, b2, b3⟩ := a2 i hi
                       have b4 := b1.1
                       have b5 := b1.2.1
                       have b6 := (hB.2 _ b1).2.1
                       have b7 := hz40
                       rw [e40] at b2
                       rw [b2] at b5 b6
                       refine ⟨b4, b2, ?_, hM.2.2 _ b1, by show pOf ln (aFs sg (40 * p + m)) i + ln (pOf ln (aFs sg (40 * p + m)) i) ≤ 800; omega⟩
                       have e := hj (pOf ln (aFs sg (40 * p + m)) i - 40 * p) (by omega) (by omega)
                       rw [show 40 * p + (pOf ln (aFs sg (40 * p + m)) i - 40 * p) = pOf ln (aFs sg (40 * p + m)) i from by omega] at e
                       exact e) y1 y2 (some (.inl 0)) RT (fun _ _ _ => fin _ _ _ _ _ _ _ (by omega) (by omega) hV0.symm) _ 0 y13 (Nat.zero_add _)
                     rw [show pOf ln (aFs sg (40 * p + m)) 0 - 40 * p = m + 1 from by show aFs sg (40 * p + m) - 40 * p = _; omega, show oA (sg (40 * p + m)).toInt (fun i => oV sg ln (pOf ln (aFs sg (40 * p + m)) i)) 0 = 0 from if_neg (by omega)] at q
                     exact q)
              · intro e_131_f c_131_f
                refine e_iconst (v := 1) dX8_often_134 (by decide) ?_
                refine e_goto (tgt := 139) dX8_often_135 (by decide) ?_
                refine e_istore (ls2 := [some (.inr 10), y1, y2, some (.inl (nI p)), some (.inl (nI (40 * p))), some (.inl (nI m)), some (.inl (sg (40 * p + m))), some (.inl 0), some (.inl (nI ((aOf (sg (40 * p + m)).toInt).toNat))), some (.inl (nI (m + 1))), some (.inl 1), y11, y12, y13]) dX8_often_139 (Nat.le_of_ble_eq_true rfl) rfl ?_
                refine e_iconst (v := 0) dX8_often_141 (by decide) ?_
                refine e_istore (ls2 := [some (.inr 10), y1, y2, some (.inl (nI p)), some (.inl (nI (40 * p))), some (.inl (nI m)), some (.inl (sg (40 * p + m))), some (.inl 0), some (.inl (nI ((aOf (sg (40 * p + m)).toInt).toNat))), some (.inl (nI (m + 1))), some (.inl 1), some (.inl 0), y12, y13]) dX8_often_142 (Nat.le_of_ble_eq_true rfl) rfl ?_
                refine e_iconst (v := 0) dX8_often_144 (by decide) ?_
                refine e_istore (ls2 := [some (.inr 10), y1, y2, some (.inl (nI p)), some (.inl (nI (40 * p))), some (.inl (nI m)), some (.inl (sg (40 * p + m))), some (.inl 0), some (.inl (nI ((aOf (sg (40 * p + m)).toInt).toNat))), some (.inl (nI (m + 1))), some (.inl 1), some (.inl 0), some (.inl 0), y13]) dX8_often_145 (Nat.le_of_ble_eq_true rfl) rfl ?_
                first
                  | (exfalso; omega)
                  | (have hfs : aFs sg (40 * p + m) = 40 * p + (m + 1) := by unfold aFs; rw [if_neg c_116_t]; omega
                     have q := lp_M_often3 l h sg ln f p m (aOf (sg (40 * p + m)).toInt).toNat hp0 (by omega) ho (fun i => oV sg ln (pOf ln (aFs sg (40 * p + m)) i)) hS (fun i hi => by
                       obtain ⟨b1, b2, b3⟩ := a2 i hi
                       have b4 := b1.1
                       have b5 := b1.2.1
                       have b6 := (hB.2 _ b1).2.1
                       have b7 := hz40
                       rw [e40] at b2
                       rw [b2] at b5 b6
                       refine ⟨b4, b2, ?_, hM.2.2 _ b1, by show pOf ln (aFs sg (40 * p + m)) i + ln (pOf ln (aFs sg (40 * p + m)) i) ≤ 800; omega⟩
                       have e := hj (pOf ln (aFs sg (40 * p + m)) i - 40 * p) (by omega) (by omega)
                       rw [show 40 * p + (pOf ln (aFs sg (40 * p + m)) i - 40 * p) = pOf ln (aFs sg (40 * p + m)) i from by omega] at e
                       exact e) y1 y2 (some (.inl 0)) RT (fun _ _ _ => fin _ _ _ _ _ _ _ (by omega) (by omega) hV0.symm) _ 0 y13 (Nat.zero_add _)
                     rw [show pOf ln (aFs sg (40 * p + m)) 0 - 40 * p = m + 1 from by show aFs sg (40 * p + m) - 40 * p = _; omega, show oA (sg (40 * p + m)).toInt (fun i => oV sg ln (pOf ln (aFs sg (40 * p + m)) i)) 0 = 1 from if_pos (by omega)] at q
                     exact q)
            · intro e_116_f c_116_f
              refine e_iconst (v := 2) dX8_often_119 (by decide) ?_
              refine e_goto (tgt := 124) dX8_often_120 (by decide) ?_
              refine z_iadd (z := nI (m + 2)) (nI_addc _ 2) dX8_often_124 ?_
              refine e_istore (ls2 := [some (.inr 10), y1, y2, some (.inl (nI p)), some (.inl (nI (40 * p))), some (.inl (nI m)), some (.inl (sg (40 * p + m))), some (.inl 0), some (.inl (nI ((aOf (sg (40 * p + m)).toInt).toNat))), some (.inl (nI (m + 2))), y10, y11, y12, y13]) dX8_often_125 (Nat.le_of_ble_eq_true rfl) rfl ?_
              refine e_iload dX8_often_127 rfl ?_
              refine e_bipush (v := 107) dX8_often_129 (by decide) ?_
              refine b_icmp_ne (X := (sg (40 * p + m)).toInt) (Y := 107) (tgt := 138) rfl (by decide) dX8_often_131 (by decide) ?_ ?_
              · intro e_131_t c_131_t
                refine e_iconst (v := 0) dX8_often_138 (by decide) ?_
                refine e_istore (ls2 := [some (.inr 10), y1, y2, some (.inl (nI p)), some (.inl (nI (40 * p))), some (.inl (nI m)), some (.inl (sg (40 * p + m))), some (.inl 0), some (.inl (nI ((aOf (sg (40 * p + m)).toInt).toNat))), some (.inl (nI (m + 2))), some (.inl 0), y11, y12, y13]) dX8_often_139 (Nat.le_of_ble_eq_true rfl) rfl ?_
                refine e_iconst (v := 0) dX8_often_141 (by decide) ?_
                refine e_istore (ls2 := [some (.inr 10), y1, y2, some (.inl (nI p)), some (.inl (nI (40 * p))), some (.inl (nI m)), some (.inl (sg (40 * p + m))), some (.inl 0), some (.inl (nI ((aOf (sg (40 * p + m)).toInt).toNat))), some (.inl (nI (m + 2))), some (.inl 0), some (.inl 0), y12, y13]) dX8_often_142 (Nat.le_of_ble_eq_true rfl) rfl ?_
                refine e_iconst (v := 0) dX8_often_144 (by decide) ?_
                refine e_istore (ls2 := [some (.inr 10), y1, y2, some (.inl (nI p)), some (.inl (nI (40 * p))), some (.inl (nI m)), some (.inl (sg (40 * p + m))), some (.inl 0), some (.inl (nI ((aOf (sg (40 * p + m)).toInt).toNat))), some (.inl (nI (m + 2))), some (.inl 0), some (.inl 0), some (.inl 0), y13]) dX8_often_145 (Nat.le_of_ble_eq_true rfl) rfl ?_
                first
                  | (exfalso; omega)
                  | (have hfs : aFs sg (40 * p + m) = 40 * p + (m + 2) := by unfold aFs; rw [if_pos c_116_f]; omega
                     have q := lp_M_often3 l h sg ln f p m (aOf (sg (40 * p + m)).toInt).toNat hp0 (by omega) ho (fun i => oV sg ln (pOf ln (aFs sg (40 * p + m)) i)) hS (fun i hi => by
                       obtain ⟨b1, b2, b3⟩ := a2 i hi
                       have b4 := b1.1
                       have b5 := b1.2.1
                       have b6 := (hB.2 _ b1).2.1
                       have b7 := hz40
                       rw [e40] at b2
                       rw [b2] at b5 b6
                       refine ⟨b4, b2, ?_, hM.2.2 _ b1, by show pOf ln (aFs sg (40 * p + m)) i + ln (pOf ln (aFs sg (40 * p + m)) i) ≤ 800; omega⟩
                       have e := hj (pOf ln (aFs sg (40 * p + m)) i - 40 * p) (by omega) (by omega)
                       rw [show 40 * p + (pOf ln (aFs sg (40 * p + m)) i - 40 * p) = pOf ln (aFs sg (40 * p + m)) i from by omega] at e
                       exact e) y1 y2 (some (.inl 0)) RT (fun _ _ _ => fin _ _ _ _ _ _ _ (by omega) (by omega) hV0.symm) _ 0 y13 (Nat.zero_add _)
                     rw [show pOf ln (aFs sg (40 * p + m)) 0 - 40 * p = m + 2 from by show aFs sg (40 * p + m) - 40 * p = _; omega, show oA (sg (40 * p + m)).toInt (fun i => oV sg ln (pOf ln (aFs sg (40 * p + m)) i)) 0 = 0 from if_neg (by omega)] at q
                     exact q)
              · intro e_131_f c_131_f
                refine e_iconst (v := 1) dX8_often_134 (by decide) ?_
                refine e_goto (tgt := 139) dX8_often_135 (by decide) ?_
                refine e_istore (ls2 := [some (.inr 10), y1, y2, some (.inl (nI p)), some (.inl (nI (40 * p))), some (.inl (nI m)), some (.inl (sg (40 * p + m))), some (.inl 0), some (.inl (nI ((aOf (sg (40 * p + m)).toInt).toNat))), some (.inl (nI (m + 2))), some (.inl 1), y11, y12, y13]) dX8_often_139 (Nat.le_of_ble_eq_true rfl) rfl ?_
                refine e_iconst (v := 0) dX8_often_141 (by decide) ?_
                refine e_istore (ls2 := [some (.inr 10), y1, y2, some (.inl (nI p)), some (.inl (nI (40 * p))), some (.inl (nI m)), some (.inl (sg (40 * p + m))), some (.inl 0), some (.inl (nI ((aOf (sg (40 * p + m)).toInt).toNat))), some (.inl (nI (m + 2))), some (.inl 1), some (.inl 0), y12, y13]) dX8_often_142 (Nat.le_of_ble_eq_true rfl) rfl ?_
                refine e_iconst (v := 0) dX8_often_144 (by decide) ?_
                refine e_istore (ls2 := [some (.inr 10), y1, y2, some (.inl (nI p)), some (.inl (nI (40 * p))), some (.inl (nI m)), some (.inl (sg (40 * p + m))), some (.inl 0), some (.inl (nI ((aOf (sg (40 * p + m)).toInt).toNat))), some (.inl (nI (m + 2))), some (.inl 1), some (.inl 0), some (.inl 0), y13]) dX8_often_145 (Nat.le_of_ble_eq_true rfl) rfl ?_
                first
                  | (exfalso; omega)
                  | (have hfs : aFs sg (40 * p + m) = 40 * p + (m + 2) := by unfold aFs; rw [if_pos c_116_f]; omega
                     have q := lp_M_often3 l h sg ln f p m (aOf (sg (40 * p + m)).toInt).toNat hp0 (by omega) ho (fun i => oV sg ln (pOf ln (aFs sg (40 * p + m)) i)) hS (fun i hi => by
                       obtain ⟨b1, b2, b3⟩ := a2 i hi
                       have b4 := b1.1
                       have b5 := b1.2.1
                       have b6 := (hB.2 _ b1).2.1
                       have b7 := hz40
                       rw [e40] at b2
                       rw [b2] at b5 b6
                       refine ⟨b4, b2, ?_, hM.2.2 _ b1, by show pOf ln (aFs sg (40 * p + m)) i + ln (pOf ln (aFs sg (40 * p + m)) i) ≤ 800; omega⟩
                       have e := hj (pOf ln (aFs sg (40 * p + m)) i - 40 * p) (by omega) (by omega)
                       rw [show 40 * p + (pOf ln (aFs sg (40 * p + m)) i - 40 * p) = pOf ln (aFs sg (40 * p + m)) i from by omega] at e
                       exact e) y1 y2 (some (.inl 0)) RT (fun _ _ _ => fin _ _ _ _ _ _ _ (by omega) (by omega) hV0.symm) _ 0 y13 (Nat.zero_add _)
                     rw [show pOf ln (aFs sg (40 * p + m)) 0 - 40 * p = m + 2 from by show aFs sg (40 * p + m) - 40 * p = _; omega, show oA (sg (40 * p + m)).toInt (fun i => oV sg ln (pOf ln (aFs sg (40 * p + m)) i)) 0 = 1 from if_pos (by omega)] at q
                     exact q)
          · intro e_95_f c_95_f
            exfalso; omega
        · intro c_66_f
          refine e_aload_n (i := 0) dX8_often_69 rfl rfl ?_
          refine e_getR (r := 30) dX8_often_70 fl_X8_16 sh_10 fj_10_3 ?_
          refine e_iload dX8_often_73 rfl ?_
          refine e_iload dX8_often_75 rfl ?_
          refine z_iadd (z := nI (40 * p + m)) (nI_add _ _) dX8_often_77 ?_
          refine e_iconst (v := 1) dX8_often_78 (by decide) ?_
          refine z_isub (z := nI (40 * p + m - 1)) (nI_subc 1 (by omega)) dX8_often_79 ?_
          refine e_iald (x := sg (40 * p + m - 1)) dX8_often_80 sh_30 (vin_ofX (X := ((40 * p + m - 1 : Nat) : Int)) (nI_toInt (by omega)) (by omega) (by omega)) (by rw [nI_clamp (by omega)]; exact (hM.1 _ (by omega))) ?_
          refine e_bipush (v := 64) dX8_often_81 (by decide) ?_
          refine b_icmp_ne (X := (sg (40 * p + m - 1)).toInt) (Y := 64) (tgt := 90) rfl (by decide) dX8_often_83 (by decide) ?_ ?_
          · intro e_83_t c_83_t
            refine e_iconst (v := 0) dX8_often_90 (by decide) ?_
            refine e_istore (ls2 := [some (.inr 10), y1, y2, some (.inl (nI p)), some (.inl (nI (40 * p))), some (.inl (nI m)), some (.inl (sg (40 * p + m))), some (.inl 0), y8, y9, y10, y11, y12, y13]) dX8_often_91 (Nat.le_of_ble_eq_true rfl) rfl ?_
            refine e_iload dX8_often_93 rfl ?_
            refine b_if_eq (X := 0) (tgt := 102) (by decide) dX8_often_95 (by decide) ?_ ?_
            · intro e_95_t c_95_t
              refine e_iload dX8_often_102 rfl ?_
              refine e_iconst (v := 1) dX8_often_104 (by decide) ?_
              refine e_invSi (As := [.inl (sg (40 * p + m)), .inl 1]) (v := nI ((aOf (sg (40 * p + m)).toInt).toNat)) (h2 := (hr h 51 f)) dX8_often_105 lk_X8_93 ys_X8_partsOf rfl rfl rfl (Nat.le_of_ble_eq_true rfl) (Nat.le_of_ble_eq_true rfl) ⟨Nat.le_of_ble_eq_true rfl, Nat.le_of_ble_eq_true rfl⟩ (k_M_partsX l (hr h 51 f) (sg (40 * p + m)) a1) ?_
              refine e_istore (ls2 := [some (.inr 10), y1, y2, some (.inl (nI p)), some (.inl (nI (40 * p))), some (.inl (nI m)), some (.inl (sg (40 * p + m))), some (.inl 0), some (.inl (nI ((aOf (sg (40 * p + m)).toInt).toNat))), y9, y10, y11, y12, y13]) dX8_often_108 (Nat.le_of_ble_eq_true rfl) rfl ?_
              refine e_iload dX8_often_110 rfl ?_
              refine e_iload dX8_often_112 rfl ?_
              refine e_bipush (v := 64) dX8_often_114 (by decide) ?_
              refine b_icmp_ne (X := (sg (40 * p + m)).toInt) (Y := 64) (tgt := 123) rfl (by decide) dX8_often_116 (by decide) ?_ ?_
              · intro e_116_t c_116_t
                refine e_iconst (v := 1) dX8_often_123 (by decide) ?_
                refine z_iadd (z := nI (m + 1)) (nI_addc _ 1) dX8_often_124 ?_
                refine e_istore (ls2 := [some (.inr 10), y1, y2, some (.inl (nI p)), some (.inl (nI (40 * p))), some (.inl (nI m)), some (.inl (sg (40 * p + m))), some (.inl 0), some (.inl (nI ((aOf (sg (40 * p + m)).toInt).toNat))), some (.inl (nI (m + 1))), y10, y11, y12, y13]) dX8_often_125 (Nat.le_of_ble_eq_true rfl) rfl ?_
                refine e_iload dX8_often_127 rfl ?_
                refine e_bipush (v := 107) dX8_often_129 (by decide) ?_
                refine b_icmp_ne (X := (sg (40 * p + m)).toInt) (Y := 107) (tgt := 138) rfl (by decide) dX8_often_131 (by decide) ?_ ?_
                · intro e_131_t c_131_t
                  refine e_iconst (v := 0) dX8_often_138 (by decide) ?_
                  refine e_istore (ls2 := [some (.inr 10), y1, y2, some (.inl (nI p)), some (.inl (nI (40 * p))), some (.inl (nI m)), some (.inl (sg (40 * p + m))), some (.inl 0), some (.inl (nI ((aOf (sg (40 * p + m)).toInt).toNat))), some (.inl (nI (m + 1))), some (.inl 0), y11, y12, y13]) dX8_often_139 (Nat.le_of_ble_eq_true rfl) rfl ?_
                  refine e_iconst (v := 0) dX8_often_141 (by decide) ?_
                  refine e_istore (ls2 := [some (.inr 10), y1, y2, some (.inl (nI p)), some (.inl (nI (40 * p))), some (.inl (nI m)), some (.inl (sg (40 * p + m))), some (.inl 0), some (.inl (nI ((aOf (sg (40 * p + m)).toInt).toNat))), some (.inl (nI (m + 1))), some (.inl 0), some (.inl 0), y12, y13]) dX8_often_142 (Nat.le_of_ble_eq_true rfl) rfl ?_
                  refine e_iconst (v := 0) dX8_often_144 (by decide) ?_
                  refine e_istore (ls2 := [some (.inr 10), y1, y2, some (.inl (nI p)), some (.inl (nI (40 * p))), some (.inl (nI m)), some (.inl (sg (40 * p + m))), some (.inl 0), some (.inl (nI ((aOf (sg (40 * p + m)).toInt).toNat))), some (.inl (nI (m + 1))), some (.inl 0), some (.inl 0), some (.inl 0), y13]) dX8_often_145 (Nat.le_of_ble_eq_true rfl) rfl ?_
                  first
                    | (exfalso; omega)
                    | (have hfs : aFs sg (40 * p + m) = 40 * p + (m + 1) := by unfold aFs; rw [if_neg c_116_t]; omega
                       have q := lp_M_often3 l h sg ln f p m (aOf (sg (40 * p + m)).toInt).toNat hp0 (by omega) ho (fun i => oV sg ln (pOf ln (aFs sg (40 * p + m)) i)) hS (fun i hi => by
                         obtain ⟨b1, b2, b3⟩ := a2 i hi
                         have b4 := b1.1
                         have b5 := b1.2.1
                         have b6 := (hB.2 _ b1).2.1
                         have b7 := hz40
                         rw [e40] at b2
                         rw [b2] at b5 b6
                         refine ⟨b4, b2, ?_, hM.2.2 _ b1, by show pOf ln (aFs sg (40 * p + m)) i + ln (pOf ln (aFs sg (40 * p + m)) i) ≤ 800; omega⟩
                         have e := hj (pOf ln (aFs sg (40 * p + m)) i - 40 * p) (by omega) (by omega)
                         rw [show 40 * p + (pOf ln (aFs sg (40 * p + m)) i - 40 * p) = pOf ln (aFs sg (40 * p + m)) i from by omega] at e
                         exact e) y1 y2 (some (.inl 0)) RT (fun _ _ _ => fin _ _ _ _ _ _ _ (by omega) (by omega) hV0.symm) _ 0 y13 (Nat.zero_add _)
                       rw [show pOf ln (aFs sg (40 * p + m)) 0 - 40 * p = m + 1 from by show aFs sg (40 * p + m) - 40 * p = _; omega, show oA (sg (40 * p + m)).toInt (fun i => oV sg ln (pOf ln (aFs sg (40 * p + m)) i)) 0 = 0 from if_neg (by omega)] at q
                       exact q)
                · intro e_131_f c_131_f
                  refine e_iconst (v := 1) dX8_often_134 (by decide) ?_
                  refine e_goto (tgt := 139) dX8_often_135 (by decide) ?_
                  refine e_istore (ls2 := [some (.inr 10), y1, y2, some (.inl (nI p)), some (.inl (nI (40 * p))), some (.inl (nI m)), some (.inl (sg (40 * p + m))), some (.inl 0), some (.inl (nI ((aOf (sg (40 * p + m)).toInt).toNat))), some (.inl (nI (m + 1))), some (.inl 1), y11, y12, y13]) dX8_often_139 (Nat.le_of_ble_eq_true rfl) rfl ?_
                  refine e_iconst (v := 0) dX8_often_141 (by decide) ?_
                  refine e_istore (ls2 := [some (.inr 10), y1, y2, some (.inl (nI p)), some (.inl (nI (40 * p))), some (.inl (nI m)), some (.inl (sg (40 * p + m))), some (.inl 0), some (.inl (nI ((aOf (sg (40 * p + m)).toInt).toNat))), some (.inl (nI (m + 1))), some (.inl 1), some (.inl 0), y12, y13]) dX8_often_142 (Nat.le_of_ble_eq_true rfl) rfl ?_
                  refine e_iconst (v := 0) dX8_often_144 (by decide) ?_
                  refine e_istore (ls2 := [some (.inr 10), y1, y2, some (.inl (nI p)), some (.inl (nI (40 * p))), some (.inl (nI m)), some (.inl (sg (40 * p + m))), some (.inl 0), some (.inl (nI ((aOf (sg (40 * p + m)).toInt).toNat))), some (.inl (nI (m + 1))), some (.inl 1), some (.inl 0), some (.inl 0), y13]) dX8_often_145 (Nat.le_of_ble_eq_true rfl) rfl ?_
                  first
                    | (exfalso; omega)
                    | (have hfs : aFs sg (40 * p + m) = 40 * p + (m + 1) := by unfold aFs; rw [if_neg c_116_t]; omega
                       have q := lp_M_often3 l h sg ln f p m (aOf (sg (40 * p + m)).toInt).toNat hp0 (by omega) ho (fun i => oV sg ln (pOf ln (aFs sg (40 * p + m)) i)) hS (fun i hi => by
                         obtain ⟨b1, b2, b3⟩ := a2 i hi
                         have b4 := b1.1
                         have b5 := b1.2.1
                         have b6 := (hB.2 _ b1).2.1
                         have b7 := hz40
                         rw [e40] at b2
                         rw [b2] at b5 b6
                         refine ⟨b4, b2, ?_, hM.2.2 _ b1, by show pOf ln (aFs sg (40 * p + m)) i + ln (pOf ln (aFs sg (40 * p + m)) i) ≤ 800; omega⟩
                         have e := hj (pOf ln (aFs sg (40 * p + m)) i - 40 * p) (by omega) (by omega)
                         rw [show 40 * p + (pOf ln (aFs sg (40 * p + m)) i - 40 * p) = pOf ln (aFs sg (40 * p + m)) i from by omega] at e
                         exact e) y1 y2 (some (.inl 0)) RT (fun _ _ _ => fin _ _ _ _ _ _ _ (by omega) (by omega) hV0.symm) _ 0 y13 (Nat.zero_add _)
                       rw [show pOf ln (aFs sg (40 * p + m)) 0 - 40 * p = m + 1 from by show aFs sg (40 * p + m) - 40 * p = _; omega, show oA (sg (40 * p + m)).toInt (fun i => oV sg ln (pOf ln (aFs sg (40 * p + m)) i)) 0 = 1 from if_pos (by omega)] at q
                       exact q)
              · intro e_116_f c_116_f
                refine e_iconst (v := 2) dX8_often_119 (by decide) ?_
                refine e_goto (tgt := 124) dX8_often_120 (by decide) ?_
                refine z_iadd (z := nI (m + 2)) (nI_addc _ 2) dX8_often_124 ?_
                refine e_istore (ls2 := [some (.inr 10), y1, y2, some (.inl (nI p)), some (.inl (nI (40 * p))), some (.inl (nI m)), some (.inl (sg (40 * p + m))), some (.inl 0), some (.inl (nI ((aOf (sg (40 * p + m)).toInt).toNat))), some (.inl (nI (m + 2))), y10, y11, y12, y13]) dX8_often_125 (Nat.le_of_ble_eq_true rfl) rfl ?_
                refine e_iload dX8_often_127 rfl ?_
                refine e_bipush (v := 107) dX8_often_129 (by decide) ?_
                refine b_icmp_ne (X := (sg (40 * p + m)).toInt) (Y := 107) (tgt := 138) rfl (by decide) dX8_often_131 (by decide) ?_ ?_
                · intro e_131_t c_131_t
                  refine e_iconst (v := 0) dX8_often_138 (by decide) ?_
                  refine e_istore (ls2 := [some (.inr 10), y1, y2, some (.inl (nI p)), some (.inl (nI (40 * p))), some (.inl (nI m)), some (.inl (sg (40 * p + m))), some (.inl 0), some (.inl (nI ((aOf (sg (40 * p + m)).toInt).toNat))), some (.inl (nI (m + 2))), some (.inl 0), y11, y12, y13]) dX8_often_139 (Nat.le_of_ble_eq_true rfl) rfl ?_
                  refine e_iconst (v := 0) dX8_often_141 (by decide) ?_
                  refine e_istore (ls2 := [some (.inr 10), y1, y2, some (.inl (nI p)), some (.inl (nI (40 * p))), some (.inl (nI m)), some (.inl (sg (40 * p + m))), some (.inl 0), some (.inl (nI ((aOf (sg (40 * p + m)).toInt).toNat))), some (.inl (nI (m + 2))), some (.inl 0), some (.inl 0), y12, y13]) dX8_often_142 (Nat.le_of_ble_eq_true rfl) rfl ?_
                  refine e_iconst (v := 0) dX8_often_144 (by decide) ?_
                  refine e_istore (ls2 := [some (.inr 10), y1, y2, some (.inl (nI p)), some (.inl (nI (40 * p))), some (.inl (nI m)), some (.inl (sg (40 * p + m))), some (.inl 0), some (.inl (nI ((aOf (sg (40 * p + m)).toInt).toNat))), some (.inl (nI (m + 2))), some (.inl 0), some (.inl 0), some (.inl 0), y13]) dX8_often_145 (Nat.le_of_ble_eq_true rfl) rfl ?_
                  first
                    | (exfalso; omega)
                    | (have hfs : aFs sg (40 * p + m) = 40 * p + (m + 2) := by unfold aFs; rw [if_pos c_116_f]; omega
                       have q := lp_M_often3 l h sg ln f p m (aOf (sg (40 * p + m)).toInt).toNat hp0 (by omega) ho (fun i => oV sg ln (pOf ln (aFs sg (40 * p + m)) i)) hS (fun i hi => by
                         obtain ⟨b1, b2, b3⟩ := a2 i hi
                         have b4 := b1.1
                         have b5 := b1.2.1
                         have b6 := (hB.2 _ b1).2.1
                         have b7 := hz40
                         rw [e40] at b2
                         rw [b2] at b5 b6
                         refine ⟨b4, b2, ?_, hM.2.2 _ b1, by show pOf ln (aFs sg (40 * p + m)) i + ln (pOf ln (aFs sg (40 * p + m)) i) ≤ 800; omega⟩
                         have e := hj (pOf ln (aFs sg (40 * p + m)) i - 40 * p) (by omega) (by omega)
                         rw [show 40 * p + (pOf ln (aFs sg (40 * p + m)) i - 40 * p) = pOf ln (aFs sg (40 * p + m)) i from by omega] at e
                         exact e) y1 y2 (some (.inl 0)) RT (fun _ _ _ => fin _ _ _ _ _ _ _ (by omega) (by omega) hV0.symm) _ 0 y13 (Nat.zero_add _)
                       rw [show pOf ln (aFs sg (40 * p + m)) 0 - 40 * p = m + 2 from by show aFs sg (40 * p + m) - 40 * p = _; omega, show oA (sg (40 * p + m)).toInt (fun i => oV sg ln (pOf ln (aFs sg (40 * p + m)) i)) 0 = 0 from if_neg (by omega)] at q
                       exact q)
                · intro e_131_f c_131_f
                  refine e_iconst (v := 1) dX8_often_134 (by decide) ?_
                  refine e_goto (tgt := 139) dX8_often_135 (by decide) ?_
                  refine e_istore (ls2 := [some (.inr 10), y1, y2, some (.inl (nI p)), some (.inl (nI (40 * p))), some (.inl (nI m)), some (.inl (sg (40 * p + m))), some (.inl 0), some (.inl (nI ((aOf (sg (40 * p + m)).toInt).toNat))), some (.inl (nI (m + 2))), some (.inl 1), y11, y12, y13]) dX8_often_139 (Nat.le_of_ble_eq_true rfl) rfl ?_
                  refine e_iconst (v := 0) dX8_often_141 (by decide) ?_
                  refine e_istore (ls2 := [some (.inr 10), y1, y2, some (.inl (nI p)), some (.inl (nI (40 * p))), some (.inl (nI m)), some (.inl (sg (40 * p + m))), some (.inl 0), some (.inl (nI ((aOf (sg (40 * p + m)).toInt).toNat))), some (.inl (nI (m + 2))), some (.inl 1), some (.inl 0), y12, y13]) dX8_often_142 (Nat.le_of_ble_eq_true rfl) rfl ?_
                  refine e_iconst (v := 0) dX8_often_144 (by decide) ?_
                  refine e_istore (ls2 := [some (.inr 10), y1, y2, some (.inl (nI p)), some (.inl (nI (40 * p))), some (.inl (nI m)), some (.inl (sg (40 * p + m))), some (.inl 0), some (.inl (nI ((aOf (sg (40 * p + m)).toInt).toNat))), some (.inl (nI (m + 2))), some (.inl 1), some (.inl 0), some (.inl 0), y13]) dX8_often_145 (Nat.le_of_ble_eq_true rfl) rfl ?_
                  first
                    | (exfalso; omega)
                    | (have hfs : aFs sg (40 * p + m) = 40 * p + (m + 2) := by unfold aFs; rw [if_pos c_116_f]; omega
                       have q := lp_M_often3 l h sg ln f p m (aOf (sg (40 * p + m)).toInt).toNat hp0 (by omega) ho (fun i => oV sg ln (pOf ln (aFs sg (40 * p + m)) i)) hS (fun i hi => by
                         obtain ⟨b1, b2, b3⟩ := a2 i hi
                         have b4 := b1.1
                         have b5 := b1.2.1
                         have b6 := (hB.2 _ b1).2.1
                         have b7 := hz40
                         rw [e40] at b2
                         rw [b2] at b5 b6
                         refine ⟨b4, b2, ?_, hM.2.2 _ b1, by show pOf ln (aFs sg (40 * p + m)) i + ln (pOf ln (aFs sg (40 * p + m)) i) ≤ 800; omega⟩
                         have e := hj (pOf ln (aFs sg (40 * p + m)) i - 40 * p) (by omega) (by omega)
                         rw [show 40 * p + (pOf ln (aFs sg (40 * p + m)) i - 40 * p) = pOf ln (aFs sg (40 * p + m)) i from by omega] at e
                         exact e) y1 y2 (some (.inl 0)) RT (fun _ _ _ => fin _ _ _ _ _ _ _ (by omega) (by omega) hV0.symm) _ 0 y13 (Nat.zero_add _)
                       rw [show pOf ln (aFs sg (40 * p + m)) 0 - 40 * p = m + 2 from by show aFs sg (40 * p + m) - 40 * p = _; omega, show oA (sg (40 * p + m)).toInt (fun i => oV sg ln (pOf ln (aFs sg (40 * p + m)) i)) 0 = 1 from if_pos (by omega)] at q
                       exact q)
            · intro e_95_f c_95_f
              exfalso; omega
          · intro e_83_f c_83_f
            exact absurd ⟨by omega, c_83_f⟩ hV.2.2
    · obtain ⟨c1, c2, c3⟩ := a3 hV
      have hx : 0 < m ∧ (sg (40 * p + m - 1)).toInt = 64 := Classical.byContradiction (fun z => hV ⟨by omega, by rw [e40, e41]; omega, by rw [e41]; exact z⟩)
      refine e_iload dX8_often_47 rfl ?_
      refine b_if_lt (X := ((m : Nat) : Int)) (tgt := 290) (nI_toInt (by omega)) dX8_often_49 (by decide) ?_ ?_
      · intro c_49_t
        exfalso; omega
      · intro c_49_f
        refine e_aload_n (i := 0) dX8_often_52 rfl rfl ?_
        refine e_getR (r := 30) dX8_often_53 fl_X8_16 sh_10 fj_10_3 ?_
        refine e_iload dX8_often_56 rfl ?_
        refine e_iload dX8_often_58 rfl ?_
        refine z_iadd (z := nI (40 * p + m)) (nI_add _ _) dX8_often_60 ?_
        refine e_iald (x := sg (40 * p + m)) dX8_often_61 sh_30 (vin_ofX (X := ((40 * p + m : Nat) : Int)) (nI_toInt (by omega)) (by omega) (by omega)) (by rw [nI_clamp (by omega)]; exact (hM.1 _ (by omega))) ?_
        refine e_istore (ls2 := [some (.inr 10), y1, y2, some (.inl (nI p)), some (.inl (nI (40 * p))), some (.inl (nI m)), some (.inl (sg (40 * p + m))), y7, y8, y9, y10, y11, y12, y13]) dX8_often_62 (Nat.le_of_ble_eq_true rfl) rfl ?_
        refine e_iload dX8_often_64 rfl ?_
        refine b_if_le (X := ((m : Nat) : Int)) (tgt := 90) (nI_toInt (by omega)) dX8_often_66 (by decide) ?_ ?_
        · intro c_66_t
          exfalso; omega
        · intro c_66_f
          refine e_aload_n (i := 0) dX8_often_69 rfl rfl ?_
          refine e_getR (r := 30) dX8_often_70 fl_X8_16 sh_10 fj_10_3 ?_
          refine e_iload dX8_often_73 rfl ?_
          refine e_iload dX8_often_75 rfl ?_
          refine z_iadd (z := nI (40 * p + m)) (nI_add _ _) dX8_often_77 ?_
          refine e_iconst (v := 1) dX8_often_78 (by decide) ?_
          refine z_isub (z := nI (40 * p + m - 1)) (nI_subc 1 (by omega)) dX8_often_79 ?_
          refine e_iald (x := sg (40 * p + m - 1)) dX8_often_80 sh_30 (vin_ofX (X := ((40 * p + m - 1 : Nat) : Int)) (nI_toInt (by omega)) (by omega) (by omega)) (by rw [nI_clamp (by omega)]; exact (hM.1 _ (by omega))) ?_
          refine e_bipush (v := 64) dX8_often_81 (by decide) ?_
          refine b_icmp_ne (X := (sg (40 * p + m - 1)).toInt) (Y := 64) (tgt := 90) rfl (by decide) dX8_often_83 (by decide) ?_ ?_
          · intro e_83_t c_83_t
            exact absurd hx.2 c_83_t
          · intro e_83_f c_83_f
            refine e_iconst (v := 1) dX8_often_86 (by decide) ?_
            refine e_goto (tgt := 91) dX8_often_87 (by decide) ?_
            refine e_istore (ls2 := [some (.inr 10), y1, y2, some (.inl (nI p)), some (.inl (nI (40 * p))), some (.inl (nI m)), some (.inl (sg (40 * p + m))), some (.inl 1), y8, y9, y10, y11, y12, y13]) dX8_often_91 (Nat.le_of_ble_eq_true rfl) rfl ?_
            refine e_iload dX8_often_93 rfl ?_
            refine b_if_eq (X := 1) (tgt := 102) (by decide) dX8_often_95 (by decide) ?_ ?_
            · intro e_95_t c_95_t
              exfalso; omega
            · intro e_95_f c_95_f
              refine e_iconst (v := 0) dX8_often_98 (by decide) ?_
              refine e_goto (tgt := 108) dX8_often_99 (by decide) ?_
              refine e_istore (ls2 := [some (.inr 10), y1, y2, some (.inl (nI p)), some (.inl (nI (40 * p))), some (.inl (nI m)), some (.inl (sg (40 * p + m))), some (.inl 1), some (.inl 0), y9, y10, y11, y12, y13]) dX8_often_108 (Nat.le_of_ble_eq_true rfl) rfl ?_
              refine e_iload dX8_often_110 rfl ?_
              refine e_iload dX8_often_112 rfl ?_
              refine e_bipush (v := 64) dX8_often_114 (by decide) ?_
              refine b_icmp_ne (X := (sg (40 * p + m)).toInt) (Y := 64) (tgt := 123) rfl (by decide) dX8_often_116 (by decide) ?_ ?_
              · intro e_116_t c_116_t
                refine e_iconst (v := 1) dX8_often_123 (by decide) ?_
                refine z_iadd (z := nI (m + 1)) (nI_addc _ 1) dX8_often_124 ?_
                refine e_istore (ls2 := [some (.inr 10), y1, y2, some (.inl (nI p)), some (.inl (nI (40 * p))), some (.inl (nI m)), some (.inl (sg (40 * p + m))), some (.inl 1), some (.inl 0), some (.inl (nI (m + 1))), y10, y11, y12, y13]) dX8_often_125 (Nat.le_of_ble_eq_true rfl) rfl ?_
                refine e_iload dX8_often_127 rfl ?_
                refine e_bipush (v := 107) dX8_often_129 (by decide) ?_
                refine b_icmp_ne (X := (sg (40 * p + m)).toInt) (Y := 107) (tgt := 138) rfl (by decide) dX8_often_131 (by decide) ?_ ?_
                · intro e_131_t c_131_t
                  refine e_iconst (v := 0) dX8_often_138 (by decide) ?_
                  refine e_istore (ls2 := [some (.inr 10), y1, y2, some (.inl (nI p)), some (.inl (nI (40 * p))), some (.inl (nI m)), some (.inl (sg (40 * p + m))), some (.inl 1), some (.inl 0), some (.inl (nI (m + 1))), some (.inl 0), y11, y12, y13]) dX8_often_139 (Nat.le_of_ble_eq_true rfl) rfl ?_
                  refine e_iconst (v := 0) dX8_often_141 (by decide) ?_
                  refine e_istore (ls2 := [some (.inr 10), y1, y2, some (.inl (nI p)), some (.inl (nI (40 * p))), some (.inl (nI m)), some (.inl (sg (40 * p + m))), some (.inl 1), some (.inl 0), some (.inl (nI (m + 1))), some (.inl 0), some (.inl 0), y12, y13]) dX8_often_142 (Nat.le_of_ble_eq_true rfl) rfl ?_
                  refine e_iconst (v := 0) dX8_often_144 (by decide) ?_
                  refine e_istore (ls2 := [some (.inr 10), y1, y2, some (.inl (nI p)), some (.inl (nI (40 * p))), some (.inl (nI m)), some (.inl (sg (40 * p + m))), some (.inl 1), some (.inl 0), some (.inl (nI (m + 1))), some (.inl 0), some (.inl 0), some (.inl 0), y13]) dX8_often_145 (Nat.le_of_ble_eq_true rfl) rfl ?_
                  have q := lp_M_often3 l h sg ln f p m 0 hp0 (by omega) (by omega) (fun i => oV sg ln (pOf ln (aFs sg (40 * p + m)) i)) hS (fun i hi => absurd hi (Nat.not_lt_zero _)) y1 y2 (some (.inl 1)) RT (fun _ _ _ => fin _ _ _ _ _ _ _ (by show (if _ then _ else _) ≤ _; split <;> omega) (by show 0 ≤ 2; omega) (by have e := hV0.symm; unfold oC at e; rw [c1] at e; exact e)) _ 0 y13 (Nat.zero_add _)
                  rw [show pOf ln (aFs sg (40 * p + m)) 0 - 40 * p = m + 1 from by show aFs sg (40 * p + m) - 40 * p = _; unfold aFs; rw [if_neg (by omega)]; omega, show oA (sg (40 * p + m)).toInt (fun i => oV sg ln (pOf ln (aFs sg (40 * p + m)) i)) 0 = 0 from if_neg (by omega)] at q
                  exact q
                · intro e_131_f c_131_f
                  exfalso; omega
              · intro e_116_f c_116_f
                exfalso; omega
set_option maxHeartbeats 1000000 in
theorem k_M_often1 (l : Launch) {sg : Nat → Int32} {ln sz : Nat → Nat} (hB : aWB sg ln sz) (h : mH) (hM : MB sg ln sz h) (a b : Nat) (ha : a < 4) (hb9 : b < 4) (hz : 0 < sz (4 + 4 * a + b)) : mG l Sh0 iX8_often [.inr 10, .inl (nI a), .inl (nI b)] h (fun v h' => v = some (nI (oV sg ln (40 * (4 + 4 * a + b)))) ∧ ∃ f, h' = hr h 51 f) := by
  have hz40 := hB.1 (4 + 4 * a + b) (by omega)
  intro RT hR
  show mE l Sh0 none iX8_often RT 0 [some (.inr 10), some (.inl (nI a)), some (.inl (nI b)), none, none, none, none, none, none, none, none, none, none, none] [] h
  refine e_iload_n (i := 1) dX8_often_0 rfl rfl ?_
  refine e_invSi (As := [.inl (nI a)]) (v := 1) (h2 := h) dX8_often_1 lk_X8_101 ys_X8_isFour rfl rfl rfl (Nat.le_of_ble_eq_true rfl) (Nat.le_of_ble_eq_true rfl) ⟨Nat.le_of_ble_eq_true rfl, Nat.le_of_ble_eq_true rfl⟩ (k_M_four1 l h (nI a) (by rw [nI_toInt (by omega)]; omega)) ?_
  refine b_if_eq (X := 1) (tgt := 23) (by decide) dX8_often_4 (by decide) ?_ ?_
  · intro e_4_t c_4_t
    exfalso; omega
  · intro e_4_f c_4_f
    refine e_iload_n (i := 2) dX8_often_7 rfl rfl ?_
    refine e_invSi (As := [.inl (nI b)]) (v := 1) (h2 := h) dX8_often_8 lk_X8_101 ys_X8_isFour rfl rfl rfl (Nat.le_of_ble_eq_true rfl) (Nat.le_of_ble_eq_true rfl) ⟨Nat.le_of_ble_eq_true rfl, Nat.le_of_ble_eq_true rfl⟩ (k_M_four1 l h (nI b) (by rw [nI_toInt (by omega)]; omega)) ?_
    refine b_if_eq (X := 1) (tgt := 23) (by decide) dX8_often_11 (by decide) ?_ ?_
    · intro e_11_t c_11_t
      exfalso; omega
    · intro e_11_f c_11_f
      refine e_aload_n (i := 0) dX8_often_14 rfl rfl ?_
      refine e_iload_n (i := 1) dX8_often_15 rfl rfl ?_
      refine e_iload_n (i := 2) dX8_often_16 rfl rfl ?_
      refine e_invVi (As := [.inl (nI a), .inl (nI b)]) (v := 1) (h2 := h) dX8_often_17 lk_X8_113 yv_X8_hasClause rfl rfl rfl (Nat.le_of_ble_eq_true rfl) sh_10 ci_X8 (Nat.le_of_ble_eq_true rfl) ⟨Nat.le_of_ble_eq_true rfl, Nat.le_of_ble_eq_true rfl⟩ (k_M_hasClause1 l h a b _ ha hb9 (hM.2.1 _ (by omega)) hz40 hz) ?_
      refine b_if_ne (X := 1) (tgt := 25) (by decide) dX8_often_20 (by decide) ?_ ?_
      · intro e_20_t c_20_t
        refine e_iload_n (i := 1) dX8_often_25 rfl rfl ?_
        refine e_iload_n (i := 2) dX8_often_26 rfl rfl ?_
        refine e_invSi (As := [.inl (nI a), .inl (nI b)]) (v := nI (4 + 4 * a + b)) (h2 := h) dX8_often_27 lk_X8_109 ys_X8_clauseOf rfl rfl rfl (Nat.le_of_ble_eq_true rfl) (Nat.le_of_ble_eq_true rfl) ⟨Nat.le_of_ble_eq_true rfl, Nat.le_of_ble_eq_true rfl⟩ (k_M_clauseOf l h a b) ?_
        refine e_istore_n (i := 3) (ls2 := [some (.inr 10), some (.inl (nI a)), some (.inl (nI b)), some (.inl (nI (4 + 4 * a + b))), none, none, none, none, none, none, none, none, none, none]) dX8_often_30 rfl (Nat.le_of_ble_eq_true rfl) rfl ?_
        refine e_bipush (v := 40) dX8_often_31 (by decide) ?_
        refine e_iload_n (i := 3) dX8_often_33 rfl rfl ?_
        refine z_imul (z := nI (40 * (4 + 4 * a + b))) (nI_mulcl 40 _) dX8_often_34 ?_
        refine e_istore (ls2 := [some (.inr 10), some (.inl (nI a)), some (.inl (nI b)), some (.inl (nI (4 + 4 * a + b))), some (.inl (nI (40 * (4 + 4 * a + b)))), none, none, none, none, none, none, none, none, none]) dX8_often_35 (Nat.le_of_ble_eq_true rfl) rfl ?_
        refine e_aload_n (i := 0) dX8_often_37 rfl rfl ?_
        refine e_getR (r := 29) dX8_often_38 fl_X8_13 sh_10 fj_10_2 ?_
        refine e_iload_n (i := 3) dX8_often_41 rfl rfl ?_
        refine e_iald (x := nI (sz (4 + 4 * a + b))) dX8_often_42 sh_29 (vin_ofX (X := ((4 + 4 * a + b : Nat) : Int)) (nI_toInt (by omega)) (by omega) (by omega)) (by rw [nI_clamp (by omega)]; exact (hM.2.1 _ (by omega))) ?_
        refine e_iconst (v := 1) dX8_often_43 (by decide) ?_
        refine z_isub (z := dn (sz (4 + 4 * a + b))) rfl dX8_often_44 ?_
        refine e_istore (ls2 := [some (.inr 10), some (.inl (nI a)), some (.inl (nI b)), some (.inl (nI (4 + 4 * a + b))), some (.inl (nI (40 * (4 + 4 * a + b)))), some (.inl (dn (sz (4 + 4 * a + b)))), none, none, none, none, none, none, none, none]) dX8_often_45 (Nat.le_of_ble_eq_true rfl) rfl ?_
        have q := lp_M_often l hB h hM (4 + 4 * a + b) (by omega) hz (some (.inl (nI a))) (some (.inl (nI b))) RT (fun f => hR _ _ ⟨rfl, f, rfl⟩) (sz (4 + 4 * a + b)) (h 51) none none none none none none none none (Nat.le_refl _) (fun j j1 j2 => absurd j1 (by omega))
        rw [hr_self] at q
        exact q
      · intro e_20_f c_20_f
        exfalso; omega
set_option maxHeartbeats 1000000 in
theorem k_M_oftenUx (l : Launch) (h : mH) (x y : Int32) (hx : ¬ (0 ≤ x.toInt ∧ x.toInt < 4)) : mD l Sh0 iX8_often [.inr 10, .inl x, .inl y] h (some (-1)) h := by
  intro RT hR
  show mE l Sh0 none iX8_often RT 0 [some (.inr 10), some (.inl x), some (.inl y), none, none, none, none, none, none, none, none, none, none, none] [] h
  refine e_iload_n (i := 1) dX8_often_0 rfl rfl ?_
  refine e_invSi (As := [.inl x]) (v := 0) (h2 := h) dX8_often_1 lk_X8_101 ys_X8_isFour rfl rfl rfl (Nat.le_of_ble_eq_true rfl) (Nat.le_of_ble_eq_true rfl) ⟨Nat.le_of_ble_eq_true rfl, Nat.le_of_ble_eq_true rfl⟩ (k_M_four0 l h x (by omega)) ?_
  refine b_if_eq (X := 0) (tgt := 23) (by decide) dX8_often_4 (by decide) ?_ ?_
  · intro e_4_t c_4_t
    refine e_iconst (v := (-1)) dX8_often_23 (by decide) ?_
    refine e_iret dX8_often_24 (mret_i _) ?_
    exact hR
  · intro e_4_f c_4_f
    exfalso; omega
set_option maxHeartbeats 1000000 in
theorem k_M_oftenUy (l : Launch) (h : mH) (x y : Int32) (hx : 0 ≤ x.toInt ∧ x.toInt < 4) (hy : ¬ (0 ≤ y.toInt ∧ y.toInt < 4)) : mD l Sh0 iX8_often [.inr 10, .inl x, .inl y] h (some (-1)) h := by
  intro RT hR
  show mE l Sh0 none iX8_often RT 0 [some (.inr 10), some (.inl x), some (.inl y), none, none, none, none, none, none, none, none, none, none, none] [] h
  refine e_iload_n (i := 1) dX8_often_0 rfl rfl ?_
  refine e_invSi (As := [.inl x]) (v := 1) (h2 := h) dX8_often_1 lk_X8_101 ys_X8_isFour rfl rfl rfl (Nat.le_of_ble_eq_true rfl) (Nat.le_of_ble_eq_true rfl) ⟨Nat.le_of_ble_eq_true rfl, Nat.le_of_ble_eq_true rfl⟩ (k_M_four1 l h x (by omega)) ?_
  refine b_if_eq (X := 1) (tgt := 23) (by decide) dX8_often_4 (by decide) ?_ ?_
  · intro e_4_t c_4_t
    exfalso; omega
  · intro e_4_f c_4_f
    refine e_iload_n (i := 2) dX8_often_7 rfl rfl ?_
    refine e_invSi (As := [.inl y]) (v := 0) (h2 := h) dX8_often_8 lk_X8_101 ys_X8_isFour rfl rfl rfl (Nat.le_of_ble_eq_true rfl) (Nat.le_of_ble_eq_true rfl) ⟨Nat.le_of_ble_eq_true rfl, Nat.le_of_ble_eq_true rfl⟩ (k_M_four0 l h y (by omega)) ?_
    refine b_if_eq (X := 0) (tgt := 23) (by decide) dX8_often_11 (by decide) ?_ ?_
    · intro e_11_t c_11_t
      refine e_iconst (v := (-1)) dX8_often_23 (by decide) ?_
      refine e_iret dX8_often_24 (mret_i _) ?_
      exact hR
    · intro e_11_f c_11_f
      exfalso; omega
set_option maxHeartbeats 1000000 in
theorem k_M_often0 (l : Launch) (h : mH) (a b z : Nat) (ha : a < 4) (hb9 : b < 4) (hz : h 29 (4 + 4 * a + b) = nI z) (hp : z = 0) : mD l Sh0 iX8_often [.inr 10, .inl (nI a), .inl (nI b)] h (some (-1)) h := by
  intro RT hR
  show mE l Sh0 none iX8_often RT 0 [some (.inr 10), some (.inl (nI a)), some (.inl (nI b)), none, none, none, none, none, none, none, none, none, none, none] [] h
  refine e_iload_n (i := 1) dX8_often_0 rfl rfl ?_
  refine e_invSi (As := [.inl (nI a)]) (v := 1) (h2 := h) dX8_often_1 lk_X8_101 ys_X8_isFour rfl rfl rfl (Nat.le_of_ble_eq_true rfl) (Nat.le_of_ble_eq_true rfl) ⟨Nat.le_of_ble_eq_true rfl, Nat.le_of_ble_eq_true rfl⟩ (k_M_four1 l h (nI a) (by rw [nI_toInt (by omega)]; omega)) ?_
  refine b_if_eq (X := 1) (tgt := 23) (by decide) dX8_often_4 (by decide) ?_ ?_
  · intro e_4_t c_4_t
    exfalso; omega
  · intro e_4_f c_4_f
    refine e_iload_n (i := 2) dX8_often_7 rfl rfl ?_
    refine e_invSi (As := [.inl (nI b)]) (v := 1) (h2 := h) dX8_often_8 lk_X8_101 ys_X8_isFour rfl rfl rfl (Nat.le_of_ble_eq_true rfl) (Nat.le_of_ble_eq_true rfl) ⟨Nat.le_of_ble_eq_true rfl, Nat.le_of_ble_eq_true rfl⟩ (k_M_four1 l h (nI b) (by rw [nI_toInt (by omega)]; omega)) ?_
    refine b_if_eq (X := 1) (tgt := 23) (by decide) dX8_often_11 (by decide) ?_ ?_
    · intro e_11_t c_11_t
      exfalso; omega
    · intro e_11_f c_11_f
      refine e_aload_n (i := 0) dX8_often_14 rfl rfl ?_
      refine e_iload_n (i := 1) dX8_often_15 rfl rfl ?_
      refine e_iload_n (i := 2) dX8_often_16 rfl rfl ?_
      refine e_invVi (As := [.inl (nI a), .inl (nI b)]) (v := 0) (h2 := h) dX8_often_17 lk_X8_113 yv_X8_hasClause rfl rfl rfl (Nat.le_of_ble_eq_true rfl) sh_10 ci_X8 (Nat.le_of_ble_eq_true rfl) ⟨Nat.le_of_ble_eq_true rfl, Nat.le_of_ble_eq_true rfl⟩ (k_M_hasClause0 l h a b z ha hb9 hz hp) ?_
      refine b_if_ne (X := 0) (tgt := 25) (by decide) dX8_often_20 (by decide) ?_ ?_
      · intro e_20_t c_20_t
        exfalso; omega
      · intro e_20_f c_20_f
        refine e_iconst (v := (-1)) dX8_often_23 (by decide) ?_
        refine e_iret dX8_often_24 (mret_i _) ?_
        exact hR
/-- promise 14 -/
theorem j_often (l : Launch) (h : mH) (hI : Inv h) (x y : Int32) : jP l iX7_often iX8_often [.inl x, .inl y] h := by
  have hI0 := hI
  obtain ⟨n, pd, sg, ln, sz, r, w, c, m⟩ := hI
  by_cases hx : 0 ≤ x.toInt ∧ x.toInt < 4
  · by_cases hy : 0 ≤ y.toInt ∧ y.toInt < 4
    · have hz40 := w.2.2.1.1 (4 + 4 * x.toInt.toNat + y.toInt.toNat) (by omega)
      have s15 := c.2.2.1.2.1 (4 + 4 * x.toInt.toNat + y.toInt.toNat) (by omega)
      have s29 := m.2.2.1.2.1 (4 + 4 * x.toInt.toNat + y.toInt.toNat) (by omega)
      by_cases hz : 0 < sz (4 + 4 * x.toInt.toNat + y.toInt.toNat)
      · have kd := k_D_often1 l w.2.2.1 h c.2.2.1 x.toInt.toNat y.toInt.toNat (by omega) (by omega) hz
        rw [← nI_ofInt hx.1, ← nI_ofInt hy.1] at kd
        refine kd.weaken (fun v1 h1 q1 => ?_)
        obtain ⟨q1, f, rfl⟩ := q1
        refine ⟨_, q1, ?_⟩
        have km := k_M_often1 l w.2.2.1 (hr h 26 f) m.2.2.1 x.toInt.toNat y.toInt.toNat (by omega) (by omega) hz
        rw [← nI_ofInt hx.1, ← nI_ofInt hy.1] at km
        refine km.weaken (fun v2 h2 q2 => ?_)
        obtain ⟨q2, f2, rfl⟩ := q2
        exact ⟨q2, n, pd, sg, ln, sz, r, w, CS.o rfl rfl rfl rfl rfl rfl rfl c, MS.o rfl rfl rfl rfl rfl rfl rfl m⟩
      · have kc := k_D_isClause0 l h x.toInt.toNat y.toInt.toNat _ (by omega) (by omega) hz40 s15 (by omega)
        have km := k_M_often0 l h x.toInt.toNat y.toInt.toNat _ (by omega) (by omega) s29 (by omega)
        rw [← nI_ofInt hx.1, ← nI_ofInt hy.1] at kc km
        exact jP_D (k_D_often0 l h x y kc) km hI0
    · exact jP_D (k_D_often0 l h x y (k_D_isClauseU l h x y (fun z => hy z.2.2))) (k_M_oftenUy l h x y hx hy) hI0
  · exact jP_D (k_D_often0 l h x y (k_D_isClauseU l h x y (fun z => hx ⟨z.1, z.2.1⟩))) (k_M_oftenUx l h x y hx) hI0
