/-! The reference goes through a page for MAY ASK. -/
def vH (h : mH) (f51 f50 : Nat → Int32) : mH := hr (hr h 50 f50) 51 f51
theorem vH_51 (h : mH) (f g : Nat → Int32) (j : Nat) (v : Int32) : hs (vH h f g) 51 j v = vH h (upd f j v) g := hr_hs _ _ _ _ _
theorem vH_50 (h : mH) (f g : Nat → Int32) (j : Nat) (v : Int32) : hs (vH h f g) 50 j v = vH h f (upd g j v) := by
  unfold vH
  rw [hr_cm _ _ _ (by decide), hr_hs, hr_cm _ _ _ (by decide)]
theorem k_M_has9 (l : Launch) (h : mH) (sz : Nat → Nat) (a b : Nat) (ha : a < 4) (hb9 : b < 4) (e : h 29 (4 + 4 * a + b) = nI (sz (4 + 4 * a + b))) (hz : sz (4 + 4 * a + b) ≤ 40) : mD l Sh0 iX8_hasClause [.inr 10, .inl (nI a), .inl (nI b)] h (some (nI (if 0 < sz (4 + 4 * a + b) then 1 else 0))) h := by
  by_cases z : 0 < sz (4 + 4 * a + b)
  · rw [if_pos z]
    exact k_M_hasClause1 l h a b _ ha hb9 e hz z
  · rw [if_neg z]
    exact k_M_hasClause0 l h a b _ ha hb9 e (by omega)
theorem bit_dec : ∀ (x : Fin 8) (d : Fin 3), (nI x.val >>> (nI d.val &&& 31)) &&& 1 = nI (if x.val.testBit d.val then 1 else 0) := by decide +kernel
set_option maxHeartbeats 1000000 in
theorem lp_M_may3 (l : Launch) (h : mH) (sg : Nat → Int32) (ln s : Nat → Nat) (p m own : Nat) (hp : p < 20) (hm : m < 40) (ho : own ≤ 3) (he : ∀ i, i < own → pOf ln (aFs sg (40 * p + m)) i < 800 ∧ pOf ln (aFs sg (40 * p + m)) i / 40 = p ∧ h 51 (pOf ln (aFs sg (40 * p + m)) i - 40 * p) = nI (s (pOf ln (aFs sg (40 * p + m)) i - 40 * p)) ∧ h 31 (pOf ln (aFs sg (40 * p + m)) i) = nI (ln (pOf ln (aFs sg (40 * p + m)) i)) ∧ pOf ln (aFs sg (40 * p + m)) (i + 1) ≤ 800) (y4 y5 y10 y11 y12 : Option mV) (RT : Option Int32 → mH → Prop) (hR : ∀ y8 y9, mE l Sh0 none iX8_mayOf RT 132 [some (.inr 10), some (.inl (nI p)), some (.inl (nI (40 * p))), some (.inl (nI m)), y4, y5, some (.inl (nI own)), some (.inl (nI (bR (fun i => s (pOf ln (aFs sg (40 * p + m)) i - 40 * p)) own))), y8, y9, y10, y11, y12] [] h) : ∀ (d i : Nat), i + d = own → mE l Sh0 none iX8_mayOf RT 93 [some (.inr 10), some (.inl (nI p)), some (.inl (nI (40 * p))), some (.inl (nI m)), y4, y5, some (.inl (nI own)), some (.inl (nI (bR (fun i => s (pOf ln (aFs sg (40 * p + m)) i - 40 * p)) i))), some (.inl (nI (pOf ln (aFs sg (40 * p + m)) i - 40 * p))), some (.inl (nI i)), y10, y11, y12] [] h := by
  intro d
  induction d with
  | zero =>
    intro i hd
    refine e_iload dX8_mayOf_93 rfl ?_
    refine e_iload dX8_mayOf_95 rfl ?_
    refine b_icmp_ge (X := ((i : Nat) : Int)) (Y := ((own : Nat) : Int)) (tgt := 132) (nI_toInt (by omega)) (nI_toInt (by omega)) dX8_mayOf_97 (by decide) ?_ ?_
    · intro c_97_t
      have e : i = own := by omega
      subst e
      exact hR _ _
    · intro c_97_f
      exfalso; omega
  | succ d ih =>
    intro i hd
    obtain ⟨b1, b2, b3, b4, b5⟩ := he i (by omega)
    have h6 : pOf ln (aFs sg (40 * p + m)) (i + 1) = pOf ln (aFs sg (40 * p + m)) i + ln (pOf ln (aFs sg (40 * p + m)) i) := rfl
    refine e_iload dX8_mayOf_93 rfl ?_
    refine e_iload dX8_mayOf_95 rfl ?_
    refine b_icmp_ge (X := ((i : Nat) : Int)) (Y := ((own : Nat) : Int)) (tgt := 132) (nI_toInt (by omega)) (nI_toInt (by omega)) dX8_mayOf_97 (by decide) ?_ ?_
    · intro c_97_t
      exfalso; omega
    · intro c_97_f
      refine e_iload dX8_mayOf_100 rfl ?_
      refine e_aload_n (i := 0) dX8_mayOf_102 rfl rfl ?_
      refine e_getR (r := 51) dX8_mayOf_103 fl_X8_79 sh_10 fj_10_42 ?_
      refine e_iload dX8_mayOf_106 rfl ?_
      refine e_iald (x := nI (s (pOf ln (aFs sg (40 * p + m)) i - 40 * p))) dX8_mayOf_108 sh_51 (vin_ofX (X := ((pOf ln (aFs sg (40 * p + m)) i - 40 * p : Nat) : Int)) (nI_toInt (by omega)) (by omega) (by omega)) (by rw [nI_clamp (by omega)]; exact b3) ?_
      refine z_ior (z := nI (bR (fun i => s (pOf ln (aFs sg (40 * p + m)) i - 40 * p)) (i + 1))) (by rw [fa_or]; rfl) dX8_mayOf_109 ?_
      refine e_istore (ls2 := [some (.inr 10), some (.inl (nI p)), some (.inl (nI (40 * p))), some (.inl (nI m)), y4, y5, some (.inl (nI own)), some (.inl (nI (bR (fun i => s (pOf ln (aFs sg (40 * p + m)) i - 40 * p)) (i + 1)))), some (.inl (nI (pOf ln (aFs sg (40 * p + m)) i - 40 * p))), some (.inl (nI i)), y10, y11, y12]) dX8_mayOf_110 (Nat.le_of_ble_eq_true rfl) rfl ?_
      refine e_iload dX8_mayOf_112 rfl ?_
      refine e_aload_n (i := 0) dX8_mayOf_114 rfl rfl ?_
      refine e_getR (r := 31) dX8_mayOf_115 fl_X8_19 sh_10 fj_10_4 ?_
      refine e_iload_n (i := 2) dX8_mayOf_118 rfl rfl ?_
      refine e_iload dX8_mayOf_119 rfl ?_
      refine z_iadd (z := nI (pOf ln (aFs sg (40 * p + m)) i)) (by rw [nI_add]; congr 1; omega) dX8_mayOf_121 ?_
      refine e_iald (x := nI (ln (pOf ln (aFs sg (40 * p + m)) i))) dX8_mayOf_122 sh_31 (vin_ofX (X := ((pOf ln (aFs sg (40 * p + m)) i : Nat) : Int)) (nI_toInt (by omega)) (by omega) (by omega)) (by rw [nI_clamp (by omega)]; exact b4) ?_
      refine z_iadd (z := nI (pOf ln (aFs sg (40 * p + m)) (i + 1) - 40 * p)) (by rw [nI_add]; congr 1; omega) dX8_mayOf_123 ?_
      refine e_istore (ls2 := [some (.inr 10), some (.inl (nI p)), some (.inl (nI (40 * p))), some (.inl (nI m)), y4, y5, some (.inl (nI own)), some (.inl (nI (bR (fun i => s (pOf ln (aFs sg (40 * p + m)) i - 40 * p)) (i + 1)))), some (.inl (nI (pOf ln (aFs sg (40 * p + m)) (i + 1) - 40 * p))), some (.inl (nI i)), y10, y11, y12]) dX8_mayOf_124 (Nat.le_of_ble_eq_true rfl) rfl ?_
      refine e_iinc (v := nI (i + 1)) (ls2 := [some (.inr 10), some (.inl (nI p)), some (.inl (nI (40 * p))), some (.inl (nI m)), y4, y5, some (.inl (nI own)), some (.inl (nI (bR (fun i => s (pOf ln (aFs sg (40 * p + m)) i - 40 * p)) (i + 1)))), some (.inl (nI (pOf ln (aFs sg (40 * p + m)) (i + 1) - 40 * p))), some (.inl (nI (i + 1))), y10, y11, y12]) dX8_mayOf_126 rfl (nI_inc1 _) (Nat.le_of_ble_eq_true rfl) rfl ?_
      refine e_goto (tgt := 93) dX8_mayOf_129 (by decide) ?_
      exact ih (i + 1) (by omega)
set_option maxHeartbeats 1000000 in
theorem lp_M_past (l : Launch) (h : mH) (sz ma : Nat → Nat) (hd bits : Nat) (hh : hd < 4) (hb9 : bits < 8) (h29 : ∀ p, p < 20 → h 29 p = nI (sz p) ∧ sz p ≤ 40) (h49 : ∀ p, p < 20 → h 49 p = nI (ma p)) (y1 y2 y3 y4 y5 y6 y8 : Option mV) (RT : Option Int32 → mH → Prop) (hR : ∀ y11 y12, mE l Sh0 none iX8_mayOf RT 294 [some (.inr 10), y1, y2, y3, y4, y5, y6, some (.inl (nI bits)), y8, some (.inl (nI hd)), some (.inl (nI (pH sz ma hd bits 3))), y11, y12] [] h) : ∀ (d d9 : Nat) (y12 : Option mV), d9 + d = 3 → mE l Sh0 none iX8_mayOf RT 220 [some (.inr 10), y1, y2, y3, y4, y5, y6, some (.inl (nI bits)), y8, some (.inl (nI hd)), some (.inl (nI (pH sz ma hd bits d9))), some (.inl (nI d9)), y12] [] h := by
  intro d
  induction d with
  | zero =>
    intro d9 y12 hd3
    refine e_iload dX8_mayOf_220 rfl ?_
    refine e_iconst (v := 3) dX8_mayOf_222 (by decide) ?_
    refine b_icmp_ge (X := ((d9 : Nat) : Int)) (Y := 3) (tgt := 294) (nI_toInt (by omega)) (by decide) dX8_mayOf_223 (by decide) ?_ ?_
    · intro c_223_t
      have e : d9 = 3 := by omega
      subst e
      exact hR _ _
    · intro c_223_f
      exfalso; omega
  | succ d ih =>
    intro d9 y12 hd3
    have z29 := h29 (4 + 4 * hd + d9) (by omega)
    have eS : pH sz ma hd bits (d9 + 1) = pH sz ma hd bits d9 ||| (if bits.testBit d9 then (if 0 < sz (4 + 4 * hd + d9) then ma (4 + 4 * hd + d9) else 2 ^ d9) else 0) := rfl
    have t2 : (if bits.testBit d9 then 1 else 0) < 2 := by split <;> omega
    have z2 : (if 0 < sz (4 + 4 * hd + d9) then 1 else 0) < 2 := by split <;> omega
    refine e_iload dX8_mayOf_220 rfl ?_
    refine e_iconst (v := 3) dX8_mayOf_222 (by decide) ?_
    refine b_icmp_ge (X := ((d9 : Nat) : Int)) (Y := 3) (tgt := 294) (nI_toInt (by omega)) (by decide) dX8_mayOf_223 (by decide) ?_ ?_
    · intro c_223_t
      exfalso; omega
    · intro c_223_f
      refine e_iload dX8_mayOf_226 rfl ?_
      refine e_iload dX8_mayOf_228 rfl ?_
      refine e_ishr dX8_mayOf_230 ?_
      refine e_iconst (v := 1) dX8_mayOf_231 (by decide) ?_
      refine z_iand (z := nI (if bits.testBit d9 then 1 else 0)) (bit_dec ⟨bits, hb9⟩ ⟨d9, by omega⟩) dX8_mayOf_232 ?_
      refine e_iconst (v := 1) dX8_mayOf_233 (by decide) ?_
      refine b_icmp_ne (X := ((if bits.testBit d9 then 1 else 0 : Nat) : Int)) (Y := 1) (tgt := 241) (nI_toInt (by omega)) (by decide) dX8_mayOf_234 (by decide) ?_ ?_
      · intro e_234_t c_234_t
        refine e_iconst (v := 0) dX8_mayOf_241 (by decide) ?_
        refine e_istore (ls2 := [some (.inr 10), y1, y2, y3, y4, y5, y6, some (.inl (nI bits)), y8, some (.inl (nI hd)), some (.inl (nI (pH sz ma hd bits d9))), some (.inl (nI d9)), some (.inl 0)]) dX8_mayOf_242 (Nat.le_of_ble_eq_true rfl) rfl ?_
        refine e_iload dX8_mayOf_244 rfl ?_
        refine e_iload dX8_mayOf_246 rfl ?_
        refine b_if_ne (X := 0) (tgt := 255) (by decide) dX8_mayOf_248 (by decide) ?_ ?_
        · intro e_248_t c_248_t
          exfalso; omega
        · intro e_248_f c_248_f
          refine e_iconst (v := 0) dX8_mayOf_251 (by decide) ?_
          refine e_goto (tgt := 285) dX8_mayOf_252 (by decide) ?_
          refine z_ior (z := nI (pH sz ma hd bits d9 ||| 0)) (fa_or _ 0) dX8_mayOf_285 ?_
          refine e_istore (ls2 := [some (.inr 10), y1, y2, y3, y4, y5, y6, some (.inl (nI bits)), y8, some (.inl (nI hd)), some (.inl (nI (pH sz ma hd bits d9 ||| 0))), some (.inl (nI d9)), some (.inl 0)]) dX8_mayOf_286 (Nat.le_of_ble_eq_true rfl) rfl ?_
          refine e_iinc (v := nI (d9 + 1)) (ls2 := [some (.inr 10), y1, y2, y3, y4, y5, y6, some (.inl (nI bits)), y8, some (.inl (nI hd)), some (.inl (nI (pH sz ma hd bits d9 ||| 0))), some (.inl (nI (d9 + 1))), some (.inl 0)]) dX8_mayOf_288 rfl (nI_inc1 _) (Nat.le_of_ble_eq_true rfl) rfl ?_
          refine e_goto (tgt := 220) dX8_mayOf_291 (by decide) ?_
          have hz : ¬ bits.testBit d9 = true := fun z => by rw [if_pos z] at c_234_t; omega
          rw [if_neg hz] at eS
          have q := ih (d9 + 1) (some (.inl 0)) (by omega)
          rw [eS] at q
          exact q
      · intro e_234_f c_234_f
        refine e_iconst (v := 1) dX8_mayOf_237 (by decide) ?_
        refine e_goto (tgt := 242) dX8_mayOf_238 (by decide) ?_
        refine e_istore (ls2 := [some (.inr 10), y1, y2, y3, y4, y5, y6, some (.inl (nI bits)), y8, some (.inl (nI hd)), some (.inl (nI (pH sz ma hd bits d9))), some (.inl (nI d9)), some (.inl 1)]) dX8_mayOf_242 (Nat.le_of_ble_eq_true rfl) rfl ?_
        refine e_iload dX8_mayOf_244 rfl ?_
        refine e_iload dX8_mayOf_246 rfl ?_
        refine b_if_ne (X := 1) (tgt := 255) (by decide) dX8_mayOf_248 (by decide) ?_ ?_
        · intro e_248_t c_248_t
          refine e_aload_n (i := 0) dX8_mayOf_255 rfl rfl ?_
          refine e_iload dX8_mayOf_256 rfl ?_
          refine e_iload dX8_mayOf_258 rfl ?_
          refine e_invVi (As := [.inl (nI hd), .inl (nI d9)]) (v := nI (if 0 < sz (4 + 4 * hd + d9) then 1 else 0)) (h2 := h) dX8_mayOf_260 lk_X8_113 yv_X8_hasClause rfl rfl rfl (Nat.le_of_ble_eq_true rfl) sh_10 ci_X8 (Nat.le_of_ble_eq_true rfl) ⟨Nat.le_of_ble_eq_true rfl, Nat.le_of_ble_eq_true rfl⟩ (k_M_has9 l h sz hd d9 hh (by omega) z29.1 z29.2) ?_
          refine b_if_eq (X := ((if 0 < sz (4 + 4 * hd + d9) then 1 else 0 : Nat) : Int)) (tgt := 281) (nI_toInt (by omega)) dX8_mayOf_263 (by decide) ?_ ?_
          · intro e_263_t c_263_t
            refine e_iconst (v := 1) dX8_mayOf_281 (by decide) ?_
            refine e_iload dX8_mayOf_282 rfl ?_
            refine z_ishl (z := nI (2 ^ d9)) (shl_bit ⟨d9, by omega⟩) dX8_mayOf_284 ?_
            refine z_ior (z := nI (pH sz ma hd bits d9 ||| 2 ^ d9)) (fa_or _ _) dX8_mayOf_285 ?_
            refine e_istore (ls2 := [some (.inr 10), y1, y2, y3, y4, y5, y6, some (.inl (nI bits)), y8, some (.inl (nI hd)), some (.inl (nI (pH sz ma hd bits d9 ||| 2 ^ d9))), some (.inl (nI d9)), some (.inl 1)]) dX8_mayOf_286 (Nat.le_of_ble_eq_true rfl) rfl ?_
            refine e_iinc (v := nI (d9 + 1)) (ls2 := [some (.inr 10), y1, y2, y3, y4, y5, y6, some (.inl (nI bits)), y8, some (.inl (nI hd)), some (.inl (nI (pH sz ma hd bits d9 ||| 2 ^ d9))), some (.inl (nI (d9 + 1))), some (.inl 1)]) dX8_mayOf_288 rfl (nI_inc1 _) (Nat.le_of_ble_eq_true rfl) rfl ?_
            refine e_goto (tgt := 220) dX8_mayOf_291 (by decide) ?_
            have hz : bits.testBit d9 = true := Classical.byContradiction (fun z => by rw [if_neg z] at c_234_f; omega)
            have hz2 : ¬ 0 < sz (4 + 4 * hd + d9) := fun z => by rw [if_pos z] at c_263_t; omega
            rw [if_pos hz, if_neg hz2] at eS
            have q := ih (d9 + 1) (some (.inl 1)) (by omega)
            rw [eS] at q
            exact q
          · intro e_263_f c_263_f
            refine e_aload_n (i := 0) dX8_mayOf_266 rfl rfl ?_
            refine e_getR (r := 49) dX8_mayOf_267 fl_X8_73 sh_10 fj_10_40 ?_
            refine e_iload dX8_mayOf_270 rfl ?_
            refine e_iload dX8_mayOf_272 rfl ?_
            refine e_invSi (As := [.inl (nI hd), .inl (nI d9)]) (v := nI (4 + 4 * hd + d9)) (h2 := h) dX8_mayOf_274 lk_X8_109 ys_X8_clauseOf rfl rfl rfl (Nat.le_of_ble_eq_true rfl) (Nat.le_of_ble_eq_true rfl) ⟨Nat.le_of_ble_eq_true rfl, Nat.le_of_ble_eq_true rfl⟩ (k_M_clauseOf l h hd d9) ?_
            refine e_iald (x := nI (ma (4 + 4 * hd + d9))) dX8_mayOf_277 sh_49 (vin_ofX (X := ((4 + 4 * hd + d9 : Nat) : Int)) (nI_toInt (by omega)) (by omega) (by omega)) (by rw [nI_clamp (by omega)]; exact (h49 _ (by omega))) ?_
            refine e_goto (tgt := 285) dX8_mayOf_278 (by decide) ?_
            refine z_ior (z := nI (pH sz ma hd bits d9 ||| ma (4 + 4 * hd + d9))) (fa_or _ _) dX8_mayOf_285 ?_
            refine e_istore (ls2 := [some (.inr 10), y1, y2, y3, y4, y5, y6, some (.inl (nI bits)), y8, some (.inl (nI hd)), some (.inl (nI (pH sz ma hd bits d9 ||| ma (4 + 4 * hd + d9)))), some (.inl (nI d9)), some (.inl 1)]) dX8_mayOf_286 (Nat.le_of_ble_eq_true rfl) rfl ?_
            refine e_iinc (v := nI (d9 + 1)) (ls2 := [some (.inr 10), y1, y2, y3, y4, y5, y6, some (.inl (nI bits)), y8, some (.inl (nI hd)), some (.inl (nI (pH sz ma hd bits d9 ||| ma (4 + 4 * hd + d9)))), some (.inl (nI (d9 + 1))), some (.inl 1)]) dX8_mayOf_288 rfl (nI_inc1 _) (Nat.le_of_ble_eq_true rfl) rfl ?_
            refine e_goto (tgt := 220) dX8_mayOf_291 (by decide) ?_
            have hz : bits.testBit d9 = true := Classical.byContradiction (fun z => by rw [if_neg z] at c_234_f; omega)
            have hz2 : 0 < sz (4 + 4 * hd + d9) := Classical.byContradiction (fun z => by rw [if_neg z] at c_263_f; omega)
            rw [if_pos hz, if_pos hz2] at eS
            have q := ih (d9 + 1) (some (.inl 1)) (by omega)
            rw [eS] at q
            exact q
        · intro e_248_f c_248_f
          exfalso; omega
set_option maxHeartbeats 4000000 in
theorem lp_M_may (l : Launch) {sg : Nat → Int32} {ln sz : Nat → Nat} (hB : aWB sg ln sz) (h : mH) (hM : MB sg ln sz h) (A W ma be0 : Nat → Nat) (hc : yCl sg ln sz A W) (hma : ∀ p, p < 20 → 0 < sz p → sb (ma p) (A (40 * p))) (hm8 : ∀ p, p < 20 → ma p < 8) (h49 : ∀ p, p < 20 → h 49 p = nI (ma p)) (p : Nat) (hp0 : p < 20) (RT : Option Int32 → mH → Prop) (hR : ∀ f51 f50 be s, rw9 f50 be 4 → (∀ j, j < sz p → f51 j = nI (s j)) → mQ sg ln sz ma W p be0 0 be s → RT (some (nI (if sz p = 0 then 0 else s 0))) (vH h f51 f50)) : ∀ (m : Nat) (f51 f50 : Nat → Int32) (be s : Nat → Nat) (y4 y5 y6 y7 y8 y9 y10 y11 y12 : Option mV), m ≤ sz p → rw9 f50 be 4 → (∀ j, m ≤ j → j < sz p → f51 j = nI (s j)) → mQ sg ln sz ma W p be0 m be s → mE l Sh0 none iX8_mayOf RT 14 [some (.inr 10), some (.inl (nI p)), some (.inl (nI (40 * p))), some (.inl (dn m)), y4, y5, y6, y7, y8, y9, y10, y11, y12] [] (vH h f51 f50) := by
  have hz40 := hB.1 p hp0
  intro m
  induction m with
  | zero =>
    intro f51 f50 be s y4 y5 y6 y7 y8 y9 y10 y11 y12 hm h50 hj hQ
    rw [dn_0]
    have r29 := hM.2.1 p hp0
    have hRR := hR f51 f50 be s h50 (fun j hj2 => hj j (Nat.zero_le _) hj2) hQ
    by_cases hz : sz p = 0
    · rw [if_pos hz] at hRR
      refine e_iload_n (i := 3) dX8_mayOf_14 rfl rfl ?_
      refine b_if_lt (X := (-1)) (tgt := 349) (by decide) dX8_mayOf_15 (by decide) ?_ ?_
      · intro c_15_t
        refine e_aload_n (i := 0) dX8_mayOf_349 rfl rfl ?_
        refine e_getR (r := 29) dX8_mayOf_350 fl_X8_13 sh_10 fj_10_2 ?_
        refine e_iload_n (i := 1) dX8_mayOf_353 rfl rfl ?_
        refine e_iald (x := nI (sz p)) dX8_mayOf_354 sh_29 (vin_ofX (X := ((p : Nat) : Int)) (nI_toInt (by omega)) (by omega) (by omega)) (by rw [nI_clamp (by omega)]; exact r29) ?_
        refine b_if_ne (X := ((sz p : Nat) : Int)) (tgt := 362) (nI_toInt (by omega)) dX8_mayOf_355 (by decide) ?_ ?_
        · intro e_355_t c_355_t
          exfalso; omega
        · intro e_355_f c_355_f
          refine e_iconst (v := 0) dX8_mayOf_358 (by decide) ?_
          refine e_goto (tgt := 368) dX8_mayOf_359 (by decide) ?_
          refine e_iret dX8_mayOf_368 (mret_i _) ?_
          exact hRR
      · intro c_15_f
        exfalso; omega
    · rw [if_neg hz] at hRR
      have r51 : vH h f51 f50 51 (0 : Int32).toNatClampNeg = nI (s 0) := hj 0 (Nat.le_refl _) (by omega)
      refine e_iload_n (i := 3) dX8_mayOf_14 rfl rfl ?_
      refine b_if_lt (X := (-1)) (tgt := 349) (by decide) dX8_mayOf_15 (by decide) ?_ ?_
      · intro c_15_t
        refine e_aload_n (i := 0) dX8_mayOf_349 rfl rfl ?_
        refine e_getR (r := 29) dX8_mayOf_350 fl_X8_13 sh_10 fj_10_2 ?_
        refine e_iload_n (i := 1) dX8_mayOf_353 rfl rfl ?_
        refine e_iald (x := nI (sz p)) dX8_mayOf_354 sh_29 (vin_ofX (X := ((p : Nat) : Int)) (nI_toInt (by omega)) (by omega) (by omega)) (by rw [nI_clamp (by omega)]; exact r29) ?_
        refine b_if_ne (X := ((sz p : Nat) : Int)) (tgt := 362) (nI_toInt (by omega)) dX8_mayOf_355 (by decide) ?_ ?_
        · intro e_355_t c_355_t
          refine e_aload_n (i := 0) dX8_mayOf_362 rfl rfl ?_
          refine e_getR (r := 51) dX8_mayOf_363 fl_X8_79 sh_10 fj_10_42 ?_
          refine e_iconst (v := 0) dX8_mayOf_366 (by decide) ?_
          refine e_iald (x := nI (s 0)) dX8_mayOf_367 sh_51 (vin_ofX (X := 0) (by decide) (by omega) (by omega)) r51 ?_
          refine e_iret dX8_mayOf_368 (mret_i _) ?_
          exact hRR
        · intro e_355_f c_355_f
          exfalso; omega
      · intro c_15_f
        exfalso; omega
  | succ m ih =>
    intro f51 f50 be s y4 y5 y6 y7 y8 y9 y10 y11 y12 hm h50 hj hQ
    rw [dn_s]
    have e40 : (40 * p + m) / 40 = p := by omega
    have e41 : (40 * p + m) % 40 = m := by omega
    have hw := wr_at hB hp0 (show m < sz p by omega)
    obtain ⟨a1, a2, a3, a4⟩ := aPar hB hw.1 hw.2
    have ho : (aOf (sg (40 * p + m)).toInt).toNat ≤ 3 := by have := aOf_le (sg (40 * p + m)).toInt; omega
    obtain ⟨hx8, hQ2⟩ := mQ_step hB hp0 (by omega) hc hma hm8 hQ
    have hbits : bR (fun i => s (pOf ln (aFs sg (40 * p + m)) i - 40 * p)) (aOf (sg (40 * p + m)).toInt).toNat < 8 := bR_lt (fun i hi => (hQ.2.2.2 _ (by have := (mX_sub hB hp0 (show m < sz p by omega) hi).1; omega) (mX_sub hB hp0 (show m < sz p by omega) hi).2.1).1)
    have fin : ∀ (g50 : Nat → Int32) (y4 y5 y6 y8 y9 y10 y11 y12 : Option mV), rw9 g50 (yW sg be (40 * p + m) (mX sg ln sz ma p m be s)) 4 → mE l Sh0 none iX8_mayOf RT 335 [some (.inr 10), some (.inl (nI p)), some (.inl (nI (40 * p))), some (.inl (nI m)), y4, y5, y6, some (.inl (nI (mX sg ln sz ma p m be s))), y8, y9, y10, y11, y12] [] (vH h f51 g50) := by
      intro g50 y4 y5 y6 y8 y9 y10 y11 y12 g4
      refine e_aload_n (i := 0) dX8_mayOf_335 rfl rfl ?_
      refine e_getR (r := 51) dX8_mayOf_336 fl_X8_79 sh_10 fj_10_42 ?_
      refine e_iload_n (i := 3) dX8_mayOf_339 rfl rfl ?_
      refine e_iload dX8_mayOf_340 rfl ?_
      refine e_iast dX8_mayOf_342 sh_51 (vin_ofX (X := ((m : Nat) : Int)) (nI_toInt (by omega)) (by omega) (by omega)) ?_
      rw [nI_clamp (by omega)]
      refine e_iinc (v := dn m) (ls2 := [some (.inr 10), some (.inl (nI p)), some (.inl (nI (40 * p))), some (.inl (dn m)), y4, y5, y6, some (.inl (nI (mX sg ln sz ma p m be s))), y8, y9, y10, y11, y12]) dX8_mayOf_343 rfl (dn_dec _) (Nat.le_of_ble_eq_true rfl) rfl ?_
      refine e_goto (tgt := 14) dX8_mayOf_346 (by decide) ?_
      rw [vH_51]
      refine ih _ _ _ _ _ _ _ _ _ _ _ _ _ (by omega) g4 (fun j j1 j2 => ?_) hQ2
      by_cases ej : j = m
      · subst ej; rw [pk_us, ud_s]
      · rw [pk_un ej, ud_n ej]; exact hj j (by omega) j2
    have k132 : ∀ (y5 y8 y9 y10 y11 y12 : Option mV), mE l Sh0 none iX8_mayOf RT 132 [some (.inr 10), some (.inl (nI p)), some (.inl (nI (40 * p))), some (.inl (nI m)), some (.inl (sg (40 * p + m))), y5, some (.inl (nI (aOf (sg (40 * p + m)).toInt).toNat)), some (.inl (nI (bR (fun i => s (pOf ln (aFs sg (40 * p + m)) i - 40 * p)) (aOf (sg (40 * p + m)).toInt).toNat))), y8, y9, y10, y11, y12] [] (vH h f51 f50) := by
      intro y5 y8 y9 y10 y11 y12
      by_cases h1 : (sg (40 * p + m)).toInt = 112 ∨ (sg (40 * p + m)).toInt = 113 ∨ (sg (40 * p + m)).toInt = 114
      · obtain ⟨d, hd3, hx⟩ : ∃ d : Nat, d < 3 ∧ (sg (40 * p + m)).toInt = 112 + (d : Int) := ⟨((sg (40 * p + m)).toInt - 112).toNat, by omega, by omega⟩
        have eX : mX sg ln sz ma p m be s = bR (fun i => s (pOf ln (aFs sg (40 * p + m)) i - 40 * p)) (aOf (sg (40 * p + m)).toInt).toNat ||| 2 ^ d := by unfold mX yG; rw [if_pos h1, show ((sg (40 * p + m)).toInt - 112).toNat = d from by omega]
        have eW : yW sg be (40 * p + m) (mX sg ln sz ma p m be s) = be := if_neg (by omega)
        refine e_iload dX8_mayOf_132 rfl ?_
        refine e_bipush (v := 112) dX8_mayOf_134 (by decide) ?_
        refine b_icmp_eq (X := (sg (40 * p + m)).toInt) (Y := 112) (tgt := 153) rfl (by decide) dX8_mayOf_136 (by decide) ?_ ?_
        · intro e_136_t c_136_t
          refine e_iload dX8_mayOf_153 rfl ?_
          refine e_iconst (v := 1) dX8_mayOf_155 (by decide) ?_
          refine e_iload dX8_mayOf_156 rfl ?_
          refine e_bipush (v := 112) dX8_mayOf_158 (by decide) ?_
          refine z_isub (z := nI d) (sub112 hx) dX8_mayOf_160 ?_
          refine z_ishl (z := nI (2 ^ d)) (shl_bit ⟨d, hd3⟩) dX8_mayOf_161 ?_
          refine z_ior (z := nI (bR (fun i => s (pOf ln (aFs sg (40 * p + m)) i - 40 * p)) (aOf (sg (40 * p + m)).toInt).toNat ||| 2 ^ d)) (fa_or _ _) dX8_mayOf_162 ?_
          refine e_istore (ls2 := [some (.inr 10), some (.inl (nI p)), some (.inl (nI (40 * p))), some (.inl (nI m)), some (.inl (sg (40 * p + m))), y5, some (.inl (nI ((aOf (sg (40 * p + m)).toInt).toNat))), some (.inl (nI (bR (fun i => s (pOf ln (aFs sg (40 * p + m)) i - 40 * p)) (aOf (sg (40 * p + m)).toInt).toNat ||| 2 ^ d))), y8, y9, y10, y11, y12]) dX8_mayOf_163 (Nat.le_of_ble_eq_true rfl) rfl ?_
          refine e_goto (tgt := 335) dX8_mayOf_165 (by decide) ?_
          have q := fin f50 (some (.inl (sg (40 * p + m)))) y5 (some (.inl (nI ((aOf (sg (40 * p + m)).toInt).toNat)))) y8 y9 y10 y11 y12 (by rw [eW]; exact h50)
          rw [eX] at q
          exact q
        · intro e_136_f c_136_f
          refine e_iload dX8_mayOf_139 rfl ?_
          refine e_bipush (v := 113) dX8_mayOf_141 (by decide) ?_
          refine b_icmp_eq (X := (sg (40 * p + m)).toInt) (Y := 113) (tgt := 153) rfl (by decide) dX8_mayOf_143 (by decide) ?_ ?_
          · intro e_143_t c_143_t
            refine e_iload dX8_mayOf_153 rfl ?_
            refine e_iconst (v := 1) dX8_mayOf_155 (by decide) ?_
            refine e_iload dX8_mayOf_156 rfl ?_
            refine e_bipush (v := 112) dX8_mayOf_158 (by decide) ?_
            refine z_isub (z := nI d) (sub112 hx) dX8_mayOf_160 ?_
            refine z_ishl (z := nI (2 ^ d)) (shl_bit ⟨d, hd3⟩) dX8_mayOf_161 ?_
            refine z_ior (z := nI (bR (fun i => s (pOf ln (aFs sg (40 * p + m)) i - 40 * p)) (aOf (sg (40 * p + m)).toInt).toNat ||| 2 ^ d)) (fa_or _ _) dX8_mayOf_162 ?_
            refine e_istore (ls2 := [some (.inr 10), some (.inl (nI p)), some (.inl (nI (40 * p))), some (.inl (nI m)), some (.inl (sg (40 * p + m))), y5, some (.inl (nI ((aOf (sg (40 * p + m)).toInt).toNat))), some (.inl (nI (bR (fun i => s (pOf ln (aFs sg (40 * p + m)) i - 40 * p)) (aOf (sg (40 * p + m)).toInt).toNat ||| 2 ^ d))), y8, y9, y10, y11, y12]) dX8_mayOf_163 (Nat.le_of_ble_eq_true rfl) rfl ?_
            refine e_goto (tgt := 335) dX8_mayOf_165 (by decide) ?_
            have q := fin f50 (some (.inl (sg (40 * p + m)))) y5 (some (.inl (nI ((aOf (sg (40 * p + m)).toInt).toNat)))) y8 y9 y10 y11 y12 (by rw [eW]; exact h50)
            rw [eX] at q
            exact q
          · intro e_143_f c_143_f
            refine e_iload dX8_mayOf_146 rfl ?_
            refine e_bipush (v := 114) dX8_mayOf_148 (by decide) ?_
            refine b_icmp_ne (X := (sg (40 * p + m)).toInt) (Y := 114) (tgt := 168) rfl (by decide) dX8_mayOf_150 (by decide) ?_ ?_
            · intro e_150_t c_150_t
              exfalso; omega
            · intro e_150_f c_150_f
              refine e_iload dX8_mayOf_153 rfl ?_
              refine e_iconst (v := 1) dX8_mayOf_155 (by decide) ?_
              refine e_iload dX8_mayOf_156 rfl ?_
              refine e_bipush (v := 112) dX8_mayOf_158 (by decide) ?_
              refine z_isub (z := nI d) (sub112 hx) dX8_mayOf_160 ?_
              refine z_ishl (z := nI (2 ^ d)) (shl_bit ⟨d, hd3⟩) dX8_mayOf_161 ?_
              refine z_ior (z := nI (bR (fun i => s (pOf ln (aFs sg (40 * p + m)) i - 40 * p)) (aOf (sg (40 * p + m)).toInt).toNat ||| 2 ^ d)) (fa_or _ _) dX8_mayOf_162 ?_
              refine e_istore (ls2 := [some (.inr 10), some (.inl (nI p)), some (.inl (nI (40 * p))), some (.inl (nI m)), some (.inl (sg (40 * p + m))), y5, some (.inl (nI ((aOf (sg (40 * p + m)).toInt).toNat))), some (.inl (nI (bR (fun i => s (pOf ln (aFs sg (40 * p + m)) i - 40 * p)) (aOf (sg (40 * p + m)).toInt).toNat ||| 2 ^ d))), y8, y9, y10, y11, y12]) dX8_mayOf_163 (Nat.le_of_ble_eq_true rfl) rfl ?_
              refine e_goto (tgt := 335) dX8_mayOf_165 (by decide) ?_
              have q := fin f50 (some (.inl (sg (40 * p + m)))) y5 (some (.inl (nI ((aOf (sg (40 * p + m)).toInt).toNat)))) y8 y9 y10 y11 y12 (by rw [eW]; exact h50)
              rw [eX] at q
              exact q
      · by_cases h2 : (sg (40 * p + m)).toInt = 64
        · obtain ⟨hV, hh, hp1, hd1, hd2⟩ := wr_hd hB hw h2
          have eX : mX sg ln sz ma p m be s = pH sz ma (aHd sg (40 * p + m)) (bR (fun i => s (pOf ln (aFs sg (40 * p + m)) i - 40 * p)) (aOf (sg (40 * p + m)).toInt).toNat) 3 := by unfold mX yG; rw [if_neg h1, if_pos h2]
          have eW : yW sg be (40 * p + m) (mX sg ln sz ma p m be s) = ud be (aHd sg (40 * p + m)) (be (aHd sg (40 * p + m)) ||| mX sg ln sz ma p m be s) := if_pos h2
          have r50 := h50 _ hh
          have z3 := hM.2.1 (4 + 4 * aHd sg (40 * p + m) + 3) (by omega)
          have z4 := hB.1 (4 + 4 * aHd sg (40 * p + m) + 3) (by omega)
          have z2 : (if 0 < sz (4 + 4 * aHd sg (40 * p + m) + 3) then 1 else 0) < 2 := by split <;> omega
          have k294 : ∀ y11 y12, mE l Sh0 none iX8_mayOf RT 294 [some (.inr 10), some (.inl (nI p)), some (.inl (nI (40 * p))), some (.inl (nI m)), some (.inl (sg (40 * p + m))), y5, some (.inl (nI (aOf (sg (40 * p + m)).toInt).toNat)), some (.inl (nI (bR (fun i => s (pOf ln (aFs sg (40 * p + m)) i - 40 * p)) (aOf (sg (40 * p + m)).toInt).toNat))), y8, some (.inl (nI (aHd sg (40 * p + m)))), some (.inl (nI (pH sz ma (aHd sg (40 * p + m)) (bR (fun i => s (pOf ln (aFs sg (40 * p + m)) i - 40 * p)) (aOf (sg (40 * p + m)).toInt).toNat) 3))), y11, y12] [] (vH h f51 f50) := by
            intro y11 y12
            refine e_iload dX8_mayOf_294 rfl ?_
            refine e_istore (ls2 := [some (.inr 10), some (.inl (nI p)), some (.inl (nI (40 * p))), some (.inl (nI m)), some (.inl (sg (40 * p + m))), y5, some (.inl (nI ((aOf (sg (40 * p + m)).toInt).toNat))), some (.inl (nI (pH sz ma (aHd sg (40 * p + m)) (bR (fun i => s (pOf ln (aFs sg (40 * p + m)) i - 40 * p)) (aOf (sg (40 * p + m)).toInt).toNat) 3))), y8, some (.inl (nI (aHd sg (40 * p + m)))), some (.inl (nI (pH sz ma (aHd sg (40 * p + m)) (bR (fun i => s (pOf ln (aFs sg (40 * p + m)) i - 40 * p)) (aOf (sg (40 * p + m)).toInt).toNat) 3))), y11, y12]) dX8_mayOf_296 (Nat.le_of_ble_eq_true rfl) rfl ?_
            refine e_aload_n (i := 0) dX8_mayOf_298 rfl rfl ?_
            refine e_getR (r := 50) dX8_mayOf_299 fl_X8_76 sh_10 fj_10_41 ?_
            refine e_iload dX8_mayOf_302 rfl ?_
            refine e_dup2 dX8_mayOf_304 ?_
            refine e_iald (x := nI (be (aHd sg (40 * p + m)))) dX8_mayOf_305 sh_50 (vin_ofX (X := ((aHd sg (40 * p + m) : Nat) : Int)) (nI_toInt (by omega)) (by omega) (by omega)) (by rw [nI_clamp (by omega)]; exact r50) ?_
            refine e_iload dX8_mayOf_306 rfl ?_
            refine z_ior (z := nI (be (aHd sg (40 * p + m)) ||| pH sz ma (aHd sg (40 * p + m)) (bR (fun i => s (pOf ln (aFs sg (40 * p + m)) i - 40 * p)) (aOf (sg (40 * p + m)).toInt).toNat) 3)) (fa_or _ _) dX8_mayOf_308 ?_
            refine e_iast dX8_mayOf_309 sh_50 (vin_ofX (X := ((aHd sg (40 * p + m) : Nat) : Int)) (nI_toInt (by omega)) (by omega) (by omega)) ?_
            rw [nI_clamp (by omega)]
            refine e_goto (tgt := 335) dX8_mayOf_310 (by decide) ?_
            rw [vH_50]
            have q := fin (upd f50 (aHd sg (40 * p + m)) (nI (be (aHd sg (40 * p + m)) ||| mX sg ln sz ma p m be s))) (some (.inl (sg (40 * p + m)))) y5 (some (.inl (nI ((aOf (sg (40 * p + m)).toInt).toNat)))) y8 (some (.inl (nI (aHd sg (40 * p + m))))) (some (.inl (nI (pH sz ma (aHd sg (40 * p + m)) (bR (fun i => s (pOf ln (aFs sg (40 * p + m)) i - 40 * p)) (aOf (sg (40 * p + m)).toInt).toNat) 3)))) y11 y12 (by rw [eW]; exact rw9_ud h50)
            rw [eX] at q
            exact q
          refine e_iload dX8_mayOf_132 rfl ?_
          refine e_bipush (v := 112) dX8_mayOf_134 (by decide) ?_
          refine b_icmp_eq (X := (sg (40 * p + m)).toInt) (Y := 112) (tgt := 153) rfl (by decide) dX8_mayOf_136 (by decide) ?_ ?_
          · intro e_136_t c_136_t
            exfalso; omega
          · intro e_136_f c_136_f
            refine e_iload dX8_mayOf_139 rfl ?_
            refine e_bipush (v := 113) dX8_mayOf_141 (by decide) ?_
            refine b_icmp_eq (X := (sg (40 * p + m)).toInt) (Y := 113) (tgt := 153) rfl (by decide) dX8_mayOf_143 (by decide) ?_ ?_
            · intro e_143_t c_143_t
              exfalso; omega
            · intro e_143_f c_143_f
              refine e_iload dX8_mayOf_146 rfl ?_
              refine e_bipush (v := 114) dX8_mayOf_148 (by decide) ?_
              refine b_icmp_ne (X := (sg (40 * p + m)).toInt) (Y := 114) (tgt := 168) rfl (by decide) dX8_mayOf_150 (by decide) ?_ ?_
              · intro e_150_t c_150_t
                refine e_iload dX8_mayOf_168 rfl ?_
                refine e_bipush (v := 64) dX8_mayOf_170 (by decide) ?_
                refine b_icmp_ne (X := (sg (40 * p + m)).toInt) (Y := 64) (tgt := 313) rfl (by decide) dX8_mayOf_172 (by decide) ?_ ?_
                · intro e_172_t c_172_t
                  exfalso; omega
                · intro e_172_f c_172_f
                  refine e_aload_n (i := 0) dX8_mayOf_175 rfl rfl ?_
                  refine e_getR (r := 30) dX8_mayOf_176 fl_X8_16 sh_10 fj_10_3 ?_
                  refine e_iload_n (i := 2) dX8_mayOf_179 rfl rfl ?_
                  refine e_iload_n (i := 3) dX8_mayOf_180 rfl rfl ?_
                  refine z_iadd (z := nI (40 * p + m)) (nI_add _ _) dX8_mayOf_181 ?_
                  refine e_iconst (v := 1) dX8_mayOf_182 (by decide) ?_
                  refine z_iadd (z := nI (40 * p + m + 1)) (nI_addc _ 1) dX8_mayOf_183 ?_
                  refine e_iald (x := sg (40 * p + m + 1)) dX8_mayOf_184 sh_30 (vin_ofX (X := ((40 * p + m + 1 : Nat) : Int)) (nI_toInt (by omega)) (by omega) (by omega)) (by rw [nI_clamp (by omega)]; exact (hM.1 _ hp1)) ?_
                  refine e_bipush (v := 48) dX8_mayOf_185 (by decide) ?_
                  refine z_isub (z := nI (aHd sg (40 * p + m))) (sub48 hd1) dX8_mayOf_187 ?_
                  refine e_istore (ls2 := [some (.inr 10), some (.inl (nI p)), some (.inl (nI (40 * p))), some (.inl (nI m)), some (.inl (sg (40 * p + m))), y5, some (.inl (nI ((aOf (sg (40 * p + m)).toInt).toNat))), some (.inl (nI (bR (fun i => s (pOf ln (aFs sg (40 * p + m)) i - 40 * p)) (aOf (sg (40 * p + m)).toInt).toNat))), y8, some (.inl (nI (aHd sg (40 * p + m)))), y10, y11, y12]) dX8_mayOf_188 (Nat.le_of_ble_eq_true rfl) rfl ?_
                  refine e_aload_n (i := 0) dX8_mayOf_190 rfl rfl ?_
                  refine e_iload dX8_mayOf_191 rfl ?_
                  refine e_iconst (v := 3) dX8_mayOf_193 (by decide) ?_
                  refine e_invVi (As := [.inl (nI (aHd sg (40 * p + m))), .inl 3]) (v := nI (if 0 < sz (4 + 4 * aHd sg (40 * p + m) + 3) then 1 else 0)) (h2 := (vH h f51 f50)) dX8_mayOf_194 lk_X8_113 yv_X8_hasClause rfl rfl rfl (Nat.le_of_ble_eq_true rfl) sh_10 ci_X8 (Nat.le_of_ble_eq_true rfl) ⟨Nat.le_of_ble_eq_true rfl, Nat.le_of_ble_eq_true rfl⟩ (k_M_has9 l (vH h f51 f50) sz (aHd sg (40 * p + m)) 3 hh (by omega) z3 z4) ?_
                  refine b_if_eq (X := ((if 0 < sz (4 + 4 * aHd sg (40 * p + m) + 3) then 1 else 0 : Nat) : Int)) (tgt := 214) (nI_toInt (by omega)) dX8_mayOf_197 (by decide) ?_ ?_
                  · intro e_197_t c_197_t
                    refine e_iconst (v := 0) dX8_mayOf_214 (by decide) ?_
                    refine e_istore (ls2 := [some (.inr 10), some (.inl (nI p)), some (.inl (nI (40 * p))), some (.inl (nI m)), some (.inl (sg (40 * p + m))), y5, some (.inl (nI ((aOf (sg (40 * p + m)).toInt).toNat))), some (.inl (nI (bR (fun i => s (pOf ln (aFs sg (40 * p + m)) i - 40 * p)) (aOf (sg (40 * p + m)).toInt).toNat))), y8, some (.inl (nI (aHd sg (40 * p + m)))), some (.inl 0), y11, y12]) dX8_mayOf_215 (Nat.le_of_ble_eq_true rfl) rfl ?_
                    refine e_iconst (v := 0) dX8_mayOf_217 (by decide) ?_
                    refine e_istore (ls2 := [some (.inr 10), some (.inl (nI p)), some (.inl (nI (40 * p))), some (.inl (nI m)), some (.inl (sg (40 * p + m))), y5, some (.inl (nI ((aOf (sg (40 * p + m)).toInt).toNat))), some (.inl (nI (bR (fun i => s (pOf ln (aFs sg (40 * p + m)) i - 40 * p)) (aOf (sg (40 * p + m)).toInt).toNat))), y8, some (.inl (nI (aHd sg (40 * p + m)))), some (.inl 0), some (.inl 0), y12]) dX8_mayOf_218 (Nat.le_of_ble_eq_true rfl) rfl ?_
                    have e0 : pH sz ma (aHd sg (40 * p + m)) (bR (fun i => s (pOf ln (aFs sg (40 * p + m)) i - 40 * p)) (aOf (sg (40 * p + m)).toInt).toNat) 0 = 0 := if_neg (fun z => by rw [if_pos z] at c_197_t; omega)
                    have q := lp_M_past l (vH h f51 f50) sz ma (aHd sg (40 * p + m)) (bR (fun i => s (pOf ln (aFs sg (40 * p + m)) i - 40 * p)) (aOf (sg (40 * p + m)).toInt).toNat) hh hbits (fun p hp => ⟨hM.2.1 p hp, hB.1 p hp⟩) h49 (some (.inl (nI p))) (some (.inl (nI (40 * p)))) (some (.inl (nI m))) (some (.inl (sg (40 * p + m)))) y5 (some (.inl (nI ((aOf (sg (40 * p + m)).toInt).toNat)))) y8 RT k294 3 0 y12 rfl
                    rw [e0] at q
                    exact q
                  · intro e_197_f c_197_f
                    refine e_aload_n (i := 0) dX8_mayOf_200 rfl rfl ?_
                    refine e_getR (r := 49) dX8_mayOf_201 fl_X8_73 sh_10 fj_10_40 ?_
                    refine e_iload dX8_mayOf_204 rfl ?_
                    refine e_iconst (v := 3) dX8_mayOf_206 (by decide) ?_
                    refine e_invSi (As := [.inl (nI (aHd sg (40 * p + m))), .inl 3]) (v := nI (4 + 4 * aHd sg (40 * p + m) + 3)) (h2 := (vH h f51 f50)) dX8_mayOf_207 lk_X8_109 ys_X8_clauseOf rfl rfl rfl (Nat.le_of_ble_eq_true rfl) (Nat.le_of_ble_eq_true rfl) ⟨Nat.le_of_ble_eq_true rfl, Nat.le_of_ble_eq_true rfl⟩ (k_M_clauseOf l (vH h f51 f50) (aHd sg (40 * p + m)) 3) ?_
                    refine e_iald (x := nI (ma (4 + 4 * aHd sg (40 * p + m) + 3))) dX8_mayOf_210 sh_49 (vin_ofX (X := ((4 + 4 * aHd sg (40 * p + m) + 3 : Nat) : Int)) (nI_toInt (by omega)) (by omega) (by omega)) (by rw [nI_clamp (by omega)]; exact (h49 _ (by omega))) ?_
                    refine e_goto (tgt := 215) dX8_mayOf_211 (by decide) ?_
                    refine e_istore (ls2 := [some (.inr 10), some (.inl (nI p)), some (.inl (nI (40 * p))), some (.inl (nI m)), some (.inl (sg (40 * p + m))), y5, some (.inl (nI ((aOf (sg (40 * p + m)).toInt).toNat))), some (.inl (nI (bR (fun i => s (pOf ln (aFs sg (40 * p + m)) i - 40 * p)) (aOf (sg (40 * p + m)).toInt).toNat))), y8, some (.inl (nI (aHd sg (40 * p + m)))), some (.inl (nI (ma (4 + 4 * aHd sg (40 * p + m) + 3)))), y11, y12]) dX8_mayOf_215 (Nat.le_of_ble_eq_true rfl) rfl ?_
                    refine e_iconst (v := 0) dX8_mayOf_217 (by decide) ?_
                    refine e_istore (ls2 := [some (.inr 10), some (.inl (nI p)), some (.inl (nI (40 * p))), some (.inl (nI m)), some (.inl (sg (40 * p + m))), y5, some (.inl (nI ((aOf (sg (40 * p + m)).toInt).toNat))), some (.inl (nI (bR (fun i => s (pOf ln (aFs sg (40 * p + m)) i - 40 * p)) (aOf (sg (40 * p + m)).toInt).toNat))), y8, some (.inl (nI (aHd sg (40 * p + m)))), some (.inl (nI (ma (4 + 4 * aHd sg (40 * p + m) + 3)))), some (.inl 0), y12]) dX8_mayOf_218 (Nat.le_of_ble_eq_true rfl) rfl ?_
                    have e0 : pH sz ma (aHd sg (40 * p + m)) (bR (fun i => s (pOf ln (aFs sg (40 * p + m)) i - 40 * p)) (aOf (sg (40 * p + m)).toInt).toNat) 0 = ma (4 + 4 * aHd sg (40 * p + m) + 3) := if_pos (Classical.byContradiction (fun z => by rw [if_neg z] at c_197_f; omega))
                    have q := lp_M_past l (vH h f51 f50) sz ma (aHd sg (40 * p + m)) (bR (fun i => s (pOf ln (aFs sg (40 * p + m)) i - 40 * p)) (aOf (sg (40 * p + m)).toInt).toNat) hh hbits (fun p hp => ⟨hM.2.1 p hp, hB.1 p hp⟩) h49 (some (.inl (nI p))) (some (.inl (nI (40 * p)))) (some (.inl (nI m))) (some (.inl (sg (40 * p + m)))) y5 (some (.inl (nI ((aOf (sg (40 * p + m)).toInt).toNat)))) y8 RT k294 3 0 y12 rfl
                    rw [e0] at q
                    exact q
              · intro e_150_f c_150_f
                exfalso; omega
        · by_cases h3 : (sg (40 * p + m)).toInt = 107
          · have hV : aV sg sz (40 * p + m) := Classical.byContradiction (fun z => by
              have := aDig hB _ hw.1 hw.2 z
              omega)
            have h4 := (hB.2 _ hV).2.2.2.2.2.2.2.2.2 h3
            rw [e40] at h4
            have eX : mX sg ln sz ma p m be s = bR (fun i => s (pOf ln (aFs sg (40 * p + m)) i - 40 * p)) (aOf (sg (40 * p + m)).toInt).toNat ||| be ((p - 4) / 4) := by unfold mX yG; rw [if_neg h1, if_neg h2, if_pos h3, e40]
            have eW : yW sg be (40 * p + m) (mX sg ln sz ma p m be s) = be := if_neg h2
            have r50 := h50 ((p - 4) / 4) (by omega)
            refine e_iload dX8_mayOf_132 rfl ?_
            refine e_bipush (v := 112) dX8_mayOf_134 (by decide) ?_
            refine b_icmp_eq (X := (sg (40 * p + m)).toInt) (Y := 112) (tgt := 153) rfl (by decide) dX8_mayOf_136 (by decide) ?_ ?_
            · intro e_136_t c_136_t
              exfalso; omega
            · intro e_136_f c_136_f
              refine e_iload dX8_mayOf_139 rfl ?_
              refine e_bipush (v := 113) dX8_mayOf_141 (by decide) ?_
              refine b_icmp_eq (X := (sg (40 * p + m)).toInt) (Y := 113) (tgt := 153) rfl (by decide) dX8_mayOf_143 (by decide) ?_ ?_
              · intro e_143_t c_143_t
                exfalso; omega
              · intro e_143_f c_143_f
                refine e_iload dX8_mayOf_146 rfl ?_
                refine e_bipush (v := 114) dX8_mayOf_148 (by decide) ?_
                refine b_icmp_ne (X := (sg (40 * p + m)).toInt) (Y := 114) (tgt := 168) rfl (by decide) dX8_mayOf_150 (by decide) ?_ ?_
                · intro e_150_t c_150_t
                  refine e_iload dX8_mayOf_168 rfl ?_
                  refine e_bipush (v := 64) dX8_mayOf_170 (by decide) ?_
                  refine b_icmp_ne (X := (sg (40 * p + m)).toInt) (Y := 64) (tgt := 313) rfl (by decide) dX8_mayOf_172 (by decide) ?_ ?_
                  · intro e_172_t c_172_t
                    refine e_iload dX8_mayOf_313 rfl ?_
                    refine e_bipush (v := 107) dX8_mayOf_315 (by decide) ?_
                    refine b_icmp_ne (X := (sg (40 * p + m)).toInt) (Y := 107) (tgt := 335) rfl (by decide) dX8_mayOf_317 (by decide) ?_ ?_
                    · intro e_317_t c_317_t
                      exfalso; omega
                    · intro e_317_f c_317_f
                      refine e_iload dX8_mayOf_320 rfl ?_
                      refine e_aload_n (i := 0) dX8_mayOf_322 rfl rfl ?_
                      refine e_getR (r := 50) dX8_mayOf_323 fl_X8_76 sh_10 fj_10_41 ?_
                      refine e_iload_n (i := 1) dX8_mayOf_326 rfl rfl ?_
                      refine e_iconst (v := 4) dX8_mayOf_327 (by decide) ?_
                      refine z_isub (z := nI (p - 4)) (nI_subc 4 h4.1) dX8_mayOf_328 ?_
                      refine e_iconst (v := 4) dX8_mayOf_329 (by decide) ?_
                      refine z_idiv (z := nI ((p - 4) / 4)) (nI_div4 (by omega)) dX8_mayOf_330 (by decide) ?_
                      refine e_iald (x := nI (be ((p - 4) / 4))) dX8_mayOf_331 sh_50 (vin_ofX (X := (((p - 4) / 4 : Nat) : Int)) (nI_toInt (by omega)) (by omega) (by omega)) (by rw [nI_clamp (by omega)]; exact r50) ?_
                      refine z_ior (z := nI (bR (fun i => s (pOf ln (aFs sg (40 * p + m)) i - 40 * p)) (aOf (sg (40 * p + m)).toInt).toNat ||| be ((p - 4) / 4))) (fa_or _ _) dX8_mayOf_332 ?_
                      refine e_istore (ls2 := [some (.inr 10), some (.inl (nI p)), some (.inl (nI (40 * p))), some (.inl (nI m)), some (.inl (sg (40 * p + m))), y5, some (.inl (nI ((aOf (sg (40 * p + m)).toInt).toNat))), some (.inl (nI (bR (fun i => s (pOf ln (aFs sg (40 * p + m)) i - 40 * p)) (aOf (sg (40 * p + m)).toInt).toNat ||| be ((p - 4) / 4)))), y8, y9, y10, y11, y12]) dX8_mayOf_333 (Nat.le_of_ble_eq_true rfl) rfl ?_
                      have q := fin f50 (some (.inl (sg (40 * p + m)))) y5 (some (.inl (nI ((aOf (sg (40 * p + m)).toInt).toNat)))) y8 y9 y10 y11 y12 (by rw [eW]; exact h50)
                      rw [eX] at q
                      exact q
                  · intro e_172_f c_172_f
                    exfalso; omega
                · intro e_150_f c_150_f
                  exfalso; omega
          · have eX : mX sg ln sz ma p m be s = bR (fun i => s (pOf ln (aFs sg (40 * p + m)) i - 40 * p)) (aOf (sg (40 * p + m)).toInt).toNat := by unfold mX yG; rw [if_neg h1, if_neg h2, if_neg h3]
            have eW : yW sg be (40 * p + m) (mX sg ln sz ma p m be s) = be := if_neg h2
            refine e_iload dX8_mayOf_132 rfl ?_
            refine e_bipush (v := 112) dX8_mayOf_134 (by decide) ?_
            refine b_icmp_eq (X := (sg (40 * p + m)).toInt) (Y := 112) (tgt := 153) rfl (by decide) dX8_mayOf_136 (by decide) ?_ ?_
            · intro e_136_t c_136_t
              exfalso; omega
            · intro e_136_f c_136_f
              refine e_iload dX8_mayOf_139 rfl ?_
              refine e_bipush (v := 113) dX8_mayOf_141 (by decide) ?_
              refine b_icmp_eq (X := (sg (40 * p + m)).toInt) (Y := 113) (tgt := 153) rfl (by decide) dX8_mayOf_143 (by decide) ?_ ?_
              · intro e_143_t c_143_t
                exfalso; omega
              · intro e_143_f c_143_f
                refine e_iload dX8_mayOf_146 rfl ?_
                refine e_bipush (v := 114) dX8_mayOf_148 (by decide) ?_
                refine b_icmp_ne (X := (sg (40 * p + m)).toInt) (Y := 114) (tgt := 168) rfl (by decide) dX8_mayOf_150 (by decide) ?_ ?_
                · intro e_150_t c_150_t
                  refine e_iload dX8_mayOf_168 rfl ?_
                  refine e_bipush (v := 64) dX8_mayOf_170 (by decide) ?_
                  refine b_icmp_ne (X := (sg (40 * p + m)).toInt) (Y := 64) (tgt := 313) rfl (by decide) dX8_mayOf_172 (by decide) ?_ ?_
                  · intro e_172_t c_172_t
                    refine e_iload dX8_mayOf_313 rfl ?_
                    refine e_bipush (v := 107) dX8_mayOf_315 (by decide) ?_
                    refine b_icmp_ne (X := (sg (40 * p + m)).toInt) (Y := 107) (tgt := 335) rfl (by decide) dX8_mayOf_317 (by decide) ?_ ?_
                    · intro e_317_t c_317_t
                      have q := fin f50 (some (.inl (sg (40 * p + m)))) y5 (some (.inl (nI ((aOf (sg (40 * p + m)).toInt).toNat)))) y8 y9 y10 y11 y12 (by rw [eW]; exact h50)
                      rw [eX] at q
                      exact q
                    · intro e_317_f c_317_f
                      exfalso; omega
                  · intro e_172_f c_172_f
                    exfalso; omega
                · intro e_150_f c_150_f
                  exfalso; omega
    by_cases hV : aV sg sz (40 * p + m)
    · refine e_iload_n (i := 3) dX8_mayOf_14 rfl rfl ?_
      refine b_if_lt (X := ((m : Nat) : Int)) (tgt := 349) (nI_toInt (by omega)) dX8_mayOf_15 (by decide) ?_ ?_
      · intro c_15_t
        exfalso; omega
      · intro c_15_f
        refine e_aload_n (i := 0) dX8_mayOf_18 rfl rfl ?_
        refine e_getR (r := 30) dX8_mayOf_19 fl_X8_16 sh_10 fj_10_3 ?_
        refine e_iload_n (i := 2) dX8_mayOf_22 rfl rfl ?_
        refine e_iload_n (i := 3) dX8_mayOf_23 rfl rfl ?_
        refine z_iadd (z := nI (40 * p + m)) (nI_add _ _) dX8_mayOf_24 ?_
        refine e_iald (x := sg (40 * p + m)) dX8_mayOf_25 sh_30 (vin_ofX (X := ((40 * p + m : Nat) : Int)) (nI_toInt (by omega)) (by omega) (by omega)) (by rw [nI_clamp (by omega)]; exact (hM.1 _ (by omega))) ?_
        refine e_istore (ls2 := [some (.inr 10), some (.inl (nI p)), some (.inl (nI (40 * p))), some (.inl (nI m)), some (.inl (sg (40 * p + m))), y5, y6, y7, y8, y9, y10, y11, y12]) dX8_mayOf_26 (Nat.le_of_ble_eq_true rfl) rfl ?_
        refine e_iload_n (i := 3) dX8_mayOf_28 rfl rfl ?_
        refine b_if_le (X := ((m : Nat) : Int)) (tgt := 51) (nI_toInt (by omega)) dX8_mayOf_29 (by decide) ?_ ?_
        · intro c_29_t
          refine e_iconst (v := 0) dX8_mayOf_51 (by decide) ?_
          refine e_istore (ls2 := [some (.inr 10), some (.inl (nI p)), some (.inl (nI (40 * p))), some (.inl (nI m)), some (.inl (sg (40 * p + m))), some (.inl 0), y6, y7, y8, y9, y10, y11, y12]) dX8_mayOf_52 (Nat.le_of_ble_eq_true rfl) rfl ?_
          refine e_iload dX8_mayOf_54 rfl ?_
          refine b_if_eq (X := 0) (tgt := 63) (by decide) dX8_mayOf_56 (by decide) ?_ ?_
          · intro e_56_t c_56_t
            refine e_iload dX8_mayOf_63 rfl ?_
            refine e_iconst (v := 1) dX8_mayOf_65 (by decide) ?_
            refine e_invSi (As := [.inl (sg (40 * p + m)), .inl 1]) (v := nI ((aOf (sg (40 * p + m)).toInt).toNat)) (h2 := (vH h f51 f50)) dX8_mayOf_66 lk_X8_93 ys_X8_partsOf rfl rfl rfl (Nat.le_of_ble_eq_true rfl) (Nat.le_of_ble_eq_true rfl) ⟨Nat.le_of_ble_eq_true rfl, Nat.le_of_ble_eq_true rfl⟩ (k_M_partsX l (vH h f51 f50) (sg (40 * p + m)) a1) ?_
            refine e_istore (ls2 := [some (.inr 10), some (.inl (nI p)), some (.inl (nI (40 * p))), some (.inl (nI m)), some (.inl (sg (40 * p + m))), some (.inl 0), some (.inl (nI ((aOf (sg (40 * p + m)).toInt).toNat))), y7, y8, y9, y10, y11, y12]) dX8_mayOf_69 (Nat.le_of_ble_eq_true rfl) rfl ?_
            refine e_iconst (v := 0) dX8_mayOf_71 (by decide) ?_
            refine e_istore (ls2 := [some (.inr 10), some (.inl (nI p)), some (.inl (nI (40 * p))), some (.inl (nI m)), some (.inl (sg (40 * p + m))), some (.inl 0), some (.inl (nI ((aOf (sg (40 * p + m)).toInt).toNat))), some (.inl 0), y8, y9, y10, y11, y12]) dX8_mayOf_72 (Nat.le_of_ble_eq_true rfl) rfl ?_
            refine e_iload_n (i := 3) dX8_mayOf_74 rfl rfl ?_
            refine e_iload dX8_mayOf_75 rfl ?_
            refine e_bipush (v := 64) dX8_mayOf_77 (by decide) ?_
            refine b_icmp_ne (X := (sg (40 * p + m)).toInt) (Y := 64) (tgt := 86) rfl (by decide) dX8_mayOf_79 (by decide) ?_ ?_
            · intro e_79_t c_79_t
              refine e_iconst (v := 1) dX8_mayOf_86 (by decide) ?_
              refine z_iadd (z := nI (m + 1)) (nI_addc _ 1) dX8_mayOf_87 ?_
              refine e_istore (ls2 := [some (.inr 10), some (.inl (nI p)), some (.inl (nI (40 * p))), some (.inl (nI m)), some (.inl (sg (40 * p + m))), some (.inl 0), some (.inl (nI ((aOf (sg (40 * p + m)).toInt).toNat))), some (.inl 0), some (.inl (nI (m + 1))), y9, y10, y11, y12]) dX8_mayOf_88 (Nat.le_of_ble_eq_true rfl) rfl ?_
              refine e_iconst (v := 0) dX8_mayOf_90 (by decide) ?_
              refine e_istore (ls2 := [some (.inr 10), some (.inl (nI p)), some (.inl (nI (40 * p))), some (.inl (nI m)), some (.inl (sg (40 * p + m))), some (.inl 0), some (.inl (nI ((aOf (sg (40 * p + m)).toInt).toNat))), some (.inl 0), some (.inl (nI (m + 1))), some (.inl 0), y10, y11, y12]) dX8_mayOf_91 (Nat.le_of_ble_eq_true rfl) rfl ?_
              have hfs : aFs sg (40 * p + m) = 40 * p + (m + 1) := by unfold aFs; rw [if_neg c_79_t]; omega
              have q := lp_M_may3 l (vH h f51 f50) sg ln s p m (aOf (sg (40 * p + m)).toInt).toNat hp0 (by omega) ho (fun i hi => by
                obtain ⟨b1, b2, b3⟩ := a2 i hi
                have b6 := (hB.2 _ b1).2.1
                obtain ⟨c1, c2, c3⟩ := mX_sub hB hp0 (show m < sz p by omega) hi
                rw [e40] at b2
                rw [b2] at b6
                refine ⟨b1.1, b2, hj _ (by omega) c2, hM.2.2 _ b1, by show pOf ln (aFs sg (40 * p + m)) i + ln (pOf ln (aFs sg (40 * p + m)) i) ≤ 800; omega⟩) (some (.inl (sg (40 * p + m)))) (some (.inl 0)) y10 y11 y12 RT (fun y8 y9 => k132 _ _ _ _ _ _) _ 0 (Nat.zero_add _)
              rw [show pOf ln (aFs sg (40 * p + m)) 0 - 40 * p = m + 1 from by show aFs sg (40 * p + m) - 40 * p = _; omega] at q
              exact q
            · intro e_79_f c_79_f
              refine e_iconst (v := 2) dX8_mayOf_82 (by decide) ?_
              refine e_goto (tgt := 87) dX8_mayOf_83 (by decide) ?_
              refine z_iadd (z := nI (m + 2)) (nI_addc _ 2) dX8_mayOf_87 ?_
              refine e_istore (ls2 := [some (.inr 10), some (.inl (nI p)), some (.inl (nI (40 * p))), some (.inl (nI m)), some (.inl (sg (40 * p + m))), some (.inl 0), some (.inl (nI ((aOf (sg (40 * p + m)).toInt).toNat))), some (.inl 0), some (.inl (nI (m + 2))), y9, y10, y11, y12]) dX8_mayOf_88 (Nat.le_of_ble_eq_true rfl) rfl ?_
              refine e_iconst (v := 0) dX8_mayOf_90 (by decide) ?_
              refine e_istore (ls2 := [some (.inr 10), some (.inl (nI p)), some (.inl (nI (40 * p))), some (.inl (nI m)), some (.inl (sg (40 * p + m))), some (.inl 0), some (.inl (nI ((aOf (sg (40 * p + m)).toInt).toNat))), some (.inl 0), some (.inl (nI (m + 2))), some (.inl 0), y10, y11, y12]) dX8_mayOf_91 (Nat.le_of_ble_eq_true rfl) rfl ?_
              have hfs : aFs sg (40 * p + m) = 40 * p + (m + 2) := by unfold aFs; rw [if_pos c_79_f]; omega
              have q := lp_M_may3 l (vH h f51 f50) sg ln s p m (aOf (sg (40 * p + m)).toInt).toNat hp0 (by omega) ho (fun i hi => by
                obtain ⟨b1, b2, b3⟩ := a2 i hi
                have b6 := (hB.2 _ b1).2.1
                obtain ⟨c1, c2, c3⟩ := mX_sub hB hp0 (show m < sz p by omega) hi
                rw [e40] at b2
                rw [b2] at b6
                refine ⟨b1.1, b2, hj _ (by omega) c2, hM.2.2 _ b1, by show pOf ln (aFs sg (40 * p + m)) i + ln (pOf ln (aFs sg (40 * p + m)) i) ≤ 800; omega⟩) (some (.inl (sg (40 * p + m)))) (some (.inl 0)) y10 y11 y12 RT (fun y8 y9 => k132 _ _ _ _ _ _) _ 0 (Nat.zero_add _)
              rw [show pOf ln (aFs sg (40 * p + m)) 0 - 40 * p = m + 2 from by show aFs sg (40 * p + m) - 40 * p = _; omega] at q
              exact q
          · intro e_56_f c_56_f
            exfalso; omega
        · intro c_29_f
          refine e_aload_n (i := 0) dX8_mayOf_32 rfl rfl ?_
          refine e_getR (r := 30) dX8_mayOf_33 fl_X8_16 sh_10 fj_10_3 ?_
          refine e_iload_n (i := 2) dX8_mayOf_36 rfl rfl ?_
          refine e_iload_n (i := 3) dX8_mayOf_37 rfl rfl ?_
          refine z_iadd (z := nI (40 * p + m)) (nI_add _ _) dX8_mayOf_38 ?_
          refine e_iconst (v := 1) dX8_mayOf_39 (by decide) ?_
          refine z_isub (z := nI (40 * p + m - 1)) (nI_subc 1 (by omega)) dX8_mayOf_40 ?_
          refine e_iald (x := sg (40 * p + m - 1)) dX8_mayOf_41 sh_30 (vin_ofX (X := ((40 * p + m - 1 : Nat) : Int)) (nI_toInt (by omega)) (by omega) (by omega)) (by rw [nI_clamp (by omega)]; exact (hM.1 _ (by omega))) ?_
          refine e_bipush (v := 64) dX8_mayOf_42 (by decide) ?_
          refine b_icmp_ne (X := (sg (40 * p + m - 1)).toInt) (Y := 64) (tgt := 51) rfl (by decide) dX8_mayOf_44 (by decide) ?_ ?_
          · intro e_44_t c_44_t
            refine e_iconst (v := 0) dX8_mayOf_51 (by decide) ?_
            refine e_istore (ls2 := [some (.inr 10), some (.inl (nI p)), some (.inl (nI (40 * p))), some (.inl (nI m)), some (.inl (sg (40 * p + m))), some (.inl 0), y6, y7, y8, y9, y10, y11, y12]) dX8_mayOf_52 (Nat.le_of_ble_eq_true rfl) rfl ?_
            refine e_iload dX8_mayOf_54 rfl ?_
            refine b_if_eq (X := 0) (tgt := 63) (by decide) dX8_mayOf_56 (by decide) ?_ ?_
            · intro e_56_t c_56_t
              refine e_iload dX8_mayOf_63 rfl ?_
              refine e_iconst (v := 1) dX8_mayOf_65 (by decide) ?_
              refine e_invSi (As := [.inl (sg (40 * p + m)), .inl 1]) (v := nI ((aOf (sg (40 * p + m)).toInt).toNat)) (h2 := (vH h f51 f50)) dX8_mayOf_66 lk_X8_93 ys_X8_partsOf rfl rfl rfl (Nat.le_of_ble_eq_true rfl) (Nat.le_of_ble_eq_true rfl) ⟨Nat.le_of_ble_eq_true rfl, Nat.le_of_ble_eq_true rfl⟩ (k_M_partsX l (vH h f51 f50) (sg (40 * p + m)) a1) ?_
              refine e_istore (ls2 := [some (.inr 10), some (.inl (nI p)), some (.inl (nI (40 * p))), some (.inl (nI m)), some (.inl (sg (40 * p + m))), some (.inl 0), some (.inl (nI ((aOf (sg (40 * p + m)).toInt).toNat))), y7, y8, y9, y10, y11, y12]) dX8_mayOf_69 (Nat.le_of_ble_eq_true rfl) rfl ?_
              refine e_iconst (v := 0) dX8_mayOf_71 (by decide) ?_
              refine e_istore (ls2 := [some (.inr 10), some (.inl (nI p)), some (.inl (nI (40 * p))), some (.inl (nI m)), some (.inl (sg (40 * p + m))), some (.inl 0), some (.inl (nI ((aOf (sg (40 * p + m)).toInt).toNat))), some (.inl 0), y8, y9, y10, y11, y12]) dX8_mayOf_72 (Nat.le_of_ble_eq_true rfl) rfl ?_
              refine e_iload_n (i := 3) dX8_mayOf_74 rfl rfl ?_
              refine e_iload dX8_mayOf_75 rfl ?_
              refine e_bipush (v := 64) dX8_mayOf_77 (by decide) ?_
              refine b_icmp_ne (X := (sg (40 * p + m)).toInt) (Y := 64) (tgt := 86) rfl (by decide) dX8_mayOf_79 (by decide) ?_ ?_
              · intro e_79_t c_79_t
                refine e_iconst (v := 1) dX8_mayOf_86 (by decide) ?_
                refine z_iadd (z := nI (m + 1)) (nI_addc _ 1) dX8_mayOf_87 ?_
                refine e_istore (ls2 := [some (.inr 10), some (.inl (nI p)), some (.inl (nI (40 * p))), some (.inl (nI m)), some (.inl (sg (40 * p + m))), some (.inl 0), some (.inl (nI ((aOf (sg (40 * p + m)).toInt).toNat))), some (.inl 0), some (.inl (nI (m + 1))), y9, y10, y11, y12]) dX8_mayOf_88 (Nat.le_of_ble_eq_true rfl) rfl ?_
                refine e_iconst (v := 0) dX8_mayOf_90 (by decide) ?_
                refine e_istore (ls2 := [some (.inr 10), some (.inl (nI p)), some (.inl (nI (40 * p))), some (.inl (nI m)), some (.inl (sg (40 * p + m))), some (.inl 0), some (.inl (nI ((aOf (sg (40 * p + m)).toInt).toNat))), some (.inl 0), some (.inl (nI (m + 1))), some (.inl 0), y10, y11, y12]) dX8_mayOf_91 (Nat.le_of_ble_eq_true rfl) rfl ?_
                have hfs : aFs sg (40 * p + m) = 40 * p + (m + 1) := by unfold aFs; rw [if_neg c_79_t]; omega
                have q := lp_M_may3 l (vH h f51 f50) sg ln s p m (aOf (sg (40 * p + m)).toInt).toNat hp0 (by omega) ho (fun i hi => by
                  obtain ⟨b1, b2, b3⟩ := a2 i hi
                  have b6 := (hB.2 _ b1).2.1
                  obtain ⟨c1, c2, c3⟩ := mX_sub hB hp0 (show m < sz p by omega) hi
                  rw [e40] at b2
                  rw [b2] at b6
                  refine ⟨b1.1, b2, hj _ (by omega) c2, hM.2.2 _ b1, by show pOf ln (aFs sg (40 * p + m)) i + ln (pOf ln (aFs sg (40 * p + m)) i) ≤ 800; omega⟩) (some (.inl (sg (40 * p + m)))) (some (.inl 0)) y10 y11 y12 RT (fun y8 y9 => k132 _ _ _ _ _ _) _ 0 (Nat.zero_add _)
                rw [show pOf ln (aFs sg (40 * p + m)) 0 - 40 * p = m + 1 from by show aFs sg (40 * p + m) - 40 * p = _; omega] at q
                exact q
              · intro e_79_f c_79_f
                refine e_iconst (v := 2) dX8_mayOf_82 (by decide) ?_
                refine e_goto (tgt := 87) dX8_mayOf_83 (by decide) ?_
                refine z_iadd (z := nI (m + 2)) (nI_addc _ 2) dX8_mayOf_87 ?_
                refine e_istore (ls2 := [some (.inr 10), some (.inl (nI p)), some (.inl (nI (40 * p))), some (.inl (nI m)), some (.inl (sg (40 * p + m))), some (.inl 0), some (.inl (nI ((aOf (sg (40 * p + m)).toInt).toNat))), some (.inl 0), some (.inl (nI (m + 2))), y9, y10, y11, y12]) dX8_mayOf_88 (Nat.le_of_ble_eq_true rfl) rfl ?_
                refine e_iconst (v := 0) dX8_mayOf_90 (by decide) ?_
                refine e_istore (ls2 := [some (.inr 10), some (.inl (nI p)), some (.inl (nI (40 * p))), some (.inl (nI m)), some (.inl (sg (40 * p + m))), some (.inl 0), some (.inl (nI ((aOf (sg (40 * p + m)).toInt).toNat))), some (.inl 0), some (.inl (nI (m + 2))), some (.inl 0), y10, y11, y12]) dX8_mayOf_91 (Nat.le_of_ble_eq_true rfl) rfl ?_
                have hfs : aFs sg (40 * p + m) = 40 * p + (m + 2) := by unfold aFs; rw [if_pos c_79_f]; omega
                have q := lp_M_may3 l (vH h f51 f50) sg ln s p m (aOf (sg (40 * p + m)).toInt).toNat hp0 (by omega) ho (fun i hi => by
                  obtain ⟨b1, b2, b3⟩ := a2 i hi
                  have b6 := (hB.2 _ b1).2.1
                  obtain ⟨c1, c2, c3⟩ := mX_sub hB hp0 (show m < sz p by omega) hi
                  rw [e40] at b2
                  rw [b2] at b6
                  refine ⟨b1.1, b2, hj _ (by omega) c2, hM.2.2 _ b1, by show pOf ln (aFs sg (40 * p + m)) i + ln (pOf ln (aFs sg (40 * p + m)) i) ≤ 800; omega⟩) (some (.inl (sg (40 * p + m)))) (some (.inl 0)) y10 y11 y12 RT (fun y8 y9 => k132 _ _ _ _ _ _) _ 0 (Nat.zero_add _)
                rw [show pOf ln (aFs sg (40 * p + m)) 0 - 40 * p = m + 2 from by show aFs sg (40 * p + m) - 40 * p = _; omega] at q
                exact q
            · intro e_56_f c_56_f
              exfalso; omega
          · intro e_44_f c_44_f
            exact absurd ⟨by omega, c_44_f⟩ hV.2.2
    · obtain ⟨c1, c2, c3⟩ := a3 hV
      have hx : 0 < m ∧ (sg (40 * p + m - 1)).toInt = 64 := Classical.byContradiction (fun z => hV ⟨by omega, by rw [e40, e41]; omega, by rw [e41]; exact z⟩)
      refine e_iload_n (i := 3) dX8_mayOf_14 rfl rfl ?_
      refine b_if_lt (X := ((m : Nat) : Int)) (tgt := 349) (nI_toInt (by omega)) dX8_mayOf_15 (by decide) ?_ ?_
      · intro c_15_t
        exfalso; omega
      · intro c_15_f
        refine e_aload_n (i := 0) dX8_mayOf_18 rfl rfl ?_
        refine e_getR (r := 30) dX8_mayOf_19 fl_X8_16 sh_10 fj_10_3 ?_
        refine e_iload_n (i := 2) dX8_mayOf_22 rfl rfl ?_
        refine e_iload_n (i := 3) dX8_mayOf_23 rfl rfl ?_
        refine z_iadd (z := nI (40 * p + m)) (nI_add _ _) dX8_mayOf_24 ?_
        refine e_iald (x := sg (40 * p + m)) dX8_mayOf_25 sh_30 (vin_ofX (X := ((40 * p + m : Nat) : Int)) (nI_toInt (by omega)) (by omega) (by omega)) (by rw [nI_clamp (by omega)]; exact (hM.1 _ (by omega))) ?_
        refine e_istore (ls2 := [some (.inr 10), some (.inl (nI p)), some (.inl (nI (40 * p))), some (.inl (nI m)), some (.inl (sg (40 * p + m))), y5, y6, y7, y8, y9, y10, y11, y12]) dX8_mayOf_26 (Nat.le_of_ble_eq_true rfl) rfl ?_
        refine e_iload_n (i := 3) dX8_mayOf_28 rfl rfl ?_
        refine b_if_le (X := ((m : Nat) : Int)) (tgt := 51) (nI_toInt (by omega)) dX8_mayOf_29 (by decide) ?_ ?_
        · intro c_29_t
          exfalso; omega
        · intro c_29_f
          refine e_aload_n (i := 0) dX8_mayOf_32 rfl rfl ?_
          refine e_getR (r := 30) dX8_mayOf_33 fl_X8_16 sh_10 fj_10_3 ?_
          refine e_iload_n (i := 2) dX8_mayOf_36 rfl rfl ?_
          refine e_iload_n (i := 3) dX8_mayOf_37 rfl rfl ?_
          refine z_iadd (z := nI (40 * p + m)) (nI_add _ _) dX8_mayOf_38 ?_
          refine e_iconst (v := 1) dX8_mayOf_39 (by decide) ?_
          refine z_isub (z := nI (40 * p + m - 1)) (nI_subc 1 (by omega)) dX8_mayOf_40 ?_
          refine e_iald (x := sg (40 * p + m - 1)) dX8_mayOf_41 sh_30 (vin_ofX (X := ((40 * p + m - 1 : Nat) : Int)) (nI_toInt (by omega)) (by omega) (by omega)) (by rw [nI_clamp (by omega)]; exact (hM.1 _ (by omega))) ?_
          refine e_bipush (v := 64) dX8_mayOf_42 (by decide) ?_
          refine b_icmp_ne (X := (sg (40 * p + m - 1)).toInt) (Y := 64) (tgt := 51) rfl (by decide) dX8_mayOf_44 (by decide) ?_ ?_
          · intro e_44_t c_44_t
            exact absurd hx.2 c_44_t
          · intro e_44_f c_44_f
            refine e_iconst (v := 1) dX8_mayOf_47 (by decide) ?_
            refine e_goto (tgt := 52) dX8_mayOf_48 (by decide) ?_
            refine e_istore (ls2 := [some (.inr 10), some (.inl (nI p)), some (.inl (nI (40 * p))), some (.inl (nI m)), some (.inl (sg (40 * p + m))), some (.inl 1), y6, y7, y8, y9, y10, y11, y12]) dX8_mayOf_52 (Nat.le_of_ble_eq_true rfl) rfl ?_
            refine e_iload dX8_mayOf_54 rfl ?_
            refine b_if_eq (X := 1) (tgt := 63) (by decide) dX8_mayOf_56 (by decide) ?_ ?_
            · intro e_56_t c_56_t
              exfalso; omega
            · intro e_56_f c_56_f
              refine e_iconst (v := 0) dX8_mayOf_59 (by decide) ?_
              refine e_goto (tgt := 69) dX8_mayOf_60 (by decide) ?_
              refine e_istore (ls2 := [some (.inr 10), some (.inl (nI p)), some (.inl (nI (40 * p))), some (.inl (nI m)), some (.inl (sg (40 * p + m))), some (.inl 1), some (.inl 0), y7, y8, y9, y10, y11, y12]) dX8_mayOf_69 (Nat.le_of_ble_eq_true rfl) rfl ?_
              refine e_iconst (v := 0) dX8_mayOf_71 (by decide) ?_
              refine e_istore (ls2 := [some (.inr 10), some (.inl (nI p)), some (.inl (nI (40 * p))), some (.inl (nI m)), some (.inl (sg (40 * p + m))), some (.inl 1), some (.inl 0), some (.inl 0), y8, y9, y10, y11, y12]) dX8_mayOf_72 (Nat.le_of_ble_eq_true rfl) rfl ?_
              refine e_iload_n (i := 3) dX8_mayOf_74 rfl rfl ?_
              refine e_iload dX8_mayOf_75 rfl ?_
              refine e_bipush (v := 64) dX8_mayOf_77 (by decide) ?_
              refine b_icmp_ne (X := (sg (40 * p + m)).toInt) (Y := 64) (tgt := 86) rfl (by decide) dX8_mayOf_79 (by decide) ?_ ?_
              · intro e_79_t c_79_t
                refine e_iconst (v := 1) dX8_mayOf_86 (by decide) ?_
                refine z_iadd (z := nI (m + 1)) (nI_addc _ 1) dX8_mayOf_87 ?_
                refine e_istore (ls2 := [some (.inr 10), some (.inl (nI p)), some (.inl (nI (40 * p))), some (.inl (nI m)), some (.inl (sg (40 * p + m))), some (.inl 1), some (.inl 0), some (.inl 0), some (.inl (nI (m + 1))), y9, y10, y11, y12]) dX8_mayOf_88 (Nat.le_of_ble_eq_true rfl) rfl ?_
                refine e_iconst (v := 0) dX8_mayOf_90 (by decide) ?_
                refine e_istore (ls2 := [some (.inr 10), some (.inl (nI p)), some (.inl (nI (40 * p))), some (.inl (nI m)), some (.inl (sg (40 * p + m))), some (.inl 1), some (.inl 0), some (.inl 0), some (.inl (nI (m + 1))), some (.inl 0), y10, y11, y12]) dX8_mayOf_91 (Nat.le_of_ble_eq_true rfl) rfl ?_
                have q := lp_M_may3 l (vH h f51 f50) sg ln s p m 0 hp0 (by omega) (by omega) (fun i hi => absurd hi (Nat.not_lt_zero _)) (some (.inl (sg (40 * p + m)))) (some (.inl 1)) y10 y11 y12 RT (fun y8 y9 => by have q := k132 (some (.inl 1)) y8 y9 y10 y11 y12; rw [c1] at q; exact q) _ 0 (Nat.zero_add _)
                rw [show pOf ln (aFs sg (40 * p + m)) 0 - 40 * p = m + 1 from by show aFs sg (40 * p + m) - 40 * p = _; unfold aFs; rw [if_neg (by omega)]; omega] at q
                exact q
              · intro e_79_f c_79_f
                exfalso; omega
set_option maxHeartbeats 1000000 in
theorem k_M_mayOf (l : Launch) {sg : Nat → Int32} {ln sz : Nat → Nat} (hB : aWB sg ln sz) (h : mH) (hM : MB sg ln sz h) (A W ma be : Nat → Nat) (hc : yCl sg ln sz A W) (hr9 : rI sg ln sz A W ma be) (h49 : ∀ p, p < 20 → h 49 p = nI (ma p)) (f51 f50 : Nat → Int32) (h50 : rw9 f50 be 4) (p : Nat) (hp0 : p < 20) : mG l Sh0 iX8_mayOf [.inr 10, .inl (nI p)] (vH h f51 f50) (fun v h' => ∃ g51 g50 be' x, v = some (nI x) ∧ h' = vH h g51 g50 ∧ rw9 g50 be' 4 ∧ rP sg ln sz W ma be p x be') := by
  have hz40 := hB.1 p hp0
  have r29 := hM.2.1 p hp0
  intro RT hR
  show mE l Sh0 none iX8_mayOf RT 0 [some (.inr 10), some (.inl (nI p)), none, none, none, none, none, none, none, none, none, none, none] [] (vH h f51 f50)
  refine e_bipush (v := 40) dX8_mayOf_0 (by decide) ?_
  refine e_iload_n (i := 1) dX8_mayOf_2 rfl rfl ?_
  refine z_imul (z := nI (40 * p)) (nI_mulcl 40 _) dX8_mayOf_3 ?_
  refine e_istore_n (i := 2) (ls2 := [some (.inr 10), some (.inl (nI p)), some (.inl (nI (40 * p))), none, none, none, none, none, none, none, none, none, none]) dX8_mayOf_4 rfl (Nat.le_of_ble_eq_true rfl) rfl ?_
  refine e_aload_n (i := 0) dX8_mayOf_5 rfl rfl ?_
  refine e_getR (r := 29) dX8_mayOf_6 fl_X8_13 sh_10 fj_10_2 ?_
  refine e_iload_n (i := 1) dX8_mayOf_9 rfl rfl ?_
  refine e_iald (x := nI (sz p)) dX8_mayOf_10 sh_29 (vin_ofX (X := ((p : Nat) : Int)) (nI_toInt (by omega)) (by omega) (by omega)) (by rw [nI_clamp (by omega)]; exact r29) ?_
  refine e_iconst (v := 1) dX8_mayOf_11 (by decide) ?_
  refine z_isub (z := dn (sz p)) rfl dX8_mayOf_12 ?_
  refine e_istore_n (i := 3) (ls2 := [some (.inr 10), some (.inl (nI p)), some (.inl (nI (40 * p))), some (.inl (dn (sz p))), none, none, none, none, none, none, none, none, none]) dX8_mayOf_13 rfl (Nat.le_of_ble_eq_true rfl) rfl ?_
  refine lp_M_may l hB h hM A W ma be hc hr9.1 (fun p _ => hr9.2.2.2.2.1 p) h49 p hp0 RT (fun g51 g50 be' s a1 a2 a3 => hR _ _ ⟨g51, g50, be', _, rfl, rfl, a1, ?_⟩) (sz p) f51 f50 be (fun _ => 0) _ _ _ _ _ _ _ _ _ (Nat.le_refl _) h50 (fun j j1 j2 => absurd j1 (by omega)) ⟨fun _ _ => sb_refl _, hr9.2.1, hr9.2.2.2.2.2, fun j j1 j2 => absurd j1 (by omega)⟩
  obtain ⟨q1, q2, q3, q4⟩ := a3
  refine ⟨?_, q1, q2, q3, fun z => if_pos z, fun z => ?_, fun j hj z => ?_⟩
  · split
    · omega
    · exact (q4 0 (Nat.le_refl _) (by omega)).1
  · rw [if_neg (by omega)]
    exact ⟨(q4 0 (Nat.le_refl _) z).2.1, (q4 0 (Nat.le_refl _) z).2.2.1⟩
  · exact sb_trans (q4 j (Nat.zero_le _) hj).2.1 ((q4 j (Nat.zero_le _) hj).2.2.2 z)
