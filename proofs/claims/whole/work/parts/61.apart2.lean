/-! apart: alike. -/
theorem vl_z (b : Nat) : ∀ m, vl b (fun _ => 0) m = 0
  | 0 => rfl
  | m + 1 => by show vl b (fun _ => 0) m * b + 0 = 0; rw [vl_z b m, Nat.zero_mul]
set_option maxHeartbeats 1000000 in
theorem k_D_differ (l : Launch) {sg : Nat → Int32} {ln sz : Nat → Nat} (hB : aWB sg ln sz) (h : mH) (hC : CB sg ln sz h) (p x p2 x2 c : Nat) (hp : p < 4) (hz : 0 < sz p) (hx : x < 8) (hp2 : p2 < 4) (hz2 : 0 < sz p2) (hx2 : x2 < 8) (hc : c ≤ 2) (n : Nat) (hn : n ≤ 4) (hs9 : ∀ m, m < n → alN sg ln sz p x p2 x2 c m) (h4 : h 4 1 = nI n) (h17 : ∀ j, j < n → h 17 j = nI 0) : mG l Sh0 iX7_differ [.inr 0, .inl (nI p), .inl (nI x), .inl (nI p2), .inl (nI x2), .inl (nI c)] h (fun v h' => ∃ b, v = some (bI b) ∧ KQ h h' ∧ (b = false → alN sg ln sz p x p2 x2 c n) ∧ (b = true → ∃ k, h' 4 1 = nI n ∧ k < (c + 1) ^ n ∧ (∀ j, j < n → h' 17 j = nI ((dg (c + 1) n k).getD j 0)) ∧ (∀ j, j < k → alk sg ln sz p x p2 x2 c n j) ∧ ¬ alk sg ln sz p x p2 x2 c n k)) := by
  intro RT hR
  show mE l Sh0 none iX7_differ RT 0 [some (.inr 0), some (.inl (nI p)), some (.inl (nI x)), some (.inl (nI p2)), some (.inl (nI x2)), some (.inl (nI c)), none, none, none, none] [] h
  refine e_iconst (v := 1) dX7_differ_0 (by decide) ?_
  refine e_istore (ls2 := [some (.inr 0), some (.inl (nI p)), some (.inl (nI x)), some (.inl (nI p2)), some (.inl (nI x2)), some (.inl (nI c)), some (.inl 1), none, none, none]) dX7_differ_1 (Nat.le_of_ble_eq_true rfl) rfl ?_
  refine e_iconst (v := 0) dX7_differ_3 (by decide) ?_
  refine e_istore (ls2 := [some (.inr 0), some (.inl (nI p)), some (.inl (nI x)), some (.inl (nI p2)), some (.inl (nI x2)), some (.inl (nI c)), some (.inl 1), some (.inl 0), none, none]) dX7_differ_4 (Nat.le_of_ble_eq_true rfl) rfl ?_
  have q := lp_D_differ l hB h hC p x p2 x2 c n hp hz hx hp2 hz2 hx2 hc hn hs9 RT (fun h' a b => hR _ _ ⟨false, rfl, a, fun _ => b, fun z => by cases z⟩) (fun h' k a1 a2 a3 a4 a5 a6 => hR _ _ ⟨true, rfl, a1, fun z => (by cases z), fun _ => ⟨k, a2, a3, a4, a5, a6⟩⟩) ((c + 1) ^ n) (fun _ => 0) h 0 none none (by omega) (Nat.zero_le _) (fun _ _ => Nat.zero_le _) (fun _ _ _ => rfl) (fun a _ => rfl) h4 h17 (fun j hj => by rw [vl_z] at hj; exact absurd hj (Nat.not_lt_zero _))
  exact q
theorem tell_ap {c n k : Nat} {u : mH} (hn : n ≤ 4) (u4 : u 4 1 = nI n) (u17 : ∀ j, j < n → u 17 j = nI ((dg (c + 1) n k).getD j 0)) (i : Int32) : rTell u 4 17 i = pAns c (some (n, k)) i := by
  show _ = (if i.toInt = -1 then nI n else if 0 ≤ i.toInt ∧ i.toInt < n then nI ((dg (c + 1) n k).getD i.toInt.toNat 0) else -6)
  unfold rTell
  rw [u4, nI_toInt (by omega)]
  by_cases h1 : i.toInt = -1
  · rw [if_pos h1, if_pos h1]
  · rw [if_neg h1, if_neg h1]
    by_cases h2 : 0 ≤ i.toInt ∧ i.toInt < n
    · rw [if_pos h2, if_pos h2]
      unfold rVal
      rw [u4, nI_toInt (by omega), if_pos (by omega)]
      exact u17 _ (by omega)
    · rw [if_neg h2, if_neg h2]
set_option maxHeartbeats 2000000 in
theorem lp_D_apart (l : Launch) {sg : Nat → Int32} {ln sz : Nat → Nat} (hB : aWB sg ln sz) (h0 : mH) (hC0 : CB sg ln sz h0) (p x p2 x2 c : Nat) (hp : p < 4) (hz : 0 < sz p) (hx : x < 8) (hp2 : p2 < 4) (hz2 : 0 < sz p2) (hx2 : x2 < 8) (hc : c ≤ 2) (len : Nat) (hn : len ≤ 4) (i : Int32) (RT : Option Int32 → mH → Prop) (hR : ∀ h' o, KQ h0 h' → aP sg ln sz p x p2 x2 c len o → RT (some (pAns c o i)) h') : ∀ (d n : Nat) (h : mH), n + d = len + 1 → KQ h0 h → (∀ m, m < n → alN sg ln sz p x p2 x2 c m) → mE l Sh0 none iX7_apart RT 47 [some (.inr 0), some (.inl (nI p)), some (.inl (nI x)), some (.inl (nI p2)), some (.inl (nI x2)), some (.inl (nI len)), some (.inl (nI c)), some (.inl i), some (.inl (nI n))] [] h := by
  intro d
  induction d with
  | zero =>
    intro n h hd kq hal
    refine e_iload dX7_apart_47 rfl ?_
    refine e_iload dX7_apart_49 rfl ?_
    refine b_icmp_gt (X := ((n : Nat) : Int)) (Y := ((len : Nat) : Int)) (tgt := 93) (nI_toInt (by omega)) (nI_toInt (by omega)) dX7_apart_51 (by decide) ?_ ?_
    · intro c_51_t
      refine e_bipush (v := (-6)) dX7_apart_93 (by decide) ?_
      refine e_iret dX7_apart_95 (mret_i _) ?_
      exact hR h none kq (Or.inl ⟨rfl, fun m hm => hal m (by omega)⟩)
    · intro c_51_f
      exfalso; omega
  | succ d ih =>
    intro n h hd kq hal
    have kq2 : KQ h0 (hr (hs h 4 1 (nI n)) 17 (zf (h 17) n)) := (kq.st _).nx _
    have kd := k_D_differ l hB (hr (hs h 4 1 (nI n)) 17 (zf (h 17) n)) (CB.kq kq2 hC0) p x p2 x2 c hp hz hx hp2 hz2 hx2 hc n (by omega) hal rfl (fun j hj => zf_in hj)
    refine e_iload dX7_apart_47 rfl ?_
    refine e_iload dX7_apart_49 rfl ?_
    refine b_icmp_gt (X := ((n : Nat) : Int)) (Y := ((len : Nat) : Int)) (tgt := 93) (nI_toInt (by omega)) (nI_toInt (by omega)) dX7_apart_51 (by decide) ?_ ?_
    · intro c_51_t
      exfalso; omega
    · intro c_51_f
      refine e_aload_n (i := 0) dX7_apart_54 rfl rfl ?_
      refine e_getR (r := 4) dX7_apart_55 fl_X7_30 sh_0 fj_0_3 ?_
      refine e_iload dX7_apart_58 rfl ?_
      refine e_invVv (As := [.inl (nI n)]) (h2 := (hr (hs h 4 1 (nI n)) 17 (zf (h 17) n))) (ty := .int) (v := 0) dX7_apart_60 lk_X7_101 yv_X3_start rfl rfl rfl (Nat.le_of_ble_eq_true rfl) sh_4 ci_X3 (Nat.le_of_ble_eq_true rfl) ⟨Nat.le_of_ble_eq_true rfl, Nat.le_of_ble_eq_true rfl⟩ (k_R_start l sh_4 sh_17 h n (by omega)) ?_
      refine e_aload_n (i := 0) dX7_apart_63 rfl rfl ?_
      refine e_iload_n (i := 1) dX7_apart_64 rfl rfl ?_
      refine e_iload_n (i := 2) dX7_apart_65 rfl rfl ?_
      refine e_iload_n (i := 3) dX7_apart_66 rfl rfl ?_
      refine e_iload dX7_apart_67 rfl ?_
      refine e_iload dX7_apart_69 rfl ?_
      refine e_invViG (As := [.inl (nI p), .inl (nI x), .inl (nI p2), .inl (nI x2), .inl (nI c)]) dX7_apart_71 lk_X7_131 yv_X7_differ rfl rfl rfl (Nat.le_of_ble_eq_true rfl) sh_0 ci_X7 (Nat.le_of_ble_eq_true rfl) ⟨Nat.le_of_ble_eq_true rfl, Nat.le_of_ble_eq_true rfl⟩ kd ?_
      rintro w' u ⟨b, hv, ku, b0, b1⟩
      obtain rfl := Option.some.inj hv
      have kq3 : KQ h0 u := fun a ha => (ku a ha).trans (kq2 a ha)
      refine b_if_eq (X := (bI b).toInt) (tgt := 87) rfl dX7_apart_74 (by decide) ?_ ?_
      · intro e_74_t c_74_t
        refine e_iinc (v := nI (n + 1)) (ls2 := [some (.inr 0), some (.inl (nI p)), some (.inl (nI x)), some (.inl (nI p2)), some (.inl (nI x2)), some (.inl (nI len)), some (.inl (nI c)), some (.inl i), some (.inl (nI (n + 1)))]) dX7_apart_87 rfl (nI_inc1 _) (Nat.le_of_ble_eq_true rfl) rfl ?_
        refine e_goto (tgt := 47) dX7_apart_90 (by decide) ?_
        have hb9 : b = false := by cases b <;> first | rfl | (exfalso; revert e_74_t; decide)
        exact ih (n + 1) u (by omega) kq3 (fun m hm => by
          by_cases z : m = n
          · subst z; exact b0 hb9
          · exact hal m (by omega))
      · intro e_74_f c_74_f
        refine e_aload_n (i := 0) dX7_apart_77 rfl rfl ?_
        refine e_getR (r := 4) dX7_apart_78 fl_X7_30 sh_0 fj_0_3 ?_
        refine e_iload dX7_apart_81 rfl ?_
        refine e_invVi (As := [.inl i]) (v := rTell u 4 17 i) (h2 := u) dX7_apart_83 lk_X7_130 yv_X3_tell rfl rfl rfl (Nat.le_of_ble_eq_true rfl) sh_4 ci_X3 (Nat.le_of_ble_eq_true rfl) ⟨Nat.le_of_ble_eq_true rfl, Nat.le_of_ble_eq_true rfl⟩ (k_R_tell l sh_4 sh_17 u i) ?_
        refine e_iret dX7_apart_86 (mret_i _) ?_
        have hb9 : b = true := by cases b <;> first | rfl | (exfalso; revert e_74_f; decide)
        obtain ⟨k, u4, k1, u17, k2, k3⟩ := b1 hb9
        rw [tell_ap (by omega) u4 u17 i]
        exact hR u (some (n, k)) kq3 (Or.inr ⟨n, k, rfl, by omega, k1, k3, k2, hal⟩)
set_option maxHeartbeats 4000000 in
theorem lp_M_apart (l : Launch) {sg : Nat → Int32} {ln sz : Nat → Nat} (hB : aWB sg ln sz) (h0 : mH) (hM0 : MB sg ln sz h0) (p x p2 x2 c : Nat) (hp : p < 4) (hz : 0 < sz p) (hx : x < 8) (hp2 : p2 < 4) (hz2 : 0 < sz p2) (hx2 : x2 < 8) (hc : c ≤ 2) (len n : Nat) (hn : n ≤ 4) (hnl : n ≤ len) (hl4 : len ≤ 4) (i : Int32) (hs9 : ∀ m, m < n → alN sg ln sz p x p2 x2 c m) (RT : Option Int32 → mH → Prop) (hR : ∀ h' o, KL h0 h' → aP sg ln sz p x p2 x2 c len o → RT (some (pAns c o i)) h') (hk : ∀ h y9 y10 y11 y12 y13, KL h0 h → alN sg ln sz p x p2 x2 c n → mE l Sh0 none iX8_apart RT 181 [some (.inr 10), some (.inl (nI p)), some (.inl (nI x)), some (.inl (nI p2)), some (.inl (nI x2)), some (.inl (nI len)), some (.inl (nI c)), some (.inl i), some (.inl (nI n)), y9, y10, y11, y12, y13] [] h) : ∀ (d k : Nat) (h : mH) (y10 y11 y12 y13 : Option mV), k + d = (c + 1) ^ n → KL h0 h → (∀ j, j < k → alk sg ln sz p x p2 x2 c n j) → mE l Sh0 none iX8_apart RT 54 [some (.inr 10), some (.inl (nI p)), some (.inl (nI x)), some (.inl (nI p2)), some (.inl (nI x2)), some (.inl (nI len)), some (.inl (nI c)), some (.inl i), some (.inl (nI n)), some (.inl (nI k)), y10, y11, y12, y13] [] h := by
  have h81 := pow81 hc hn
  intro d
  induction d with
  | zero =>
    intro k h y10 y11 y12 y13 hd kl hal
    refine e_iload dX8_apart_54 rfl ?_
    refine e_iload dX8_apart_56 rfl ?_
    refine e_iload dX8_apart_58 rfl ?_
    refine e_invSi (As := [.inl (nI n), .inl (nI c)]) (v := nI ((c + 1) ^ n)) (h2 := h) dX8_apart_60 lk_X8_221 ys_X8_rows rfl rfl rfl (Nat.le_of_ble_eq_true rfl) (Nat.le_of_ble_eq_true rfl) ⟨Nat.le_of_ble_eq_true rfl, Nat.le_of_ble_eq_true rfl⟩ (k_M_rows l h n c hn hc) ?_
    refine b_icmp_ge (X := ((k : Nat) : Int)) (Y := (((c + 1) ^ n : Nat) : Int)) (tgt := 181) (nI_toInt (by omega)) (nI_toInt (by omega)) dX8_apart_63 (by decide) ?_ ?_
    · intro c_63_t
      exact hk h _ _ _ _ _ kl (fun j hj => hal j (by omega))
    · intro c_63_f
      exfalso; omega
  | succ d ih =>
    intro k h y10 y11 y12 y13 hd kl hal
    have ok1 : eOk (rnC sg ln sz p x (c + 1) n k) := rnR_ok hB hp hz hx (dg8 hc)
    have ok2 : eOk (rnC sg ln sz p2 x2 (c + 1) n k) := rnR_ok hB hp2 hz2 hx2 (dg8 hc)
    have kg := KL.gv kl c n k
    have out : ∀ (v : mH) (y10 y11 y12 : Option mV), KL h0 v → (∀ j, j < n → v 47 j = nI ((dg (c + 1) n k).getD j 0)) → ¬ alk sg ln sz p x p2 x2 c n k → mE l Sh0 none iX8_apart RT 130 [some (.inr 10), some (.inl (nI p)), some (.inl (nI x)), some (.inl (nI p2)), some (.inl (nI x2)), some (.inl (nI len)), some (.inl (nI c)), some (.inl i), some (.inl (nI n)), some (.inl (nI k)), y10, y11, y12, y13] [] v := by
      intro v y10 y11 y12 kv v47 hna
      have hRR := hR v (some (n, k)) kv (Or.inr ⟨n, k, rfl, hnl, by omega, hna, hal, hs9⟩)
      have hRR : RT (some (if i.toInt = -1 then nI n else if 0 ≤ i.toInt ∧ i.toInt < n then nI ((dg (c + 1) n k).getD i.toInt.toNat 0) else -6)) v := hRR
      by_cases hin : 0 ≤ i.toInt ∧ i.toInt < n
      · have r47 : v 47 i.toNatClampNeg = nI ((dg (c + 1) n k).getD i.toInt.toNat 0) := v47 i.toInt.toNat (by omega)
        refine e_iconst (v := 0) dX8_apart_130 (by decide) ?_
        refine e_istore (ls2 := [some (.inr 10), some (.inl (nI p)), some (.inl (nI x)), some (.inl (nI p2)), some (.inl (nI x2)), some (.inl (nI len)), some (.inl (nI c)), some (.inl i), some (.inl (nI n)), some (.inl (nI k)), y10, y11, y12, some (.inl 0)]) dX8_apart_131 (Nat.le_of_ble_eq_true rfl) rfl ?_
        refine e_iload dX8_apart_133 rfl ?_
        refine b_if_ne (X := 0) (tgt := 175) (by decide) dX8_apart_135 (by decide) ?_ ?_
        · intro e_135_t c_135_t
          exfalso; omega
        · intro e_135_f c_135_f
          refine e_iload dX8_apart_138 rfl ?_
          refine e_iconst (v := (-1)) dX8_apart_140 (by decide) ?_
          refine b_icmp_ne (X := i.toInt) (Y := (-1)) (tgt := 149) rfl (by decide) dX8_apart_141 (by decide) ?_ ?_
          · intro e_141_t c_141_t
            refine e_iload dX8_apart_149 rfl ?_
            refine e_iconst (v := 0) dX8_apart_151 (by decide) ?_
            refine e_iload dX8_apart_152 rfl ?_
            refine e_iconst (v := 1) dX8_apart_154 (by decide) ?_
            refine z_isub (z := dn n) rfl dX8_apart_155 ?_
            refine e_invSi (As := [.inl i, .inl 0, .inl (dn n)]) (v := 1) (h2 := v) dX8_apart_156 lk_X8_85 ys_X8_in rfl rfl rfl (Nat.le_of_ble_eq_true rfl) (Nat.le_of_ble_eq_true rfl) ⟨Nat.le_of_ble_eq_true rfl, Nat.le_of_ble_eq_true rfl⟩ (k_M_in (Y := 0) (Z := (n : Int) - 1) l v i 0 (dn n) rfl (by decide) (dn_toInt (by omega)) (if_pos (by omega))) ?_
            refine b_if_eq (X := 1) (tgt := 172) (by decide) dX8_apart_159 (by decide) ?_ ?_
            · intro e_159_t c_159_t
              exfalso; omega
            · intro e_159_f c_159_f
              refine e_aload_n (i := 0) dX8_apart_162 rfl rfl ?_
              refine e_getR (r := 47) dX8_apart_163 fl_X8_67 sh_10 fj_10_31 ?_
              refine e_iload dX8_apart_166 rfl ?_
              refine e_iald (x := nI ((dg (c + 1) n k).getD i.toInt.toNat 0)) dX8_apart_168 sh_47 (vin_ofX (X := i.toInt) rfl (by omega) (by omega)) r47 ?_
              refine e_goto (tgt := 174) dX8_apart_169 (by decide) ?_
              refine e_iret dX8_apart_174 (mret_i _) ?_
              rw [if_neg (by omega), if_pos hin] at hRR
              exact hRR
          · intro e_141_f c_141_f
            refine e_iload dX8_apart_144 rfl ?_
            refine e_goto (tgt := 174) dX8_apart_146 (by decide) ?_
            refine e_iret dX8_apart_174 (mret_i _) ?_
            rw [if_pos (by omega)] at hRR
            exact hRR
      · refine e_iconst (v := 0) dX8_apart_130 (by decide) ?_
        refine e_istore (ls2 := [some (.inr 10), some (.inl (nI p)), some (.inl (nI x)), some (.inl (nI p2)), some (.inl (nI x2)), some (.inl (nI len)), some (.inl (nI c)), some (.inl i), some (.inl (nI n)), some (.inl (nI k)), y10, y11, y12, some (.inl 0)]) dX8_apart_131 (Nat.le_of_ble_eq_true rfl) rfl ?_
        refine e_iload dX8_apart_133 rfl ?_
        refine b_if_ne (X := 0) (tgt := 175) (by decide) dX8_apart_135 (by decide) ?_ ?_
        · intro e_135_t c_135_t
          exfalso; omega
        · intro e_135_f c_135_f
          refine e_iload dX8_apart_138 rfl ?_
          refine e_iconst (v := (-1)) dX8_apart_140 (by decide) ?_
          refine b_icmp_ne (X := i.toInt) (Y := (-1)) (tgt := 149) rfl (by decide) dX8_apart_141 (by decide) ?_ ?_
          · intro e_141_t c_141_t
            refine e_iload dX8_apart_149 rfl ?_
            refine e_iconst (v := 0) dX8_apart_151 (by decide) ?_
            refine e_iload dX8_apart_152 rfl ?_
            refine e_iconst (v := 1) dX8_apart_154 (by decide) ?_
            refine z_isub (z := dn n) rfl dX8_apart_155 ?_
            refine e_invSi (As := [.inl i, .inl 0, .inl (dn n)]) (v := 0) (h2 := v) dX8_apart_156 lk_X8_85 ys_X8_in rfl rfl rfl (Nat.le_of_ble_eq_true rfl) (Nat.le_of_ble_eq_true rfl) ⟨Nat.le_of_ble_eq_true rfl, Nat.le_of_ble_eq_true rfl⟩ (k_M_in (Y := 0) (Z := (n : Int) - 1) l v i 0 (dn n) rfl (by decide) (dn_toInt (by omega)) (if_neg (by omega))) ?_
            refine b_if_eq (X := 0) (tgt := 172) (by decide) dX8_apart_159 (by decide) ?_ ?_
            · intro e_159_t c_159_t
              refine e_bipush (v := (-6)) dX8_apart_172 (by decide) ?_
              refine e_iret dX8_apart_174 (mret_i _) ?_
              rw [if_neg (by omega), if_neg hin] at hRR
              exact hRR
            · intro e_159_f c_159_f
              exfalso; omega
          · intro e_141_f c_141_f
            refine e_iload dX8_apart_144 rfl ?_
            refine e_goto (tgt := 174) dX8_apart_146 (by decide) ?_
            refine e_iret dX8_apart_174 (mret_i _) ?_
            rw [if_pos (by omega)] at hRR
            exact hRR
    have ke1 := k_M_end l hB (dg8 hc) (gvH h c n k) (MB.kl kg hM0) (MR_gv h (by omega) k) hp hz hx
    refine e_iload dX8_apart_54 rfl ?_
    refine e_iload dX8_apart_56 rfl ?_
    refine e_iload dX8_apart_58 rfl ?_
    refine e_invSi (As := [.inl (nI n), .inl (nI c)]) (v := nI ((c + 1) ^ n)) (h2 := h) dX8_apart_60 lk_X8_221 ys_X8_rows rfl rfl rfl (Nat.le_of_ble_eq_true rfl) (Nat.le_of_ble_eq_true rfl) ⟨Nat.le_of_ble_eq_true rfl, Nat.le_of_ble_eq_true rfl⟩ (k_M_rows l h n c hn hc) ?_
    refine b_icmp_ge (X := ((k : Nat) : Int)) (Y := (((c + 1) ^ n : Nat) : Int)) (tgt := 181) (nI_toInt (by omega)) (nI_toInt (by omega)) dX8_apart_63 (by decide) ?_ ?_
    · intro c_63_t
      exfalso; omega
    · intro c_63_f
      refine e_aload_n (i := 0) dX8_apart_66 rfl rfl ?_
      refine e_iload dX8_apart_67 rfl ?_
      refine e_iload dX8_apart_69 rfl ?_
      refine e_iload dX8_apart_71 rfl ?_
      refine e_invVv (As := [.inl (nI k), .inl (nI n), .inl (nI c)]) (h2 := (gvH h c n k)) (ty := .int) (v := 0) dX8_apart_73 lk_X8_224 yv_X8_giveRow rfl rfl rfl (Nat.le_of_ble_eq_true rfl) sh_10 ci_X8 (Nat.le_of_ble_eq_true rfl) ⟨Nat.le_of_ble_eq_true rfl, Nat.le_of_ble_eq_true rfl⟩ (k_M_giveX l h k n c hn hc (by omega)) ?_
      refine e_aload_n (i := 0) dX8_apart_76 rfl rfl ?_
      refine e_iload_n (i := 1) dX8_apart_77 rfl rfl ?_
      refine e_iload_n (i := 2) dX8_apart_78 rfl rfl ?_
      refine e_invViG (As := [.inl (nI p), .inl (nI x)]) dX8_apart_79 lk_X8_209 yv_X8_end rfl rfl rfl (Nat.le_of_ble_eq_true rfl) sh_10 ci_X8 (Nat.le_of_ble_eq_true rfl) ⟨Nat.le_of_ble_eq_true rfl, Nat.le_of_ble_eq_true rfl⟩ ke1 ?_
      rintro a1 u ⟨hv, km, me⟩
      have ha1 := Option.some.inj hv
      obtain ⟨e1, e2, e3, -⟩ := ME_p me
      rw [← ha1] at e1
      have ku := kg.km km
      have mru := MR.km km (MR_gv h (by omega) k)
      generalize ha2 : u 10 27 = a2 at e2
      generalize ha3 : u 10 28 = a3 at e3
      refine e_istore (ls2 := [some (.inr 10), some (.inl (nI p)), some (.inl (nI x)), some (.inl (nI p2)), some (.inl (nI x2)), some (.inl (nI len)), some (.inl (nI c)), some (.inl i), some (.inl (nI n)), some (.inl (nI k)), some (.inl a1), y11, y12, y13]) dX8_apart_82 (Nat.le_of_ble_eq_true rfl) rfl ?_
      refine e_aload_n (i := 0) dX8_apart_84 rfl rfl ?_
      refine e_getI (x := a2) dX8_apart_85 fl_X8_147 sh_10 fj_10_27 ha2 ?_
      refine e_istore (ls2 := [some (.inr 10), some (.inl (nI p)), some (.inl (nI x)), some (.inl (nI p2)), some (.inl (nI x2)), some (.inl (nI len)), some (.inl (nI c)), some (.inl i), some (.inl (nI n)), some (.inl (nI k)), some (.inl a1), some (.inl a2), y12, y13]) dX8_apart_88 (Nat.le_of_ble_eq_true rfl) rfl ?_
      refine e_aload_n (i := 0) dX8_apart_90 rfl rfl ?_
      refine e_getI (x := a3) dX8_apart_91 fl_X8_150 sh_10 fj_10_28 ha3 ?_
      refine e_istore (ls2 := [some (.inr 10), some (.inl (nI p)), some (.inl (nI x)), some (.inl (nI p2)), some (.inl (nI x2)), some (.inl (nI len)), some (.inl (nI c)), some (.inl i), some (.inl (nI n)), some (.inl (nI k)), some (.inl a1), some (.inl a2), some (.inl a3), y13]) dX8_apart_94 (Nat.le_of_ble_eq_true rfl) rfl ?_
      refine e_aload_n (i := 0) dX8_apart_96 rfl rfl ?_
      refine e_iload_n (i := 3) dX8_apart_97 rfl rfl ?_
      refine e_iload dX8_apart_98 rfl ?_
      refine e_invViG (As := [.inl (nI p2), .inl (nI x2)]) dX8_apart_100 lk_X8_209 yv_X8_end rfl rfl rfl (Nat.le_of_ble_eq_true rfl) sh_10 ci_X8 (Nat.le_of_ble_eq_true rfl) ⟨Nat.le_of_ble_eq_true rfl, Nat.le_of_ble_eq_true rfl⟩ (k_M_end l hB (dg8 hc) u (MB.kl ku hM0) mru hp2 hz2 hx2) ?_
      rintro b1 v ⟨hv2, km2, me2⟩
      have hb1 := Option.some.inj hv2
      obtain ⟨f1, f2, f3, -⟩ := ME_p me2
      rw [← hb1] at f1
      have kv := ku.km km2
      have v47 : ∀ j, j < n → v 47 j = nI ((dg (c + 1) n k).getD j 0) := fun j hj => by rw [km2.1 47 (by omega) (by omega), km.1 47 (by omega) (by omega)]; exact (gR_ok c n k (h 47)).2 j hj
      generalize hb2 : v 10 27 = b2 at f2
      generalize hb3 : v 10 28 = b3 at f3
      have f1 : b1.toInt = (rnC sg ln sz p2 x2 (c + 1) n k).1 := f1
      have f2 : b2.toInt = (rnC sg ln sz p2 x2 (c + 1) n k).2.1 := f2
      have f3 : b3.toInt = (rnC sg ln sz p2 x2 (c + 1) n k).2.2.1 := f3
      have e1 : a1.toInt = (rnC sg ln sz p x (c + 1) n k).1 := e1
      have e2 : a2.toInt = (rnC sg ln sz p x (c + 1) n k).2.1 := e2
      have e3 : a3.toInt = (rnC sg ln sz p x (c + 1) n k).2.2.1 := e3
      refine e_iload dX8_apart_103 rfl ?_
      refine b_icmp_ne (X := b1.toInt) (Y := a1.toInt) (tgt := 130) rfl rfl dX8_apart_105 (by decide) ?_ ?_
      · intro e_105_t c_105_t
        exact out v _ _ _ kv v47 (fun z => by
          have z1 := z.1
          have z2 := z.2.1
          have z3 := z.2.2
          omega)
      · intro e_105_f c_105_f
        refine e_aload_n (i := 0) dX8_apart_108 rfl rfl ?_
        refine e_getI (x := b2) dX8_apart_109 fl_X8_147 sh_10 fj_10_27 hb2 ?_
        refine e_iload dX8_apart_112 rfl ?_
        refine b_icmp_ne (X := b2.toInt) (Y := a2.toInt) (tgt := 130) rfl rfl dX8_apart_114 (by decide) ?_ ?_
        · intro e_114_t c_114_t
          exact out v _ _ _ kv v47 (fun z => by
            have z1 := z.1
            have z2 := z.2.1
            have z3 := z.2.2
            omega)
        · intro e_114_f c_114_f
          refine e_aload_n (i := 0) dX8_apart_117 rfl rfl ?_
          refine e_getI (x := b3) dX8_apart_118 fl_X8_150 sh_10 fj_10_28 hb3 ?_
          refine e_iload dX8_apart_121 rfl ?_
          refine b_icmp_ne (X := b3.toInt) (Y := a3.toInt) (tgt := 130) rfl rfl dX8_apart_123 (by decide) ?_ ?_
          · intro e_123_t c_123_t
            exact out v _ _ _ kv v47 (fun z => by
              have z1 := z.1
              have z2 := z.2.1
              have z3 := z.2.2
              omega)
          · intro e_123_f c_123_f
            refine e_iconst (v := 1) dX8_apart_126 (by decide) ?_
            refine e_goto (tgt := 131) dX8_apart_127 (by decide) ?_
            refine e_istore (ls2 := [some (.inr 10), some (.inl (nI p)), some (.inl (nI x)), some (.inl (nI p2)), some (.inl (nI x2)), some (.inl (nI len)), some (.inl (nI c)), some (.inl i), some (.inl (nI n)), some (.inl (nI k)), some (.inl a1), some (.inl a2), some (.inl a3), some (.inl 1)]) dX8_apart_131 (Nat.le_of_ble_eq_true rfl) rfl ?_
            refine e_iload dX8_apart_133 rfl ?_
            refine b_if_ne (X := 1) (tgt := 175) (by decide) dX8_apart_135 (by decide) ?_ ?_
            · intro e_135_t c_135_t
              refine e_iinc (v := nI (k + 1)) (ls2 := [some (.inr 10), some (.inl (nI p)), some (.inl (nI x)), some (.inl (nI p2)), some (.inl (nI x2)), some (.inl (nI len)), some (.inl (nI c)), some (.inl i), some (.inl (nI n)), some (.inl (nI (k + 1))), some (.inl a1), some (.inl a2), some (.inl a3), some (.inl 1)]) dX8_apart_175 rfl (nI_inc1 _) (Nat.le_of_ble_eq_true rfl) rfl ?_
              refine e_goto (tgt := 54) dX8_apart_178 (by decide) ?_
              exact ih (k + 1) v _ _ _ _ (by omega) kv (fun j hj => by
                by_cases z : j = k
                · subst z; exact ⟨by omega, by omega, by omega⟩
                · exact hal j (by omega))
            · intro e_135_f c_135_f
              exfalso; omega
set_option maxHeartbeats 1000000 in
theorem lp_M_apartN (l : Launch) {sg : Nat → Int32} {ln sz : Nat → Nat} (hB : aWB sg ln sz) (h0 : mH) (hM0 : MB sg ln sz h0) (p x p2 x2 c : Nat) (hp : p < 4) (hz : 0 < sz p) (hx : x < 8) (hp2 : p2 < 4) (hz2 : 0 < sz p2) (hx2 : x2 < 8) (hc : c ≤ 2) (len : Nat) (hl4 : len ≤ 4) (i : Int32) (RT : Option Int32 → mH → Prop) (hR : ∀ h' o, KL h0 h' → aP sg ln sz p x p2 x2 c len o → RT (some (pAns c o i)) h') : ∀ (d n : Nat) (h : mH) (y9 y10 y11 y12 y13 : Option mV), n + d = len + 1 → KL h0 h → (∀ m, m < n → alN sg ln sz p x p2 x2 c m) → mE l Sh0 none iX8_apart RT 44 [some (.inr 10), some (.inl (nI p)), some (.inl (nI x)), some (.inl (nI p2)), some (.inl (nI x2)), some (.inl (nI len)), some (.inl (nI c)), some (.inl i), some (.inl (nI n)), y9, y10, y11, y12, y13] [] h := by
  intro d
  induction d with
  | zero =>
    intro n h y9 y10 y11 y12 y13 hd kl hal
    refine e_iload dX8_apart_44 rfl ?_
    refine e_iload dX8_apart_46 rfl ?_
    refine b_icmp_gt (X := ((n : Nat) : Int)) (Y := ((len : Nat) : Int)) (tgt := 187) (nI_toInt (by omega)) (nI_toInt (by omega)) dX8_apart_48 (by decide) ?_ ?_
    · intro c_48_t
      refine e_bipush (v := (-6)) dX8_apart_187 (by decide) ?_
      refine e_iret dX8_apart_189 (mret_i _) ?_
      exact hR h none kl (Or.inl ⟨rfl, fun m hm => hal m (by omega)⟩)
    · intro c_48_f
      exfalso; omega
  | succ d ih =>
    intro n h y9 y10 y11 y12 y13 hd kl hal
    have k181 : ∀ h y9 y10 y11 y12 y13, KL h0 h → alN sg ln sz p x p2 x2 c n → mE l Sh0 none iX8_apart RT 181 [some (.inr 10), some (.inl (nI p)), some (.inl (nI x)), some (.inl (nI p2)), some (.inl (nI x2)), some (.inl (nI len)), some (.inl (nI c)), some (.inl i), some (.inl (nI n)), y9, y10, y11, y12, y13] [] h := by
      intro h y9 y10 y11 y12 y13 kl2 aln
      refine e_iinc (v := nI (n + 1)) (ls2 := [some (.inr 10), some (.inl (nI p)), some (.inl (nI x)), some (.inl (nI p2)), some (.inl (nI x2)), some (.inl (nI len)), some (.inl (nI c)), some (.inl i), some (.inl (nI (n + 1))), y9, y10, y11, y12, y13]) dX8_apart_181 rfl (nI_inc1 _) (Nat.le_of_ble_eq_true rfl) rfl ?_
      refine e_goto (tgt := 44) dX8_apart_184 (by decide) ?_
      exact ih (n + 1) h _ _ _ _ _ (by omega) kl2 (fun m hm => by
        by_cases z : m = n
        · subst z; exact aln
        · exact hal m (by omega))
    refine e_iload dX8_apart_44 rfl ?_
    refine e_iload dX8_apart_46 rfl ?_
    refine b_icmp_gt (X := ((n : Nat) : Int)) (Y := ((len : Nat) : Int)) (tgt := 187) (nI_toInt (by omega)) (nI_toInt (by omega)) dX8_apart_48 (by decide) ?_ ?_
    · intro c_48_t
      exfalso; omega
    · intro c_48_f
      refine e_iconst (v := 0) dX8_apart_51 (by decide) ?_
      refine e_istore (ls2 := [some (.inr 10), some (.inl (nI p)), some (.inl (nI x)), some (.inl (nI p2)), some (.inl (nI x2)), some (.inl (nI len)), some (.inl (nI c)), some (.inl i), some (.inl (nI n)), some (.inl 0), y10, y11, y12, y13]) dX8_apart_52 (Nat.le_of_ble_eq_true rfl) rfl ?_
      exact lp_M_apart l hB h0 hM0 p x p2 x2 c hp hz hx hp2 hz2 hx2 hc len n (by omega) (by omega) hl4 i hal RT hR k181 ((c + 1) ^ n) 0 h _ _ _ _ (Nat.zero_add _) kl (fun j hj => absurd hj (Nat.not_lt_zero _))
set_option maxHeartbeats 1000000 in
theorem k_D_apart1 (l : Launch) {sg : Nat → Int32} {ln sz : Nat → Nat} (hB : aWB sg ln sz) (h : mH) (hC : CB sg ln sz h) (p x p2 x2 c : Nat) (hp : p < 4) (hz : 0 < sz p) (hx : x < 8) (hp2 : p2 < 4) (hz2 : 0 < sz p2) (hx2 : x2 < 8) (hc : c ≤ 2) (len : Nat) (hn : len ≤ 4) (i : Int32) : mG l Sh0 iX7_apart [.inr 0, .inl (nI p), .inl (nI x), .inl (nI p2), .inl (nI x2), .inl (nI len), .inl (nI c), .inl i] h (fun v h' => ∃ o, v = some (pAns c o i) ∧ KQ h h' ∧ aP sg ln sz p x p2 x2 c len o) := by
  intro RT hR
  show mE l Sh0 none iX7_apart RT 0 [some (.inr 0), some (.inl (nI p)), some (.inl (nI x)), some (.inl (nI p2)), some (.inl (nI x2)), some (.inl (nI len)), some (.inl (nI c)), some (.inl i), none] [] h
  refine e_iload_n (i := 1) dX7_apart_0 rfl rfl ?_
  refine e_invSi (As := [.inl (nI p)]) (v := 1) (h2 := h) dX7_apart_1 lk_X7_70 ys_X7_isText rfl rfl rfl (Nat.le_of_ble_eq_true rfl) (Nat.le_of_ble_eq_true rfl) ⟨Nat.le_of_ble_eq_true rfl, Nat.le_of_ble_eq_true rfl⟩ (k_cTextX l h (nI p) (if_pos (by rw [nI_toInt (by omega)]; omega))) ?_
  refine b_if_eq (X := 1) (tgt := 14) (by decide) dX7_apart_4 (by decide) ?_ ?_
  · intro e_4_t c_4_t
    exfalso; omega
  · intro e_4_f c_4_f
    refine e_iload_n (i := 3) dX7_apart_7 rfl rfl ?_
    refine e_invSi (As := [.inl (nI p2)]) (v := 1) (h2 := h) dX7_apart_8 lk_X7_70 ys_X7_isText rfl rfl rfl (Nat.le_of_ble_eq_true rfl) (Nat.le_of_ble_eq_true rfl) ⟨Nat.le_of_ble_eq_true rfl, Nat.le_of_ble_eq_true rfl⟩ (k_cTextX l h (nI p2) (if_pos (by rw [nI_toInt (by omega)]; omega))) ?_
    refine b_if_ne (X := 1) (tgt := 16) (by decide) dX7_apart_11 (by decide) ?_ ?_
    · intro e_11_t c_11_t
      refine e_iload_n (i := 2) dX7_apart_16 rfl rfl ?_
      refine e_invSi (As := [.inl (nI x)]) (v := 1) (h2 := h) dX7_apart_17 lk_X7_94 ys_X7_isNumber rfl rfl rfl (Nat.le_of_ble_eq_true rfl) (Nat.le_of_ble_eq_true rfl) ⟨Nat.le_of_ble_eq_true rfl, Nat.le_of_ble_eq_true rfl⟩ (k_cNumX l h (nI x) (if_pos (by rw [nI_toInt (by omega)]; omega))) ?_
      refine b_if_eq (X := 1) (tgt := 41) (by decide) dX7_apart_20 (by decide) ?_ ?_
      · intro e_20_t c_20_t
        exfalso; omega
      · intro e_20_f c_20_f
        refine e_iload dX7_apart_23 rfl ?_
        refine e_invSi (As := [.inl (nI x2)]) (v := 1) (h2 := h) dX7_apart_25 lk_X7_94 ys_X7_isNumber rfl rfl rfl (Nat.le_of_ble_eq_true rfl) (Nat.le_of_ble_eq_true rfl) ⟨Nat.le_of_ble_eq_true rfl, Nat.le_of_ble_eq_true rfl⟩ (k_cNumX l h (nI x2) (if_pos (by rw [nI_toInt (by omega)]; omega))) ?_
        refine b_if_eq (X := 1) (tgt := 41) (by decide) dX7_apart_28 (by decide) ?_ ?_
        · intro e_28_t c_28_t
          exfalso; omega
        · intro e_28_f c_28_f
          refine e_iload dX7_apart_31 rfl ?_
          refine e_iload dX7_apart_33 rfl ?_
          refine e_invSi (As := [.inl (nI len), .inl (nI c)]) (v := 1) (h2 := h) dX7_apart_35 lk_X7_123 ys_X7_areRows rfl rfl rfl (Nat.le_of_ble_eq_true rfl) (Nat.le_of_ble_eq_true rfl) ⟨Nat.le_of_ble_eq_true rfl, Nat.le_of_ble_eq_true rfl⟩ (k_cRowsX l h (nI len) (nI c) (if_pos (by rw [nI_toInt (by omega), nI_toInt (by omega)]; omega))) ?_
          refine b_if_ne (X := 1) (tgt := 44) (by decide) dX7_apart_38 (by decide) ?_ ?_
          · intro e_38_t c_38_t
            refine e_iconst (v := 0) dX7_apart_44 (by decide) ?_
            refine e_istore (ls2 := [some (.inr 0), some (.inl (nI p)), some (.inl (nI x)), some (.inl (nI p2)), some (.inl (nI x2)), some (.inl (nI len)), some (.inl (nI c)), some (.inl i), some (.inl 0)]) dX7_apart_45 (Nat.le_of_ble_eq_true rfl) rfl ?_
            exact lp_D_apart l hB h hC p x p2 x2 c hp hz hx hp2 hz2 hx2 hc len hn i RT (fun h' o a b => hR _ _ ⟨o, rfl, a, b⟩) (len + 1) 0 h (Nat.zero_add _) (fun a _ => rfl) (fun m hm => absurd hm (Nat.not_lt_zero _))
          · intro e_38_f c_38_f
            exfalso; omega
    · intro e_11_f c_11_f
      exfalso; omega
set_option maxHeartbeats 1000000 in
theorem k_M_apart1 (l : Launch) {sg : Nat → Int32} {ln sz : Nat → Nat} (hB : aWB sg ln sz) (h : mH) (hM : MB sg ln sz h) (p x p2 x2 c : Nat) (hp : p < 4) (hz : 0 < sz p) (hx : x < 8) (hp2 : p2 < 4) (hz2 : 0 < sz p2) (hx2 : x2 < 8) (hc : c ≤ 2) (len : Nat) (hn : len ≤ 4) (i : Int32) : mG l Sh0 iX8_apart [.inr 10, .inl (nI p), .inl (nI x), .inl (nI p2), .inl (nI x2), .inl (nI len), .inl (nI c), .inl i] h (fun v h' => ∃ o, v = some (pAns c o i) ∧ KL h h' ∧ aP sg ln sz p x p2 x2 c len o) := by
  intro RT hR
  show mE l Sh0 none iX8_apart RT 0 [some (.inr 10), some (.inl (nI p)), some (.inl (nI x)), some (.inl (nI p2)), some (.inl (nI x2)), some (.inl (nI len)), some (.inl (nI c)), some (.inl i), none, none, none, none, none, none] [] h
  refine e_iload_n (i := 1) dX8_apart_0 rfl rfl ?_
  refine e_invSi (As := [.inl (nI p)]) (v := 1) (h2 := h) dX8_apart_1 lk_X8_101 ys_X8_isFour rfl rfl rfl (Nat.le_of_ble_eq_true rfl) (Nat.le_of_ble_eq_true rfl) ⟨Nat.le_of_ble_eq_true rfl, Nat.le_of_ble_eq_true rfl⟩ (k_M_four1 l h (nI p) (by rw [nI_toInt (by omega)]; omega)) ?_
  refine b_if_eq (X := 1) (tgt := 14) (by decide) dX8_apart_4 (by decide) ?_ ?_
  · intro e_4_t c_4_t
    exfalso; omega
  · intro e_4_f c_4_f
    refine e_iload_n (i := 3) dX8_apart_7 rfl rfl ?_
    refine e_invSi (As := [.inl (nI p2)]) (v := 1) (h2 := h) dX8_apart_8 lk_X8_101 ys_X8_isFour rfl rfl rfl (Nat.le_of_ble_eq_true rfl) (Nat.le_of_ble_eq_true rfl) ⟨Nat.le_of_ble_eq_true rfl, Nat.le_of_ble_eq_true rfl⟩ (k_M_four1 l h (nI p2) (by rw [nI_toInt (by omega)]; omega)) ?_
    refine b_if_ne (X := 1) (tgt := 16) (by decide) dX8_apart_11 (by decide) ?_ ?_
    · intro e_11_t c_11_t
      refine e_iload_n (i := 2) dX8_apart_16 rfl rfl ?_
      refine e_iload dX8_apart_17 rfl ?_
      refine e_iload dX8_apart_19 rfl ?_
      refine e_invSi (As := [.inl (nI x), .inl (nI len), .inl (nI c)]) (v := 1) (h2 := h) dX8_apart_21 lk_X8_218 ys_X8_areTold rfl rfl rfl (Nat.le_of_ble_eq_true rfl) (Nat.le_of_ble_eq_true rfl) ⟨Nat.le_of_ble_eq_true rfl, Nat.le_of_ble_eq_true rfl⟩ (k_M_areTold1 l h (nI x) (nI len) (nI c) (by rw [nI_toInt (by omega)]; omega) (by rw [nI_toInt (by omega)]; omega) (by rw [nI_toInt (by omega)]; omega)) ?_
      refine b_if_eq (X := 1) (tgt := 38) (by decide) dX8_apart_24 (by decide) ?_ ?_
      · intro e_24_t c_24_t
        exfalso; omega
      · intro e_24_f c_24_f
        refine e_iload dX8_apart_27 rfl ?_
        refine e_iconst (v := 0) dX8_apart_29 (by decide) ?_
        refine e_bipush (v := 7) dX8_apart_30 (by decide) ?_
        refine e_invSi (As := [.inl (nI x2), .inl 0, .inl 7]) (v := 1) (h2 := h) dX8_apart_32 lk_X8_85 ys_X8_in rfl rfl rfl (Nat.le_of_ble_eq_true rfl) (Nat.le_of_ble_eq_true rfl) ⟨Nat.le_of_ble_eq_true rfl, Nat.le_of_ble_eq_true rfl⟩ (k_M_in (X := (x2 : Int)) (Y := 0) (Z := 7) l h (nI x2) 0 7 (nI_toInt (by omega)) (by decide) (by decide) (if_pos (by omega))) ?_
        refine b_if_ne (X := 1) (tgt := 41) (by decide) dX8_apart_35 (by decide) ?_ ?_
        · intro e_35_t c_35_t
          refine e_iconst (v := 0) dX8_apart_41 (by decide) ?_
          refine e_istore (ls2 := [some (.inr 10), some (.inl (nI p)), some (.inl (nI x)), some (.inl (nI p2)), some (.inl (nI x2)), some (.inl (nI len)), some (.inl (nI c)), some (.inl i), some (.inl 0), none, none, none, none, none]) dX8_apart_42 (Nat.le_of_ble_eq_true rfl) rfl ?_
          exact lp_M_apartN l hB h hM p x p2 x2 c hp hz hx hp2 hz2 hx2 hc len hn i RT (fun h' o a b => hR _ _ ⟨o, rfl, a, b⟩) (len + 1) 0 h _ _ _ _ _ (Nat.zero_add _) (KL.refl h) (fun m hm => absurd hm (Nat.not_lt_zero _))
        · intro e_35_f c_35_f
          exfalso; omega
    · intro e_11_f c_11_f
      exfalso; omega
set_option maxHeartbeats 1000000 in
theorem k_D_apU1 (l : Launch) (h : mH) (x y a b z c i : Int32) (h1 : ¬ (0 ≤ x.toInt ∧ x.toInt < 4)) : mD l Sh0 iX7_apart [.inr 0, .inl x, .inl y, .inl a, .inl b, .inl z, .inl c, .inl i] h (some (-1)) h := by
  intro RT hR
  show mE l Sh0 none iX7_apart RT 0 [some (.inr 0), some (.inl x), some (.inl y), some (.inl a), some (.inl b), some (.inl z), some (.inl c), some (.inl i), none] [] h
  refine e_iload_n (i := 1) dX7_apart_0 rfl rfl ?_
  refine e_invSi (As := [.inl x]) (v := 0) (h2 := h) dX7_apart_1 lk_X7_70 ys_X7_isText rfl rfl rfl (Nat.le_of_ble_eq_true rfl) (Nat.le_of_ble_eq_true rfl) ⟨Nat.le_of_ble_eq_true rfl, Nat.le_of_ble_eq_true rfl⟩ (k_cTextX l h x (if_neg h1)) ?_
  refine b_if_eq (X := 0) (tgt := 14) (by decide) dX7_apart_4 (by decide) ?_ ?_
  · intro e_4_t c_4_t
    refine e_iconst (v := (-1)) dX7_apart_14 (by decide) ?_
    refine e_iret dX7_apart_15 (mret_i _) ?_
    exact hR
  · intro e_4_f c_4_f
    exfalso; omega
set_option maxHeartbeats 1000000 in
theorem k_M_apU1 (l : Launch) (h : mH) (x y a b z c i : Int32) (h1 : ¬ (0 ≤ x.toInt ∧ x.toInt < 4)) : mD l Sh0 iX8_apart [.inr 10, .inl x, .inl y, .inl a, .inl b, .inl z, .inl c, .inl i] h (some (-1)) h := by
  intro RT hR
  show mE l Sh0 none iX8_apart RT 0 [some (.inr 10), some (.inl x), some (.inl y), some (.inl a), some (.inl b), some (.inl z), some (.inl c), some (.inl i), none, none, none, none, none, none] [] h
  refine e_iload_n (i := 1) dX8_apart_0 rfl rfl ?_
  refine e_invSi (As := [.inl x]) (v := 0) (h2 := h) dX8_apart_1 lk_X8_101 ys_X8_isFour rfl rfl rfl (Nat.le_of_ble_eq_true rfl) (Nat.le_of_ble_eq_true rfl) ⟨Nat.le_of_ble_eq_true rfl, Nat.le_of_ble_eq_true rfl⟩ (k_M_four0 l h x (by omega)) ?_
  refine b_if_eq (X := 0) (tgt := 14) (by decide) dX8_apart_4 (by decide) ?_ ?_
  · intro e_4_t c_4_t
    refine e_iconst (v := (-1)) dX8_apart_14 (by decide) ?_
    refine e_iret dX8_apart_15 (mret_i _) ?_
    exact hR
  · intro e_4_f c_4_f
    exfalso; omega
set_option maxHeartbeats 1000000 in
theorem k_D_apU2 (l : Launch) (h : mH) (x y a b z c i : Int32) (h1 : 0 ≤ x.toInt ∧ x.toInt < 4) (h2 : ¬ (0 ≤ a.toInt ∧ a.toInt < 4)) : mD l Sh0 iX7_apart [.inr 0, .inl x, .inl y, .inl a, .inl b, .inl z, .inl c, .inl i] h (some (-1)) h := by
  intro RT hR
  show mE l Sh0 none iX7_apart RT 0 [some (.inr 0), some (.inl x), some (.inl y), some (.inl a), some (.inl b), some (.inl z), some (.inl c), some (.inl i), none] [] h
  refine e_iload_n (i := 1) dX7_apart_0 rfl rfl ?_
  refine e_invSi (As := [.inl x]) (v := 1) (h2 := h) dX7_apart_1 lk_X7_70 ys_X7_isText rfl rfl rfl (Nat.le_of_ble_eq_true rfl) (Nat.le_of_ble_eq_true rfl) ⟨Nat.le_of_ble_eq_true rfl, Nat.le_of_ble_eq_true rfl⟩ (k_cTextX l h x (if_pos h1)) ?_
  refine b_if_eq (X := 1) (tgt := 14) (by decide) dX7_apart_4 (by decide) ?_ ?_
  · intro e_4_t c_4_t
    exfalso; omega
  · intro e_4_f c_4_f
    refine e_iload_n (i := 3) dX7_apart_7 rfl rfl ?_
    refine e_invSi (As := [.inl a]) (v := 0) (h2 := h) dX7_apart_8 lk_X7_70 ys_X7_isText rfl rfl rfl (Nat.le_of_ble_eq_true rfl) (Nat.le_of_ble_eq_true rfl) ⟨Nat.le_of_ble_eq_true rfl, Nat.le_of_ble_eq_true rfl⟩ (k_cTextX l h a (if_neg h2)) ?_
    refine b_if_ne (X := 0) (tgt := 16) (by decide) dX7_apart_11 (by decide) ?_ ?_
    · intro e_11_t c_11_t
      exfalso; omega
    · intro e_11_f c_11_f
      refine e_iconst (v := (-1)) dX7_apart_14 (by decide) ?_
      refine e_iret dX7_apart_15 (mret_i _) ?_
      exact hR
set_option maxHeartbeats 1000000 in
theorem k_M_apU2 (l : Launch) (h : mH) (x y a b z c i : Int32) (h1 : 0 ≤ x.toInt ∧ x.toInt < 4) (h2 : ¬ (0 ≤ a.toInt ∧ a.toInt < 4)) : mD l Sh0 iX8_apart [.inr 10, .inl x, .inl y, .inl a, .inl b, .inl z, .inl c, .inl i] h (some (-1)) h := by
  intro RT hR
  show mE l Sh0 none iX8_apart RT 0 [some (.inr 10), some (.inl x), some (.inl y), some (.inl a), some (.inl b), some (.inl z), some (.inl c), some (.inl i), none, none, none, none, none, none] [] h
  refine e_iload_n (i := 1) dX8_apart_0 rfl rfl ?_
  refine e_invSi (As := [.inl x]) (v := 1) (h2 := h) dX8_apart_1 lk_X8_101 ys_X8_isFour rfl rfl rfl (Nat.le_of_ble_eq_true rfl) (Nat.le_of_ble_eq_true rfl) ⟨Nat.le_of_ble_eq_true rfl, Nat.le_of_ble_eq_true rfl⟩ (k_M_four1 l h x (by omega)) ?_
  refine b_if_eq (X := 1) (tgt := 14) (by decide) dX8_apart_4 (by decide) ?_ ?_
  · intro e_4_t c_4_t
    exfalso; omega
  · intro e_4_f c_4_f
    refine e_iload_n (i := 3) dX8_apart_7 rfl rfl ?_
    refine e_invSi (As := [.inl a]) (v := 0) (h2 := h) dX8_apart_8 lk_X8_101 ys_X8_isFour rfl rfl rfl (Nat.le_of_ble_eq_true rfl) (Nat.le_of_ble_eq_true rfl) ⟨Nat.le_of_ble_eq_true rfl, Nat.le_of_ble_eq_true rfl⟩ (k_M_four0 l h a (by omega)) ?_
    refine b_if_ne (X := 0) (tgt := 16) (by decide) dX8_apart_11 (by decide) ?_ ?_
    · intro e_11_t c_11_t
      exfalso; omega
    · intro e_11_f c_11_f
      refine e_iconst (v := (-1)) dX8_apart_14 (by decide) ?_
      refine e_iret dX8_apart_15 (mret_i _) ?_
      exact hR
set_option maxHeartbeats 1000000 in
theorem k_D_apO1 (l : Launch) (h : mH) (x y a b z c i : Int32) (h1 : 0 ≤ x.toInt ∧ x.toInt < 4) (h2 : 0 ≤ a.toInt ∧ a.toInt < 4) (h3 : ¬ (0 ≤ y.toInt ∧ y.toInt < 8)) : mD l Sh0 iX7_apart [.inr 0, .inl x, .inl y, .inl a, .inl b, .inl z, .inl c, .inl i] h (some (-2)) h := by
  intro RT hR
  show mE l Sh0 none iX7_apart RT 0 [some (.inr 0), some (.inl x), some (.inl y), some (.inl a), some (.inl b), some (.inl z), some (.inl c), some (.inl i), none] [] h
  refine e_iload_n (i := 1) dX7_apart_0 rfl rfl ?_
  refine e_invSi (As := [.inl x]) (v := 1) (h2 := h) dX7_apart_1 lk_X7_70 ys_X7_isText rfl rfl rfl (Nat.le_of_ble_eq_true rfl) (Nat.le_of_ble_eq_true rfl) ⟨Nat.le_of_ble_eq_true rfl, Nat.le_of_ble_eq_true rfl⟩ (k_cTextX l h x (if_pos h1)) ?_
  refine b_if_eq (X := 1) (tgt := 14) (by decide) dX7_apart_4 (by decide) ?_ ?_
  · intro e_4_t c_4_t
    exfalso; omega
  · intro e_4_f c_4_f
    refine e_iload_n (i := 3) dX7_apart_7 rfl rfl ?_
    refine e_invSi (As := [.inl a]) (v := 1) (h2 := h) dX7_apart_8 lk_X7_70 ys_X7_isText rfl rfl rfl (Nat.le_of_ble_eq_true rfl) (Nat.le_of_ble_eq_true rfl) ⟨Nat.le_of_ble_eq_true rfl, Nat.le_of_ble_eq_true rfl⟩ (k_cTextX l h a (if_pos h2)) ?_
    refine b_if_ne (X := 1) (tgt := 16) (by decide) dX7_apart_11 (by decide) ?_ ?_
    · intro e_11_t c_11_t
      refine e_iload_n (i := 2) dX7_apart_16 rfl rfl ?_
      refine e_invSi (As := [.inl y]) (v := 0) (h2 := h) dX7_apart_17 lk_X7_94 ys_X7_isNumber rfl rfl rfl (Nat.le_of_ble_eq_true rfl) (Nat.le_of_ble_eq_true rfl) ⟨Nat.le_of_ble_eq_true rfl, Nat.le_of_ble_eq_true rfl⟩ (k_cNumX l h y (if_neg h3)) ?_
      refine b_if_eq (X := 0) (tgt := 41) (by decide) dX7_apart_20 (by decide) ?_ ?_
      · intro e_20_t c_20_t
        refine e_bipush (v := (-2)) dX7_apart_41 (by decide) ?_
        refine e_iret dX7_apart_43 (mret_i _) ?_
        exact hR
      · intro e_20_f c_20_f
        exfalso; omega
    · intro e_11_f c_11_f
      exfalso; omega
set_option maxHeartbeats 1000000 in
theorem k_D_apO2 (l : Launch) (h : mH) (x y a b z c i : Int32) (h1 : 0 ≤ x.toInt ∧ x.toInt < 4) (h2 : 0 ≤ a.toInt ∧ a.toInt < 4) (h3 : 0 ≤ y.toInt ∧ y.toInt < 8) (h4 : ¬ (0 ≤ b.toInt ∧ b.toInt < 8)) : mD l Sh0 iX7_apart [.inr 0, .inl x, .inl y, .inl a, .inl b, .inl z, .inl c, .inl i] h (some (-2)) h := by
  intro RT hR
  show mE l Sh0 none iX7_apart RT 0 [some (.inr 0), some (.inl x), some (.inl y), some (.inl a), some (.inl b), some (.inl z), some (.inl c), some (.inl i), none] [] h
  refine e_iload_n (i := 1) dX7_apart_0 rfl rfl ?_
  refine e_invSi (As := [.inl x]) (v := 1) (h2 := h) dX7_apart_1 lk_X7_70 ys_X7_isText rfl rfl rfl (Nat.le_of_ble_eq_true rfl) (Nat.le_of_ble_eq_true rfl) ⟨Nat.le_of_ble_eq_true rfl, Nat.le_of_ble_eq_true rfl⟩ (k_cTextX l h x (if_pos h1)) ?_
  refine b_if_eq (X := 1) (tgt := 14) (by decide) dX7_apart_4 (by decide) ?_ ?_
  · intro e_4_t c_4_t
    exfalso; omega
  · intro e_4_f c_4_f
    refine e_iload_n (i := 3) dX7_apart_7 rfl rfl ?_
    refine e_invSi (As := [.inl a]) (v := 1) (h2 := h) dX7_apart_8 lk_X7_70 ys_X7_isText rfl rfl rfl (Nat.le_of_ble_eq_true rfl) (Nat.le_of_ble_eq_true rfl) ⟨Nat.le_of_ble_eq_true rfl, Nat.le_of_ble_eq_true rfl⟩ (k_cTextX l h a (if_pos h2)) ?_
    refine b_if_ne (X := 1) (tgt := 16) (by decide) dX7_apart_11 (by decide) ?_ ?_
    · intro e_11_t c_11_t
      refine e_iload_n (i := 2) dX7_apart_16 rfl rfl ?_
      refine e_invSi (As := [.inl y]) (v := 1) (h2 := h) dX7_apart_17 lk_X7_94 ys_X7_isNumber rfl rfl rfl (Nat.le_of_ble_eq_true rfl) (Nat.le_of_ble_eq_true rfl) ⟨Nat.le_of_ble_eq_true rfl, Nat.le_of_ble_eq_true rfl⟩ (k_cNumX l h y (if_pos h3)) ?_
      refine b_if_eq (X := 1) (tgt := 41) (by decide) dX7_apart_20 (by decide) ?_ ?_
      · intro e_20_t c_20_t
        exfalso; omega
      · intro e_20_f c_20_f
        refine e_iload dX7_apart_23 rfl ?_
        refine e_invSi (As := [.inl b]) (v := 0) (h2 := h) dX7_apart_25 lk_X7_94 ys_X7_isNumber rfl rfl rfl (Nat.le_of_ble_eq_true rfl) (Nat.le_of_ble_eq_true rfl) ⟨Nat.le_of_ble_eq_true rfl, Nat.le_of_ble_eq_true rfl⟩ (k_cNumX l h b (if_neg h4)) ?_
        refine b_if_eq (X := 0) (tgt := 41) (by decide) dX7_apart_28 (by decide) ?_ ?_
        · intro e_28_t c_28_t
          refine e_bipush (v := (-2)) dX7_apart_41 (by decide) ?_
          refine e_iret dX7_apart_43 (mret_i _) ?_
          exact hR
        · intro e_28_f c_28_f
          exfalso; omega
    · intro e_11_f c_11_f
      exfalso; omega
set_option maxHeartbeats 1000000 in
theorem k_D_apO3 (l : Launch) (h : mH) (x y a b z c i : Int32) (h1 : 0 ≤ x.toInt ∧ x.toInt < 4) (h2 : 0 ≤ a.toInt ∧ a.toInt < 4) (h3 : 0 ≤ y.toInt ∧ y.toInt < 8) (h4 : 0 ≤ b.toInt ∧ b.toInt < 8) (h5 : ¬ (0 ≤ z.toInt ∧ z.toInt ≤ 4 ∧ 0 ≤ c.toInt ∧ c.toInt ≤ 2)) : mD l Sh0 iX7_apart [.inr 0, .inl x, .inl y, .inl a, .inl b, .inl z, .inl c, .inl i] h (some (-2)) h := by
  intro RT hR
  show mE l Sh0 none iX7_apart RT 0 [some (.inr 0), some (.inl x), some (.inl y), some (.inl a), some (.inl b), some (.inl z), some (.inl c), some (.inl i), none] [] h
  refine e_iload_n (i := 1) dX7_apart_0 rfl rfl ?_
  refine e_invSi (As := [.inl x]) (v := 1) (h2 := h) dX7_apart_1 lk_X7_70 ys_X7_isText rfl rfl rfl (Nat.le_of_ble_eq_true rfl) (Nat.le_of_ble_eq_true rfl) ⟨Nat.le_of_ble_eq_true rfl, Nat.le_of_ble_eq_true rfl⟩ (k_cTextX l h x (if_pos h1)) ?_
  refine b_if_eq (X := 1) (tgt := 14) (by decide) dX7_apart_4 (by decide) ?_ ?_
  · intro e_4_t c_4_t
    exfalso; omega
  · intro e_4_f c_4_f
    refine e_iload_n (i := 3) dX7_apart_7 rfl rfl ?_
    refine e_invSi (As := [.inl a]) (v := 1) (h2 := h) dX7_apart_8 lk_X7_70 ys_X7_isText rfl rfl rfl (Nat.le_of_ble_eq_true rfl) (Nat.le_of_ble_eq_true rfl) ⟨Nat.le_of_ble_eq_true rfl, Nat.le_of_ble_eq_true rfl⟩ (k_cTextX l h a (if_pos h2)) ?_
    refine b_if_ne (X := 1) (tgt := 16) (by decide) dX7_apart_11 (by decide) ?_ ?_
    · intro e_11_t c_11_t
      refine e_iload_n (i := 2) dX7_apart_16 rfl rfl ?_
      refine e_invSi (As := [.inl y]) (v := 1) (h2 := h) dX7_apart_17 lk_X7_94 ys_X7_isNumber rfl rfl rfl (Nat.le_of_ble_eq_true rfl) (Nat.le_of_ble_eq_true rfl) ⟨Nat.le_of_ble_eq_true rfl, Nat.le_of_ble_eq_true rfl⟩ (k_cNumX l h y (if_pos h3)) ?_
      refine b_if_eq (X := 1) (tgt := 41) (by decide) dX7_apart_20 (by decide) ?_ ?_
      · intro e_20_t c_20_t
        exfalso; omega
      · intro e_20_f c_20_f
        refine e_iload dX7_apart_23 rfl ?_
        refine e_invSi (As := [.inl b]) (v := 1) (h2 := h) dX7_apart_25 lk_X7_94 ys_X7_isNumber rfl rfl rfl (Nat.le_of_ble_eq_true rfl) (Nat.le_of_ble_eq_true rfl) ⟨Nat.le_of_ble_eq_true rfl, Nat.le_of_ble_eq_true rfl⟩ (k_cNumX l h b (if_pos h4)) ?_
        refine b_if_eq (X := 1) (tgt := 41) (by decide) dX7_apart_28 (by decide) ?_ ?_
        · intro e_28_t c_28_t
          exfalso; omega
        · intro e_28_f c_28_f
          refine e_iload dX7_apart_31 rfl ?_
          refine e_iload dX7_apart_33 rfl ?_
          refine e_invSi (As := [.inl z, .inl c]) (v := 0) (h2 := h) dX7_apart_35 lk_X7_123 ys_X7_areRows rfl rfl rfl (Nat.le_of_ble_eq_true rfl) (Nat.le_of_ble_eq_true rfl) ⟨Nat.le_of_ble_eq_true rfl, Nat.le_of_ble_eq_true rfl⟩ (k_cRowsX l h z c (if_neg h5)) ?_
          refine b_if_ne (X := 0) (tgt := 44) (by decide) dX7_apart_38 (by decide) ?_ ?_
          · intro e_38_t c_38_t
            exfalso; omega
          · intro e_38_f c_38_f
            refine e_bipush (v := (-2)) dX7_apart_41 (by decide) ?_
            refine e_iret dX7_apart_43 (mret_i _) ?_
            exact hR
    · intro e_11_f c_11_f
      exfalso; omega
set_option maxHeartbeats 1000000 in
theorem k_M_apO1 (l : Launch) (h : mH) (x y a b z c i : Int32) (h1 : 0 ≤ x.toInt ∧ x.toInt < 4) (h2 : 0 ≤ a.toInt ∧ a.toInt < 4) (h5 : ¬ ((0 ≤ y.toInt ∧ y.toInt ≤ 7) ∧ (0 ≤ z.toInt ∧ z.toInt ≤ 4) ∧ (0 ≤ c.toInt ∧ c.toInt ≤ 2))) : mD l Sh0 iX8_apart [.inr 10, .inl x, .inl y, .inl a, .inl b, .inl z, .inl c, .inl i] h (some (-2)) h := by
  intro RT hR
  show mE l Sh0 none iX8_apart RT 0 [some (.inr 10), some (.inl x), some (.inl y), some (.inl a), some (.inl b), some (.inl z), some (.inl c), some (.inl i), none, none, none, none, none, none] [] h
  refine e_iload_n (i := 1) dX8_apart_0 rfl rfl ?_
  refine e_invSi (As := [.inl x]) (v := 1) (h2 := h) dX8_apart_1 lk_X8_101 ys_X8_isFour rfl rfl rfl (Nat.le_of_ble_eq_true rfl) (Nat.le_of_ble_eq_true rfl) ⟨Nat.le_of_ble_eq_true rfl, Nat.le_of_ble_eq_true rfl⟩ (k_M_four1 l h x (by omega)) ?_
  refine b_if_eq (X := 1) (tgt := 14) (by decide) dX8_apart_4 (by decide) ?_ ?_
  · intro e_4_t c_4_t
    exfalso; omega
  · intro e_4_f c_4_f
    refine e_iload_n (i := 3) dX8_apart_7 rfl rfl ?_
    refine e_invSi (As := [.inl a]) (v := 1) (h2 := h) dX8_apart_8 lk_X8_101 ys_X8_isFour rfl rfl rfl (Nat.le_of_ble_eq_true rfl) (Nat.le_of_ble_eq_true rfl) ⟨Nat.le_of_ble_eq_true rfl, Nat.le_of_ble_eq_true rfl⟩ (k_M_four1 l h a (by omega)) ?_
    refine b_if_ne (X := 1) (tgt := 16) (by decide) dX8_apart_11 (by decide) ?_ ?_
    · intro e_11_t c_11_t
      refine e_iload_n (i := 2) dX8_apart_16 rfl rfl ?_
      refine e_iload dX8_apart_17 rfl ?_
      refine e_iload dX8_apart_19 rfl ?_
      refine e_invSi (As := [.inl y, .inl z, .inl c]) (v := 0) (h2 := h) dX8_apart_21 lk_X8_218 ys_X8_areTold rfl rfl rfl (Nat.le_of_ble_eq_true rfl) (Nat.le_of_ble_eq_true rfl) ⟨Nat.le_of_ble_eq_true rfl, Nat.le_of_ble_eq_true rfl⟩ (k_M_areTold0 l h y z c h5) ?_
      refine b_if_eq (X := 0) (tgt := 38) (by decide) dX8_apart_24 (by decide) ?_ ?_
      · intro e_24_t c_24_t
        refine e_bipush (v := (-2)) dX8_apart_38 (by decide) ?_
        refine e_iret dX8_apart_40 (mret_i _) ?_
        exact hR
      · intro e_24_f c_24_f
        exfalso; omega
    · intro e_11_f c_11_f
      exfalso; omega
set_option maxHeartbeats 1000000 in
theorem k_M_apO2 (l : Launch) (h : mH) (x y a b z c i : Int32) (h1 : 0 ≤ x.toInt ∧ x.toInt < 4) (h2 : 0 ≤ a.toInt ∧ a.toInt < 4) (h5 : (0 ≤ y.toInt ∧ y.toInt ≤ 7) ∧ (0 ≤ z.toInt ∧ z.toInt ≤ 4) ∧ (0 ≤ c.toInt ∧ c.toInt ≤ 2)) (h4 : ¬ (0 ≤ b.toInt ∧ b.toInt ≤ 7)) : mD l Sh0 iX8_apart [.inr 10, .inl x, .inl y, .inl a, .inl b, .inl z, .inl c, .inl i] h (some (-2)) h := by
  intro RT hR
  show mE l Sh0 none iX8_apart RT 0 [some (.inr 10), some (.inl x), some (.inl y), some (.inl a), some (.inl b), some (.inl z), some (.inl c), some (.inl i), none, none, none, none, none, none] [] h
  refine e_iload_n (i := 1) dX8_apart_0 rfl rfl ?_
  refine e_invSi (As := [.inl x]) (v := 1) (h2 := h) dX8_apart_1 lk_X8_101 ys_X8_isFour rfl rfl rfl (Nat.le_of_ble_eq_true rfl) (Nat.le_of_ble_eq_true rfl) ⟨Nat.le_of_ble_eq_true rfl, Nat.le_of_ble_eq_true rfl⟩ (k_M_four1 l h x (by omega)) ?_
  refine b_if_eq (X := 1) (tgt := 14) (by decide) dX8_apart_4 (by decide) ?_ ?_
  · intro e_4_t c_4_t
    exfalso; omega
  · intro e_4_f c_4_f
    refine e_iload_n (i := 3) dX8_apart_7 rfl rfl ?_
    refine e_invSi (As := [.inl a]) (v := 1) (h2 := h) dX8_apart_8 lk_X8_101 ys_X8_isFour rfl rfl rfl (Nat.le_of_ble_eq_true rfl) (Nat.le_of_ble_eq_true rfl) ⟨Nat.le_of_ble_eq_true rfl, Nat.le_of_ble_eq_true rfl⟩ (k_M_four1 l h a (by omega)) ?_
    refine b_if_ne (X := 1) (tgt := 16) (by decide) dX8_apart_11 (by decide) ?_ ?_
    · intro e_11_t c_11_t
      refine e_iload_n (i := 2) dX8_apart_16 rfl rfl ?_
      refine e_iload dX8_apart_17 rfl ?_
      refine e_iload dX8_apart_19 rfl ?_
      refine e_invSi (As := [.inl y, .inl z, .inl c]) (v := 1) (h2 := h) dX8_apart_21 lk_X8_218 ys_X8_areTold rfl rfl rfl (Nat.le_of_ble_eq_true rfl) (Nat.le_of_ble_eq_true rfl) ⟨Nat.le_of_ble_eq_true rfl, Nat.le_of_ble_eq_true rfl⟩ (k_M_areTold1 l h y z c h5.1 h5.2.1 h5.2.2) ?_
      refine b_if_eq (X := 1) (tgt := 38) (by decide) dX8_apart_24 (by decide) ?_ ?_
      · intro e_24_t c_24_t
        exfalso; omega
      · intro e_24_f c_24_f
        refine e_iload dX8_apart_27 rfl ?_
        refine e_iconst (v := 0) dX8_apart_29 (by decide) ?_
        refine e_bipush (v := 7) dX8_apart_30 (by decide) ?_
        refine e_invSi (As := [.inl b, .inl 0, .inl 7]) (v := 0) (h2 := h) dX8_apart_32 lk_X8_85 ys_X8_in rfl rfl rfl (Nat.le_of_ble_eq_true rfl) (Nat.le_of_ble_eq_true rfl) ⟨Nat.le_of_ble_eq_true rfl, Nat.le_of_ble_eq_true rfl⟩ (k_M_in (Y := 0) (Z := 7) l h b 0 7 rfl (by decide) (by decide) (if_neg h4)) ?_
        refine b_if_ne (X := 0) (tgt := 41) (by decide) dX8_apart_35 (by decide) ?_ ?_
        · intro e_35_t c_35_t
          exfalso; omega
        · intro e_35_f c_35_f
          refine e_bipush (v := (-2)) dX8_apart_38 (by decide) ?_
          refine e_iret dX8_apart_40 (mret_i _) ?_
          exact hR
    · intro e_11_f c_11_f
      exfalso; omega
/-- promise 17 -/
theorem j_apart (l : Launch) (h : mH) (hI : Inv h) (x y a b z c i : Int32) : jP l iX7_apart iX8_apart [.inl x, .inl y, .inl a, .inl b, .inl z, .inl c, .inl i] h := by
  have hI0 := hI
  obtain ⟨n, pd, sg, ln, sz, r, w, cs, m⟩ := hI
  have hB := w.2.2.1
  by_cases h1 : 0 ≤ x.toInt ∧ x.toInt < 4
  · by_cases h2 : 0 ≤ a.toInt ∧ a.toInt < 4
    · have km2 : ¬ ((0 ≤ y.toInt ∧ y.toInt < 8) ∧ (0 ≤ b.toInt ∧ b.toInt < 8) ∧ (0 ≤ z.toInt ∧ z.toInt ≤ 4 ∧ 0 ≤ c.toInt ∧ c.toInt ≤ 2)) → mD l Sh0 iX8_apart [.inr 10, .inl x, .inl y, .inl a, .inl b, .inl z, .inl c, .inl i] h (some (-2)) h := by
        intro hno
        by_cases h5 : (0 ≤ y.toInt ∧ y.toInt ≤ 7) ∧ (0 ≤ z.toInt ∧ z.toInt ≤ 4) ∧ (0 ≤ c.toInt ∧ c.toInt ≤ 2)
        · exact k_M_apO2 l h x y a b z c i h1 h2 h5 (fun h4 => hno ⟨⟨h5.1.1, by have := h5.1.2; omega⟩, ⟨h4.1, by have := h4.2; omega⟩, h5.2.1.1, h5.2.1.2, h5.2.2.1, h5.2.2.2⟩)
        · exact k_M_apO1 l h x y a b z c i h1 h2 h5
      by_cases h3 : 0 ≤ y.toInt ∧ y.toInt < 8
      · by_cases h4 : 0 ≤ b.toInt ∧ b.toInt < 8
        · by_cases h5 : 0 ≤ z.toInt ∧ z.toInt ≤ 4 ∧ 0 ≤ c.toInt ∧ c.toInt ≤ 2
          · have hz := w.2.2.2.1 x.toInt.toNat (by omega)
            have hz2 := w.2.2.2.1 a.toInt.toNat (by omega)
            have kd := k_D_apart1 l hB h cs.2.2.1 x.toInt.toNat y.toInt.toNat a.toInt.toNat b.toInt.toNat c.toInt.toNat (by omega) hz (by omega) (by omega) hz2 (by omega) (by omega) z.toInt.toNat (by omega) i
            rw [← nI_ofInt h1.1, ← nI_ofInt h3.1, ← nI_ofInt h2.1, ← nI_ofInt h4.1, ← nI_ofInt h5.1, ← nI_ofInt h5.2.2.1] at kd
            refine kd.weaken (fun v1 u1 q1 => ?_)
            obtain ⟨o1, e1, kq, ap1⟩ := q1
            refine ⟨_, e1, ?_⟩
            have km := k_M_apart1 l hB u1 (MS_kq m kq) x.toInt.toNat y.toInt.toNat a.toInt.toNat b.toInt.toNat c.toInt.toNat (by omega) hz (by omega) (by omega) hz2 (by omega) (by omega) z.toInt.toNat (by omega) i
            rw [← nI_ofInt h1.1, ← nI_ofInt h3.1, ← nI_ofInt h2.1, ← nI_ofInt h4.1, ← nI_ofInt h5.1, ← nI_ofInt h5.2.2.1] at km
            refine km.weaken (fun v2 u2 q2 => ?_)
            obtain ⟨o2, e2, kl, ap2⟩ := q2
            exact ⟨by rw [e2, aP_un ap2 ap1], Inv_kq w cs m kq kl⟩
          · exact jP_D (k_D_apO3 l h x y a b z c i h1 h2 h3 h4 h5) (km2 (fun q => h5 q.2.2)) hI0
        · exact jP_D (k_D_apO2 l h x y a b z c i h1 h2 h3 h4) (km2 (fun q => h4 q.2.1)) hI0
      · exact jP_D (k_D_apO1 l h x y a b z c i h1 h2 h3) (km2 (fun q => h3 q.1)) hI0
    · exact jP_D (k_D_apU2 l h x y a b z c i h1 h2) (k_M_apU2 l h x y a b z c i h1 h2) hI0
  · exact jP_D (k_D_apU1 l h x y a b z c i h1) (k_M_apU1 l h x y a b z c i h1) hI0
