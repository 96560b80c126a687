/-! may: alike. -/
def zH (h : mH) (f49 f51 f50 : Nat → Int32) : mH := vH (hr h 49 f49) f51 f50
theorem zH_49 (h : mH) (f a b : Nat → Int32) (j : Nat) (v : Int32) : hs (zH h f a b) 49 j v = zH h (upd f j v) a b := by
  unfold zH vH
  rw [hr_cm h f b (by decide), hr_cm (hr h 50 b) f a (by decide), hr_hs, hr_cm h (upd f j v) b (by decide), hr_cm (hr h 50 b) (upd f j v) a (by decide)]
theorem or_hi {a b : Nat} (k : Nat) (ha : a < 2 ^ k) : nI a ||| nI (b * 2 ^ k) = nI (a + b * 2 ^ k) := by
  rw [fa_or]
  congr 1
  have h := Nat.two_pow_add_eq_or_of_lt (i := k) (b := a) ha b
  rw [Nat.or_comm, Nat.mul_comm b, ← h]
  omega
/-- the sets of the hands as one number -/
def cd (be : Nat → Nat) : Nat := be 0 + be 1 * 2 ^ 3 + be 2 * 2 ^ 6 + be 3 * 2 ^ 9
theorem cd_inj {a b : Nat → Nat} (ha : ∀ d, a d < 8) (hb9 : ∀ d, b d < 8) (h : cd a = cd b) : ∀ d, d < 4 → a d = b d := by
  intro d hd
  unfold cd at h
  have a0 := ha 0
  have a1 := ha 1
  have a2 := ha 2
  have b0 := hb9 0
  have b1 := hb9 1
  have b2 := hb9 2
  have hc : d = 0 ∨ d = 1 ∨ d = 2 ∨ d = 3 := by omega
  rcases hc with rfl | rfl | rfl | rfl <;> omega
theorem cd_lt {a : Nat → Nat} (ha : ∀ d, a d < 8) : cd a < 4096 := by
  unfold cd
  have a0 := ha 0
  have a1 := ha 1
  have a2 := ha 2
  have a3 := ha 3
  omega
set_option maxHeartbeats 2000000 in
theorem lp_M_lay (l : Launch) {sg : Nat → Int32} {ln sz : Nat → Nat} (hB : aWB sg ln sz) (h : mH) (hM : MB sg ln sz h) (A W : Nat → Nat) (hc : yCl sg ln sz A W) (ma0 be0 : Nat → Nat) (y2 : Option mV) (RT : Option Int32 → mH → Prop) (hk : ∀ f49 f51 f50 b ma be y3 y4, rw9 f49 ma 20 → rw9 f50 be 4 → lQ sg ln sz A W ma0 be0 20 b ma be → mE l Sh0 none iX8_layMay RT 135 [some (.inr 10), some (.inl (bI b)), y2, y3, y4] [] (zH h f49 f51 f50)) : ∀ (d i : Nat) (f49 f51 f50 : Nat → Int32) (b : Bool) (ma be : Nat → Nat) (y4 : Option mV), i + d = 20 → rw9 f49 ma 20 → rw9 f50 be 4 → lQ sg ln sz A W ma0 be0 i b ma be → mE l Sh0 none iX8_layMay RT 87 [some (.inr 10), some (.inl (bI b)), y2, some (.inl (nI i)), y4] [] (zH h f49 f51 f50) := by
  intro d
  induction d with
  | zero =>
    intro i f49 f51 f50 b ma be y4 hd h49 h50 hQ
    refine e_iload_n (i := 3) dX8_layMay_87 rfl rfl ?_
    refine e_bipush (v := 20) dX8_layMay_88 (by decide) ?_
    refine b_icmp_ge (X := ((i : Nat) : Int)) (Y := 20) (tgt := 135) (nI_toInt (by omega)) (by decide) dX8_layMay_90 (by decide) ?_ ?_
    · intro c_90_t
      have e : i = 20 := by omega
      subst e
      exact hk f49 f51 f50 b ma be _ _ h49 h50 hQ
    · intro c_90_f
      exfalso; omega
  | succ d ih =>
    intro i f49 f51 f50 b ma be y4 hd h49 h50 hQ
    have km := k_M_mayOf l hB (hr h 49 f49) hM A W ma be hc hQ.1 h49 f51 f50 h50 i (by omega)
    have r49 := h49 i (by omega)
    have m8 := hQ.1.2.2.2.2.1 i
    cases b with
    | false =>
      show mE l Sh0 none iX8_layMay RT 87 [some (.inr 10), some (.inl 0), y2, some (.inl (nI i)), y4] [] (zH h f49 f51 f50)
      refine e_iload_n (i := 3) dX8_layMay_87 rfl rfl ?_
      refine e_bipush (v := 20) dX8_layMay_88 (by decide) ?_
      refine b_icmp_ge (X := ((i : Nat) : Int)) (Y := 20) (tgt := 135) (nI_toInt (by omega)) (by decide) dX8_layMay_90 (by decide) ?_ ?_
      · intro c_90_t
        exfalso; omega
      · intro c_90_f
        refine e_aload_n (i := 0) dX8_layMay_93 rfl rfl ?_
        refine e_iload_n (i := 3) dX8_layMay_94 rfl rfl ?_
        refine e_invViG (As := [.inl (nI i)]) dX8_layMay_95 lk_X8_212 yv_X8_mayOf rfl rfl rfl (Nat.le_of_ble_eq_true rfl) sh_10 ci_X8 (Nat.le_of_ble_eq_true rfl) ⟨Nat.le_of_ble_eq_true rfl, Nat.le_of_ble_eq_true rfl⟩ km ?_
        rintro w' u ⟨g51, g50, be', x, hv, rfl, a1, a2⟩
        obtain rfl := Option.some.inj hv
        have x8 := a2.1
        show mE l Sh0 none iX8_layMay RT 98 [some (.inr 10), some (.inl 0), y2, some (.inl (nI i)), y4] [.inl (nI x)] (zH h f49 g51 g50)
        refine e_istore (ls2 := [some (.inr 10), some (.inl 0), y2, some (.inl (nI i)), some (.inl (nI x))]) dX8_layMay_98 (Nat.le_of_ble_eq_true rfl) rfl ?_
        refine e_iload_n (i := 1) dX8_layMay_100 rfl rfl ?_
        refine b_if_ne (X := 0) (tgt := 115) (by decide) dX8_layMay_101 (by decide) ?_ ?_
        · intro e_101_t c_101_t
          exfalso; omega
        · intro e_101_f c_101_f
          refine e_iload dX8_layMay_104 rfl ?_
          refine e_aload_n (i := 0) dX8_layMay_106 rfl rfl ?_
          refine e_getR (r := 49) dX8_layMay_107 fl_X8_73 sh_10 fj_10_40 ?_
          refine e_iload_n (i := 3) dX8_layMay_110 rfl rfl ?_
          refine e_iald (x := nI (ma i)) dX8_layMay_111 sh_49 (vin_ofX (X := ((i : Nat) : Int)) (nI_toInt (by omega)) (by omega) (by omega)) (by rw [nI_clamp (by omega)]; exact r49) ?_
          refine b_icmp_eq (X := ((x : Nat) : Int)) (Y := ((ma i : Nat) : Int)) (tgt := 119) (nI_toInt (by omega)) (nI_toInt (by omega)) dX8_layMay_112 (by decide) ?_ ?_
          · intro e_112_t c_112_t
            refine e_iconst (v := 0) dX8_layMay_119 (by decide) ?_
            refine e_istore_n (i := 1) (ls2 := [some (.inr 10), some (.inl 0), y2, some (.inl (nI i)), some (.inl (nI x))]) dX8_layMay_120 rfl (Nat.le_of_ble_eq_true rfl) rfl ?_
            refine e_aload_n (i := 0) dX8_layMay_121 rfl rfl ?_
            refine e_getR (r := 49) dX8_layMay_122 fl_X8_73 sh_10 fj_10_40 ?_
            refine e_iload_n (i := 3) dX8_layMay_125 rfl rfl ?_
            refine e_iload dX8_layMay_126 rfl ?_
            refine e_iast dX8_layMay_128 sh_49 (vin_ofX (X := ((i : Nat) : Int)) (nI_toInt (by omega)) (by omega) (by omega)) ?_
            rw [nI_clamp (by omega)]
            refine e_iinc (v := nI (i + 1)) (ls2 := [some (.inr 10), some (.inl 0), y2, some (.inl (nI (i + 1))), some (.inl (nI x))]) dX8_layMay_129 rfl (nI_inc1 _) (Nat.le_of_ble_eq_true rfl) rfl ?_
            refine e_goto (tgt := 87) dX8_layMay_132 (by decide) ?_
            rw [zH_49]
            have hQ2 := lQ_step hB (show i < 20 by omega) hc hQ a2
            rw [show (if x = ma i then false else true) = false from if_pos (by omega)] at hQ2
            exact ih (i + 1) (upd f49 i (nI x)) g51 g50 false (ud ma i x) be' _ (by omega) (rw9_ud h49) a1 hQ2
          · intro e_112_f c_112_f
            refine e_iconst (v := 1) dX8_layMay_115 (by decide) ?_
            refine e_goto (tgt := 120) dX8_layMay_116 (by decide) ?_
            refine e_istore_n (i := 1) (ls2 := [some (.inr 10), some (.inl 1), y2, some (.inl (nI i)), some (.inl (nI x))]) dX8_layMay_120 rfl (Nat.le_of_ble_eq_true rfl) rfl ?_
            refine e_aload_n (i := 0) dX8_layMay_121 rfl rfl ?_
            refine e_getR (r := 49) dX8_layMay_122 fl_X8_73 sh_10 fj_10_40 ?_
            refine e_iload_n (i := 3) dX8_layMay_125 rfl rfl ?_
            refine e_iload dX8_layMay_126 rfl ?_
            refine e_iast dX8_layMay_128 sh_49 (vin_ofX (X := ((i : Nat) : Int)) (nI_toInt (by omega)) (by omega) (by omega)) ?_
            rw [nI_clamp (by omega)]
            refine e_iinc (v := nI (i + 1)) (ls2 := [some (.inr 10), some (.inl 1), y2, some (.inl (nI (i + 1))), some (.inl (nI x))]) dX8_layMay_129 rfl (nI_inc1 _) (Nat.le_of_ble_eq_true rfl) rfl ?_
            refine e_goto (tgt := 87) dX8_layMay_132 (by decide) ?_
            rw [zH_49]
            have hQ2 := lQ_step hB (show i < 20 by omega) hc hQ a2
            rw [show (if x = ma i then false else true) = true from if_neg (by omega)] at hQ2
            exact ih (i + 1) (upd f49 i (nI x)) g51 g50 true (ud ma i x) be' _ (by omega) (rw9_ud h49) a1 hQ2
    | true =>
      show mE l Sh0 none iX8_layMay RT 87 [some (.inr 10), some (.inl 1), y2, some (.inl (nI i)), y4] [] (zH h f49 f51 f50)
      refine e_iload_n (i := 3) dX8_layMay_87 rfl rfl ?_
      refine e_bipush (v := 20) dX8_layMay_88 (by decide) ?_
      refine b_icmp_ge (X := ((i : Nat) : Int)) (Y := 20) (tgt := 135) (nI_toInt (by omega)) (by decide) dX8_layMay_90 (by decide) ?_ ?_
      · intro c_90_t
        exfalso; omega
      · intro c_90_f
        refine e_aload_n (i := 0) dX8_layMay_93 rfl rfl ?_
        refine e_iload_n (i := 3) dX8_layMay_94 rfl rfl ?_
        refine e_invViG (As := [.inl (nI i)]) dX8_layMay_95 lk_X8_212 yv_X8_mayOf rfl rfl rfl (Nat.le_of_ble_eq_true rfl) sh_10 ci_X8 (Nat.le_of_ble_eq_true rfl) ⟨Nat.le_of_ble_eq_true rfl, Nat.le_of_ble_eq_true rfl⟩ km ?_
        rintro w' u ⟨g51, g50, be', x, hv, rfl, a1, a2⟩
        obtain rfl := Option.some.inj hv
        have x8 := a2.1
        show mE l Sh0 none iX8_layMay RT 98 [some (.inr 10), some (.inl 1), y2, some (.inl (nI i)), y4] [.inl (nI x)] (zH h f49 g51 g50)
        refine e_istore (ls2 := [some (.inr 10), some (.inl 1), y2, some (.inl (nI i)), some (.inl (nI x))]) dX8_layMay_98 (Nat.le_of_ble_eq_true rfl) rfl ?_
        refine e_iload_n (i := 1) dX8_layMay_100 rfl rfl ?_
        refine b_if_ne (X := 1) (tgt := 115) (by decide) dX8_layMay_101 (by decide) ?_ ?_
        · intro e_101_t c_101_t
          refine e_iconst (v := 1) dX8_layMay_115 (by decide) ?_
          refine e_goto (tgt := 120) dX8_layMay_116 (by decide) ?_
          refine e_istore_n (i := 1) (ls2 := [some (.inr 10), some (.inl 1), y2, some (.inl (nI i)), some (.inl (nI x))]) dX8_layMay_120 rfl (Nat.le_of_ble_eq_true rfl) rfl ?_
          refine e_aload_n (i := 0) dX8_layMay_121 rfl rfl ?_
          refine e_getR (r := 49) dX8_layMay_122 fl_X8_73 sh_10 fj_10_40 ?_
          refine e_iload_n (i := 3) dX8_layMay_125 rfl rfl ?_
          refine e_iload dX8_layMay_126 rfl ?_
          refine e_iast dX8_layMay_128 sh_49 (vin_ofX (X := ((i : Nat) : Int)) (nI_toInt (by omega)) (by omega) (by omega)) ?_
          rw [nI_clamp (by omega)]
          refine e_iinc (v := nI (i + 1)) (ls2 := [some (.inr 10), some (.inl 1), y2, some (.inl (nI (i + 1))), some (.inl (nI x))]) dX8_layMay_129 rfl (nI_inc1 _) (Nat.le_of_ble_eq_true rfl) rfl ?_
          refine e_goto (tgt := 87) dX8_layMay_132 (by decide) ?_
          rw [zH_49]
          have hQ2 := lQ_step hB (show i < 20 by omega) hc hQ a2
          rw [show (if x = ma i then true else true) = true from by split <;> rfl] at hQ2
          exact ih (i + 1) (upd f49 i (nI x)) g51 g50 true (ud ma i x) be' _ (by omega) (rw9_ud h49) a1 hQ2
        · intro e_101_f c_101_f
          exfalso; omega
def mz (ma be : Nat → Nat) : Nat := pcs 20 ma + pcs 4 be
set_option maxHeartbeats 2000000 in
theorem lp_M_layMay (l : Launch) {sg : Nat → Int32} {ln sz : Nat → Nat} (hB : aWB sg ln sz) (h : mH) (hM : MB sg ln sz h) (A W : Nat → Nat) (hc : yCl sg ln sz A W) (hl : yLe sg ln sz A W) (RT : Option Int32 → mH → Prop) (hR : ∀ f49 f51 f50, (∀ p, p < 20 → 0 < sz p → f49 p = nI (A (40 * p))) → RT none (zH h f49 f51 f50)) : ∀ (d : Nat) (f49 f51 f50 : Nat → Int32) (ma be : Nat → Nat) (y2 y3 y4 : Option mV), 72 < mz ma be + d → rw9 f49 ma 20 → rw9 f50 be 4 → rI sg ln sz A W ma be → mE l Sh0 none iX8_layMay RT 43 [some (.inr 10), some (.inl 1), y2, y3, y4] [] (zH h f49 f51 f50) := by
  intro d
  induction d with
  | zero =>
    intro f49 f51 f50 ma be y2 y3 y4 hd
    have h1 := pcs_le 20 ma
    have h2 := pcs_le 4 be
    unfold mz at hd
    omega
  | succ d ih =>
    intro f49 f51 f50 ma0 be0 y2 y3 y4 hd h49 h50 hr9
    have hb0 := hr9.2.2.2.2.2
    have hcl0 := cd_lt hb0
    have k135 : ∀ g49 g51 g50 b ma be y3 y4, rw9 g49 ma 20 → rw9 g50 be 4 → lQ sg ln sz A W ma0 be0 20 b ma be → mE l Sh0 none iX8_layMay RT 135 [some (.inr 10), some (.inl (bI b)), some (.inl (nI (cd be0))), y3, y4] [] (zH h g49 g51 g50) := by
      intro f49 f51 f50 b ma be y3 y4 h49 h50 hQ
      have hb8 := hQ.1.2.2.2.2.2
      have hcl := cd_lt hb8
      have go : ((∃ p, p < 20 ∧ ma0 p ≠ ma p) ∨ ∃ d, d < 4 ∧ be0 d ≠ be d) → ∀ y2 y3 y4, mE l Sh0 none iX8_layMay RT 43 [some (.inr 10), some (.inl 1), y2, y3, y4] [] (zH h f49 f51 f50) := by
        intro hne y2 y3 y4
        refine ih f49 f51 f50 ma be y2 y3 y4 ?_ h49 h50 hQ.1
        have m1 := pcs_mono (n := 20) (fun q _ => hr9.2.2.2.2.1 q) (fun q _ => hQ.1.2.2.2.2.1 q) (fun q hq => hQ.2.1 q hq)
        have m2 := pcs_mono (n := 4) (fun q _ => hb0 q) (fun q _ => hb8 q) (fun q hq => hQ.2.2.1 q hq)
        unfold mz at hd ⊢
        rcases hne with z | z
        · have m3 := pcs_lt (n := 20) (fun q _ => hr9.2.2.2.2.1 q) (fun q _ => hQ.1.2.2.2.2.1 q) (fun q hq => hQ.2.1 q hq) z
          omega
        · have m3 := pcs_lt (n := 4) (fun q _ => hb0 q) (fun q _ => hb8 q) (fun q hq => hQ.2.2.1 q hq) z
          omega
      have s0 : zH h f49 f51 f50 50 (0 : Int32).toNatClampNeg = nI (be 0) := h50 0 (by omega)
      have s1 : zH h f49 f51 f50 50 (1 : Int32).toNatClampNeg = nI (be 1) := h50 1 (by omega)
      have s2 : zH h f49 f51 f50 50 (2 : Int32).toNatClampNeg = nI (be 2) := h50 2 (by omega)
      have s3 : zH h f49 f51 f50 50 (3 : Int32).toNatClampNeg = nI (be 3) := h50 3 (by omega)
      have t0 := hb8 0
      have t1 := hb8 1
      have t2 := hb8 2
      have t3 := hb8 3
      cases b with
      | true =>
        show mE l Sh0 none iX8_layMay RT 135 [some (.inr 10), some (.inl 1), some (.inl (nI (cd be0))), y3, y4] [] (zH h f49 f51 f50)
        refine e_iload_n (i := 1) dX8_layMay_135 rfl rfl ?_
        refine b_if_ne (X := 1) (tgt := 178) (by decide) dX8_layMay_136 (by decide) ?_ ?_
        · intro e_136_t c_136_t
          refine e_iconst (v := 1) dX8_layMay_178 (by decide) ?_
          refine e_goto (tgt := 183) dX8_layMay_179 (by decide) ?_
          refine e_istore_n (i := 1) (ls2 := [some (.inr 10), some (.inl 1), some (.inl (nI (cd be0))), y3, y4]) dX8_layMay_183 rfl (Nat.le_of_ble_eq_true rfl) rfl ?_
          refine e_goto (tgt := 43) dX8_layMay_184 (by decide) ?_
          exact go (Or.inl (hQ.2.2.2.2.1 rfl)) _ _ _
        · intro e_136_f c_136_f
          exfalso; omega
      | false =>
        show mE l Sh0 none iX8_layMay RT 135 [some (.inr 10), some (.inl 0), some (.inl (nI (cd be0))), y3, y4] [] (zH h f49 f51 f50)
        refine e_iload_n (i := 1) dX8_layMay_135 rfl rfl ?_
        refine b_if_ne (X := 0) (tgt := 178) (by decide) dX8_layMay_136 (by decide) ?_ ?_
        · intro e_136_t c_136_t
          exfalso; omega
        · intro e_136_f c_136_f
          refine e_iload_n (i := 2) dX8_layMay_139 rfl rfl ?_
          refine e_aload_n (i := 0) dX8_layMay_140 rfl rfl ?_
          refine e_getR (r := 50) dX8_layMay_141 fl_X8_76 sh_10 fj_10_41 ?_
          refine e_iconst (v := 0) dX8_layMay_144 (by decide) ?_
          refine e_iald (x := nI (be 0)) dX8_layMay_145 sh_50 (vin_ofX (X := 0) (by decide) (by omega) (by omega)) s0 ?_
          refine e_aload_n (i := 0) dX8_layMay_146 rfl rfl ?_
          refine e_getR (r := 50) dX8_layMay_147 fl_X8_76 sh_10 fj_10_41 ?_
          refine e_iconst (v := 1) dX8_layMay_150 (by decide) ?_
          refine e_iald (x := nI (be 1)) dX8_layMay_151 sh_50 (vin_ofX (X := 1) (by decide) (by omega) (by omega)) s1 ?_
          refine e_iconst (v := 3) dX8_layMay_152 (by decide) ?_
          refine z_ishl (z := nI (be 1 * 2 ^ 3)) (pk_shlN _ 3 (by decide) (by omega)) dX8_layMay_153 ?_
          refine z_ior (z := nI (be 0 + be 1 * 2 ^ 3)) (or_hi 3 (by omega)) dX8_layMay_154 ?_
          refine e_aload_n (i := 0) dX8_layMay_155 rfl rfl ?_
          refine e_getR (r := 50) dX8_layMay_156 fl_X8_76 sh_10 fj_10_41 ?_
          refine e_iconst (v := 2) dX8_layMay_159 (by decide) ?_
          refine e_iald (x := nI (be 2)) dX8_layMay_160 sh_50 (vin_ofX (X := 2) (by decide) (by omega) (by omega)) s2 ?_
          refine e_bipush (v := 6) dX8_layMay_161 (by decide) ?_
          refine z_ishl (z := nI (be 2 * 2 ^ 6)) (pk_shlN _ 6 (by decide) (by omega)) dX8_layMay_163 ?_
          refine z_ior (z := nI (be 0 + be 1 * 2 ^ 3 + be 2 * 2 ^ 6)) (or_hi 6 (by omega)) dX8_layMay_164 ?_
          refine e_aload_n (i := 0) dX8_layMay_165 rfl rfl ?_
          refine e_getR (r := 50) dX8_layMay_166 fl_X8_76 sh_10 fj_10_41 ?_
          refine e_iconst (v := 3) dX8_layMay_169 (by decide) ?_
          refine e_iald (x := nI (be 3)) dX8_layMay_170 sh_50 (vin_ofX (X := 3) (by decide) (by omega) (by omega)) s3 ?_
          refine e_bipush (v := 9) dX8_layMay_171 (by decide) ?_
          refine z_ishl (z := nI (be 3 * 2 ^ 9)) (pk_shlN _ 9 (by decide) (by omega)) dX8_layMay_173 ?_
          refine z_ior (z := nI (cd be)) (or_hi 9 (by omega)) dX8_layMay_174 ?_
          refine b_icmp_eq (X := ((cd be0 : Nat) : Int)) (Y := ((cd be : Nat) : Int)) (tgt := 182) (nI_toInt (by omega)) (nI_toInt (by omega)) dX8_layMay_175 (by decide) ?_ ?_
          · intro e_175_t c_175_t
            refine e_iconst (v := 0) dX8_layMay_182 (by decide) ?_
            refine e_istore_n (i := 1) (ls2 := [some (.inr 10), some (.inl 0), some (.inl (nI (cd be0))), y3, y4]) dX8_layMay_183 rfl (Nat.le_of_ble_eq_true rfl) rfl ?_
            refine e_goto (tgt := 43) dX8_layMay_184 (by decide) ?_
            have hbe := cd_inj hb8 hb0 (by omega)
            refine e_iload_n (i := 1) dX8_layMay_43 rfl rfl ?_
            refine b_if_eq (X := 0) (tgt := 187) (by decide) dX8_layMay_44 (by decide) ?_ ?_
            · intro e_44_t c_44_t
              refine e_ret dX8_layMay_187 rfl ?_
              exact hR f49 f51 f50 (fun p hp hz => by rw [h49 p hp, lQ_end hB hl hQ hbe hp hz])
            · intro e_44_f c_44_f
              exfalso; omega
          · intro e_175_f c_175_f
            refine e_iconst (v := 1) dX8_layMay_178 (by decide) ?_
            refine e_goto (tgt := 183) dX8_layMay_179 (by decide) ?_
            refine e_istore_n (i := 1) (ls2 := [some (.inr 10), some (.inl 1), some (.inl (nI (cd be0))), y3, y4]) dX8_layMay_183 rfl (Nat.le_of_ble_eq_true rfl) rfl ?_
            refine e_goto (tgt := 43) dX8_layMay_184 (by decide) ?_
            exact go (Or.inr (Classical.byContradiction (fun z => c_175_f (by
              have e : cd be0 = cd be := by
                unfold cd
                have e : ∀ d, d < 4 → be0 d = be d := fun d hd => Classical.byContradiction (fun z2 => z ⟨d, hd, z2⟩)
                rw [e 0 (by omega), e 1 (by omega), e 2 (by omega), e 3 (by omega)]
              rw [e])))) _ _ _
    have s0 : zH h f49 f51 f50 50 (0 : Int32).toNatClampNeg = nI (be0 0) := h50 0 (by omega)
    have s1 : zH h f49 f51 f50 50 (1 : Int32).toNatClampNeg = nI (be0 1) := h50 1 (by omega)
    have s2 : zH h f49 f51 f50 50 (2 : Int32).toNatClampNeg = nI (be0 2) := h50 2 (by omega)
    have s3 : zH h f49 f51 f50 50 (3 : Int32).toNatClampNeg = nI (be0 3) := h50 3 (by omega)
    have t0 := hb0 0
    have t1 := hb0 1
    have t2 := hb0 2
    have t3 := hb0 3
    refine e_iload_n (i := 1) dX8_layMay_43 rfl rfl ?_
    refine b_if_eq (X := 1) (tgt := 187) (by decide) dX8_layMay_44 (by decide) ?_ ?_
    · intro e_44_t c_44_t
      exfalso; omega
    · intro e_44_f c_44_f
      refine e_iconst (v := 0) dX8_layMay_47 (by decide) ?_
      refine e_istore_n (i := 1) (ls2 := [some (.inr 10), some (.inl 0), y2, y3, y4]) dX8_layMay_48 rfl (Nat.le_of_ble_eq_true rfl) rfl ?_
      refine e_aload_n (i := 0) dX8_layMay_49 rfl rfl ?_
      refine e_getR (r := 50) dX8_layMay_50 fl_X8_76 sh_10 fj_10_41 ?_
      refine e_iconst (v := 0) dX8_layMay_53 (by decide) ?_
      refine e_iald (x := nI (be0 0)) dX8_layMay_54 sh_50 (vin_ofX (X := 0) (by decide) (by omega) (by omega)) s0 ?_
      refine e_aload_n (i := 0) dX8_layMay_55 rfl rfl ?_
      refine e_getR (r := 50) dX8_layMay_56 fl_X8_76 sh_10 fj_10_41 ?_
      refine e_iconst (v := 1) dX8_layMay_59 (by decide) ?_
      refine e_iald (x := nI (be0 1)) dX8_layMay_60 sh_50 (vin_ofX (X := 1) (by decide) (by omega) (by omega)) s1 ?_
      refine e_iconst (v := 3) dX8_layMay_61 (by decide) ?_
      refine z_ishl (z := nI (be0 1 * 2 ^ 3)) (pk_shlN _ 3 (by decide) (by omega)) dX8_layMay_62 ?_
      refine z_ior (z := nI (be0 0 + be0 1 * 2 ^ 3)) (or_hi 3 (by omega)) dX8_layMay_63 ?_
      refine e_aload_n (i := 0) dX8_layMay_64 rfl rfl ?_
      refine e_getR (r := 50) dX8_layMay_65 fl_X8_76 sh_10 fj_10_41 ?_
      refine e_iconst (v := 2) dX8_layMay_68 (by decide) ?_
      refine e_iald (x := nI (be0 2)) dX8_layMay_69 sh_50 (vin_ofX (X := 2) (by decide) (by omega) (by omega)) s2 ?_
      refine e_bipush (v := 6) dX8_layMay_70 (by decide) ?_
      refine z_ishl (z := nI (be0 2 * 2 ^ 6)) (pk_shlN _ 6 (by decide) (by omega)) dX8_layMay_72 ?_
      refine z_ior (z := nI (be0 0 + be0 1 * 2 ^ 3 + be0 2 * 2 ^ 6)) (or_hi 6 (by omega)) dX8_layMay_73 ?_
      refine e_aload_n (i := 0) dX8_layMay_74 rfl rfl ?_
      refine e_getR (r := 50) dX8_layMay_75 fl_X8_76 sh_10 fj_10_41 ?_
      refine e_iconst (v := 3) dX8_layMay_78 (by decide) ?_
      refine e_iald (x := nI (be0 3)) dX8_layMay_79 sh_50 (vin_ofX (X := 3) (by decide) (by omega) (by omega)) s3 ?_
      refine e_bipush (v := 9) dX8_layMay_80 (by decide) ?_
      refine z_ishl (z := nI (be0 3 * 2 ^ 9)) (pk_shlN _ 9 (by decide) (by omega)) dX8_layMay_82 ?_
      refine z_ior (z := nI (cd be0)) (or_hi 9 (by omega)) dX8_layMay_83 ?_
      refine e_istore_n (i := 2) (ls2 := [some (.inr 10), some (.inl 0), some (.inl (nI (cd be0))), y3, y4]) dX8_layMay_84 rfl (Nat.le_of_ble_eq_true rfl) rfl ?_
      refine e_iconst (v := 0) dX8_layMay_85 (by decide) ?_
      refine e_istore_n (i := 3) (ls2 := [some (.inr 10), some (.inl 0), some (.inl (nI (cd be0))), some (.inl 0), y4]) dX8_layMay_86 rfl (Nat.le_of_ble_eq_true rfl) rfl ?_
      exact lp_M_lay l hB h hM A W hc ma0 be0 _ RT k135 20 0 f49 f51 f50 false ma0 be0 _ rfl h49 h50 ⟨hr9, fun _ _ => sb_refl _, fun _ _ => sb_refl _, fun _ _ _ => rfl, fun z => (by cases z), fun q hq => absurd hq (Nat.not_lt_zero _), fun q hq => absurd hq (Nat.not_lt_zero _)⟩
set_option maxHeartbeats 1000000 in
theorem lp_M_z1 (l : Launch) (h : mH) (f : Nat → Int32) (y2 y3 y4 : Option mV) (RT : Option Int32 → mH → Prop) (hk : ∀ y1, mE l Sh0 none iX8_layMay RT 21 [some (.inr 10), y1, y2, y3, y4] [] (hr h 49 (zf f 20))) : ∀ (d i : Nat), i + d = 20 → mE l Sh0 none iX8_layMay RT 2 [some (.inr 10), some (.inl (nI i)), y2, y3, y4] [] (hr h 49 (zf f i)) := by
  intro d
  induction d with
  | zero =>
    intro i hd
    refine e_iload_n (i := 1) dX8_layMay_2 rfl rfl ?_
    refine e_bipush (v := 20) dX8_layMay_3 (by decide) ?_
    refine b_icmp_ge (X := ((i : Nat) : Int)) (Y := 20) (tgt := 21) (nI_toInt (by omega)) (by decide) dX8_layMay_5 (by decide) ?_ ?_
    · intro c_5_t
      have e : i = 20 := by omega
      subst e
      exact hk _
    · intro c_5_f
      exfalso; omega
  | succ d ih =>
    intro i hd
    refine e_iload_n (i := 1) dX8_layMay_2 rfl rfl ?_
    refine e_bipush (v := 20) dX8_layMay_3 (by decide) ?_
    refine b_icmp_ge (X := ((i : Nat) : Int)) (Y := 20) (tgt := 21) (nI_toInt (by omega)) (by decide) dX8_layMay_5 (by decide) ?_ ?_
    · intro c_5_t
      exfalso; omega
    · intro c_5_f
      refine e_aload_n (i := 0) dX8_layMay_8 rfl rfl ?_
      refine e_getR (r := 49) dX8_layMay_9 fl_X8_73 sh_10 fj_10_40 ?_
      refine e_iload_n (i := 1) dX8_layMay_12 rfl rfl ?_
      refine e_iconst (v := 0) dX8_layMay_13 (by decide) ?_
      refine e_iast dX8_layMay_14 sh_49 (vin_ofX (X := ((i : Nat) : Int)) (nI_toInt (by omega)) (by omega) (by omega)) ?_
      rw [nI_clamp (by omega)]
      refine e_iinc (v := nI (i + 1)) (ls2 := [some (.inr 10), some (.inl (nI (i + 1))), y2, y3, y4]) dX8_layMay_15 rfl (nI_inc1 _) (Nat.le_of_ble_eq_true rfl) rfl ?_
      refine e_goto (tgt := 2) dX8_layMay_18 (by decide) ?_
      rw [hr_hs, zf_s]
      exact ih (i + 1) (by omega)
set_option maxHeartbeats 1000000 in
theorem lp_M_z2 (l : Launch) (h : mH) (f : Nat → Int32) (y2 y3 y4 : Option mV) (RT : Option Int32 → mH → Prop) (hk : ∀ y1, mE l Sh0 none iX8_layMay RT 41 [some (.inr 10), y1, y2, y3, y4] [] (hr h 50 (zf f 4))) : ∀ (d i : Nat), i + d = 4 → mE l Sh0 none iX8_layMay RT 23 [some (.inr 10), some (.inl (nI i)), y2, y3, y4] [] (hr h 50 (zf f i)) := by
  intro d
  induction d with
  | zero =>
    intro i hd
    refine e_iload_n (i := 1) dX8_layMay_23 rfl rfl ?_
    refine e_iconst (v := 4) dX8_layMay_24 (by decide) ?_
    refine b_icmp_ge (X := ((i : Nat) : Int)) (Y := 4) (tgt := 41) (nI_toInt (by omega)) (by decide) dX8_layMay_25 (by decide) ?_ ?_
    · intro c_25_t
      have e : i = 4 := by omega
      subst e
      exact hk _
    · intro c_25_f
      exfalso; omega
  | succ d ih =>
    intro i hd
    refine e_iload_n (i := 1) dX8_layMay_23 rfl rfl ?_
    refine e_iconst (v := 4) dX8_layMay_24 (by decide) ?_
    refine b_icmp_ge (X := ((i : Nat) : Int)) (Y := 4) (tgt := 41) (nI_toInt (by omega)) (by decide) dX8_layMay_25 (by decide) ?_ ?_
    · intro c_25_t
      exfalso; omega
    · intro c_25_f
      refine e_aload_n (i := 0) dX8_layMay_28 rfl rfl ?_
      refine e_getR (r := 50) dX8_layMay_29 fl_X8_76 sh_10 fj_10_41 ?_
      refine e_iload_n (i := 1) dX8_layMay_32 rfl rfl ?_
      refine e_iconst (v := 0) dX8_layMay_33 (by decide) ?_
      refine e_iast dX8_layMay_34 sh_50 (vin_ofX (X := ((i : Nat) : Int)) (nI_toInt (by omega)) (by omega) (by omega)) ?_
      rw [nI_clamp (by omega)]
      refine e_iinc (v := nI (i + 1)) (ls2 := [some (.inr 10), some (.inl (nI (i + 1))), y2, y3, y4]) dX8_layMay_35 rfl (nI_inc1 _) (Nat.le_of_ble_eq_true rfl) rfl ?_
      refine e_goto (tgt := 23) dX8_layMay_38 (by decide) ?_
      rw [hr_hs, zf_s]
      exact ih (i + 1) (by omega)
set_option maxHeartbeats 1000000 in
theorem k_M_layMay (l : Launch) {sg : Nat → Int32} {ln sz : Nat → Nat} (hB : aWB sg ln sz) (h : mH) (hM : MB sg ln sz h) (A W : Nat → Nat) (hc : yCl sg ln sz A W) (hl : yLe sg ln sz A W) : mG l Sh0 iX8_layMay [.inr 10] h (fun v h' => v = none ∧ ∃ f49 f51 f50, h' = zH h f49 f51 f50 ∧ ∀ p, p < 20 → 0 < sz p → f49 p = nI (A (40 * p))) := by
  intro RT hR
  have k41 : ∀ y1, mE l Sh0 none iX8_layMay RT 41 [some (.inr 10), y1, none, none, none] [] (hr (hr h 49 (zf (h 49) 20)) 50 (zf (h 50) 4)) := by
    intro y1
    refine e_iconst (v := 1) dX8_layMay_41 (by decide) ?_
    refine e_istore_n (i := 1) (ls2 := [some (.inr 10), some (.inl 1), none, none, none]) dX8_layMay_42 rfl (Nat.le_of_ble_eq_true rfl) rfl ?_
    have e : hr (hr h 49 (zf (h 49) 20)) 50 (zf (h 50) 4) = zH h (zf (h 49) 20) (h 51) (zf (h 50) 4) := (hr_self (hr (hr h 49 (zf (h 49) 20)) 50 (zf (h 50) 4)) 51).symm
    rw [e]
    exact lp_M_layMay l hB h hM A W hc hl RT (fun f49 f51 f50 a => hR _ _ ⟨rfl, f49, f51, f50, rfl, a⟩) 73 (zf (h 49) 20) (h 51) (zf (h 50) 4) (fun _ => 0) (fun _ => 0) _ _ _ (by omega) (fun q hq => zf_in hq) (fun q hq => zf_in hq) ⟨fun _ _ _ => sb_0 _, fun _ _ => sb_0 _, fun _ _ _ => sb_0 _, fun _ _ _ => rfl, fun _ => (by decide : 0 < 8), fun _ => (by decide : 0 < 8)⟩
  have k21 : ∀ y1, mE l Sh0 none iX8_layMay RT 21 [some (.inr 10), y1, none, none, none] [] (hr h 49 (zf (h 49) 20)) := by
    intro y1
    refine e_iconst (v := 0) dX8_layMay_21 (by decide) ?_
    refine e_istore_n (i := 1) (ls2 := [some (.inr 10), some (.inl 0), none, none, none]) dX8_layMay_22 rfl (Nat.le_of_ble_eq_true rfl) rfl ?_
    have q := lp_M_z2 l (hr h 49 (zf (h 49) 20)) (h 50) none none none RT k41 4 0 rfl
    rw [zf_0, show hr (hr h 49 (zf (h 49) 20)) 50 (h 50) = hr h 49 (zf (h 49) 20) from hr_self (hr h 49 (zf (h 49) 20)) 50] at q
    exact q
  show mE l Sh0 none iX8_layMay RT 0 [some (.inr 10), none, none, none, none] [] h
  refine e_iconst (v := 0) dX8_layMay_0 (by decide) ?_
  refine e_istore_n (i := 1) (ls2 := [some (.inr 10), some (.inl 0), none, none, none]) dX8_layMay_1 rfl (Nat.le_of_ble_eq_true rfl) rfl ?_
  have q := lp_M_z1 l h (h 49) none none none RT k21 20 0 rfl
  rw [zf_0, hr_self] at q
  exact q
set_option maxHeartbeats 1000000 in
theorem k_D_mayT (l : Launch) {sg : Nat → Int32} {ln sz : Nat → Nat} (hB : aWB sg ln sz) (h : mH) (hC : CB sg ln sz h) (p : Nat) (hp : p < 4) : mG l Sh0 iX7_may [.inr 0, .inl (-1), .inl (nI p)] h (fun v h' => ∃ f25 f27 A W, v = some (nI (A (40 * p))) ∧ h' = yH h f25 f27 ∧ yI sg ln sz A W ∧ yCl sg ln sz A W) := by
  intro RT hR
  show mE l Sh0 none iX7_may RT 0 [some (.inr 0), some (.inl (-1)), some (.inl (nI p))] [] h
  refine e_iload_n (i := 1) dX7_may_0 rfl rfl ?_
  refine e_iconst (v := (-1)) dX7_may_1 (by decide) ?_
  refine b_icmp_ne (X := (-1)) (Y := (-1)) (tgt := 25) (by decide) (by decide) dX7_may_2 (by decide) ?_ ?_
  · intro e_2_t c_2_t
    exfalso; omega
  · intro e_2_f c_2_f
    refine e_iload_n (i := 2) dX7_may_5 rfl rfl ?_
    refine e_invSi (As := [.inl (nI p)]) (v := 1) (h2 := h) dX7_may_6 lk_X7_70 ys_X7_isText rfl rfl rfl (Nat.le_of_ble_eq_true rfl) (Nat.le_of_ble_eq_true rfl) ⟨Nat.le_of_ble_eq_true rfl, Nat.le_of_ble_eq_true rfl⟩ (k_cTextX l h (nI p) (if_pos (by rw [nI_toInt (by omega)]; omega))) ?_
    refine b_if_eq (X := 1) (tgt := 23) (by decide) dX7_may_9 (by decide) ?_ ?_
    · intro e_9_t c_9_t
      exfalso; omega
    · intro e_9_f c_9_f
      refine e_aload_n (i := 0) dX7_may_12 rfl rfl ?_
      refine e_getR (r := 9) dX7_may_13 fl_X7_50 sh_0 fj_0_6 ?_
      refine e_iload_n (i := 2) dX7_may_16 rfl rfl ?_
      refine e_invViG (As := [.inl (nI p)]) dX7_may_17 lk_X7_114 yv_X6_beyond rfl rfl rfl (Nat.le_of_ble_eq_true rfl) sh_9 ci_X6 (Nat.le_of_ble_eq_true rfl) ⟨Nat.le_of_ble_eq_true rfl, Nat.le_of_ble_eq_true rfl⟩ (k_W_beyond l hB h hC (p) (by omega)) ?_
      intro w' u q
      refine e_goto (tgt := 24) dX7_may_20 (by decide) ?_
      refine e_iret dX7_may_24 (mret_i _) ?_
      exact hR _ _ q
set_option maxHeartbeats 1000000 in
theorem k_D_mayC (l : Launch) {sg : Nat → Int32} {ln sz : Nat → Nat} (hB : aWB sg ln sz) (h : mH) (hC : CB sg ln sz h) (a b : Nat) (ha : a < 4) (hb9 : b < 4) (hz : 0 < sz (4 + 4 * a + b)) : mG l Sh0 iX7_may [.inr 0, .inl (nI a), .inl (nI b)] h (fun v h' => ∃ f25 f27 A W, v = some (nI (A (40 * (4 + 4 * a + b)))) ∧ h' = yH h f25 f27 ∧ yI sg ln sz A W ∧ yCl sg ln sz A W) := by
  have hz40 := hB.1 (4 + 4 * a + b) (by omega)
  intro RT hR
  show mE l Sh0 none iX7_may RT 0 [some (.inr 0), some (.inl (nI a)), some (.inl (nI b))] [] h
  refine e_iload_n (i := 1) dX7_may_0 rfl rfl ?_
  refine e_iconst (v := (-1)) dX7_may_1 (by decide) ?_
  refine b_icmp_ne (X := ((a : Nat) : Int)) (Y := (-1)) (tgt := 25) (nI_toInt (by omega)) (by decide) dX7_may_2 (by decide) ?_ ?_
  · intro e_2_t c_2_t
    refine e_aload_n (i := 0) dX7_may_25 rfl rfl ?_
    refine e_iload_n (i := 1) dX7_may_26 rfl rfl ?_
    refine e_iload_n (i := 2) dX7_may_27 rfl rfl ?_
    refine e_invVi (As := [.inl (nI a), .inl (nI b)]) (v := 1) (h2 := h) dX7_may_28 lk_X7_117 yv_X7_isClause rfl rfl rfl (Nat.le_of_ble_eq_true rfl) sh_0 ci_X7 (Nat.le_of_ble_eq_true rfl) ⟨Nat.le_of_ble_eq_true rfl, Nat.le_of_ble_eq_true rfl⟩ (k_D_isClause1 l h a b _ ha hb9 hz40 (hC.2.1 _ (by omega)) hz) ?_
    refine b_if_eq (X := 1) (tgt := 49) (by decide) dX7_may_31 (by decide) ?_ ?_
    · intro e_31_t c_31_t
      exfalso; omega
    · intro e_31_f c_31_f
      refine e_aload_n (i := 0) dX7_may_34 rfl rfl ?_
      refine e_getR (r := 9) dX7_may_35 fl_X7_50 sh_0 fj_0_6 ?_
      refine e_iload_n (i := 1) dX7_may_38 rfl rfl ?_
      refine e_iload_n (i := 2) dX7_may_39 rfl rfl ?_
      refine e_invSi (As := [.inl (nI a), .inl (nI b)]) (v := nI (4 + 4 * a + b)) (h2 := h) dX7_may_40 lk_X7_81 ys_X7_pageOf rfl rfl rfl (Nat.le_of_ble_eq_true rfl) (Nat.le_of_ble_eq_true rfl) ⟨Nat.le_of_ble_eq_true rfl, Nat.le_of_ble_eq_true rfl⟩ (k_pageOfX l h a b) ?_
      refine e_invViG (As := [.inl (nI (4 + 4 * a + b))]) dX7_may_43 lk_X7_114 yv_X6_beyond rfl rfl rfl (Nat.le_of_ble_eq_true rfl) sh_9 ci_X6 (Nat.le_of_ble_eq_true rfl) ⟨Nat.le_of_ble_eq_true rfl, Nat.le_of_ble_eq_true rfl⟩ (k_W_beyond l hB h hC (4 + 4 * a + b) (by omega)) ?_
      intro w' u q
      refine e_goto (tgt := 50) dX7_may_46 (by decide) ?_
      refine e_iret dX7_may_50 (mret_i _) ?_
      exact hR _ _ q
  · intro e_2_f c_2_f
    exfalso; omega
set_option maxHeartbeats 1000000 in
theorem k_D_mayUT (l : Launch) (h : mH) (y : Int32) (hy : ¬ (0 ≤ y.toInt ∧ y.toInt < 4)) : mD l Sh0 iX7_may [.inr 0, .inl (-1), .inl y] h (some (-1)) h := by
  intro RT hR
  show mE l Sh0 none iX7_may RT 0 [some (.inr 0), some (.inl (-1)), some (.inl y)] [] h
  refine e_iload_n (i := 1) dX7_may_0 rfl rfl ?_
  refine e_iconst (v := (-1)) dX7_may_1 (by decide) ?_
  refine b_icmp_ne (X := (-1)) (Y := (-1)) (tgt := 25) (by decide) (by decide) dX7_may_2 (by decide) ?_ ?_
  · intro e_2_t c_2_t
    exfalso; omega
  · intro e_2_f c_2_f
    refine e_iload_n (i := 2) dX7_may_5 rfl rfl ?_
    refine e_invSi (As := [.inl y]) (v := 0) (h2 := h) dX7_may_6 lk_X7_70 ys_X7_isText rfl rfl rfl (Nat.le_of_ble_eq_true rfl) (Nat.le_of_ble_eq_true rfl) ⟨Nat.le_of_ble_eq_true rfl, Nat.le_of_ble_eq_true rfl⟩ (k_cTextX l h y (if_neg hy)) ?_
    refine b_if_eq (X := 0) (tgt := 23) (by decide) dX7_may_9 (by decide) ?_ ?_
    · intro e_9_t c_9_t
      refine e_iconst (v := (-1)) dX7_may_23 (by decide) ?_
      refine e_iret dX7_may_24 (mret_i _) ?_
      exact hR
    · intro e_9_f c_9_f
      exfalso; omega
set_option maxHeartbeats 1000000 in
theorem k_D_mayUC (l : Launch) (h : mH) (x y : Int32) (hx : x.toInt ≠ -1) (kc : mD l Sh0 iX7_isClause [.inr 0, .inl x, .inl y] h (some 0) h) : mD l Sh0 iX7_may [.inr 0, .inl x, .inl y] h (some (-1)) h := by
  intro RT hR
  show mE l Sh0 none iX7_may RT 0 [some (.inr 0), some (.inl x), some (.inl y)] [] h
  refine e_iload_n (i := 1) dX7_may_0 rfl rfl ?_
  refine e_iconst (v := (-1)) dX7_may_1 (by decide) ?_
  refine b_icmp_ne (X := x.toInt) (Y := (-1)) (tgt := 25) rfl (by decide) dX7_may_2 (by decide) ?_ ?_
  · intro e_2_t c_2_t
    refine e_aload_n (i := 0) dX7_may_25 rfl rfl ?_
    refine e_iload_n (i := 1) dX7_may_26 rfl rfl ?_
    refine e_iload_n (i := 2) dX7_may_27 rfl rfl ?_
    refine e_invVi (As := [.inl x, .inl y]) (v := 0) (h2 := h) dX7_may_28 lk_X7_117 yv_X7_isClause rfl rfl rfl (Nat.le_of_ble_eq_true rfl) sh_0 ci_X7 (Nat.le_of_ble_eq_true rfl) ⟨Nat.le_of_ble_eq_true rfl, Nat.le_of_ble_eq_true rfl⟩ kc ?_
    refine b_if_eq (X := 0) (tgt := 49) (by decide) dX7_may_31 (by decide) ?_ ?_
    · intro e_31_t c_31_t
      refine e_iconst (v := (-1)) dX7_may_49 (by decide) ?_
      refine e_iret dX7_may_50 (mret_i _) ?_
      exact hR
    · intro e_31_f c_31_f
      exfalso; omega
  · intro e_2_f c_2_f
    exfalso; omega
set_option maxHeartbeats 1000000 in
theorem k_M_mayT (l : Launch) {sg : Nat → Int32} {ln sz : Nat → Nat} (hB : aWB sg ln sz) (h : mH) (hM : MB sg ln sz h) (A W : Nat → Nat) (hc : yCl sg ln sz A W) (hl : yLe sg ln sz A W) (p : Nat) (hp : p < 4) (hz : 0 < sz p) : mG l Sh0 iX8_may [.inr 10, .inl (-1), .inl (nI p)] h (fun v h' => v = some (nI (A (40 * p))) ∧ ∃ f49 f51 f50, h' = zH h f49 f51 f50) := by
  intro RT hR
  show mE l Sh0 none iX8_may RT 0 [some (.inr 10), some (.inl (-1)), some (.inl (nI p)), none] [] h
  refine e_iload_n (i := 1) dX8_may_0 rfl rfl ?_
  refine e_iconst (v := (-1)) dX8_may_1 (by decide) ?_
  refine b_icmp_ne (X := (-1)) (Y := (-1)) (tgt := 9) (by decide) (by decide) dX8_may_2 (by decide) ?_ ?_
  · intro e_2_t c_2_t
    exfalso; omega
  · intro e_2_f c_2_f
    refine e_iconst (v := 1) dX8_may_5 (by decide) ?_
    refine e_goto (tgt := 10) dX8_may_6 (by decide) ?_
    refine e_istore_n (i := 3) (ls2 := [some (.inr 10), some (.inl (-1)), some (.inl (nI p)), some (.inl 1)]) dX8_may_10 rfl (Nat.le_of_ble_eq_true rfl) rfl ?_
    refine e_iload_n (i := 1) dX8_may_11 rfl rfl ?_
    refine e_iconst (v := (-1)) dX8_may_12 (by decide) ?_
    refine e_iconst (v := 3) dX8_may_13 (by decide) ?_
    refine e_invSi (As := [.inl (-1), .inl (-1), .inl 3]) (v := 1) (h2 := h) dX8_may_14 lk_X8_85 ys_X8_in rfl rfl rfl (Nat.le_of_ble_eq_true rfl) (Nat.le_of_ble_eq_true rfl) ⟨Nat.le_of_ble_eq_true rfl, Nat.le_of_ble_eq_true rfl⟩ (k_M_in (X := -1) (Y := -1) (Z := 3) l h (-1) (-1) 3 (by decide) (by decide) (by decide) (if_pos (by omega))) ?_
    refine b_if_eq (X := 1) (tgt := 40) (by decide) dX8_may_17 (by decide) ?_ ?_
    · intro e_17_t c_17_t
      exfalso; omega
    · intro e_17_f c_17_f
      refine e_iload_n (i := 2) dX8_may_20 rfl rfl ?_
      refine e_invSi (As := [.inl (nI p)]) (v := 1) (h2 := h) dX8_may_21 lk_X8_101 ys_X8_isFour rfl rfl rfl (Nat.le_of_ble_eq_true rfl) (Nat.le_of_ble_eq_true rfl) ⟨Nat.le_of_ble_eq_true rfl, Nat.le_of_ble_eq_true rfl⟩ (k_M_four1 l h (nI p) (by rw [nI_toInt (by omega)]; omega)) ?_
      refine b_if_eq (X := 1) (tgt := 40) (by decide) dX8_may_24 (by decide) ?_ ?_
      · intro e_24_t c_24_t
        exfalso; omega
      · intro e_24_f c_24_f
        refine e_iload_n (i := 3) dX8_may_27 rfl rfl ?_
        refine b_if_ne (X := 1) (tgt := 42) (by decide) dX8_may_28 (by decide) ?_ ?_
        · intro e_28_t c_28_t
          refine e_aload_n (i := 0) dX8_may_42 rfl rfl ?_
          refine e_invVvG (As := []) (ty := .int) dX8_may_43 lk_X8_215 yv_X8_layMay rfl rfl rfl (Nat.le_of_ble_eq_true rfl) sh_10 ci_X8 (Nat.le_of_ble_eq_true rfl) ⟨Nat.le_of_ble_eq_true rfl, Nat.le_of_ble_eq_true rfl⟩ (k_M_layMay l hB h hM A W hc hl) ?_
          rintro u ⟨-, f49, f51, f50, rfl, a1⟩
          refine e_aload_n (i := 0) dX8_may_46 rfl rfl ?_
          refine e_getR (r := 49) dX8_may_47 fl_X8_73 sh_10 fj_10_40 ?_
          refine e_iload_n (i := 3) dX8_may_50 rfl rfl ?_
          refine b_if_eq (X := 1) (tgt := 58) (by decide) dX8_may_51 (by decide) ?_ ?_
          · intro e_51_t c_51_t
            exfalso; omega
          · intro e_51_f c_51_f
            refine e_iload_n (i := 2) dX8_may_54 rfl rfl ?_
            refine e_goto (tgt := 63) dX8_may_55 (by decide) ?_
            refine e_iald (x := nI (A (40 * p))) dX8_may_63 sh_49 (vin_ofX (X := ((p : Nat) : Int)) (nI_toInt (by omega)) (by omega) (by omega)) (by rw [nI_clamp (by omega)]; exact (a1 p (by omega) hz)) ?_
            refine e_iret dX8_may_64 (mret_i _) ?_
            exact hR _ _ ⟨rfl, f49, f51, f50, rfl⟩
        · intro e_28_f c_28_f
          exfalso; omega
set_option maxHeartbeats 1000000 in
theorem k_M_mayC (l : Launch) {sg : Nat → Int32} {ln sz : Nat → Nat} (hB : aWB sg ln sz) (h : mH) (hM : MB sg ln sz h) (A W : Nat → Nat) (hc : yCl sg ln sz A W) (hl : yLe sg ln sz A W) (a b : Nat) (ha : a < 4) (hb9 : b < 4) (hz : 0 < sz (4 + 4 * a + b)) : mG l Sh0 iX8_may [.inr 10, .inl (nI a), .inl (nI b)] h (fun v h' => v = some (nI (A (40 * (4 + 4 * a + b)))) ∧ ∃ f49 f51 f50, h' = zH h f49 f51 f50) := by
  have hz40 := hB.1 (4 + 4 * a + b) (by omega)
  intro RT hR
  show mE l Sh0 none iX8_may RT 0 [some (.inr 10), some (.inl (nI a)), some (.inl (nI b)), none] [] h
  refine e_iload_n (i := 1) dX8_may_0 rfl rfl ?_
  refine e_iconst (v := (-1)) dX8_may_1 (by decide) ?_
  refine b_icmp_ne (X := ((a : Nat) : Int)) (Y := (-1)) (tgt := 9) (nI_toInt (by omega)) (by decide) dX8_may_2 (by decide) ?_ ?_
  · intro e_2_t c_2_t
    refine e_iconst (v := 0) dX8_may_9 (by decide) ?_
    refine e_istore_n (i := 3) (ls2 := [some (.inr 10), some (.inl (nI a)), some (.inl (nI b)), some (.inl 0)]) dX8_may_10 rfl (Nat.le_of_ble_eq_true rfl) rfl ?_
    refine e_iload_n (i := 1) dX8_may_11 rfl rfl ?_
    refine e_iconst (v := (-1)) dX8_may_12 (by decide) ?_
    refine e_iconst (v := 3) dX8_may_13 (by decide) ?_
    refine e_invSi (As := [.inl (nI a), .inl (-1), .inl 3]) (v := 1) (h2 := h) dX8_may_14 lk_X8_85 ys_X8_in rfl rfl rfl (Nat.le_of_ble_eq_true rfl) (Nat.le_of_ble_eq_true rfl) ⟨Nat.le_of_ble_eq_true rfl, Nat.le_of_ble_eq_true rfl⟩ (k_M_in (Y := -1) (Z := 3) l h (nI a) (-1) 3 (nI_toInt (by omega)) (by decide) (by decide) (if_pos (by omega))) ?_
    refine b_if_eq (X := 1) (tgt := 40) (by decide) dX8_may_17 (by decide) ?_ ?_
    · intro e_17_t c_17_t
      exfalso; omega
    · intro e_17_f c_17_f
      refine e_iload_n (i := 2) dX8_may_20 rfl rfl ?_
      refine e_invSi (As := [.inl (nI b)]) (v := 1) (h2 := h) dX8_may_21 lk_X8_101 ys_X8_isFour rfl rfl rfl (Nat.le_of_ble_eq_true rfl) (Nat.le_of_ble_eq_true rfl) ⟨Nat.le_of_ble_eq_true rfl, Nat.le_of_ble_eq_true rfl⟩ (k_M_four1 l h (nI b) (by rw [nI_toInt (by omega)]; omega)) ?_
      refine b_if_eq (X := 1) (tgt := 40) (by decide) dX8_may_24 (by decide) ?_ ?_
      · intro e_24_t c_24_t
        exfalso; omega
      · intro e_24_f c_24_f
        refine e_iload_n (i := 3) dX8_may_27 rfl rfl ?_
        refine b_if_ne (X := 0) (tgt := 42) (by decide) dX8_may_28 (by decide) ?_ ?_
        · intro e_28_t c_28_t
          exfalso; omega
        · intro e_28_f c_28_f
          refine e_aload_n (i := 0) dX8_may_31 rfl rfl ?_
          refine e_iload_n (i := 1) dX8_may_32 rfl rfl ?_
          refine e_iload_n (i := 2) dX8_may_33 rfl rfl ?_
          refine e_invVi (As := [.inl (nI a), .inl (nI b)]) (v := 1) (h2 := h) dX8_may_34 lk_X8_113 yv_X8_hasClause rfl rfl rfl (Nat.le_of_ble_eq_true rfl) sh_10 ci_X8 (Nat.le_of_ble_eq_true rfl) ⟨Nat.le_of_ble_eq_true rfl, Nat.le_of_ble_eq_true rfl⟩ (k_M_hasClause1 l h a b _ ha hb9 (hM.2.1 _ (by omega)) hz40 hz) ?_
          refine b_if_ne (X := 1) (tgt := 42) (by decide) dX8_may_37 (by decide) ?_ ?_
          · intro e_37_t c_37_t
            refine e_aload_n (i := 0) dX8_may_42 rfl rfl ?_
            refine e_invVvG (As := []) (ty := .int) dX8_may_43 lk_X8_215 yv_X8_layMay rfl rfl rfl (Nat.le_of_ble_eq_true rfl) sh_10 ci_X8 (Nat.le_of_ble_eq_true rfl) ⟨Nat.le_of_ble_eq_true rfl, Nat.le_of_ble_eq_true rfl⟩ (k_M_layMay l hB h hM A W hc hl) ?_
            rintro u ⟨-, f49, f51, f50, rfl, a1⟩
            refine e_aload_n (i := 0) dX8_may_46 rfl rfl ?_
            refine e_getR (r := 49) dX8_may_47 fl_X8_73 sh_10 fj_10_40 ?_
            refine e_iload_n (i := 3) dX8_may_50 rfl rfl ?_
            refine b_if_eq (X := 0) (tgt := 58) (by decide) dX8_may_51 (by decide) ?_ ?_
            · intro e_51_t c_51_t
              refine e_iload_n (i := 1) dX8_may_58 rfl rfl ?_
              refine e_iload_n (i := 2) dX8_may_59 rfl rfl ?_
              refine e_invSi (As := [.inl (nI a), .inl (nI b)]) (v := nI (4 + 4 * a + b)) (h2 := (zH h f49 f51 f50)) dX8_may_60 lk_X8_109 ys_X8_clauseOf rfl rfl rfl (Nat.le_of_ble_eq_true rfl) (Nat.le_of_ble_eq_true rfl) ⟨Nat.le_of_ble_eq_true rfl, Nat.le_of_ble_eq_true rfl⟩ (k_M_clauseOf l (zH h f49 f51 f50) a b) ?_
              refine e_iald (x := nI (A (40 * (4 + 4 * a + b)))) dX8_may_63 sh_49 (vin_ofX (X := ((4 + 4 * a + b : Nat) : Int)) (nI_toInt (by omega)) (by omega) (by omega)) (by rw [nI_clamp (by omega)]; exact (a1 _ (by omega) hz)) ?_
              refine e_iret dX8_may_64 (mret_i _) ?_
              exact hR _ _ ⟨rfl, f49, f51, f50, rfl⟩
            · intro e_51_f c_51_f
              exfalso; omega
          · intro e_37_f c_37_f
            exfalso; omega
  · intro e_2_f c_2_f
    exfalso; omega
set_option maxHeartbeats 1000000 in
theorem k_M_mayUx (l : Launch) (h : mH) (x y : Int32) (hx : ¬ (-1 ≤ x.toInt ∧ x.toInt ≤ 3)) : mD l Sh0 iX8_may [.inr 10, .inl x, .inl y] h (some (-1)) h := by
  intro RT hR
  show mE l Sh0 none iX8_may RT 0 [some (.inr 10), some (.inl x), some (.inl y), none] [] h
  refine e_iload_n (i := 1) dX8_may_0 rfl rfl ?_
  refine e_iconst (v := (-1)) dX8_may_1 (by decide) ?_
  refine b_icmp_ne (X := x.toInt) (Y := (-1)) (tgt := 9) rfl (by decide) dX8_may_2 (by decide) ?_ ?_
  · intro e_2_t c_2_t
    refine e_iconst (v := 0) dX8_may_9 (by decide) ?_
    refine e_istore_n (i := 3) (ls2 := [some (.inr 10), some (.inl x), some (.inl y), some (.inl 0)]) dX8_may_10 rfl (Nat.le_of_ble_eq_true rfl) rfl ?_
    refine e_iload_n (i := 1) dX8_may_11 rfl rfl ?_
    refine e_iconst (v := (-1)) dX8_may_12 (by decide) ?_
    refine e_iconst (v := 3) dX8_may_13 (by decide) ?_
    refine e_invSi (As := [.inl x, .inl (-1), .inl 3]) (v := 0) (h2 := h) dX8_may_14 lk_X8_85 ys_X8_in rfl rfl rfl (Nat.le_of_ble_eq_true rfl) (Nat.le_of_ble_eq_true rfl) ⟨Nat.le_of_ble_eq_true rfl, Nat.le_of_ble_eq_true rfl⟩ (k_M_in (Y := -1) (Z := 3) l h x (-1) 3 rfl (by decide) (by decide) (if_neg hx)) ?_
    refine b_if_eq (X := 0) (tgt := 40) (by decide) dX8_may_17 (by decide) ?_ ?_
    · intro e_17_t c_17_t
      refine e_iconst (v := (-1)) dX8_may_40 (by decide) ?_
      refine e_iret dX8_may_41 (mret_i _) ?_
      exact hR
    · intro e_17_f c_17_f
      exfalso; omega
  · intro e_2_f c_2_f
    exfalso; omega
set_option maxHeartbeats 1000000 in
theorem k_M_mayUy (l : Launch) (h : mH) (x y : Int32) (hx : -1 ≤ x.toInt ∧ x.toInt ≤ 3) (hy : ¬ (0 ≤ y.toInt ∧ y.toInt < 4)) : mD l Sh0 iX8_may [.inr 10, .inl x, .inl y] h (some (-1)) h := by
  intro RT hR
  show mE l Sh0 none iX8_may RT 0 [some (.inr 10), some (.inl x), some (.inl y), none] [] h
  refine e_iload_n (i := 1) dX8_may_0 rfl rfl ?_
  refine e_iconst (v := (-1)) dX8_may_1 (by decide) ?_
  refine b_icmp_ne (X := x.toInt) (Y := (-1)) (tgt := 9) rfl (by decide) dX8_may_2 (by decide) ?_ ?_
  · intro e_2_t c_2_t
    refine e_iconst (v := 0) dX8_may_9 (by decide) ?_
    refine e_istore_n (i := 3) (ls2 := [some (.inr 10), some (.inl x), some (.inl y), some (.inl 0)]) dX8_may_10 rfl (Nat.le_of_ble_eq_true rfl) rfl ?_
    refine e_iload_n (i := 1) dX8_may_11 rfl rfl ?_
    refine e_iconst (v := (-1)) dX8_may_12 (by decide) ?_
    refine e_iconst (v := 3) dX8_may_13 (by decide) ?_
    refine e_invSi (As := [.inl x, .inl (-1), .inl 3]) (v := 1) (h2 := h) dX8_may_14 lk_X8_85 ys_X8_in rfl rfl rfl (Nat.le_of_ble_eq_true rfl) (Nat.le_of_ble_eq_true rfl) ⟨Nat.le_of_ble_eq_true rfl, Nat.le_of_ble_eq_true rfl⟩ (k_M_in (Y := -1) (Z := 3) l h x (-1) 3 rfl (by decide) (by decide) (if_pos hx)) ?_
    refine b_if_eq (X := 1) (tgt := 40) (by decide) dX8_may_17 (by decide) ?_ ?_
    · intro e_17_t c_17_t
      exfalso; omega
    · intro e_17_f c_17_f
      refine e_iload_n (i := 2) dX8_may_20 rfl rfl ?_
      refine e_invSi (As := [.inl y]) (v := 0) (h2 := h) dX8_may_21 lk_X8_101 ys_X8_isFour rfl rfl rfl (Nat.le_of_ble_eq_true rfl) (Nat.le_of_ble_eq_true rfl) ⟨Nat.le_of_ble_eq_true rfl, Nat.le_of_ble_eq_true rfl⟩ (k_M_four0 l h y (by omega)) ?_
      refine b_if_eq (X := 0) (tgt := 40) (by decide) dX8_may_24 (by decide) ?_ ?_
      · intro e_24_t c_24_t
        refine e_iconst (v := (-1)) dX8_may_40 (by decide) ?_
        refine e_iret dX8_may_41 (mret_i _) ?_
        exact hR
      · intro e_24_f c_24_f
        exfalso; omega
  · intro e_2_f c_2_f
    refine e_iconst (v := 1) dX8_may_5 (by decide) ?_
    refine e_goto (tgt := 10) dX8_may_6 (by decide) ?_
    refine e_istore_n (i := 3) (ls2 := [some (.inr 10), some (.inl x), some (.inl y), some (.inl 1)]) dX8_may_10 rfl (Nat.le_of_ble_eq_true rfl) rfl ?_
    refine e_iload_n (i := 1) dX8_may_11 rfl rfl ?_
    refine e_iconst (v := (-1)) dX8_may_12 (by decide) ?_
    refine e_iconst (v := 3) dX8_may_13 (by decide) ?_
    refine e_invSi (As := [.inl x, .inl (-1), .inl 3]) (v := 1) (h2 := h) dX8_may_14 lk_X8_85 ys_X8_in rfl rfl rfl (Nat.le_of_ble_eq_true rfl) (Nat.le_of_ble_eq_true rfl) ⟨Nat.le_of_ble_eq_true rfl, Nat.le_of_ble_eq_true rfl⟩ (k_M_in (Y := -1) (Z := 3) l h x (-1) 3 rfl (by decide) (by decide) (if_pos hx)) ?_
    refine b_if_eq (X := 1) (tgt := 40) (by decide) dX8_may_17 (by decide) ?_ ?_
    · intro e_17_t c_17_t
      exfalso; omega
    · intro e_17_f c_17_f
      refine e_iload_n (i := 2) dX8_may_20 rfl rfl ?_
      refine e_invSi (As := [.inl y]) (v := 0) (h2 := h) dX8_may_21 lk_X8_101 ys_X8_isFour rfl rfl rfl (Nat.le_of_ble_eq_true rfl) (Nat.le_of_ble_eq_true rfl) ⟨Nat.le_of_ble_eq_true rfl, Nat.le_of_ble_eq_true rfl⟩ (k_M_four0 l h y (by omega)) ?_
      refine b_if_eq (X := 0) (tgt := 40) (by decide) dX8_may_24 (by decide) ?_ ?_
      · intro e_24_t c_24_t
        refine e_iconst (v := (-1)) dX8_may_40 (by decide) ?_
        refine e_iret dX8_may_41 (mret_i _) ?_
        exact hR
      · intro e_24_f c_24_f
        exfalso; omega
set_option maxHeartbeats 1000000 in
theorem k_M_may0 (l : Launch) (h : mH) (a b z : Nat) (ha : a < 4) (hb9 : b < 4) (hz : h 29 (4 + 4 * a + b) = nI z) (hp : z = 0) : mD l Sh0 iX8_may [.inr 10, .inl (nI a), .inl (nI b)] h (some (-1)) h := by
  intro RT hR
  show mE l Sh0 none iX8_may RT 0 [some (.inr 10), some (.inl (nI a)), some (.inl (nI b)), none] [] h
  refine e_iload_n (i := 1) dX8_may_0 rfl rfl ?_
  refine e_iconst (v := (-1)) dX8_may_1 (by decide) ?_
  refine b_icmp_ne (X := ((a : Nat) : Int)) (Y := (-1)) (tgt := 9) (nI_toInt (by omega)) (by decide) dX8_may_2 (by decide) ?_ ?_
  · intro e_2_t c_2_t
    refine e_iconst (v := 0) dX8_may_9 (by decide) ?_
    refine e_istore_n (i := 3) (ls2 := [some (.inr 10), some (.inl (nI a)), some (.inl (nI b)), some (.inl 0)]) dX8_may_10 rfl (Nat.le_of_ble_eq_true rfl) rfl ?_
    refine e_iload_n (i := 1) dX8_may_11 rfl rfl ?_
    refine e_iconst (v := (-1)) dX8_may_12 (by decide) ?_
    refine e_iconst (v := 3) dX8_may_13 (by decide) ?_
    refine e_invSi (As := [.inl (nI a), .inl (-1), .inl 3]) (v := 1) (h2 := h) dX8_may_14 lk_X8_85 ys_X8_in rfl rfl rfl (Nat.le_of_ble_eq_true rfl) (Nat.le_of_ble_eq_true rfl) ⟨Nat.le_of_ble_eq_true rfl, Nat.le_of_ble_eq_true rfl⟩ (k_M_in (Y := -1) (Z := 3) l h (nI a) (-1) 3 (nI_toInt (by omega)) (by decide) (by decide) (if_pos (by omega))) ?_
    refine b_if_eq (X := 1) (tgt := 40) (by decide) dX8_may_17 (by decide) ?_ ?_
    · intro e_17_t c_17_t
      exfalso; omega
    · intro e_17_f c_17_f
      refine e_iload_n (i := 2) dX8_may_20 rfl rfl ?_
      refine e_invSi (As := [.inl (nI b)]) (v := 1) (h2 := h) dX8_may_21 lk_X8_101 ys_X8_isFour rfl rfl rfl (Nat.le_of_ble_eq_true rfl) (Nat.le_of_ble_eq_true rfl) ⟨Nat.le_of_ble_eq_true rfl, Nat.le_of_ble_eq_true rfl⟩ (k_M_four1 l h (nI b) (by rw [nI_toInt (by omega)]; omega)) ?_
      refine b_if_eq (X := 1) (tgt := 40) (by decide) dX8_may_24 (by decide) ?_ ?_
      · intro e_24_t c_24_t
        exfalso; omega
      · intro e_24_f c_24_f
        refine e_iload_n (i := 3) dX8_may_27 rfl rfl ?_
        refine b_if_ne (X := 0) (tgt := 42) (by decide) dX8_may_28 (by decide) ?_ ?_
        · intro e_28_t c_28_t
          exfalso; omega
        · intro e_28_f c_28_f
          refine e_aload_n (i := 0) dX8_may_31 rfl rfl ?_
          refine e_iload_n (i := 1) dX8_may_32 rfl rfl ?_
          refine e_iload_n (i := 2) dX8_may_33 rfl rfl ?_
          refine e_invVi (As := [.inl (nI a), .inl (nI b)]) (v := 0) (h2 := h) dX8_may_34 lk_X8_113 yv_X8_hasClause rfl rfl rfl (Nat.le_of_ble_eq_true rfl) sh_10 ci_X8 (Nat.le_of_ble_eq_true rfl) ⟨Nat.le_of_ble_eq_true rfl, Nat.le_of_ble_eq_true rfl⟩ (k_M_hasClause0 l h a b z ha hb9 hz hp) ?_
          refine b_if_ne (X := 0) (tgt := 42) (by decide) dX8_may_37 (by decide) ?_ ?_
          · intro e_37_t c_37_t
            exfalso; omega
          · intro e_37_f c_37_f
            refine e_iconst (v := (-1)) dX8_may_40 (by decide) ?_
            refine e_iret dX8_may_41 (mret_i _) ?_
            exact hR
  · intro e_2_f c_2_f
    exfalso; omega
theorem jP_may {l : Launch} {As : List mV} {h : mH} {n : Nat} {pd sg : Nat → Int32} {ln sz : Nat → Nat} {r : List Nat} {p : Nat} (w : WS n pd sg ln sz r) (c : CS n pd sg ln sz r h) (m : MS n pd sg ln sz r h) (kd : mG l Sh0 iX7_may (.inr 0 :: As) h (fun v h' => ∃ f25 f27 A W, v = some (nI (A (40 * p))) ∧ h' = yH h f25 f27 ∧ yI sg ln sz A W ∧ yCl sg ln sz A W)) (km : ∀ (h1 : mH) (A W : Nat → Nat), MB sg ln sz h1 → yCl sg ln sz A W → yLe sg ln sz A W → mG l Sh0 iX8_may (.inr 10 :: As) h1 (fun v h' => v = some (nI (A (40 * p))) ∧ ∃ f49 f51 f50, h' = zH h1 f49 f51 f50)) : jP l iX7_may iX8_may As h := by
  refine kd.weaken (fun v1 h1 q => ?_)
  obtain ⟨f25, f27, A, W, e1, rfl, a1, a2⟩ := q
  refine ⟨_, e1, (km (yH h f25 f27) A W m.2.2.1 a2 a1.2.1).weaken (fun v2 h2 q2 => ?_)⟩
  obtain ⟨e2, f49, f51, f50, rfl⟩ := q2
  exact ⟨e2, n, pd, sg, ln, sz, r, w, CS.o rfl rfl rfl rfl rfl rfl rfl c, MS.o rfl rfl rfl rfl rfl rfl rfl m⟩
theorem m1_eq {x : Int32} (h : x.toInt = -1) : x = -1 := Int32.toInt_inj.mp (by rw [h]; decide)
/-- promise 13 -/
theorem j_may (l : Launch) (h : mH) (hI : Inv h) (x y : Int32) : jP l iX7_may iX8_may [.inl x, .inl y] h := by
  have hI0 := hI
  obtain ⟨n, pd, sg, ln, sz, r, w, c, m⟩ := hI
  have hB := w.2.2.1
  by_cases hm1 : x.toInt = -1
  · obtain rfl := m1_eq hm1
    by_cases hy : 0 ≤ y.toInt ∧ y.toInt < 4
    · have kd := k_D_mayT l hB h c.2.2.1 y.toInt.toNat (by omega)
      rw [← nI_ofInt hy.1] at kd
      refine jP_may w c m kd (fun h1 A W a b d => ?_)
      have km := k_M_mayT l hB h1 a A W b d y.toInt.toNat (by omega) (w.2.2.2.1 _ (by omega))
      rw [← nI_ofInt hy.1] at km
      exact km
    · exact jP_D (k_D_mayUT l h y hy) (k_M_mayUy l h (-1) y (by decide) hy) hI0
  · by_cases hx : 0 ≤ x.toInt ∧ x.toInt < 4
    · by_cases hy : 0 ≤ y.toInt ∧ y.toInt < 4
      · have hz40 := hB.1 (4 + 4 * x.toInt.toNat + y.toInt.toNat) (by omega)
        have s15 := c.2.2.1.2.1 (4 + 4 * x.toInt.toNat + y.toInt.toNat) (by omega)
        have s29 := m.2.2.1.2.1 (4 + 4 * x.toInt.toNat + y.toInt.toNat) (by omega)
        by_cases hz : 0 < sz (4 + 4 * x.toInt.toNat + y.toInt.toNat)
        · have kd := k_D_mayC l hB h c.2.2.1 x.toInt.toNat y.toInt.toNat (by omega) (by omega) hz
          rw [← nI_ofInt hx.1, ← nI_ofInt hy.1] at kd
          refine jP_may w c m kd (fun h1 A W a b d => ?_)
          have km := k_M_mayC l hB h1 a A W b d x.toInt.toNat y.toInt.toNat (by omega) (by omega) hz
          rw [← nI_ofInt hx.1, ← nI_ofInt hy.1] at km
          exact km
        · have kc := k_D_isClause0 l h x.toInt.toNat y.toInt.toNat _ (by omega) (by omega) hz40 s15 (by omega)
          have km := k_M_may0 l h x.toInt.toNat y.toInt.toNat _ (by omega) (by omega) s29 (by omega)
          rw [← nI_ofInt hx.1, ← nI_ofInt hy.1] at kc km
          exact jP_D (k_D_mayUC l h x y hm1 kc) km hI0
      · exact jP_D (k_D_mayUC l h x y hm1 (k_D_isClauseU l h x y (fun z => hy z.2.2))) (k_M_mayUy l h x y (by omega) hy) hI0
    · exact jP_D (k_D_mayUC l h x y hm1 (k_D_isClauseU l h x y (fun z => hx ⟨z.1, z.2.1⟩))) (k_M_mayUx l h x y (by omega)) hI0
