/-! all, row: the reference; both alike. -/
def KL (h h' : mH) : Prop := (∀ a, a ≠ 10 → ¬ (34 ≤ a ∧ a ≤ 48 ∨ a = 52) → h' a = h a) ∧ h' 10 0 = h 10 0 ∧ h' 10 5 = h 10 5
theorem KL.refl (h : mH) : KL h h := ⟨fun _ _ _ => rfl, rfl, rfl⟩
def gvH (h : mH) (c n k : Nat) : mH := hs (hr h 47 (gR c k n (h 47))) 10 30 (nI n)
theorem KL.gv {h0 h : mH} (q : KL h0 h) (c n k : Nat) : KL h0 (gvH h c n k) := by
  refine ⟨fun a h1 h2 => ?_, q.2.1, q.2.2⟩
  unfold gvH
  rw [hs_rown _ _ _ h1, hr_ne _ _ (by omega)]
  exact q.1 a h1 h2
theorem KL.km {h0 h h' : mH} (q : KL h0 h) (k : KM h h') : KL h0 h' := ⟨fun a h1 h2 => (k.1 a h1 (fun z => h2 (by omega))).trans (q.1 a h1 h2), k.2.1.trans q.2.1, k.2.2.1.trans q.2.2⟩
theorem KL.b {h0 h : mH} (q : KL h0 h) (f : Nat → Int32) : KL h0 (hr h 52 f) := ⟨fun a h1 h2 => by rw [hr_ne _ _ (by omega)]; exact q.1 a h1 h2, q.2.1, q.2.2⟩
theorem MB.kl {sg : Nat → Int32} {ln sz : Nat → Nat} {h h' : mH} (q : KL h h') (hM : MB sg ln sz h) : MB sg ln sz h' := by
  obtain ⟨a, b, c⟩ := hM
  exact ⟨fun p hp => by rw [q.1 30 (by omega) (by omega)]; exact a p hp, fun p hp => by rw [q.1 29 (by omega) (by omega)]; exact b p hp, fun p hp => by rw [q.1 31 (by omega) (by omega)]; exact c p hp⟩
theorem MR_gv (h : mH) {c n : Nat} (hn : n ≤ 8) (k : Nat) : MR (dg (c + 1) n k) (gvH h c n k) := by
  refine ⟨by rw [dg_len]; rfl, by rw [dg_len]; exact hn, fun i hi => ?_⟩
  rw [dg_len] at hi
  exact (gR_ok c n k (h 47)).2 i hi
theorem k_M_giveX (l : Launch) (h : mH) (k n c : Nat) (hn : n ≤ 4) (hc : c ≤ 2) (hk : k < 100000) : mD l Sh0 iX8_giveRow [.inr 10, .inl (nI k), .inl (nI n), .inl (nI c)] h none (gvH h c n k) := k_M_giveRow l h k n c (by omega) (by omega) hk
theorem Inv_kq {n : Nat} {pd sg : Nat → Int32} {ln sz : Nat → Nat} {r : List Nat} {h h1 h2 : mH} (w : WS n pd sg ln sz r) (c : CS n pd sg ln sz r h) (m : MS n pd sg ln sz r h) (kq : KQ h h1) (kl : KL h1 h2) : Inv h2 := by
  have cc : ∀ a, a ≠ 10 → ¬ (34 ≤ a ∧ a ≤ 48 ∨ a = 52) → ¬ (4 ≤ a ∧ a ≤ 8 ∨ 17 ≤ a ∧ a ≤ 24) → h2 a = h a := fun a x1 x2 x3 => (kl.1 a x1 x2).trans (kq a x3)
  have e10 : h1 10 = h 10 := kq 10 (by omega)
  exact ⟨n, pd, sg, ln, sz, r, w, CS.o (cc 1 (by omega) (by omega) (by omega)) (cc 11 (by omega) (by omega) (by omega)) (cc 13 (by omega) (by omega) (by omega)) (cc 14 (by omega) (by omega) (by omega)) (cc 15 (by omega) (by omega) (by omega)) (cc 3 (by omega) (by omega) (by omega)) (cc 16 (by omega) (by omega) (by omega)) c, MS.o (by rw [kl.2.1, e10]) (by rw [kl.2.2, e10]) (cc 28 (by omega) (by omega) (by omega)) (cc 29 (by omega) (by omega) (by omega)) (cc 30 (by omega) (by omega) (by omega)) (cc 31 (by omega) (by omega) (by omega)) (cc 32 (by omega) (by omega) (by omega)) m⟩
theorem MS_kq {n : Nat} {pd sg : Nat → Int32} {ln sz : Nat → Nat} {r : List Nat} {h h1 : mH} (m : MS n pd sg ln sz r h) (kq : KQ h h1) : MB sg ln sz h1 := by
  obtain ⟨a, b, c⟩ := m.2.2.1
  exact ⟨fun p hp => by rw [kq 30 (by omega)]; exact a p hp, fun p hp => by rw [kq 29 (by omega)]; exact b p hp, fun p hp => by rw [kq 31 (by omega)]; exact c p hp⟩
set_option maxHeartbeats 1000000 in
theorem lp_M_all (l : Launch) {sg : Nat → Int32} {ln sz : Nat → Nat} (hB : aWB sg ln sz) (h0 : mH) (hM0 : MB sg ln sz h0) (p x c n : Nat) (hp : p < 4) (hz : 0 < sz p) (hx : x < 8) (hc : c ≤ 2) (hn : n ≤ 4) (E U : Nat → Nat) (hE : ∀ k, E k = (rnC sg ln sz p x (c + 1) n k).1.toNat) (hU : ∀ k, U k = eU (rnC sg ln sz p x (c + 1) n k)) (RT : Option Int32 → mH → Prop) (hR : ∀ h', KL h0 h' → RT (some (nI (eA E ((c + 1) ^ n)))) h') : ∀ (d k : Nat) (h : mH), k + d = (c + 1) ^ n → KL h0 h → mE l Sh0 none iX8_all RT 28 [some (.inr 10), some (.inl (nI p)), some (.inl (nI x)), some (.inl (nI n)), some (.inl (nI c)), some (.inl (nI (eA E k))), some (.inl (nI k))] [] h := by
  have h81 := pow81 hc hn
  have hE9 : ∀ k, E k ≤ 9 := fun k => by
    have h9 := rnR_ok hB hp hz hx (dg8 (n := n) (code := k) hc)
    rw [hE]
    have h8 : (rnC sg ln sz p x (c + 1) n k).1 ≤ 9 := h9.2.1
    omega
  intro d
  induction d with
  | zero =>
    intro k h hd kl
    refine e_iload dX8_all_28 rfl ?_
    refine e_iload_n (i := 3) dX8_all_30 rfl rfl ?_
    refine e_iload dX8_all_31 rfl ?_
    refine e_invSi (As := [.inl (nI n), .inl (nI c)]) (v := nI ((c + 1) ^ n)) (h2 := h) dX8_all_33 lk_X8_221 ys_X8_rows rfl rfl rfl (Nat.le_of_ble_eq_true rfl) (Nat.le_of_ble_eq_true rfl) ⟨Nat.le_of_ble_eq_true rfl, Nat.le_of_ble_eq_true rfl⟩ (k_M_rows l h n c hn hc) ?_
    refine b_icmp_ge (X := ((k : Nat) : Int)) (Y := (((c + 1) ^ n : Nat) : Int)) (tgt := 67) (nI_toInt (by omega)) (nI_toInt (by omega)) dX8_all_36 (by decide) ?_ ?_
    · intro c_36_t
      refine e_iload dX8_all_67 rfl ?_
      refine e_iret dX8_all_69 (mret_i _) ?_
      have e : k = (c + 1) ^ n := by omega
      subst e
      exact hR h kl
    · intro c_36_f
      exfalso; omega
  | succ d ih =>
    intro k h hd kl
    refine e_iload dX8_all_28 rfl ?_
    refine e_iload_n (i := 3) dX8_all_30 rfl rfl ?_
    refine e_iload dX8_all_31 rfl ?_
    refine e_invSi (As := [.inl (nI n), .inl (nI c)]) (v := nI ((c + 1) ^ n)) (h2 := h) dX8_all_33 lk_X8_221 ys_X8_rows rfl rfl rfl (Nat.le_of_ble_eq_true rfl) (Nat.le_of_ble_eq_true rfl) ⟨Nat.le_of_ble_eq_true rfl, Nat.le_of_ble_eq_true rfl⟩ (k_M_rows l h n c hn hc) ?_
    refine b_icmp_ge (X := ((k : Nat) : Int)) (Y := (((c + 1) ^ n : Nat) : Int)) (tgt := 67) (nI_toInt (by omega)) (nI_toInt (by omega)) dX8_all_36 (by decide) ?_ ?_
    · intro c_36_t
      exfalso; omega
    · intro c_36_f
      refine e_aload_n (i := 0) dX8_all_39 rfl rfl ?_
      refine e_iload dX8_all_40 rfl ?_
      refine e_iload_n (i := 3) dX8_all_42 rfl rfl ?_
      refine e_iload dX8_all_43 rfl ?_
      refine e_invVv (As := [.inl (nI k), .inl (nI n), .inl (nI c)]) (h2 := (gvH h c n k)) (ty := .int) (v := 0) dX8_all_45 lk_X8_224 yv_X8_giveRow rfl rfl rfl (Nat.le_of_ble_eq_true rfl) sh_10 ci_X8 (Nat.le_of_ble_eq_true rfl) ⟨Nat.le_of_ble_eq_true rfl, Nat.le_of_ble_eq_true rfl⟩ (k_M_giveX l h k n c hn hc (by omega)) ?_
      refine e_iload dX8_all_48 rfl ?_
      refine e_iconst (v := 1) dX8_all_50 (by decide) ?_
      refine e_aload_n (i := 0) dX8_all_51 rfl rfl ?_
      refine e_iload_n (i := 1) dX8_all_52 rfl rfl ?_
      refine e_iload_n (i := 2) dX8_all_53 rfl rfl ?_
      refine e_invViG (As := [.inl (nI p), .inl (nI x)]) dX8_all_54 lk_X8_209 yv_X8_end rfl rfl rfl (Nat.le_of_ble_eq_true rfl) sh_10 ci_X8 (Nat.le_of_ble_eq_true rfl) ⟨Nat.le_of_ble_eq_true rfl, Nat.le_of_ble_eq_true rfl⟩ (k_M_end l hB (dg8 hc) (gvH h c n k) (MB.kl (KL.gv kl c n k) hM0) (MR_gv h (by omega) k) hp hz hx) ?_
      rintro w' u ⟨hv, km, me⟩
      obtain rfl := Option.some.inj hv
      obtain ⟨e9, e12, e13, e11⟩ := ME_p me
      have hE9k := hE9 k
      have u39 : u 10 39 = nI (E k) := by rw [hE]; exact nI_of9 e9 (rnR_ok hB hp hz hx (dg8 hc)).1
      have u25 : u 10 25 = nI (U k) := by rw [hU]; exact e11
      have ku := (KL.gv kl c n k).km km
      rw [u39]
      refine z_ishl (z := nI (2 ^ E k)) (shl10 ⟨E k, by omega⟩) dX8_all_57 ?_
      refine z_ior (z := nI (eA E (k + 1))) (fa_or _ _) dX8_all_58 ?_
      refine e_istore (ls2 := [some (.inr 10), some (.inl (nI p)), some (.inl (nI x)), some (.inl (nI n)), some (.inl (nI c)), some (.inl (nI (eA E (k + 1)))), some (.inl (nI k))]) dX8_all_59 (Nat.le_of_ble_eq_true rfl) rfl ?_
      refine e_iinc (v := nI (k + 1)) (ls2 := [some (.inr 10), some (.inl (nI p)), some (.inl (nI x)), some (.inl (nI n)), some (.inl (nI c)), some (.inl (nI (eA E (k + 1)))), some (.inl (nI (k + 1)))]) dX8_all_61 rfl (nI_inc1 _) (Nat.le_of_ble_eq_true rfl) rfl ?_
      refine e_goto (tgt := 28) dX8_all_64 (by decide) ?_
      exact ih (k + 1) u (by omega) ku
def fw (o : Option (Nat × Nat)) : Int32 := o.elim (-6) (fun q => nI q.1)
def bO (E U : Nat → Nat) (w c n k : Nat) (h : mH) : Prop := ∀ q, rS E U w k = some q → q.1 ≤ n ∧ ∀ i, i < q.1 → h 52 i = nI ((dg (c + 1) n q.2).getD i 0)
def rAns (c n : Nat) (o : Option (Nat × Nat)) (i : Int32) : Int32 := o.elim (-5) (fun q => if i.toInt = -1 then nI q.1 else if 0 ≤ i.toInt ∧ i.toInt < q.1 then nI ((dg (c + 1) n q.2).getD i.toInt.toNat 0) else -6)
set_option maxHeartbeats 1000000 in
theorem lp_M_best (l : Launch) (h : mH) (u : Nat) (hu : u ≤ 4) (h25 : h 10 25 = nI u) (f : Nat → Int32) (y1 y2 y3 y4 y5 y6 y7 y8 : Option mV) (RT : Option Int32 → mH → Prop) (hk : ∀ y9, mE l Sh0 none iX8_row RT 123 [some (.inr 10), y1, y2, y3, y4, y5, y6, y7, y8, y9] [] (hr h 52 (cf (h 47) f u))) : ∀ (d i : Nat), i + d = u → mE l Sh0 none iX8_row RT 94 [some (.inr 10), y1, y2, y3, y4, y5, y6, y7, y8, some (.inl (nI i))] [] (hr h 52 (cf (h 47) f i)) := by
  intro d
  induction d with
  | zero =>
    intro i hd
    refine e_iload dX8_row_94 rfl ?_
    refine e_aload_n (i := 0) dX8_row_96 rfl rfl ?_
    refine e_getI (x := nI u) dX8_row_97 fl_X8_141 sh_10 fj_10_25 h25 ?_
    refine b_icmp_ge (X := ((i : Nat) : Int)) (Y := ((u : Nat) : Int)) (tgt := 123) (nI_toInt (by omega)) (nI_toInt (by omega)) dX8_row_100 (by decide) ?_ ?_
    · intro c_100_t
      have e : i = u := by omega
      subst e
      exact hk _
    · intro c_100_f
      exfalso; omega
  | succ d ih =>
    intro i hd
    refine e_iload dX8_row_94 rfl ?_
    refine e_aload_n (i := 0) dX8_row_96 rfl rfl ?_
    refine e_getI (x := nI u) dX8_row_97 fl_X8_141 sh_10 fj_10_25 h25 ?_
    refine b_icmp_ge (X := ((i : Nat) : Int)) (Y := ((u : Nat) : Int)) (tgt := 123) (nI_toInt (by omega)) (nI_toInt (by omega)) dX8_row_100 (by decide) ?_ ?_
    · intro c_100_t
      exfalso; omega
    · intro c_100_f
      refine e_aload_n (i := 0) dX8_row_103 rfl rfl ?_
      refine e_getR (r := 52) dX8_row_104 fl_X8_82 sh_10 fj_10_43 ?_
      refine e_iload dX8_row_107 rfl ?_
      refine e_aload_n (i := 0) dX8_row_109 rfl rfl ?_
      refine e_getR (r := 47) dX8_row_110 fl_X8_67 sh_10 fj_10_31 ?_
      refine e_iload dX8_row_113 rfl ?_
      refine e_iald (x := h 47 i) dX8_row_115 sh_47 (vin_ofX (X := ((i : Nat) : Int)) (nI_toInt (by omega)) (by omega) (by omega)) (by rw [nI_clamp (by omega)]; exact (show _ = _ from rfl)) ?_
      refine e_iast dX8_row_116 sh_52 (vin_ofX (X := ((i : Nat) : Int)) (nI_toInt (by omega)) (by omega) (by omega)) ?_
      rw [nI_clamp (by omega)]
      refine e_iinc (v := nI (i + 1)) (ls2 := [some (.inr 10), y1, y2, y3, y4, y5, y6, y7, y8, some (.inl (nI (i + 1)))]) dX8_row_117 rfl (nI_inc1 _) (Nat.le_of_ble_eq_true rfl) rfl ?_
      refine e_goto (tgt := 94) dX8_row_120 (by decide) ?_
      rw [hr_hs, cf_s]
      exact ih (i + 1) (by omega)
set_option maxHeartbeats 4000000 in
theorem lp_M_row (l : Launch) {sg : Nat → Int32} {ln sz : Nat → Nat} (hB : aWB sg ln sz) (h0 : mH) (hM0 : MB sg ln sz h0) (p x c n : Nat) (hp : p < 4) (hz : 0 < sz p) (hx : x < 8) (hc : c ≤ 2) (hn : n ≤ 4) (w : Nat) (hw9 : w ≤ 9) (i : Int32) (E U : Nat → Nat) (hE : ∀ k, E k = (rnC sg ln sz p x (c + 1) n k).1.toNat) (hU : ∀ k, U k = eU (rnC sg ln sz p x (c + 1) n k)) (RT : Option Int32 → mH → Prop) (hR : ∀ h', KL h0 h' → RT (some (rAns c n (rS E U w ((c + 1) ^ n)) i)) h') : ∀ (d k : Nat) (h : mH) (y9 : Option mV), k + d = (c + 1) ^ n → KL h0 h → bO E U w c n k h → mE l Sh0 none iX8_row RT 40 [some (.inr 10), some (.inl (nI p)), some (.inl (nI x)), some (.inl (nI n)), some (.inl (nI c)), some (.inl (nI w)), some (.inl i), some (.inl (fw (rS E U w k))), some (.inl (nI k)), y9] [] h := by
  have h81 := pow81 hc hn
  have hE9 : ∀ k, E k ≤ 9 := fun k => by
    have h9 := rnR_ok hB hp hz hx (dg8 (n := n) (code := k) hc)
    rw [hE]
    have h8 : (rnC sg ln sz p x (c + 1) n k).1 ≤ 9 := h9.2.1
    omega
  intro d
  induction d with
  | zero =>
    intro k h y9 hd kl bo
    have e : k = (c + 1) ^ n := by omega
    subst e
    have hRR := hR h kl
    cases hr9 : rS E U w ((c + 1) ^ n) with
    | none =>
      rw [hr9] at hRR
      show mE l Sh0 none iX8_row RT 40 [some (.inr 10), some (.inl (nI p)), some (.inl (nI x)), some (.inl (nI n)), some (.inl (nI c)), some (.inl (nI w)), some (.inl i), some (.inl (-6)), some (.inl (nI ((c + 1) ^ n))), y9] [] h
      refine e_iload dX8_row_40 rfl ?_
      refine e_iload_n (i := 3) dX8_row_42 rfl rfl ?_
      refine e_iload dX8_row_43 rfl ?_
      refine e_invSi (As := [.inl (nI n), .inl (nI c)]) (v := nI ((c + 1) ^ n)) (h2 := h) dX8_row_45 lk_X8_221 ys_X8_rows rfl rfl rfl (Nat.le_of_ble_eq_true rfl) (Nat.le_of_ble_eq_true rfl) ⟨Nat.le_of_ble_eq_true rfl, Nat.le_of_ble_eq_true rfl⟩ (k_M_rows l h n c hn hc) ?_
      refine b_icmp_ge (X := (((c + 1) ^ n : Nat) : Int)) (Y := (((c + 1) ^ n : Nat) : Int)) (tgt := 129) (nI_toInt (by omega)) (nI_toInt (by omega)) dX8_row_48 (by decide) ?_ ?_
      · intro c_48_t
        refine e_iload dX8_row_129 rfl ?_
        refine b_if_ge (X := (-6)) (tgt := 139) (by decide) dX8_row_131 (by decide) ?_ ?_
        · intro c_131_t
          exfalso; omega
        · intro c_131_f
          refine e_bipush (v := (-5)) dX8_row_134 (by decide) ?_
          refine e_goto (tgt := 175) dX8_row_136 (by decide) ?_
          refine e_iret dX8_row_175 (mret_i _) ?_
          exact hRR
      · intro c_48_f
        exfalso; omega
    | some q =>
      obtain ⟨b1, b2⟩ := bo q hr9
      rw [hr9] at hRR
      have hRR : RT (some (if i.toInt = -1 then nI q.1 else if 0 ≤ i.toInt ∧ i.toInt < q.1 then nI ((dg (c + 1) n q.2).getD i.toInt.toNat 0) else -6)) h := hRR
      show mE l Sh0 none iX8_row RT 40 [some (.inr 10), some (.inl (nI p)), some (.inl (nI x)), some (.inl (nI n)), some (.inl (nI c)), some (.inl (nI w)), some (.inl i), some (.inl (nI q.1)), some (.inl (nI ((c + 1) ^ n))), y9] [] h
      by_cases hin : 0 ≤ i.toInt ∧ i.toInt < q.1
      · have r52 : h 52 i.toNatClampNeg = nI ((dg (c + 1) n q.2).getD i.toInt.toNat 0) := b2 i.toInt.toNat (by omega)
        refine e_iload dX8_row_40 rfl ?_
        refine e_iload_n (i := 3) dX8_row_42 rfl rfl ?_
        refine e_iload dX8_row_43 rfl ?_
        refine e_invSi (As := [.inl (nI n), .inl (nI c)]) (v := nI ((c + 1) ^ n)) (h2 := h) dX8_row_45 lk_X8_221 ys_X8_rows rfl rfl rfl (Nat.le_of_ble_eq_true rfl) (Nat.le_of_ble_eq_true rfl) ⟨Nat.le_of_ble_eq_true rfl, Nat.le_of_ble_eq_true rfl⟩ (k_M_rows l h n c hn hc) ?_
        refine b_icmp_ge (X := (((c + 1) ^ n : Nat) : Int)) (Y := (((c + 1) ^ n : Nat) : Int)) (tgt := 129) (nI_toInt (by omega)) (nI_toInt (by omega)) dX8_row_48 (by decide) ?_ ?_
        · intro c_48_t
          refine e_iload dX8_row_129 rfl ?_
          refine b_if_ge (X := ((q.1 : Nat) : Int)) (tgt := 139) (nI_toInt (by omega)) dX8_row_131 (by decide) ?_ ?_
          · intro c_131_t
            refine e_iload dX8_row_139 rfl ?_
            refine e_iconst (v := (-1)) dX8_row_141 (by decide) ?_
            refine b_icmp_ne (X := i.toInt) (Y := (-1)) (tgt := 150) rfl (by decide) dX8_row_142 (by decide) ?_ ?_
            · intro e_142_t c_142_t
              refine e_iload dX8_row_150 rfl ?_
              refine e_iconst (v := 0) dX8_row_152 (by decide) ?_
              refine e_iload dX8_row_153 rfl ?_
              refine e_iconst (v := 1) dX8_row_155 (by decide) ?_
              refine z_isub (z := dn q.1) rfl dX8_row_156 ?_
              refine e_invSi (As := [.inl i, .inl 0, .inl (dn q.1)]) (v := 1) (h2 := h) dX8_row_157 lk_X8_85 ys_X8_in rfl rfl rfl (Nat.le_of_ble_eq_true rfl) (Nat.le_of_ble_eq_true rfl) ⟨Nat.le_of_ble_eq_true rfl, Nat.le_of_ble_eq_true rfl⟩ (k_M_in (Y := 0) (Z := (q.1 : Int) - 1) l h i 0 (dn q.1) rfl (by decide) (dn_toInt (by omega)) (if_pos (by omega))) ?_
              refine b_if_eq (X := 1) (tgt := 173) (by decide) dX8_row_160 (by decide) ?_ ?_
              · intro e_160_t c_160_t
                exfalso; omega
              · intro e_160_f c_160_f
                refine e_aload_n (i := 0) dX8_row_163 rfl rfl ?_
                refine e_getR (r := 52) dX8_row_164 fl_X8_82 sh_10 fj_10_43 ?_
                refine e_iload dX8_row_167 rfl ?_
                refine e_iald (x := nI ((dg (c + 1) n q.2).getD i.toInt.toNat 0)) dX8_row_169 sh_52 (vin_ofX (X := i.toInt) rfl (by omega) (by omega)) r52 ?_
                refine e_goto (tgt := 175) dX8_row_170 (by decide) ?_
                refine e_iret dX8_row_175 (mret_i _) ?_
                rw [if_neg (by omega), if_pos hin] at hRR
                exact hRR
            · intro e_142_f c_142_f
              refine e_iload dX8_row_145 rfl ?_
              refine e_goto (tgt := 175) dX8_row_147 (by decide) ?_
              refine e_iret dX8_row_175 (mret_i _) ?_
              rw [if_pos (by omega)] at hRR
              exact hRR
          · intro c_131_f
            exfalso; omega
        · intro c_48_f
          exfalso; omega
      · refine e_iload dX8_row_40 rfl ?_
        refine e_iload_n (i := 3) dX8_row_42 rfl rfl ?_
        refine e_iload dX8_row_43 rfl ?_
        refine e_invSi (As := [.inl (nI n), .inl (nI c)]) (v := nI ((c + 1) ^ n)) (h2 := h) dX8_row_45 lk_X8_221 ys_X8_rows rfl rfl rfl (Nat.le_of_ble_eq_true rfl) (Nat.le_of_ble_eq_true rfl) ⟨Nat.le_of_ble_eq_true rfl, Nat.le_of_ble_eq_true rfl⟩ (k_M_rows l h n c hn hc) ?_
        refine b_icmp_ge (X := (((c + 1) ^ n : Nat) : Int)) (Y := (((c + 1) ^ n : Nat) : Int)) (tgt := 129) (nI_toInt (by omega)) (nI_toInt (by omega)) dX8_row_48 (by decide) ?_ ?_
        · intro c_48_t
          refine e_iload dX8_row_129 rfl ?_
          refine b_if_ge (X := ((q.1 : Nat) : Int)) (tgt := 139) (nI_toInt (by omega)) dX8_row_131 (by decide) ?_ ?_
          · intro c_131_t
            refine e_iload dX8_row_139 rfl ?_
            refine e_iconst (v := (-1)) dX8_row_141 (by decide) ?_
            refine b_icmp_ne (X := i.toInt) (Y := (-1)) (tgt := 150) rfl (by decide) dX8_row_142 (by decide) ?_ ?_
            · intro e_142_t c_142_t
              refine e_iload dX8_row_150 rfl ?_
              refine e_iconst (v := 0) dX8_row_152 (by decide) ?_
              refine e_iload dX8_row_153 rfl ?_
              refine e_iconst (v := 1) dX8_row_155 (by decide) ?_
              refine z_isub (z := dn q.1) rfl dX8_row_156 ?_
              refine e_invSi (As := [.inl i, .inl 0, .inl (dn q.1)]) (v := 0) (h2 := h) dX8_row_157 lk_X8_85 ys_X8_in rfl rfl rfl (Nat.le_of_ble_eq_true rfl) (Nat.le_of_ble_eq_true rfl) ⟨Nat.le_of_ble_eq_true rfl, Nat.le_of_ble_eq_true rfl⟩ (k_M_in (Y := 0) (Z := (q.1 : Int) - 1) l h i 0 (dn q.1) rfl (by decide) (dn_toInt (by omega)) (if_neg (by omega))) ?_
              refine b_if_eq (X := 0) (tgt := 173) (by decide) dX8_row_160 (by decide) ?_ ?_
              · intro e_160_t c_160_t
                refine e_bipush (v := (-6)) dX8_row_173 (by decide) ?_
                refine e_iret dX8_row_175 (mret_i _) ?_
                rw [if_neg (by omega), if_neg hin] at hRR
                exact hRR
              · intro e_160_f c_160_f
                exfalso; omega
            · intro e_142_f c_142_f
              refine e_iload dX8_row_145 rfl ?_
              refine e_goto (tgt := 175) dX8_row_147 (by decide) ?_
              refine e_iret dX8_row_175 (mret_i _) ?_
              rw [if_pos (by omega)] at hRR
              exact hRR
          · intro c_131_f
            exfalso; omega
        · intro c_48_f
          exfalso; omega
  | succ d ih =>
    intro k h y9 hd kl bo
    have hrs := rS_s E U w k
    have hUn : U k ≤ n := by rw [hU]; exact rnC_le hB hp hz hx hc _
    have k123 : ∀ (v : mH) (fe : Int32) (y9 : Option mV), KL h0 v → bO E U w c n (k + 1) v → fe = fw (rS E U w (k + 1)) → mE l Sh0 none iX8_row RT 123 [some (.inr 10), some (.inl (nI p)), some (.inl (nI x)), some (.inl (nI n)), some (.inl (nI c)), some (.inl (nI w)), some (.inl i), some (.inl fe), some (.inl (nI k)), y9] [] v := by
      intro v fe y9 kv bv hfe
      refine e_iinc (v := nI (k + 1)) (ls2 := [some (.inr 10), some (.inl (nI p)), some (.inl (nI x)), some (.inl (nI n)), some (.inl (nI c)), some (.inl (nI w)), some (.inl i), some (.inl fe), some (.inl (nI (k + 1))), y9]) dX8_row_123 rfl (nI_inc1 _) (Nat.le_of_ble_eq_true rfl) rfl ?_
      refine e_goto (tgt := 40) dX8_row_126 (by decide) ?_
      rw [hfe]
      exact ih (k + 1) v _ (by omega) kv bv
    have k94 : ∀ (u : mH) (y7 : Int32) (y9 : Option mV), KL h0 u → u 10 25 = nI (U k) → (∀ j, j < n → u 47 j = nI ((dg (c + 1) n k).getD j 0)) → rS E U w (k + 1) = some (U k, k) → mE l Sh0 none iX8_row RT 85 [some (.inr 10), some (.inl (nI p)), some (.inl (nI x)), some (.inl (nI n)), some (.inl (nI c)), some (.inl (nI w)), some (.inl i), some (.inl y7), some (.inl (nI k)), y9] [] u := by
      intro u y7 y9 ku u25 u47 hq
      refine e_aload_n (i := 0) dX8_row_85 rfl rfl ?_
      refine e_getI (x := nI (U k)) dX8_row_86 fl_X8_141 sh_10 fj_10_25 u25 ?_
      refine e_istore (ls2 := [some (.inr 10), some (.inl (nI p)), some (.inl (nI x)), some (.inl (nI n)), some (.inl (nI c)), some (.inl (nI w)), some (.inl i), some (.inl (nI (U k))), some (.inl (nI k)), y9]) dX8_row_89 (Nat.le_of_ble_eq_true rfl) rfl ?_
      refine e_iconst (v := 0) dX8_row_91 (by decide) ?_
      refine e_istore (ls2 := [some (.inr 10), some (.inl (nI p)), some (.inl (nI x)), some (.inl (nI n)), some (.inl (nI c)), some (.inl (nI w)), some (.inl i), some (.inl (nI (U k))), some (.inl (nI k)), some (.inl 0)]) dX8_row_92 (Nat.le_of_ble_eq_true rfl) rfl ?_
      have q := lp_M_best l u (U k) (by omega) u25 (u 52) (some (.inl (nI p))) (some (.inl (nI x))) (some (.inl (nI n))) (some (.inl (nI c))) (some (.inl (nI w))) (some (.inl i)) (some (.inl (nI (U k)))) (some (.inl (nI k))) RT (fun y9 => k123 (hr u 52 (cf (u 47) (u 52) (U k))) _ _ (ku.b _) (fun q hq2 => by
          rw [hq] at hq2
          cases hq2
          refine ⟨hUn, fun j hj => ?_⟩
          rw [hr_at, cf_in hj]
          exact u47 j (Nat.lt_of_lt_of_le hj hUn)) (by rw [hq]; rfl)) (U k) 0 (Nat.zero_add _)
      rw [cf_0, hr_self] at q
      exact q
    cases hr9 : rS E U w k with
    | none =>
      show mE l Sh0 none iX8_row RT 40 [some (.inr 10), some (.inl (nI p)), some (.inl (nI x)), some (.inl (nI n)), some (.inl (nI c)), some (.inl (nI w)), some (.inl i), some (.inl (-6)), some (.inl (nI k)), y9] [] h
      refine e_iload dX8_row_40 rfl ?_
      refine e_iload_n (i := 3) dX8_row_42 rfl rfl ?_
      refine e_iload dX8_row_43 rfl ?_
      refine e_invSi (As := [.inl (nI n), .inl (nI c)]) (v := nI ((c + 1) ^ n)) (h2 := h) dX8_row_45 lk_X8_221 ys_X8_rows rfl rfl rfl (Nat.le_of_ble_eq_true rfl) (Nat.le_of_ble_eq_true rfl) ⟨Nat.le_of_ble_eq_true rfl, Nat.le_of_ble_eq_true rfl⟩ (k_M_rows l h n c hn hc) ?_
      refine b_icmp_ge (X := ((k : Nat) : Int)) (Y := (((c + 1) ^ n : Nat) : Int)) (tgt := 129) (nI_toInt (by omega)) (nI_toInt (by omega)) dX8_row_48 (by decide) ?_ ?_
      · intro c_48_t
        exfalso; omega
      · intro c_48_f
        refine e_aload_n (i := 0) dX8_row_51 rfl rfl ?_
        refine e_iload dX8_row_52 rfl ?_
        refine e_iload_n (i := 3) dX8_row_54 rfl rfl ?_
        refine e_iload dX8_row_55 rfl ?_
        refine e_invVv (As := [.inl (nI k), .inl (nI n), .inl (nI c)]) (h2 := (gvH h c n k)) (ty := .int) (v := 0) dX8_row_57 lk_X8_224 yv_X8_giveRow rfl rfl rfl (Nat.le_of_ble_eq_true rfl) sh_10 ci_X8 (Nat.le_of_ble_eq_true rfl) ⟨Nat.le_of_ble_eq_true rfl, Nat.le_of_ble_eq_true rfl⟩ (k_M_giveX l h k n c hn hc (by omega)) ?_
        refine e_aload_n (i := 0) dX8_row_60 rfl rfl ?_
        refine e_iload_n (i := 1) dX8_row_61 rfl rfl ?_
        refine e_iload_n (i := 2) dX8_row_62 rfl rfl ?_
        refine e_invViG (As := [.inl (nI p), .inl (nI x)]) dX8_row_63 lk_X8_209 yv_X8_end rfl rfl rfl (Nat.le_of_ble_eq_true rfl) sh_10 ci_X8 (Nat.le_of_ble_eq_true rfl) ⟨Nat.le_of_ble_eq_true rfl, Nat.le_of_ble_eq_true rfl⟩ (k_M_end l hB (dg8 hc) (gvH h c n k) (MB.kl (KL.gv kl c n k) hM0) (MR_gv h (by omega) k) hp hz hx) ?_
        rintro w' u ⟨hv, km, me⟩
        obtain rfl := Option.some.inj hv
        obtain ⟨e9, e12, e13, e11⟩ := ME_p me
        have hE9k := hE9 k
        have u39 : u 10 39 = nI (E k) := by rw [hE]; exact nI_of9 e9 (rnR_ok hB hp hz hx (dg8 hc)).1
        have u25 : u 10 25 = nI (U k) := by rw [hU]; exact e11
        have ku := (KL.gv kl c n k).km km
        have u47 : ∀ j, j < n → u 47 j = nI ((dg (c + 1) n k).getD j 0) := fun j hj => by rw [km.1 47 (by omega) (by omega)]; exact (gR_ok c n k (h 47)).2 j hj
        have b52 : bO E U w c n k u := fun q hq => by rw [km.1 52 (by omega) (by omega)]; exact bo q hq
        rw [u39]
        refine e_iload dX8_row_66 rfl ?_
        refine b_icmp_ne (X := ((E k : Nat) : Int)) (Y := ((w : Nat) : Int)) (tgt := 123) (nI_toInt (by omega)) (nI_toInt (by omega)) dX8_row_68 (by decide) ?_ ?_
        · intro e_68_t c_68_t
          have hq : rS E U w (k + 1) = rS E U w k := by rw [hrs, if_neg (fun z => by have := z.1; omega)]
          exact k123 u _ _ ku (fun q hq2 => b52 q (by rw [← hq]; exact hq2)) (by rw [hq, hr9]; rfl)
        · intro e_68_f c_68_f
          refine e_iload dX8_row_71 rfl ?_
          refine b_if_lt (X := (-6)) (tgt := 85) (by decide) dX8_row_73 (by decide) ?_ ?_
          · intro c_73_t
            exact k94 u _ _ ku u25 u47 (by rw [hrs, if_pos ⟨by omega, by rw [hr9]; rfl⟩])
          · intro c_73_f
            exfalso; omega
    | some q0 =>
      have hq4 := (bo q0 hr9).1
      show mE l Sh0 none iX8_row RT 40 [some (.inr 10), some (.inl (nI p)), some (.inl (nI x)), some (.inl (nI n)), some (.inl (nI c)), some (.inl (nI w)), some (.inl i), some (.inl (nI q0.1)), some (.inl (nI k)), y9] [] h
      refine e_iload dX8_row_40 rfl ?_
      refine e_iload_n (i := 3) dX8_row_42 rfl rfl ?_
      refine e_iload dX8_row_43 rfl ?_
      refine e_invSi (As := [.inl (nI n), .inl (nI c)]) (v := nI ((c + 1) ^ n)) (h2 := h) dX8_row_45 lk_X8_221 ys_X8_rows rfl rfl rfl (Nat.le_of_ble_eq_true rfl) (Nat.le_of_ble_eq_true rfl) ⟨Nat.le_of_ble_eq_true rfl, Nat.le_of_ble_eq_true rfl⟩ (k_M_rows l h n c hn hc) ?_
      refine b_icmp_ge (X := ((k : Nat) : Int)) (Y := (((c + 1) ^ n : Nat) : Int)) (tgt := 129) (nI_toInt (by omega)) (nI_toInt (by omega)) dX8_row_48 (by decide) ?_ ?_
      · intro c_48_t
        exfalso; omega
      · intro c_48_f
        refine e_aload_n (i := 0) dX8_row_51 rfl rfl ?_
        refine e_iload dX8_row_52 rfl ?_
        refine e_iload_n (i := 3) dX8_row_54 rfl rfl ?_
        refine e_iload dX8_row_55 rfl ?_
        refine e_invVv (As := [.inl (nI k), .inl (nI n), .inl (nI c)]) (h2 := (gvH h c n k)) (ty := .int) (v := 0) dX8_row_57 lk_X8_224 yv_X8_giveRow rfl rfl rfl (Nat.le_of_ble_eq_true rfl) sh_10 ci_X8 (Nat.le_of_ble_eq_true rfl) ⟨Nat.le_of_ble_eq_true rfl, Nat.le_of_ble_eq_true rfl⟩ (k_M_giveX l h k n c hn hc (by omega)) ?_
        refine e_aload_n (i := 0) dX8_row_60 rfl rfl ?_
        refine e_iload_n (i := 1) dX8_row_61 rfl rfl ?_
        refine e_iload_n (i := 2) dX8_row_62 rfl rfl ?_
        refine e_invViG (As := [.inl (nI p), .inl (nI x)]) dX8_row_63 lk_X8_209 yv_X8_end rfl rfl rfl (Nat.le_of_ble_eq_true rfl) sh_10 ci_X8 (Nat.le_of_ble_eq_true rfl) ⟨Nat.le_of_ble_eq_true rfl, Nat.le_of_ble_eq_true rfl⟩ (k_M_end l hB (dg8 hc) (gvH h c n k) (MB.kl (KL.gv kl c n k) hM0) (MR_gv h (by omega) k) hp hz hx) ?_
        rintro w' u ⟨hv, km, me⟩
        obtain rfl := Option.some.inj hv
        obtain ⟨e9, e12, e13, e11⟩ := ME_p me
        have hE9k := hE9 k
        have u39 : u 10 39 = nI (E k) := by rw [hE]; exact nI_of9 e9 (rnR_ok hB hp hz hx (dg8 hc)).1
        have u25 : u 10 25 = nI (U k) := by rw [hU]; exact e11
        have ku := (KL.gv kl c n k).km km
        have u47 : ∀ j, j < n → u 47 j = nI ((dg (c + 1) n k).getD j 0) := fun j hj => by rw [km.1 47 (by omega) (by omega)]; exact (gR_ok c n k (h 47)).2 j hj
        have b52 : bO E U w c n k u := fun q hq => by rw [km.1 52 (by omega) (by omega)]; exact bo q hq
        rw [u39]
        refine e_iload dX8_row_66 rfl ?_
        refine b_icmp_ne (X := ((E k : Nat) : Int)) (Y := ((w : Nat) : Int)) (tgt := 123) (nI_toInt (by omega)) (nI_toInt (by omega)) dX8_row_68 (by decide) ?_ ?_
        · intro e_68_t c_68_t
          have hq : rS E U w (k + 1) = rS E U w k := by
            rw [hrs, if_neg]
            rintro ⟨z1, z2⟩
            rw [hr9] at z2
            have z2 := of_decide_eq_true z2
            omega
          exact k123 u _ _ ku (fun q hq2 => b52 q (by rw [← hq]; exact hq2)) (by rw [hq, hr9]; rfl)
        · intro e_68_f c_68_f
          refine e_iload dX8_row_71 rfl ?_
          refine b_if_lt (X := ((q0.1 : Nat) : Int)) (tgt := 85) (nI_toInt (by omega)) dX8_row_73 (by decide) ?_ ?_
          · intro c_73_t
            exfalso; omega
          · intro c_73_f
            refine e_aload_n (i := 0) dX8_row_76 rfl rfl ?_
            refine e_getI (x := nI (U k)) dX8_row_77 fl_X8_141 sh_10 fj_10_25 u25 ?_
            refine e_iload dX8_row_80 rfl ?_
            refine b_icmp_ge (X := ((U k : Nat) : Int)) (Y := ((q0.1 : Nat) : Int)) (tgt := 123) (nI_toInt (by omega)) (nI_toInt (by omega)) dX8_row_82 (by decide) ?_ ?_
            · intro c_82_t
              have hq : rS E U w (k + 1) = rS E U w k := by
                rw [hrs, if_neg]
                rintro ⟨z1, z2⟩
                rw [hr9] at z2
                have z2 := of_decide_eq_true z2
                omega
              exact k123 u _ _ ku (fun q hq2 => b52 q (by rw [← hq]; exact hq2)) (by rw [hq, hr9]; rfl)
            · intro c_82_f
              exact k94 u _ _ ku u25 u47 (by rw [hrs, if_pos ⟨by omega, by rw [hr9]; exact decide_eq_true (by omega)⟩])
set_option maxHeartbeats 1000000 in
theorem k_M_areTold0a (l : Launch) (h : mH) (x y z : Int32) (h1 : ¬ (0 ≤ x.toInt ∧ x.toInt ≤ 7)) : mD l Sh0 iX8_areTold [.inl x, .inl y, .inl z] h (some 0) h := by
  intro RT hR
  show mE l Sh0 none iX8_areTold RT 0 [some (.inl x), some (.inl y), some (.inl z)] [] h
  refine e_iload_n (i := 0) dX8_areTold_0 rfl rfl ?_
  refine e_iconst (v := 0) dX8_areTold_1 (by decide) ?_
  refine e_bipush (v := 7) dX8_areTold_2 (by decide) ?_
  refine e_invSi (As := [.inl x, .inl 0, .inl 7]) (v := 0) (h2 := h) dX8_areTold_4 lk_X8_85 ys_X8_in rfl rfl rfl (Nat.le_of_ble_eq_true rfl) (Nat.le_of_ble_eq_true rfl) ⟨Nat.le_of_ble_eq_true rfl, Nat.le_of_ble_eq_true rfl⟩ (k_M_in (Y := 0) (Z := 7) l h x 0 7 rfl (by decide) (by decide) (if_neg h1)) ?_
  refine b_if_eq (X := 0) (tgt := 32) (by decide) dX8_areTold_7 (by decide) ?_ ?_
  · intro e_7_t c_7_t
    refine e_iconst (v := 0) dX8_areTold_32 (by decide) ?_
    refine e_iret dX8_areTold_33 (mret_z (by first | decide | (simp only []; split <;> decide))) ?_
    exact hR
  · intro e_7_f c_7_f
    exfalso; omega
set_option maxHeartbeats 1000000 in
theorem k_M_areTold0b (l : Launch) (h : mH) (x y z : Int32) (h1 : 0 ≤ x.toInt ∧ x.toInt ≤ 7) (h2 : ¬ (0 ≤ y.toInt ∧ y.toInt ≤ 4)) : mD l Sh0 iX8_areTold [.inl x, .inl y, .inl z] h (some 0) h := by
  intro RT hR
  show mE l Sh0 none iX8_areTold RT 0 [some (.inl x), some (.inl y), some (.inl z)] [] h
  refine e_iload_n (i := 0) dX8_areTold_0 rfl rfl ?_
  refine e_iconst (v := 0) dX8_areTold_1 (by decide) ?_
  refine e_bipush (v := 7) dX8_areTold_2 (by decide) ?_
  refine e_invSi (As := [.inl x, .inl 0, .inl 7]) (v := 1) (h2 := h) dX8_areTold_4 lk_X8_85 ys_X8_in rfl rfl rfl (Nat.le_of_ble_eq_true rfl) (Nat.le_of_ble_eq_true rfl) ⟨Nat.le_of_ble_eq_true rfl, Nat.le_of_ble_eq_true rfl⟩ (k_M_in (Y := 0) (Z := 7) l h x 0 7 rfl (by decide) (by decide) (if_pos h1)) ?_
  refine b_if_eq (X := 1) (tgt := 32) (by decide) dX8_areTold_7 (by decide) ?_ ?_
  · intro e_7_t c_7_t
    exfalso; omega
  · intro e_7_f c_7_f
    refine e_iload_n (i := 1) dX8_areTold_10 rfl rfl ?_
    refine e_iconst (v := 0) dX8_areTold_11 (by decide) ?_
    refine e_iconst (v := 4) dX8_areTold_12 (by decide) ?_
    refine e_invSi (As := [.inl y, .inl 0, .inl 4]) (v := 0) (h2 := h) dX8_areTold_13 lk_X8_85 ys_X8_in rfl rfl rfl (Nat.le_of_ble_eq_true rfl) (Nat.le_of_ble_eq_true rfl) ⟨Nat.le_of_ble_eq_true rfl, Nat.le_of_ble_eq_true rfl⟩ (k_M_in (Y := 0) (Z := 4) l h y 0 4 rfl (by decide) (by decide) (if_neg h2)) ?_
    refine b_if_eq (X := 0) (tgt := 32) (by decide) dX8_areTold_16 (by decide) ?_ ?_
    · intro e_16_t c_16_t
      refine e_iconst (v := 0) dX8_areTold_32 (by decide) ?_
      refine e_iret dX8_areTold_33 (mret_z (by first | decide | (simp only []; split <;> decide))) ?_
      exact hR
    · intro e_16_f c_16_f
      exfalso; omega
set_option maxHeartbeats 1000000 in
theorem k_M_areTold0c (l : Launch) (h : mH) (x y z : Int32) (h1 : 0 ≤ x.toInt ∧ x.toInt ≤ 7) (h2 : 0 ≤ y.toInt ∧ y.toInt ≤ 4) (h3 : ¬ (0 ≤ z.toInt ∧ z.toInt ≤ 2)) : mD l Sh0 iX8_areTold [.inl x, .inl y, .inl z] h (some 0) h := by
  intro RT hR
  show mE l Sh0 none iX8_areTold RT 0 [some (.inl x), some (.inl y), some (.inl z)] [] h
  refine e_iload_n (i := 0) dX8_areTold_0 rfl rfl ?_
  refine e_iconst (v := 0) dX8_areTold_1 (by decide) ?_
  refine e_bipush (v := 7) dX8_areTold_2 (by decide) ?_
  refine e_invSi (As := [.inl x, .inl 0, .inl 7]) (v := 1) (h2 := h) dX8_areTold_4 lk_X8_85 ys_X8_in rfl rfl rfl (Nat.le_of_ble_eq_true rfl) (Nat.le_of_ble_eq_true rfl) ⟨Nat.le_of_ble_eq_true rfl, Nat.le_of_ble_eq_true rfl⟩ (k_M_in (Y := 0) (Z := 7) l h x 0 7 rfl (by decide) (by decide) (if_pos h1)) ?_
  refine b_if_eq (X := 1) (tgt := 32) (by decide) dX8_areTold_7 (by decide) ?_ ?_
  · intro e_7_t c_7_t
    exfalso; omega
  · intro e_7_f c_7_f
    refine e_iload_n (i := 1) dX8_areTold_10 rfl rfl ?_
    refine e_iconst (v := 0) dX8_areTold_11 (by decide) ?_
    refine e_iconst (v := 4) dX8_areTold_12 (by decide) ?_
    refine e_invSi (As := [.inl y, .inl 0, .inl 4]) (v := 1) (h2 := h) dX8_areTold_13 lk_X8_85 ys_X8_in rfl rfl rfl (Nat.le_of_ble_eq_true rfl) (Nat.le_of_ble_eq_true rfl) ⟨Nat.le_of_ble_eq_true rfl, Nat.le_of_ble_eq_true rfl⟩ (k_M_in (Y := 0) (Z := 4) l h y 0 4 rfl (by decide) (by decide) (if_pos h2)) ?_
    refine b_if_eq (X := 1) (tgt := 32) (by decide) dX8_areTold_16 (by decide) ?_ ?_
    · intro e_16_t c_16_t
      exfalso; omega
    · intro e_16_f c_16_f
      refine e_iload_n (i := 2) dX8_areTold_19 rfl rfl ?_
      refine e_iconst (v := 0) dX8_areTold_20 (by decide) ?_
      refine e_iconst (v := 2) dX8_areTold_21 (by decide) ?_
      refine e_invSi (As := [.inl z, .inl 0, .inl 2]) (v := 0) (h2 := h) dX8_areTold_22 lk_X8_85 ys_X8_in rfl rfl rfl (Nat.le_of_ble_eq_true rfl) (Nat.le_of_ble_eq_true rfl) ⟨Nat.le_of_ble_eq_true rfl, Nat.le_of_ble_eq_true rfl⟩ (k_M_in (Y := 0) (Z := 2) l h z 0 2 rfl (by decide) (by decide) (if_neg h3)) ?_
      refine b_if_eq (X := 0) (tgt := 32) (by decide) dX8_areTold_25 (by decide) ?_ ?_
      · intro e_25_t c_25_t
        refine e_iconst (v := 0) dX8_areTold_32 (by decide) ?_
        refine e_iret dX8_areTold_33 (mret_z (by first | decide | (simp only []; split <;> decide))) ?_
        exact hR
      · intro e_25_f c_25_f
        exfalso; omega
theorem k_M_areTold0 (l : Launch) (h : mH) (x y z : Int32) (hn : ¬ ((0 ≤ x.toInt ∧ x.toInt ≤ 7) ∧ (0 ≤ y.toInt ∧ y.toInt ≤ 4) ∧ (0 ≤ z.toInt ∧ z.toInt ≤ 2))) : mD l Sh0 iX8_areTold [.inl x, .inl y, .inl z] h (some 0) h := by
  by_cases h1 : 0 ≤ x.toInt ∧ x.toInt ≤ 7
  · by_cases h2 : 0 ≤ y.toInt ∧ y.toInt ≤ 4
    · exact k_M_areTold0c l h x y z h1 h2 (fun h3 => hn ⟨h1, h2, h3⟩)
    · exact k_M_areTold0b l h x y z h1 h2
  · exact k_M_areTold0a l h x y z h1
theorem k_cRowsX (l : Launch) (h : mH) (x y : Int32) {v : Int32} (e : cRows x y = v) : mD l Sh0 iX7_areRows [.inl x, .inl y] h (some v) h := by
  have q := k_cRows l h x y
  rw [e] at q
  exact q
