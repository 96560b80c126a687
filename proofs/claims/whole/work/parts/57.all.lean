/-! The class goes through all rows. -/
set_option maxHeartbeats 1000000 in
theorem lp_R_take (l : Launch) (h : mH) (n u : Nat) (hn : n ≤ 8) (hu : u ≤ n) (h4 : h 4 1 = nI n) (h5 : h 5 1 = nI u) (f : Nat → Int32) (y2 : Option mV) (RT : Option Int32 → mH → Prop) (hR : RT none (hr h 18 (cf (h 17) f u))) : ∀ (d i : Nat), i + d = u → mE l Sh0 none iX3_take RT 7 [some (.inr 5), some (.inr 4), y2, some (.inl (nI i))] [] (hr h 18 (cf (h 17) f i)) := by
  intro d
  induction d with
  | zero =>
    intro i hd
    refine e_iload_n (i := 3) dX3_take_7 rfl rfl ?_
    refine e_aload_n (i := 0) dX3_take_8 rfl rfl ?_
    refine e_getI (x := nI u) dX3_take_9 fl_X3_15 sh_5 fj_5_1 h5 ?_
    refine b_icmp_ge (X := ((i : Nat) : Int)) (Y := ((u : Nat) : Int)) (tgt := 32) (nI_toInt (by omega)) (nI_toInt (by omega)) dX3_take_12 (by decide) ?_ ?_
    · intro c_12_t
      refine e_ret dX3_take_32 rfl ?_
      have e : i = u := by omega
      subst e
      exact hR
    · intro c_12_f
      exfalso; omega
  | succ d ih =>
    intro i hd
    have kv := k_R_value l sh_4 sh_17 (hr h 18 (cf (h 17) f i)) (nI i)
    rw [rVal_in (h := (hr h 18 (cf (h 17) f i))) (k := 4) (r := 17) (i := i) (n := n) h4 (by omega) hn, show (hr h 18 (cf (h 17) f i)) 17 i = h 17 i from rfl] at kv
    refine e_iload_n (i := 3) dX3_take_7 rfl rfl ?_
    refine e_aload_n (i := 0) dX3_take_8 rfl rfl ?_
    refine e_getI (x := nI u) dX3_take_9 fl_X3_15 sh_5 fj_5_1 h5 ?_
    refine b_icmp_ge (X := ((i : Nat) : Int)) (Y := ((u : Nat) : Int)) (tgt := 32) (nI_toInt (by omega)) (nI_toInt (by omega)) dX3_take_12 (by decide) ?_ ?_
    · intro c_12_t
      exfalso; omega
    · intro c_12_f
      refine e_aload_n (i := 0) dX3_take_15 rfl rfl ?_
      refine e_getR (r := 18) dX3_take_16 fl_X3_9 sh_5 fj_5_0 ?_
      refine e_iload_n (i := 3) dX3_take_19 rfl rfl ?_
      refine e_aload_n (i := 1) dX3_take_20 rfl rfl ?_
      refine e_iload_n (i := 3) dX3_take_21 rfl rfl ?_
      refine e_invVi (As := [.inl (nI i)]) (v := h 17 i) (h2 := (hr h 18 (cf (h 17) f i))) dX3_take_22 lk_X3_23 yv_X3_value rfl rfl rfl (Nat.le_of_ble_eq_true rfl) sh_4 ci_X3 (Nat.le_of_ble_eq_true rfl) ⟨Nat.le_of_ble_eq_true rfl, Nat.le_of_ble_eq_true rfl⟩ kv ?_
      refine e_iast dX3_take_25 sh_18 (vin_ofX (X := ((i : Nat) : Int)) (nI_toInt (by omega)) (by omega) (by omega)) ?_
      rw [nI_clamp (by omega)]
      refine e_iinc (v := nI (i + 1)) (ls2 := [some (.inr 5), some (.inr 4), y2, some (.inl (nI (i + 1)))]) dX3_take_26 rfl (nI_inc1 _) (Nat.le_of_ble_eq_true rfl) rfl ?_
      refine e_goto (tgt := 7) dX3_take_29 (by decide) ?_
      rw [hr_hs, cf_s]
      exact ih (i + 1) (by omega)
def tkH (u : mH) (k : Nat) : mH := hr (hs u 5 1 (nI k)) 18 (cf (u 17) (zf (u 18) k) k)
set_option maxHeartbeats 1000000 in
theorem k_R_take (l : Launch) (h : mH) (n u : Nat) (hn : n ≤ 8) (hu : u ≤ n) (h4 : h 4 1 = nI n) : mD l Sh0 iX3_take [.inr 5, .inr 4, .inl (nI u)] h (none) (tkH h u) := by
  intro RT hR
  show mE l Sh0 none iX3_take RT 0 [some (.inr 5), some (.inr 4), some (.inl (nI u)), none] [] h
  refine e_aload_n (i := 0) dX3_take_0 rfl rfl ?_
  refine e_iload_n (i := 2) dX3_take_1 rfl rfl ?_
  refine e_invVv (As := [.inl (nI u)]) (h2 := (hr (hs h 5 1 (nI u)) 18 (zf (h 18) u))) (ty := .int) (v := 0) dX3_take_2 lk_X3_19 yv_X3_start rfl rfl rfl (Nat.le_of_ble_eq_true rfl) sh_5 ci_X3 (Nat.le_of_ble_eq_true rfl) ⟨Nat.le_of_ble_eq_true rfl, Nat.le_of_ble_eq_true rfl⟩ (k_R_start l sh_5 sh_18 h u (by omega)) ?_
  refine e_iconst (v := 0) dX3_take_5 (by decide) ?_
  refine e_istore_n (i := 3) (ls2 := [some (.inr 5), some (.inr 4), some (.inl (nI u)), some (.inl 0)]) dX3_take_6 rfl (Nat.le_of_ble_eq_true rfl) rfl ?_
  have q := lp_R_take l (hs h 5 1 (nI u)) n u hn hu h4 rfl (zf (h 18) u) (some (.inl (nI u))) RT hR u 0 (Nat.zero_add _)
  rw [cf_0] at q
  exact q
def KQ (h h' : mH) : Prop := ∀ a, ¬ (4 ≤ a ∧ a ≤ 8 ∨ 17 ≤ a ∧ a ≤ 24) → h' a = h a
theorem KQ.kp {h0 h h' : mH} (q : KQ h0 h) (k : KP h h') : KQ h0 h' := fun a ha => (k a (fun z => ha (by omega))).trans (q a ha)
theorem KQ.tk {h0 h : mH} (q : KQ h0 h) (k : Nat) : KQ h0 (tkH h k) := fun a ha => by
  unfold tkH
  rw [hr_ne _ _ (by omega), hs_rown _ _ _ (by omega)]
  exact q a ha
theorem KQ.nx {h0 h : mH} (q : KQ h0 h) (f : Nat → Int32) : KQ h0 (hr h 17 f) := fun a ha => by
  rw [hr_ne _ _ (by omega)]
  exact q a ha
theorem KQ.st {h0 h : mH} (q : KQ h0 h) (v : Int32) : KQ h0 (hs h 4 1 v) := fun a ha => by
  rw [hs_rown _ _ _ (by omega)]
  exact q a ha
theorem CB.kq {sg : Nat → Int32} {ln sz : Nat → Nat} {h h' : mH} (q : KQ h h') (hC : CB sg ln sz h) : CB sg ln sz h' := by
  obtain ⟨a, b, c⟩ := hC
  exact ⟨fun p hp => by rw [q 13 (by omega)]; exact a p hp, fun p hp => by rw [q 15 (by omega)]; exact b p hp, fun p hp => by rw [q 14 (by omega)]; exact c p hp⟩
/-- the row found, as the number of its row -/
def FO (E U : Nat → Nat) (w c n k : Nat) (h : mH) : Prop := ∀ q, rS E U w k = some q → h 5 1 = nI q.1 ∧ q.1 ≤ n ∧ ∀ i, i < q.1 → h 18 i = nI ((dg (c + 1) n q.2).getD i 0)
theorem pow81 {c n : Nat} (hc : c ≤ 2) (hn : n ≤ 4) : (c + 1) ^ n ≤ 81 := Nat.le_trans (Nat.pow_le_pow_left (show c + 1 ≤ 3 by omega) n) (Nat.le_trans (Nat.pow_le_pow_right (by omega) hn) (by decide))
theorem shl10 : ∀ d : Fin 10, (1 : Int32) <<< (nI d.val &&& 31) = nI (2 ^ d.val) := by decide
theorem and_bit {a e : Nat} : (a &&& 2 ^ e = 0) ↔ ¬ a.testBit e = true := by
  constructor
  · intro h z
    have q : (a &&& 2 ^ e).testBit e = true := by rw [Nat.testBit_and, z, Nat.testBit_two_pow]; simp
    rw [h, Nat.zero_testBit] at q
    cases q
  · intro h
    apply Nat.eq_of_testBit_eq
    intro i
    rw [Nat.testBit_and, Nat.testBit_two_pow, Nat.zero_testBit]
    by_cases z : e = i
    · subst z
      cases q : a.testBit e
      · rfl
      · exact absurd q h
    · simp [z]
theorem nI_of9 {x : Int32} {e : Int} (h : x.toInt = e) (h0 : 0 ≤ e) : x = nI e.toNat := toInt_nI (by omega)
set_option maxHeartbeats 4000000 in
theorem lp_D_go (l : Launch) {sg : Nat → Int32} {ln sz : Nat → Nat} (hB : aWB sg ln sz) (h0 : mH) (hC0 : CB sg ln sz h0) (p x c n w : Nat) (hp : p < 4) (hz : 0 < sz p) (hx : x < 8) (hc : c ≤ 2) (hn : n ≤ 4) (so : Int32) (hso : ∀ e : Nat, e ≤ 9 → (so.toInt = (e : Int) ↔ e = w)) (E U : Nat → Nat) (hE : ∀ k, E k = (rnC sg ln sz p x (c + 1) n k).1.toNat) (hU : ∀ k, U k = eU (rnC sg ln sz p x (c + 1) n k)) (RT : Option Int32 → mH → Prop) (hR : ∀ h', KQ h0 h' → FO E U w c n ((c + 1) ^ n) h' → RT (some (nI (eA E ((c + 1) ^ n)))) h') : ∀ (d : Nat) (g : Nat → Nat) (h : mH) (t : Nat) (y9 : Option mV), (c + 1) ^ n ≤ vl (c + 1) g n + d → t ≤ vl (c + 1) g n → (∀ j, j < n → g j ≤ c) → tZ sg ln sz p x c n g → KQ h0 h → h 4 1 = nI n → (∀ j, j < n → h 17 j = nI (g j)) → FO E U w c n (vl (c + 1) g n) h → mE l Sh0 none iX7_goThrough RT 17 [some (.inr 0), some (.inl (nI p)), some (.inl (nI x)), some (.inl (nI n)), some (.inl (nI c)), some (.inl so), some (.inl (nI (eA E (vl (c + 1) g n)))), some (.inl 1), some (.inl (nI t)), y9] [] h := by
  have h81 := pow81 hc hn
  have hE9 : ∀ k, E k ≤ 9 := fun k => by
    have h9 := rnR_ok hB hp hz hx (dg8 (n := n) (code := k) hc)
    rw [hE]
    have h8 : (rnC sg ln sz p x (c + 1) n k).1 ≤ 9 := h9.2.1
    omega
  have fin : ∀ (h : mH) (t : Nat) (y9 : Option mV), t ≤ 82 → KQ h0 h → FO E U w c n ((c + 1) ^ n) h → mE l Sh0 none iX7_goThrough RT 17 [some (.inr 0), some (.inl (nI p)), some (.inl (nI x)), some (.inl (nI n)), some (.inl (nI c)), some (.inl so), some (.inl (nI (eA E ((c + 1) ^ n)))), some (.inl 0), some (.inl (nI t)), y9] [] h := by
    intro h t y9 ht kq fo
    refine e_iload dX7_goThrough_17 rfl ?_
    refine e_bipush (v := 81) dX7_goThrough_19 (by decide) ?_
    refine b_icmp_ge (X := ((t : Nat) : Int)) (Y := 81) (tgt := 154) (nI_toInt (by omega)) (by decide) dX7_goThrough_21 (by decide) ?_ ?_
    · intro c_21_t
      refine e_iload dX7_goThrough_154 rfl ?_
      refine e_iret dX7_goThrough_156 (mret_i _) ?_
      exact hR h kq fo
    · intro c_21_f
      refine e_iload dX7_goThrough_24 rfl ?_
      refine b_if_eq (X := 0) (tgt := 154) (by decide) dX7_goThrough_26 (by decide) ?_ ?_
      · intro e_26_t c_26_t
        refine e_iload dX7_goThrough_154 rfl ?_
        refine e_iret dX7_goThrough_156 (mret_i _) ?_
        exact hR h kq fo
      · intro e_26_f c_26_f
        exfalso; omega
  intro d
  induction d with
  | zero =>
    intro g h t y9 hd ht hg
    have := vl_lt (b := c + 1) (g := g) (n := n) (fun j hj => by have := hg j hj; omega)
    omega
  | succ d ih =>
    intro g h t y9 hd ht hg hZ kq h4 h17 fo
    have hlt := vl_lt (b := c + 1) (g := g) (n := n) (fun j hj => by have := hg j hj; omega)
    have hC := CB.kq kq hC0
    have hCR : CR 4 17 (dg (c + 1) n (vl (c + 1) g n)) h := by
      refine ⟨by rw [dg_len]; exact h4, by rw [dg_len]; omega, fun i hi => ?_⟩
      rw [dg_len] at hi
      rw [dg_vl (fun j hj => by have := hg j hj; omega) i hi]
      exact h17 i hi
    have hEk := hE (vl (c + 1) g n)
    have hUk := hU (vl (c + 1) g n)
    have hE9k := hE9 (vl (c + 1) g n)
    have hUn : U (vl (c + 1) g n) ≤ n := by rw [hUk]; exact rnC_le hB hp hz hx hc _
    have heA := eA_lt hE9 (vl (c + 1) g n)
    have hblk : ∀ code, vl (c + 1) g n ≤ code → code < vl (c + 1) g n + (c + 1) ^ (n - U (vl (c + 1) g n)) → E code = E (vl (c + 1) g n) ∧ U code = U (vl (c + 1) g n) := by
      intro code c1 c2
      rw [hUk] at c2
      have e := rnC_blk hB hp hz hx hc hg hZ c1 c2
      rw [hE, hE, hU, hU, e]
      exact ⟨rfl, rfl⟩
    have hdig : ∀ j, j < n → (dg (c + 1) n (vl (c + 1) g n)).getD j 0 = g j := dg_vl (fun j hj => by have := hg j hj; omega)
    have hZ0 := hZ
    unfold tZ at hZ
    rw [← hUk] at hZ
    generalize hk : vl (c + 1) g n = k at *
    have k116 : ∀ (v : mH) (y9 : Option mV), KQ h0 v → v 4 1 = nI n → (∀ j, j < n → v 17 j = nI (g j)) → FO E U w c n (k + 1) v → v 6 9 = nI (E k) → v 6 11 = nI (U k) → mE l Sh0 none iX7_goThrough RT 116 [some (.inr 0), some (.inl (nI p)), some (.inl (nI x)), some (.inl (nI n)), some (.inl (nI c)), some (.inl so), some (.inl (nI (eA E k))), some (.inl 1), some (.inl (nI t)), y9] [] v := by
      intro v y9 kv v4 v17 vf v9 v11
      have kn := k_R_next l sh_4 sh_17 v n (U k) (by omega) hUn v4 (nI c)
      refine e_iload dX7_goThrough_116 rfl ?_
      refine e_iconst (v := 1) dX7_goThrough_118 (by decide) ?_
      refine e_aload_n (i := 0) dX7_goThrough_119 rfl rfl ?_
      refine e_getR (r := 6) dX7_goThrough_120 fl_X7_41 sh_0 fj_0_5 ?_
      refine e_getI (x := nI (E k)) dX7_goThrough_123 fl_X7_143 sh_6 fj_6_9 v9 ?_
      refine z_ishl (z := nI (2 ^ E k)) (shl10 ⟨E k, by omega⟩) dX7_goThrough_126 ?_
      refine z_ior (z := nI (eA E k ||| 2 ^ E k)) (fa_or _ _) dX7_goThrough_127 ?_
      refine e_istore (ls2 := [some (.inr 0), some (.inl (nI p)), some (.inl (nI x)), some (.inl (nI n)), some (.inl (nI c)), some (.inl so), some (.inl (nI (eA E k ||| 2 ^ E k))), some (.inl 1), some (.inl (nI t)), y9]) dX7_goThrough_128 (Nat.le_of_ble_eq_true rfl) rfl ?_
      refine e_aload_n (i := 0) dX7_goThrough_130 rfl rfl ?_
      refine e_getR (r := 4) dX7_goThrough_131 fl_X7_30 sh_0 fj_0_3 ?_
      refine e_aload_n (i := 0) dX7_goThrough_134 rfl rfl ?_
      refine e_getR (r := 6) dX7_goThrough_135 fl_X7_41 sh_0 fj_0_5 ?_
      refine e_getI (x := nI (U k)) dX7_goThrough_138 fl_X7_146 sh_6 fj_6_11 v11 ?_
      refine e_iload dX7_goThrough_141 rfl ?_
      refine e_invVi (As := [.inl (nI (U k)), .inl (nI c)]) (v := bI (rN (nI c) (U k) (v 17)).1) (h2 := (hr v 17 (rN (nI c) (U k) (v 17)).2)) dX7_goThrough_143 lk_X7_153 yv_X3_next rfl rfl rfl (Nat.le_of_ble_eq_true rfl) sh_4 ci_X3 (Nat.le_of_ble_eq_true rfl) ⟨Nat.le_of_ble_eq_true rfl, Nat.le_of_ble_eq_true rfl⟩ kn ?_
      refine e_istore (ls2 := [some (.inr 0), some (.inl (nI p)), some (.inl (nI x)), some (.inl (nI n)), some (.inl (nI c)), some (.inl so), some (.inl (nI (eA E k ||| 2 ^ E k))), some (.inl (bI (rN (nI c) (U k) (v 17)).1)), some (.inl (nI t)), y9]) dX7_goThrough_146 (Nat.le_of_ble_eq_true rfl) rfl ?_
      refine e_iinc (v := nI (t + 1)) (ls2 := [some (.inr 0), some (.inl (nI p)), some (.inl (nI x)), some (.inl (nI n)), some (.inl (nI c)), some (.inl so), some (.inl (nI (eA E k ||| 2 ^ E k))), some (.inl (bI (rN (nI c) (U k) (v 17)).1)), some (.inl (nI (t + 1))), y9]) dX7_goThrough_148 rfl (nI_inc1 _) (Nat.le_of_ble_eq_true rfl) rfl ?_
      refine e_goto (tgt := 17) dX7_goThrough_151 (by decide) ?_
      obtain ⟨m, hm⟩ : ∃ m, (c + 1) ^ (n - U k) = m + 1 := ⟨(c + 1) ^ (n - U k) - 1, by have : 0 < (c + 1) ^ (n - U k) := Nat.pow_pos (by omega); omega⟩
      have eB : eA E (k + m + 1) = eA E k ||| 2 ^ E k := eA_blk m (fun j hj => (hblk (k + j) (by omega) (by omega)).1)
      have eR : rS E U w (k + m + 1) = rS E U w (k + 1) := rS_blk m (fun j hj => hblk (k + j) (by omega) (by omega))
      have fo2 : ∀ v', v' 5 = v 5 → v' 18 = v 18 → FO E U w c n (k + m + 1) v' := by
        intro v' e5 e18 q hq
        rw [eR] at hq
        obtain ⟨q1, q2, q3⟩ := vf q hq
        exact ⟨by rw [e5]; exact q1, q2, fun i hi => by rw [e18]; exact q3 i hi⟩
      have hvt : vl (c + 1) g n = vl (c + 1) g (U k) * (c + 1) ^ (n - U k) := by
        have q := vl_tail (b := c + 1) (g := g) (u := U k) (n - U k) (fun j j1 j2 => hZ j j1 (by omega))
        rw [show U k + (n - U k) = n from by omega] at q
        exact q
      rw [hm] at hvt
      rcases rN_ok (show c ≤ 7 by omega) (U k) (v 17) g (fun j hj => ⟨v17 j (by omega), hg j (by omega)⟩) with ⟨r1, g', r2, r3, r4, i, r5, r6, r7⟩ | ⟨r1, r2, r3⟩
      · have hg2 : ∀ j, j < n → (fun j => if j < U k then g' j else g j) j ≤ c := fun j hj => by
          dsimp only
          split
          · rename_i z; exact (r2 j z).2
          · exact hg j hj
        have e1 : vl (c + 1) (fun j => if j < U k then g' j else g j) (U k) = vl (c + 1) g' (U k) := vl_congr (fun j hj => if_pos hj)
        have hv2 : vl (c + 1) (fun j => if j < U k then g' j else g j) n = k + m + 1 := by
          have q := vl_tail (b := c + 1) (g := fun j => if j < U k then g' j else g j) (u := U k) (n - U k) (fun j j1 j2 => by
            show (if j < U k then g' j else g j) = 0
            rw [if_neg (by omega)]
            exact hZ j j1 (by omega))
          rw [show U k + (n - U k) = n from by omega, e1, r4, hm, Nat.add_mul, ← hvt, hk] at q
          omega
        have q := ih (fun j => if j < U k then g' j else g j) (hr v 17 (rN (nI c) (U k) (v 17)).2) (t + 1) y9 (by rw [hv2]; omega) (by rw [hv2]; omega) hg2 (tZ_next hB hp hz hx hc hg hg2 hZ0 (i := i) (by rw [hk, ← hUk]; exact r5) (fun j hj => by show (if j < U k then g' j else g j) = g j; rw [if_pos (by omega)]; exact r6 j hj) (fun j j1 j2 => by rw [hk, ← hUk] at j2; show (if j < U k then g' j else g j) = 0; rw [if_pos j2]; exact r7 j j1 j2) (fun j j1 j2 => by rw [hk, ← hUk] at j1; exact if_neg (by omega))) (kv.nx _) v4 (fun j hj => by
          show (rN (nI c) (U k) (v 17)).2 j = nI (if j < U k then g' j else g j)
          by_cases z : j < U k
          · rw [if_pos z]; exact (r2 j z).1
          · rw [if_neg z, r3 j (by omega)]; exact v17 j hj) (by rw [hv2]; exact fo2 _ rfl rfl)
        rw [hv2, eB] at q
        rw [r1]
        exact q
      · have hN : (c + 1) ^ n = k + m + 1 := by
          have q : (c + 1) ^ n = (c + 1) ^ (U k) * (c + 1) ^ (n - U k) := by rw [← Nat.pow_add, show U k + (n - U k) = n from by omega]
          rw [q, ← r3, hm, Nat.add_mul, ← hvt, hk]
          omega
        have q := fin (hr v 17 (rN (nI c) (U k) (v 17)).2) (t + 1) y9 (by omega) (kv.nx _) (by rw [hN]; exact fo2 _ rfl rfl)
        rw [hN, eB] at q
        rw [r1]
        exact q
    have kw := k_X_work l hB (dg8 hc) (Or.inr ⟨rfl, rfl⟩) h hC hCR hp hz hx
    refine e_iload dX7_goThrough_17 rfl ?_
    refine e_bipush (v := 81) dX7_goThrough_19 (by decide) ?_
    refine b_icmp_ge (X := ((t : Nat) : Int)) (Y := 81) (tgt := 154) (nI_toInt (by omega)) (by decide) dX7_goThrough_21 (by decide) ?_ ?_
    · intro c_21_t
      exfalso; omega
    · intro c_21_f
      refine e_iload dX7_goThrough_24 rfl ?_
      refine b_if_eq (X := 1) (tgt := 154) (by decide) dX7_goThrough_26 (by decide) ?_ ?_
      · intro e_26_t c_26_t
        exfalso; omega
      · intro e_26_f c_26_f
        refine e_aload_n (i := 0) dX7_goThrough_29 rfl rfl ?_
        refine e_getR (r := 6) dX7_goThrough_30 fl_X7_41 sh_0 fj_0_5 ?_
        refine e_iload_n (i := 1) dX7_goThrough_33 rfl rfl ?_
        refine e_iload_n (i := 2) dX7_goThrough_34 rfl rfl ?_
        refine e_aload_n (i := 0) dX7_goThrough_35 rfl rfl ?_
        refine e_getR (r := 4) dX7_goThrough_36 fl_X7_30 sh_0 fj_0_3 ?_
        refine e_invVvG (As := [.inl (nI p), .inl (nI x), .inr 4]) (ty := .int) dX7_goThrough_39 lk_X7_104 yv_X4_work rfl rfl rfl (Nat.le_of_ble_eq_true rfl) sh_6 ci_X4 (Nat.le_of_ble_eq_true rfl) ⟨Nat.le_of_ble_eq_true rfl, Nat.le_of_ble_eq_true rfl⟩ kw ?_
        rintro u ⟨-, kp, re⟩
        obtain ⟨e9, e12, e13, e11⟩ := RE_p re
        have u9 : u 6 9 = nI (E k) := by rw [hEk]; exact nI_of9 e9 (rnR_ok hB hp hz hx (dg8 hc)).1
        have u11 : u 6 11 = nI (U k) := by rw [hUk]; exact e11
        have ku := kq.kp kp
        have u4 : u 4 1 = nI n := by rw [kp 4 (by omega)]; exact h4
        have u17 : ∀ j, j < n → u 17 j = nI (g j) := fun j hj => by rw [kp 17 (by omega)]; exact h17 j hj
        have fu : FO E U w c n k u := fun q hq => by rw [kp 5 (by omega), kp 18 (by omega)]; exact fo q hq
        have hrs := rS_s E U w k
        have hand : eA E k &&& 2 ^ E k ≤ eA E k := Nat.and_le_left
        have htk : rS E U w (k + 1) = some (U k, k) → FO E U w c n (k + 1) (tkH u (U k)) := by
          intro hq q hq2
          rw [hq] at hq2
          cases hq2
          refine ⟨rfl, hUn, fun i hi => ?_⟩
          show cf (u 17) (zf (u 18) (U k)) (U k) i = _
          rw [cf_in hi, hdig i (by omega)]
          exact u17 i (by omega)
        have hbit := eA_bit (E := E) (U := U) (w := w) k
        refine e_iload dX7_goThrough_42 rfl ?_
        refine e_iconst (v := 1) dX7_goThrough_44 (by decide) ?_
        refine e_aload_n (i := 0) dX7_goThrough_45 rfl rfl ?_
        refine e_getR (r := 6) dX7_goThrough_46 fl_X7_41 sh_0 fj_0_5 ?_
        refine e_getI (x := nI (E k)) dX7_goThrough_49 fl_X7_143 sh_6 fj_6_9 u9 ?_
        refine z_ishl (z := nI (2 ^ E k)) (shl10 ⟨E k, by omega⟩) dX7_goThrough_52 ?_
        refine z_iand (z := nI (eA E k &&& 2 ^ E k)) (fa_and _ _) dX7_goThrough_53 ?_
        refine b_if_ne (X := ((eA E k &&& 2 ^ E k : Nat) : Int)) (tgt := 61) (nI_toInt (by omega)) dX7_goThrough_54 (by decide) ?_ ?_
        · intro e_54_t c_54_t
          refine e_iconst (v := 0) dX7_goThrough_61 (by decide) ?_
          refine e_istore (ls2 := [some (.inr 0), some (.inl (nI p)), some (.inl (nI x)), some (.inl (nI n)), some (.inl (nI c)), some (.inl so), some (.inl (nI (eA E k))), some (.inl 1), some (.inl (nI t)), some (.inl 0)]) dX7_goThrough_62 (Nat.le_of_ble_eq_true rfl) rfl ?_
          refine e_aload_n (i := 0) dX7_goThrough_64 rfl rfl ?_
          refine e_getR (r := 6) dX7_goThrough_65 fl_X7_41 sh_0 fj_0_5 ?_
          refine e_getI (x := nI (E k)) dX7_goThrough_68 fl_X7_143 sh_6 fj_6_9 u9 ?_
          refine e_iload dX7_goThrough_71 rfl ?_
          refine b_icmp_ne (X := ((E k : Nat) : Int)) (Y := so.toInt) (tgt := 116) (nI_toInt (by omega)) rfl dX7_goThrough_73 (by decide) ?_ ?_
          · intro e_73_t c_73_t
            first
              | (have hne : ¬ E k = w := fun z => by have := (hso (E k) hE9k).mpr z; omega
                 have hq : rS E U w (k + 1) = rS E U w k := by rw [hrs, if_neg (fun z => hne z.1)]
                 exact k116 u (some (.inl 0)) ku u4 u17 (fun q hq2 => fu q (by rw [← hq]; exact hq2)) u9 u11)
              | (have hw := (hso (E k) hE9k).mp (by omega)
                 have hb9 : (eA E k).testBit w = true := by rw [← hw]; exact Classical.byContradiction (fun z => by have := and_bit.mpr z; omega)
                 have hsome := hbit.mp hb9
                 have hq : rS E U w (k + 1) = rS E U w k := by
                   rw [hrs, if_neg]
                   rintro ⟨-, z⟩
                   cases hr9 : rS E U w k with
                   | none => exact hsome hr9
                   | some q0 =>
                     have h51 := (fu q0 hr9).1
                     have h52 := (fu q0 hr9).2.1
                     rw [h51, nI_toInt (by omega)] at c_95_t
                     rw [hr9] at z
                     have z2 := of_decide_eq_true z
                     omega
                 exact k116 u (some (.inl 0)) ku u4 u17 (fun q hq2 => fu q (by rw [← hq]; exact hq2)) u9 u11)
          · intro e_73_f c_73_f
            refine e_iload dX7_goThrough_76 rfl ?_
            refine b_if_ne (X := 0) (tgt := 98) (by decide) dX7_goThrough_78 (by decide) ?_ ?_
            · intro e_78_t c_78_t
              exfalso; omega
            · intro e_78_f c_78_f
              refine e_aload_n (i := 0) dX7_goThrough_81 rfl rfl ?_
              refine e_getR (r := 6) dX7_goThrough_82 fl_X7_41 sh_0 fj_0_5 ?_
              refine e_getI (x := nI (U k)) dX7_goThrough_85 fl_X7_146 sh_6 fj_6_11 u11 ?_
              refine e_aload_n (i := 0) dX7_goThrough_88 rfl rfl ?_
              refine e_getR (r := 5) dX7_goThrough_89 fl_X7_33 sh_0 fj_0_4 ?_
              refine e_getI (x := u 5 1) dX7_goThrough_92 fl_X7_98 sh_5 fj_5_1 rfl ?_
              refine b_icmp_ge (X := ((U k : Nat) : Int)) (Y := (u 5 1).toInt) (tgt := 116) (nI_toInt (by omega)) rfl dX7_goThrough_95 (by decide) ?_ ?_
              · intro c_95_t
                first
                  | (have hne : ¬ E k = w := fun z => by have := (hso (E k) hE9k).mpr z; omega
                     have hq : rS E U w (k + 1) = rS E U w k := by rw [hrs, if_neg (fun z => hne z.1)]
                     exact k116 u (some (.inl 0)) ku u4 u17 (fun q hq2 => fu q (by rw [← hq]; exact hq2)) u9 u11)
                  | (have hw := (hso (E k) hE9k).mp (by omega)
                     have hb9 : (eA E k).testBit w = true := by rw [← hw]; exact Classical.byContradiction (fun z => by have := and_bit.mpr z; omega)
                     have hsome := hbit.mp hb9
                     have hq : rS E U w (k + 1) = rS E U w k := by
                       rw [hrs, if_neg]
                       rintro ⟨-, z⟩
                       cases hr9 : rS E U w k with
                       | none => exact hsome hr9
                       | some q0 =>
                         have h51 := (fu q0 hr9).1
                         have h52 := (fu q0 hr9).2.1
                         rw [h51, nI_toInt (by omega)] at c_95_t
                         rw [hr9] at z
                         have z2 := of_decide_eq_true z
                         omega
                     exact k116 u (some (.inl 0)) ku u4 u17 (fun q hq2 => fu q (by rw [← hq]; exact hq2)) u9 u11)
              · intro c_95_f
                refine e_aload_n (i := 0) dX7_goThrough_98 rfl rfl ?_
                refine e_getR (r := 5) dX7_goThrough_99 fl_X7_33 sh_0 fj_0_4 ?_
                refine e_aload_n (i := 0) dX7_goThrough_102 rfl rfl ?_
                refine e_getR (r := 4) dX7_goThrough_103 fl_X7_30 sh_0 fj_0_3 ?_
                refine e_aload_n (i := 0) dX7_goThrough_106 rfl rfl ?_
                refine e_getR (r := 6) dX7_goThrough_107 fl_X7_41 sh_0 fj_0_5 ?_
                refine e_getI (x := nI (U k)) dX7_goThrough_110 fl_X7_146 sh_6 fj_6_11 u11 ?_
                refine e_invVv (As := [.inr 4, .inl (nI (U k))]) (h2 := (tkH u (U k))) (ty := .int) (v := 0) dX7_goThrough_113 lk_X7_149 yv_X3_take rfl rfl rfl (Nat.le_of_ble_eq_true rfl) sh_5 ci_X3 (Nat.le_of_ble_eq_true rfl) ⟨Nat.le_of_ble_eq_true rfl, Nat.le_of_ble_eq_true rfl⟩ (k_R_take l u n (U k) (by omega) hUn u4) ?_
                have hw := (hso (E k) hE9k).mp (by omega)
                have hb9 : (eA E k).testBit w = true := by rw [← hw]; exact Classical.byContradiction (fun z => by have := and_bit.mpr z; omega)
                have hsome := hbit.mp hb9
                cases hr9 : rS E U w k with
                | none => exact absurd hr9 hsome
                | some q0 =>
                  have h51 := (fu q0 hr9).1
                  have h52 := (fu q0 hr9).2.1
                  rw [h51, nI_toInt (by omega)] at c_95_f
                  have hq : rS E U w (k + 1) = some (U k, k) := by rw [hrs, if_pos ⟨hw, by rw [hr9]; exact decide_eq_true (by omega)⟩]
                  exact k116 (tkH u (U k)) (some (.inl 0)) (ku.tk _) u4 u17 (htk hq) u9 u11
        · intro e_54_f c_54_f
          refine e_iconst (v := 1) dX7_goThrough_57 (by decide) ?_
          refine e_goto (tgt := 62) dX7_goThrough_58 (by decide) ?_
          refine e_istore (ls2 := [some (.inr 0), some (.inl (nI p)), some (.inl (nI x)), some (.inl (nI n)), some (.inl (nI c)), some (.inl so), some (.inl (nI (eA E k))), some (.inl 1), some (.inl (nI t)), some (.inl 1)]) dX7_goThrough_62 (Nat.le_of_ble_eq_true rfl) rfl ?_
          refine e_aload_n (i := 0) dX7_goThrough_64 rfl rfl ?_
          refine e_getR (r := 6) dX7_goThrough_65 fl_X7_41 sh_0 fj_0_5 ?_
          refine e_getI (x := nI (E k)) dX7_goThrough_68 fl_X7_143 sh_6 fj_6_9 u9 ?_
          refine e_iload dX7_goThrough_71 rfl ?_
          refine b_icmp_ne (X := ((E k : Nat) : Int)) (Y := so.toInt) (tgt := 116) (nI_toInt (by omega)) rfl dX7_goThrough_73 (by decide) ?_ ?_
          · intro e_73_t c_73_t
            first
              | (have hne : ¬ E k = w := fun z => by have := (hso (E k) hE9k).mpr z; omega
                 have hq : rS E U w (k + 1) = rS E U w k := by rw [hrs, if_neg (fun z => hne z.1)]
                 exact k116 u (some (.inl 1)) ku u4 u17 (fun q hq2 => fu q (by rw [← hq]; exact hq2)) u9 u11)
              | (have hw := (hso (E k) hE9k).mp (by omega)
                 have hb9 : (eA E k).testBit w = true := by rw [← hw]; exact Classical.byContradiction (fun z => by have := and_bit.mpr z; omega)
                 have hsome := hbit.mp hb9
                 have hq : rS E U w (k + 1) = rS E U w k := by
                   rw [hrs, if_neg]
                   rintro ⟨-, z⟩
                   cases hr9 : rS E U w k with
                   | none => exact hsome hr9
                   | some q0 =>
                     have h51 := (fu q0 hr9).1
                     have h52 := (fu q0 hr9).2.1
                     rw [h51, nI_toInt (by omega)] at c_95_t
                     rw [hr9] at z
                     have z2 := of_decide_eq_true z
                     omega
                 exact k116 u (some (.inl 1)) ku u4 u17 (fun q hq2 => fu q (by rw [← hq]; exact hq2)) u9 u11)
          · intro e_73_f c_73_f
            refine e_iload dX7_goThrough_76 rfl ?_
            refine b_if_ne (X := 1) (tgt := 98) (by decide) dX7_goThrough_78 (by decide) ?_ ?_
            · intro e_78_t c_78_t
              refine e_aload_n (i := 0) dX7_goThrough_98 rfl rfl ?_
              refine e_getR (r := 5) dX7_goThrough_99 fl_X7_33 sh_0 fj_0_4 ?_
              refine e_aload_n (i := 0) dX7_goThrough_102 rfl rfl ?_
              refine e_getR (r := 4) dX7_goThrough_103 fl_X7_30 sh_0 fj_0_3 ?_
              refine e_aload_n (i := 0) dX7_goThrough_106 rfl rfl ?_
              refine e_getR (r := 6) dX7_goThrough_107 fl_X7_41 sh_0 fj_0_5 ?_
              refine e_getI (x := nI (U k)) dX7_goThrough_110 fl_X7_146 sh_6 fj_6_11 u11 ?_
              refine e_invVv (As := [.inr 4, .inl (nI (U k))]) (h2 := (tkH u (U k))) (ty := .int) (v := 0) dX7_goThrough_113 lk_X7_149 yv_X3_take rfl rfl rfl (Nat.le_of_ble_eq_true rfl) sh_5 ci_X3 (Nat.le_of_ble_eq_true rfl) ⟨Nat.le_of_ble_eq_true rfl, Nat.le_of_ble_eq_true rfl⟩ (k_R_take l u n (U k) (by omega) hUn u4) ?_
              have hw := (hso (E k) hE9k).mp (by omega)
              have hb9 : ¬ (eA E k).testBit w = true := by rw [← hw]; exact and_bit.mp (by omega)
              have hnone : rS E U w k = none := Classical.byContradiction (fun z => hb9 (hbit.mpr z))
              have hq : rS E U w (k + 1) = some (U k, k) := by rw [hrs, if_pos ⟨hw, by rw [hnone]; rfl⟩]
              exact k116 (tkH u (U k)) (some (.inl 1)) (ku.tk _) u4 u17 (htk hq) u9 u11
            · intro e_78_f c_78_f
              exfalso; omega
set_option maxHeartbeats 1000000 in
theorem k_D_go (l : Launch) {sg : Nat → Int32} {ln sz : Nat → Nat} (hB : aWB sg ln sz) (h : mH) (hC : CB sg ln sz h) (p x c n w : Nat) (hp : p < 4) (hz : 0 < sz p) (hx : x < 8) (hc : c ≤ 2) (hn : n ≤ 4) (so : Int32) (hso : ∀ e : Nat, e ≤ 9 → (so.toInt = (e : Int) ↔ e = w)) (E U : Nat → Nat) (hE : ∀ k, E k = (rnC sg ln sz p x (c + 1) n k).1.toNat) (hU : ∀ k, U k = eU (rnC sg ln sz p x (c + 1) n k)) : mG l Sh0 iX7_goThrough [.inr 0, .inl (nI p), .inl (nI x), .inl (nI n), .inl (nI c), .inl so] h (fun v h' => v = some (nI (eA E ((c + 1) ^ n))) ∧ KQ h h' ∧ FO E U w c n ((c + 1) ^ n) h') := by
  have hv0 : ∀ m, vl (c + 1) (fun _ => 0) m = 0 := by
    intro m
    induction m with
    | zero => rfl
    | succ m ih => show vl (c + 1) (fun _ => 0) m * (c + 1) + 0 = 0; rw [ih, Nat.zero_mul]
  intro RT hR
  show mE l Sh0 none iX7_goThrough RT 0 [some (.inr 0), some (.inl (nI p)), some (.inl (nI x)), some (.inl (nI n)), some (.inl (nI c)), some (.inl so), none, none, none, none] [] h
  refine e_iconst (v := 0) dX7_goThrough_0 (by decide) ?_
  refine e_istore (ls2 := [some (.inr 0), some (.inl (nI p)), some (.inl (nI x)), some (.inl (nI n)), some (.inl (nI c)), some (.inl so), some (.inl 0), none, none, none]) dX7_goThrough_1 (Nat.le_of_ble_eq_true rfl) rfl ?_
  refine e_iconst (v := 1) dX7_goThrough_3 (by decide) ?_
  refine e_istore (ls2 := [some (.inr 0), some (.inl (nI p)), some (.inl (nI x)), some (.inl (nI n)), some (.inl (nI c)), some (.inl so), some (.inl 0), some (.inl 1), none, none]) dX7_goThrough_4 (Nat.le_of_ble_eq_true rfl) rfl ?_
  refine e_aload_n (i := 0) dX7_goThrough_6 rfl rfl ?_
  refine e_getR (r := 4) dX7_goThrough_7 fl_X7_30 sh_0 fj_0_3 ?_
  refine e_iload_n (i := 3) dX7_goThrough_10 rfl rfl ?_
  refine e_invVv (As := [.inl (nI n)]) (h2 := (hr (hs h 4 1 (nI n)) 17 (zf (h 17) n))) (ty := .int) (v := 0) dX7_goThrough_11 lk_X7_101 yv_X3_start rfl rfl rfl (Nat.le_of_ble_eq_true rfl) sh_4 ci_X3 (Nat.le_of_ble_eq_true rfl) ⟨Nat.le_of_ble_eq_true rfl, Nat.le_of_ble_eq_true rfl⟩ (k_R_start l sh_4 sh_17 h n (by omega)) ?_
  refine e_iconst (v := 0) dX7_goThrough_14 (by decide) ?_
  refine e_istore (ls2 := [some (.inr 0), some (.inl (nI p)), some (.inl (nI x)), some (.inl (nI n)), some (.inl (nI c)), some (.inl so), some (.inl 0), some (.inl 1), some (.inl 0), none]) dX7_goThrough_15 (Nat.le_of_ble_eq_true rfl) rfl ?_
  have kq : KQ h (hr (hs h 4 1 (nI n)) 17 (zf (h 17) n)) := KQ.nx (KQ.st (fun a _ => rfl) _) _
  have q := lp_D_go l hB h hC p x c n w hp hz hx hc hn so hso E U hE hU RT (fun h' a b => hR _ _ ⟨rfl, a, b⟩) ((c + 1) ^ n) (fun _ => 0) (hr (hs h 4 1 (nI n)) 17 (zf (h 17) n)) 0 none (by omega) (Nat.zero_le _) (fun _ _ => Nat.zero_le _) (fun _ _ _ => rfl) kq rfl (fun j hj => zf_in hj) (by rw [hv0]; intro q hq; cases hq)
  rw [hv0] at q
  exact q
