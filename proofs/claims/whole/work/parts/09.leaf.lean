def txF (n : Nat) : Int := if aOf (42 + n) = 0 then 331 else if aOf (42 + n) = 1 then 333 else if aOf (42 + n) = 2 then 335 else if aOf (42 + n) = 3 then 337 else 339
set_option maxRecDepth 20000 in
theorem txF_ok : ∀ n : Fin 79, (#[335, 335, 339, 335, 339, 339, 331, 331, 331, 331, 331, 331, 331, 331, 339, 339, 339, 339, 339, 339, 339, 337, 333, 339, 339, 339, 339, 339, 339, 339, 339, 339, 339, 339, 339, 339, 339, 339, 339, 339, 339, 339, 339, 339, 339, 339, 339, 339, 339, 339, 339, 339, 339, 339, 339, 339, 339, 339, 339, 339, 339, 339, 339, 339, 339, 333, 339, 335, 339, 339, 333, 333, 333, 339, 339, 339, 339, 339, 331] : Array Int)[n.val]? = some (txF n.val) := by decide +kernel
theorem k_textsOf (l : Launch) (h : mH) (x : Int32) : mD l Sh0 iX7_textsOf [.inl x] h (some (aI x.toInt)) h := by
  intro RT hR
  show mE l Sh0 none iX7_textsOf RT 0 [some (.inl x)] [] h
  refine e_iload_n (i := 0) dX7_textsOf_0 rfl rfl ?_
  by_cases q : x.toInt < 42 ∨ 120 < x.toInt
  · refine e_tableOut (tgt := 340) dX7_textsOf_1 q (by decide) ?_
    refine e_iconst (v := (-1)) dX7_textsOf_340 (by decide) ?_
    refine e_iret dX7_textsOf_341 (mret_i _) ?_
    have e : aI x.toInt = -1 := by
      unfold aI
      rw [if_neg (by omega), if_neg (by omega), if_neg (by omega), if_neg (by omega)]
    rw [e] at hR
    exact hR
  · have hk : (x.toInt - 42).toNat < 79 := by omega
    have ho := txF_ok ⟨(x.toInt - 42).toNat, hk⟩
    have e42 : (42 : Int) + ((x.toInt - 42).toNat : Nat) = x.toInt := by omega
    simp only [txF, e42] at ho
    have hq : aOf x.toInt = 0 ∨ aOf x.toInt = 1 ∨ aOf x.toInt = 2 ∨ aOf x.toInt = 3 ∨ aOf x.toInt = -1 := by
      unfold aOf
      repeat' split
      all_goals omega
    have hi := aI_toInt x.toInt
    rcases hq with q1 | q1 | q1 | q1 | q1
    · rw [q1] at ho hi
      refine e_tableIn (off := 331) (tgt := 332) dX7_textsOf_1 (by omega) (by omega) ho (by decide) ?_
      refine e_iconst (v := (0)) dX7_textsOf_332 (by decide) ?_
      refine e_iret dX7_textsOf_333 (mret_i _) ?_
      have e : aI x.toInt = (0) := Int32.toInt_inj.mp (by rw [hi]; rfl)
      rw [e] at hR
      exact hR
    · rw [q1] at ho hi
      refine e_tableIn (off := 333) (tgt := 334) dX7_textsOf_1 (by omega) (by omega) ho (by decide) ?_
      refine e_iconst (v := (1)) dX7_textsOf_334 (by decide) ?_
      refine e_iret dX7_textsOf_335 (mret_i _) ?_
      have e : aI x.toInt = (1) := Int32.toInt_inj.mp (by rw [hi]; rfl)
      rw [e] at hR
      exact hR
    · rw [q1] at ho hi
      refine e_tableIn (off := 335) (tgt := 336) dX7_textsOf_1 (by omega) (by omega) ho (by decide) ?_
      refine e_iconst (v := (2)) dX7_textsOf_336 (by decide) ?_
      refine e_iret dX7_textsOf_337 (mret_i _) ?_
      have e : aI x.toInt = (2) := Int32.toInt_inj.mp (by rw [hi]; rfl)
      rw [e] at hR
      exact hR
    · rw [q1] at ho hi
      refine e_tableIn (off := 337) (tgt := 338) dX7_textsOf_1 (by omega) (by omega) ho (by decide) ?_
      refine e_iconst (v := (3)) dX7_textsOf_338 (by decide) ?_
      refine e_iret dX7_textsOf_339 (mret_i _) ?_
      have e : aI x.toInt = (3) := Int32.toInt_inj.mp (by rw [hi]; rfl)
      rw [e] at hR
      exact hR
    · rw [q1] at ho hi
      refine e_tableIn (off := 339) (tgt := 340) dX7_textsOf_1 (by omega) (by omega) ho (by decide) ?_
      refine e_iconst (v := (-1)) dX7_textsOf_340 (by decide) ?_
      refine e_iret dX7_textsOf_341 (mret_i _) ?_
      have e : aI x.toInt = (-1) := Int32.toInt_inj.mp (by rw [hi]; rfl)
      rw [e] at hR
      exact hR
set_option maxHeartbeats 1000000 in
theorem lp_R_start (l : Launch) {k r : Nat} (hS : Sh0[k]? = some (.inl (3, [r + 3, 0]))) (hA : Sh0[r]? = some (.inr 8)) (h : mH) (n : Nat) (hn : n ≤ 8) (hc : h k 1 = nI n) (RT : Option Int32 → mH → Prop) (y : Option mV) (hR : RT none (hr h r (zf (h r) n))) : ∀ (d i : Nat), i + d = n → mE l Sh0 none iX3_start RT 21 [some (.inr k), y, some (.inl (nI i))] [] (hr h r (zf (h r) i))
  | 0, i, hd => by
    have hkr := sh_ne hS hA
    have hc2 : ∀ f, hr h r f k 1 = nI n := fun f => by rw [hr_ne _ _ hkr]; exact hc
    refine e_iload_n (i := 2) dX3_start_21 rfl rfl ?_
    refine e_aload_n (i := 0) dX3_start_22 rfl rfl ?_
    refine e_getI (x := nI n) dX3_start_23 fl_X3_15 hS rfl (hc2 _) ?_
    refine b_icmp_ge (X := ((i : Nat) : Int)) (Y := ((n : Nat) : Int)) (tgt := 42) (nI_toInt (by omega)) (nI_toInt (by omega)) dX3_start_26 (by decide) ?_ ?_
    · intro c_26_t
      refine e_ret dX3_start_42 rfl ?_
      have e : i = n := by omega
      subst e
      exact hR
    · intro c_26_f
      exfalso; omega
  | d + 1, i, hd => by
    have hkr := sh_ne hS hA
    have hc2 : ∀ f, hr h r f k 1 = nI n := fun f => by rw [hr_ne _ _ hkr]; exact hc
    refine e_iload_n (i := 2) dX3_start_21 rfl rfl ?_
    refine e_aload_n (i := 0) dX3_start_22 rfl rfl ?_
    refine e_getI (x := nI n) dX3_start_23 fl_X3_15 hS rfl (hc2 _) ?_
    refine b_icmp_ge (X := ((i : Nat) : Int)) (Y := ((n : Nat) : Int)) (tgt := 42) (nI_toInt (by omega)) (nI_toInt (by omega)) dX3_start_26 (by decide) ?_ ?_
    · intro c_26_t
      exfalso; omega
    · intro c_26_f
      refine e_aload_n (i := 0) dX3_start_29 rfl rfl ?_
      refine e_getR (r := r) dX3_start_30 fl_X3_9 hS rfl ?_
      refine e_iload_n (i := 2) dX3_start_33 rfl rfl ?_
      refine e_iconst (v := 0) dX3_start_34 (by decide) ?_
      refine e_iast dX3_start_35 hA (vin_ofX (X := ((i : Nat) : Int)) (nI_toInt (by omega)) (by omega) (by omega)) ?_
      rw [nI_clamp (by omega)]
      refine e_iinc (v := nI (i + 1)) (ls2 := [some (.inr k), y, some (.inl (nI (i + 1)))]) dX3_start_36 rfl (nI_inc1 _) (Nat.le_of_ble_eq_true rfl) rfl ?_
      refine e_goto (tgt := 21) dX3_start_39 (by decide) ?_
      rw [hr_hs, zf_s]
      exact lp_R_start l hS hA h n hn hc RT y hR d (i + 1) (by omega)
set_option maxHeartbeats 1000000 in
theorem k_R_start (l : Launch) {k r : Nat} (hS : Sh0[k]? = some (.inl (3, [r + 3, 0]))) (hA : Sh0[r]? = some (.inr 8)) (h : mH) (n : Nat) (hn : n ≤ 8) : mD l Sh0 iX3_start [.inr k, .inl (nI n)] h (none) (hr (hs h k 1 (nI n)) r (zf (h r) n)) := by
  intro RT hR
  have hkr := sh_ne hS hA
  show mE l Sh0 none iX3_start RT 0 [some (.inr k), some (.inl (nI n)), none] [] h
  refine e_aload_n (i := 0) dX3_start_0 rfl rfl ?_
  refine e_iload_n (i := 1) dX3_start_1 rfl rfl ?_
  refine b_if_lt (X := ((n : Nat) : Int)) (tgt := 15) (nI_toInt (by omega)) dX3_start_2 (by decide) ?_ ?_
  · intro c_2_t
    exfalso; omega
  · intro c_2_f
    refine e_iload_n (i := 1) dX3_start_5 rfl rfl ?_
    refine e_bipush (v := 8) dX3_start_6 (by decide) ?_
    refine b_icmp_gt (X := ((n : Nat) : Int)) (Y := 8) (tgt := 15) (nI_toInt (by omega)) (by decide) dX3_start_8 (by decide) ?_ ?_
    · intro c_8_t
      exfalso; omega
    · intro c_8_f
      refine e_iload_n (i := 1) dX3_start_11 rfl rfl ?_
      refine e_goto (tgt := 16) dX3_start_12 (by decide) ?_
      refine e_putI dX3_start_16 fl_X3_15 fp_X3_1 hS rfl ?_
      refine e_iconst (v := 0) dX3_start_19 (by decide) ?_
      refine e_istore_n (i := 2) (ls2 := [some (.inr k), some (.inl (nI n)), some (.inl 0)]) dX3_start_20 rfl (Nat.le_of_ble_eq_true rfl) rfl ?_
      have e1 : hs h k 1 (nI n) r = h r := hs_rown h 1 (nI n) (fun q => hkr q.symm)
      have q0 := lp_R_start l hS hA (hs h k 1 (nI n)) n hn (hs_at _ _ _ _) RT (some (.inl (nI n))) (by rw [e1]; exact hR) n 0 (by omega)
      rw [zf_0, hr_self] at q0
      exact q0
set_option maxHeartbeats 1000000 in
theorem k_R_add (l : Launch) {k r : Nat} (hS : Sh0[k]? = some (.inl (3, [r + 3, 0]))) (hA : Sh0[r]? = some (.inr 8)) (h : mH) (x : Int32) (n : Nat) (hc : h k 1 = nI n) (hn : n < 8) : mD l Sh0 iX3_add [.inr k, .inl x] h (some 1) (hs (hs h r n x) k 1 (nI (n + 1))) := by
  intro RT hR
  have hkr := sh_ne hS hA
  have hc2 : hs h r n x k 1 = nI n := by rw [hs_ne _ _ (fun q => hkr q.1)]; exact hc
  show mE l Sh0 none iX3_add RT 0 [some (.inr k), some (.inl x)] [] h
  refine e_aload_n (i := 0) dX3_add_0 rfl rfl ?_
  refine e_getI (x := nI n) dX3_add_1 fl_X3_15 hS rfl (by first | exact hc | exact hc2) ?_
  refine b_if_lt (X := ((n : Nat) : Int)) (tgt := 16) (nI_toInt (by omega)) dX3_add_4 (by decide) ?_ ?_
  · intro c_4_t
    exfalso; omega
  · intro c_4_f
    refine e_aload_n (i := 0) dX3_add_7 rfl rfl ?_
    refine e_getI (x := nI n) dX3_add_8 fl_X3_15 hS rfl (by first | exact hc | exact hc2) ?_
    refine e_bipush (v := 8) dX3_add_11 (by decide) ?_
    refine b_icmp_lt (X := ((n : Nat) : Int)) (Y := 8) (tgt := 18) (nI_toInt (by omega)) (by decide) dX3_add_13 (by decide) ?_ ?_
    · intro c_13_t
      refine e_aload_n (i := 0) dX3_add_18 rfl rfl ?_
      refine e_getR (r := r) dX3_add_19 fl_X3_9 hS rfl ?_
      refine e_aload_n (i := 0) dX3_add_22 rfl rfl ?_
      refine e_getI (x := nI n) dX3_add_23 fl_X3_15 hS rfl (by first | exact hc | exact hc2) ?_
      refine e_iload_n (i := 1) dX3_add_26 rfl rfl ?_
      refine e_iast dX3_add_27 hA (vin_ofX (X := ((n : Nat) : Int)) (nI_toInt (by omega)) (by omega) (by omega)) ?_
      rw [nI_clamp (by omega)]
      refine e_aload_n (i := 0) dX3_add_28 rfl rfl ?_
      refine e_dup dX3_add_29 ?_
      refine e_getI (x := nI n) dX3_add_30 fl_X3_15 hS rfl (by first | exact hc | exact hc2) ?_
      refine e_iconst (v := 1) dX3_add_33 (by decide) ?_
      refine z_iadd (z := nI (n + 1)) (nI_addc _ 1) dX3_add_34 ?_
      refine e_putI dX3_add_35 fl_X3_15 fp_X3_1 hS rfl ?_
      refine e_iconst (v := 1) dX3_add_38 (by decide) ?_
      refine e_iret dX3_add_39 (mret_z (by first | decide | (simp only []; split <;> decide))) ?_
      exact hR
    · intro c_13_f
      exfalso; omega
set_option maxHeartbeats 1000000 in
theorem k_R_addF (l : Launch) {k r : Nat} (hS : Sh0[k]? = some (.inl (3, [r + 3, 0]))) (hA : Sh0[r]? = some (.inr 8)) (h : mH) (x : Int32) (hc : h k 1 = nI 8) : mD l Sh0 iX3_add [.inr k, .inl x] h (some 0) h := by
  intro RT hR
  show mE l Sh0 none iX3_add RT 0 [some (.inr k), some (.inl x)] [] h
  refine e_aload_n (i := 0) dX3_add_0 rfl rfl ?_
  refine e_getI (x := nI 8) dX3_add_1 fl_X3_15 hS rfl hc ?_
  refine b_if_lt (X := ((8 : Nat) : Int)) (tgt := 16) (nI_toInt (by omega)) dX3_add_4 (by decide) ?_ ?_
  · intro c_4_t
    exfalso; omega
  · intro c_4_f
    refine e_aload_n (i := 0) dX3_add_7 rfl rfl ?_
    refine e_getI (x := nI 8) dX3_add_8 fl_X3_15 hS rfl hc ?_
    refine e_bipush (v := 8) dX3_add_11 (by decide) ?_
    refine b_icmp_lt (X := ((8 : Nat) : Int)) (Y := 8) (tgt := 18) (nI_toInt (by omega)) (by decide) dX3_add_13 (by decide) ?_ ?_
    · intro c_13_t
      exfalso; omega
    · intro c_13_f
      refine e_iconst (v := 0) dX3_add_16 (by decide) ?_
      refine e_iret dX3_add_17 (mret_z (by first | decide | (simp only []; split <;> decide))) ?_
      exact hR
/-- the next row that differs among the first places -/
def rN (c : Int32) : Nat → (Nat → Int32) → Bool × (Nat → Int32)
  | 0, f => (false, f)
  | m + 1, f => if (f m).toInt < c.toInt then (true, upd f m (f m + 1)) else rN c m (upd f m 0)
theorem rVal_in {h : mH} {k r i n : Nat} (hc : h k 1 = nI n) (hi : i < n) (hn : n ≤ 8) : rVal h k r (nI i) = h r i := by
  unfold rVal
  rw [hc, nI_toInt (by omega), nI_toInt (by omega), if_pos (by omega)]
  rfl
/-- the number before -/
def dn (m : Nat) : Int32 := nI m - 1
theorem dn_0 : dn 0 = -1 := by decide
theorem dn_s (m : Nat) : dn (m + 1) = nI m := nI_pred m
theorem dn_dec (m : Nat) : nI m + Int32.ofInt (-1) = dn m := by
  unfold dn
  rw [show Int32.ofInt (-1) = -1 from by decide, Int32.sub_eq_add_neg]
theorem dn_toInt {m : Nat} (h : m < 2 ^ 30) : (dn m).toInt = (m : Int) - 1 := by
  cases m with
  | zero => rw [dn_0]; decide
  | succ m => rw [dn_s, nI_toInt (by omega)]; omega

set_option maxHeartbeats 1000000 in
theorem lp_R_next (l : Launch) {k r : Nat} (hS : Sh0[k]? = some (.inl (3, [r + 3, 0]))) (hA : Sh0[r]? = some (.inr 8)) (h : mH) (n : Nat) (hn : n ≤ 8) (hc : h k 1 = nI n) (c : Int32) (y : Option mV) (RT : Option Int32 → mH → Prop) : ∀ (m : Nat) (f : Nat → Int32), m ≤ n → RT (some (bI (rN c m f).1)) (hr h r (rN c m f).2) → mE l Sh0 none iX3_next RT 16 [some (.inr k), y, some (.inl c), some (.inl (dn m))] [] (hr h r f)
  | 0, f, hm, hR => by
    rw [dn_0]
    refine e_iload_n (i := 3) dX3_next_16 rfl rfl ?_
    refine b_if_lt (X := (-1)) (tgt := 54) (by decide) dX3_next_17 (by decide) ?_ ?_
    · intro c_17_t
      refine e_iconst (v := 0) dX3_next_54 (by decide) ?_
      refine e_iret dX3_next_55 (mret_z (by first | decide | (simp only []; split <;> decide))) ?_
      exact hR
    · intro c_17_f
      exfalso; omega
  | m + 1, f, hm, hR => by
    have hkr := sh_ne hS hA
    have hc2 : hr h r f k 1 = nI n := by rw [hr_ne _ _ hkr]; exact hc
    have hv := rVal_in (r := r) hc2 (show m < n by omega) hn
    rw [hr_at] at hv
    rw [dn_s]
    refine e_iload_n (i := 3) dX3_next_16 rfl rfl ?_
    refine b_if_lt (X := ((m : Nat) : Int)) (tgt := 54) (nI_toInt (by omega)) dX3_next_17 (by decide) ?_ ?_
    · intro c_17_t
      exfalso; omega
    · intro c_17_f
      refine e_aload_n (i := 0) dX3_next_20 rfl rfl ?_
      refine e_iload_n (i := 3) dX3_next_21 rfl rfl ?_
      refine e_invVi (As := [.inl (nI m)]) (v := f m) (h2 := (hr h r f)) dX3_next_22 lk_X3_23 yv_X3_value rfl rfl rfl (Nat.le_of_ble_eq_true rfl) hS ci_X3 (Nat.le_of_ble_eq_true rfl) ⟨Nat.le_of_ble_eq_true rfl, Nat.le_of_ble_eq_true rfl⟩ (hv ▸ k_R_value l hS hA (hr h r f) (nI m)) ?_
      refine e_iload_n (i := 2) dX3_next_25 rfl rfl ?_
      refine b_icmp_ge (X := (f m).toInt) (Y := c.toInt) (tgt := 41) rfl rfl dX3_next_26 (by decide) ?_ ?_
      · intro c_26_t
        refine e_aload_n (i := 0) dX3_next_41 rfl rfl ?_
        refine e_getR (r := r) dX3_next_42 fl_X3_9 hS rfl ?_
        refine e_iload_n (i := 3) dX3_next_45 rfl rfl ?_
        refine e_iconst (v := 0) dX3_next_46 (by decide) ?_
        refine e_iast dX3_next_47 hA (vin_ofX (X := ((m : Nat) : Int)) (nI_toInt (by omega)) (by omega) (by omega)) ?_
        rw [nI_clamp (by omega)]
        refine e_iinc (v := dn m) (ls2 := [some (.inr k), y, some (.inl c), some (.inl (dn m))]) dX3_next_48 rfl (dn_dec _) (Nat.le_of_ble_eq_true rfl) rfl ?_
        refine e_goto (tgt := 16) dX3_next_51 (by decide) ?_
        have e : rN c (m + 1) f = rN c m (upd f m 0) := if_neg (by omega)
        rw [e] at hR
        rw [hr_hs]
        exact lp_R_next l hS hA h n hn hc c y RT m (upd f m 0) (by omega) hR
      · intro c_26_f
        refine e_aload_n (i := 0) dX3_next_29 rfl rfl ?_
        refine e_getR (r := r) dX3_next_30 fl_X3_9 hS rfl ?_
        refine e_iload_n (i := 3) dX3_next_33 rfl rfl ?_
        refine e_dup2 dX3_next_34 ?_
        refine e_iald (x := f m) dX3_next_35 hA (vin_ofX (X := ((m : Nat) : Int)) (nI_toInt (by omega)) (by omega) (by omega)) (by rw [nI_clamp (by omega)]; exact (by rw [hr_at])) ?_
        refine e_iconst (v := 1) dX3_next_36 (by decide) ?_
        refine e_iadd dX3_next_37 ?_
        refine e_iast dX3_next_38 hA (vin_ofX (X := ((m : Nat) : Int)) (nI_toInt (by omega)) (by omega) (by omega)) ?_
        rw [nI_clamp (by omega)]
        refine e_iconst (v := 1) dX3_next_39 (by decide) ?_
        refine e_iret dX3_next_40 (mret_z (by first | decide | (simp only []; split <;> decide))) ?_
        have e : rN c (m + 1) f = (true, upd f m (f m + 1)) := if_pos (by omega)
        rw [e] at hR
        rw [hr_hs]
        exact hR
set_option maxHeartbeats 1000000 in
theorem k_R_next (l : Launch) {k r : Nat} (hS : Sh0[k]? = some (.inl (3, [r + 3, 0]))) (hA : Sh0[r]? = some (.inr 8)) (h : mH) (n u : Nat) (hn : n ≤ 8) (hu : u ≤ n) (hc : h k 1 = nI n) (c : Int32) : mD l Sh0 iX3_next [.inr k, .inl (nI u), .inl c] h (some (bI (rN c u (h r)).1)) (hr h r (rN c u (h r)).2) := by
  intro RT hR
  show mE l Sh0 none iX3_next RT 0 [some (.inr k), some (.inl (nI u)), some (.inl c), none] [] h
  refine e_iload_n (i := 1) dX3_next_0 rfl rfl ?_
  refine e_aload_n (i := 0) dX3_next_1 rfl rfl ?_
  refine e_getI (x := nI n) dX3_next_2 fl_X3_15 hS rfl hc ?_
  refine e_min dX3_next_5 lk_X3_27 mm_min.1 mm_min.2.1 mm_min.2.2 ⟨Nat.le_of_ble_eq_true rfl, Nat.le_of_ble_eq_true rfl⟩ ?_
  rw [show (if nI n < nI u then nI n else nI u : Int32) = nI u from (by split <;> first | rfl | (rename_i q; rw [nI_ltI (by omega) (by omega)] at q; exfalso; omega))]
  refine e_bipush (v := 8) dX3_next_8 (by decide) ?_
  refine e_min dX3_next_10 lk_X3_27 mm_min.1 mm_min.2.1 mm_min.2.2 ⟨Nat.le_of_ble_eq_true rfl, Nat.le_of_ble_eq_true rfl⟩ ?_
  rw [show (if 8 < nI u then 8 else nI u : Int32) = nI u from (by rw [if_neg]; intro q; rw [show (8 : Int32) = nI 8 from by decide, nI_ltI (by omega) (by omega)] at q; omega)]
  refine e_iconst (v := 1) dX3_next_13 (by decide) ?_
  refine z_isub (z := dn u) rfl dX3_next_14 ?_
  refine e_istore_n (i := 3) (ls2 := [some (.inr k), some (.inl (nI u)), some (.inl c), some (.inl (dn u))]) dX3_next_15 rfl (Nat.le_of_ble_eq_true rfl) rfl ?_
  have q0 := lp_R_next l hS hA h n hn hc c (some (.inl (nI u))) RT u (h r) hu hR
  rw [hr_self] at q0
  exact q0
