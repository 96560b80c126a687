/-! The class's MAY ASK of a place. -/
theorem k_W_askedX (l : Launch) (h : mH) (p : Nat) (hp : p < 800) {s : Int32} (e : h 25 p = s) : mD l Sh0 iX6_asked [.inr 9, .inl (nI p)] h (some s) h := by
  have q := k_W_asked l h (nI p)
  rw [gA_in hp (by omega), e] at q
  exact q
theorem nI_div4 {n : Nat} (h : n < 2 ^ 31) : nI n / 4 = nI (n / 4) := pk_div (d := 4) h (by omega) (by omega)
theorem nI_div40 {n : Nat} (h : n < 2 ^ 31) : nI n / 40 = nI (n / 40) := pk_div (d := 40) h (by omega) (by omega)
set_option maxHeartbeats 1000000 in
theorem k_W_goesOn (l : Launch) (h : mH) (W : Nat → Nat) (hW : ∀ d, d < 4 → h 27 d = nI (W d)) (pg : Nat) (h4 : 4 ≤ pg) (h20 : pg < 20) : mD l Sh0 iX6_whatGoesOn [.inr 9, .inl (nI pg)] h (some (nI (W ((pg - 4) / 4)))) h := by
  intro RT hR
  show mE l Sh0 none iX6_whatGoesOn RT 0 [some (.inr 9), some (.inl (nI pg)), none] [] h
  refine e_iload_n (i := 1) dX6_whatGoesOn_0 rfl rfl ?_
  refine e_iconst (v := 4) dX6_whatGoesOn_1 (by decide) ?_
  refine z_isub (z := nI (pg - 4)) (nI_subc 4 h4) dX6_whatGoesOn_2 ?_
  refine e_iconst (v := 4) dX6_whatGoesOn_3 (by decide) ?_
  refine z_idiv (z := nI ((pg - 4) / 4)) (nI_div4 (by omega)) dX6_whatGoesOn_4 (by decide) ?_
  refine e_istore_n (i := 2) (ls2 := [some (.inr 9), some (.inl (nI pg)), some (.inl (nI ((pg - 4) / 4)))]) dX6_whatGoesOn_5 rfl (Nat.le_of_ble_eq_true rfl) rfl ?_
  refine e_iload_n (i := 1) dX6_whatGoesOn_6 rfl rfl ?_
  refine e_iconst (v := 4) dX6_whatGoesOn_7 (by decide) ?_
  refine b_icmp_lt (X := ((pg : Nat) : Int)) (Y := 4) (tgt := 25) (nI_toInt (by omega)) (by decide) dX6_whatGoesOn_8 (by decide) ?_ ?_
  · intro c_8_t
    exfalso; omega
  · intro c_8_f
    refine e_iload_n (i := 2) dX6_whatGoesOn_11 rfl rfl ?_
    refine e_iconst (v := 4) dX6_whatGoesOn_12 (by decide) ?_
    refine b_icmp_ge (X := (((pg - 4) / 4 : Nat) : Int)) (Y := 4) (tgt := 25) (nI_toInt (by omega)) (by decide) dX6_whatGoesOn_13 (by decide) ?_ ?_
    · intro c_13_t
      exfalso; omega
    · intro c_13_f
      refine e_aload_n (i := 0) dX6_whatGoesOn_16 rfl rfl ?_
      refine e_getR (r := 27) dX6_whatGoesOn_17 fl_X6_18 sh_9 fj_9_3 ?_
      refine e_iload_n (i := 2) dX6_whatGoesOn_20 rfl rfl ?_
      refine e_iald (x := nI (W ((pg - 4) / 4))) dX6_whatGoesOn_21 sh_27 (vin_ofX (X := (((pg - 4) / 4 : Nat) : Int)) (nI_toInt (by omega)) (by omega) (by omega)) (by rw [nI_clamp (by omega)]; exact (hW _ (by omega))) ?_
      refine e_goto (tgt := 26) dX6_whatGoesOn_22 (by decide) ?_
      refine e_iret dX6_whatGoesOn_26 (mret_i _) ?_
      exact hR
def hbB (b0 b1 b2 b3 : Bool) : Int32 :=
  let c0 : Int32 := if b0 then (0 : Int32) ||| ((1 : Int32) <<< (nI 0 &&& 31)) else 0
  let c1 : Int32 := if b1 then c0 ||| ((1 : Int32) <<< (nI 1 &&& 31)) else c0
  let c2 : Int32 := if b2 then c1 ||| ((1 : Int32) <<< (nI 2 &&& 31)) else c1
  if b3 then c2 ||| ((1 : Int32) <<< (nI 3 &&& 31)) else c2
theorem hb_B (sz : Nat → Nat) (hd : Nat) : hb sz hd 4 = hbB (decide (0 < sz (4 + 4 * hd + 0))) (decide (0 < sz (4 + 4 * hd + 1))) (decide (0 < sz (4 + 4 * hd + 2))) (decide (0 < sz (4 + 4 * hd + 3))) := by
  simp only [hb, hbB, decide_eq_true_eq]
def bsel (b0 b1 b2 b3 : Bool) (i : Nat) : Bool := if i = 0 then b0 else if i = 1 then b1 else if i = 2 then b2 else b3
def uB (b0 b1 b2 : Bool) (x : Nat) : Nat := ((if x.testBit 0 && !b0 then 1 else 0) ||| (if x.testBit 1 && !b1 then 2 else 0)) ||| (if x.testBit 2 && !b2 then 4 else 0)
set_option maxRecDepth 100000 in
theorem ph_dec : ∀ b0 b1 b2 b3 : Bool, ∀ x : Fin 8, (nI x.val &&& (hbB b0 b1 b2 b3 ^^^ (-1))) = nI (uB b0 b1 b2 x.val) ∧ ∀ i : Fin 4, ((hbB b0 b1 b2 b3 &&& (nI x.val ||| 8)) >>> (nI i.val &&& 31)) &&& 1 = nI (if bsel b0 b1 b2 b3 i.val && (x.val.testBit i.val || i.val == 3) then 1 else 0) := by decide +kernel
/-- has the hand that clause -/
def hC9 (sz : Nat → Nat) (hd i : Nat) : Bool := decide (0 < sz (4 + 4 * hd + i))
theorem bsel_h (sz : Nat → Nat) (hd : Nat) {i : Nat} (hi : i < 4) : bsel (hC9 sz hd 0) (hC9 sz hd 1) (hC9 sz hd 2) (hC9 sz hd 3) i = hC9 sz hd i := by
  have h : i = 0 ∨ i = 1 ∨ i = 2 ∨ i = 3 := by omega
  rcases h with rfl | rfl | rfl | rfl <;> rfl
def wI (sz : Nat → Nat) (hd bits i : Nat) : Bool := hC9 sz hd i && (bits.testBit i || i == 3)
theorem ph_1 {sz : Nat → Nat} {hd bits : Nat} (hb9 : bits < 8) : nI bits &&& (hb sz hd 4 ^^^ (-1)) = nI (uB (hC9 sz hd 0) (hC9 sz hd 1) (hC9 sz hd 2) bits) := by
  rw [hb_B]
  exact (ph_dec _ _ _ _ ⟨bits, hb9⟩).1
theorem ph_2 {sz : Nat → Nat} {hd bits i : Nat} (hb9 : bits < 8) (hi : i < 4) : ((hb sz hd 4 &&& (nI bits ||| 8)) >>> (nI i &&& 31)) &&& 1 = nI (if wI sz hd bits i then 1 else 0) := by
  rw [hb_B]
  have q := (ph_dec (hC9 sz hd 0) (hC9 sz hd 1) (hC9 sz hd 2) (hC9 sz hd 3) ⟨bits, hb9⟩).2 ⟨i, hi⟩
  dsimp only at q
  rw [bsel_h sz hd hi] at q
  exact q
def cH (sz ma : Nat → Nat) (hd bits : Nat) : Nat → Nat
  | 0 => uB (hC9 sz hd 0) (hC9 sz hd 1) (hC9 sz hd 2) bits
  | i + 1 => cH sz ma hd bits i ||| (if wI sz hd bits i then ma (4 + 4 * hd + i) else 0)
theorem cH_pH (sz ma : Nat → Nat) (hd bits : Nat) : cH sz ma hd bits 4 = pH sz ma hd bits 3 := by
  have hv : ∀ d, d < 3 → (if bits.testBit d then (if 0 < sz (4 + 4 * hd + d) then ma (4 + 4 * hd + d) else 2 ^ d) else 0) = (if bits.testBit d && !hC9 sz hd d then 2 ^ d else 0) ||| (if wI sz hd bits d then ma (4 + 4 * hd + d) else 0) := by
    intro d hd3
    unfold wI hC9
    have e : (d == 3) = false := by simp; omega
    rw [e]
    by_cases b : bits.testBit d = true
    · by_cases z : 0 < sz (4 + 4 * hd + d)
      · simp [b, z]
      · simp [b, z]
    · simp [b]
  have ht : (if 0 < sz (4 + 4 * hd + 3) then ma (4 + 4 * hd + 3) else 0) = (if wI sz hd bits 3 then ma (4 + 4 * hd + 3) else 0) := by
    unfold wI hC9
    simp
  have e1 : pH sz ma hd bits 3 = (((if 0 < sz (4 + 4 * hd + 3) then ma (4 + 4 * hd + 3) else 0) ||| (if bits.testBit 0 then (if 0 < sz (4 + 4 * hd + 0) then ma (4 + 4 * hd + 0) else 2 ^ 0) else 0)) ||| (if bits.testBit 1 then (if 0 < sz (4 + 4 * hd + 1) then ma (4 + 4 * hd + 1) else 2 ^ 1) else 0)) ||| (if bits.testBit 2 then (if 0 < sz (4 + 4 * hd + 2) then ma (4 + 4 * hd + 2) else 2 ^ 2) else 0) := rfl
  have e2 : cH sz ma hd bits 4 = ((((((if bits.testBit 0 && !hC9 sz hd 0 then 2 ^ 0 else 0) ||| (if bits.testBit 1 && !hC9 sz hd 1 then 2 ^ 1 else 0)) ||| (if bits.testBit 2 && !hC9 sz hd 2 then 2 ^ 2 else 0)) ||| (if wI sz hd bits 0 then ma (4 + 4 * hd + 0) else 0)) ||| (if wI sz hd bits 1 then ma (4 + 4 * hd + 1) else 0)) ||| (if wI sz hd bits 2 then ma (4 + 4 * hd + 2) else 0)) ||| (if wI sz hd bits 3 then ma (4 + 4 * hd + 3) else 0) := rfl
  rw [e1, e2, hv 0 (by omega), hv 1 (by omega), hv 2 (by omega), ht]
  generalize (if bits.testBit 0 && !hC9 sz hd 0 then 2 ^ 0 else 0) = u0
  generalize (if bits.testBit 1 && !hC9 sz hd 1 then 2 ^ 1 else 0) = u1
  generalize (if bits.testBit 2 && !hC9 sz hd 2 then 2 ^ 2 else 0) = u2
  generalize (if wI sz hd bits 0 then ma (4 + 4 * hd + 0) else 0) = t0
  generalize (if wI sz hd bits 1 then ma (4 + 4 * hd + 1) else 0) = t1
  generalize (if wI sz hd bits 2 then ma (4 + 4 * hd + 2) else 0) = t2
  generalize (if wI sz hd bits 3 then ma (4 + 4 * hd + 3) else 0) = t3
  ac_rfl
set_option maxHeartbeats 1000000 in
theorem lp_W_past (l : Launch) (h : mH) (sz A : Nat → Nat) (hA : ∀ q, q < 800 → h 25 q = nI (A q)) (hd bits : Nat) (hh : hd < 4) (hb9 : bits < 8) (y2 y3 : Option mV) (RT : Option Int32 → mH → Prop) (hR : RT (some (nI (cH sz (fun p => A (40 * p)) hd bits 4))) h) : ∀ (d i : Nat), i + d = 4 → mE l Sh0 none iX6_pastHand RT 27 [some (.inr 9), some (.inl (nI hd)), y2, y3, some (.inl (hb sz hd 4 &&& (nI bits ||| 8))), some (.inl (nI (cH sz (fun p => A (40 * p)) hd bits i))), some (.inl (nI i))] [] h := by
  intro d
  induction d with
  | zero =>
    intro i hd4
    refine e_iload dX6_pastHand_27 rfl ?_
    refine e_iconst (v := 4) dX6_pastHand_29 (by decide) ?_
    refine b_icmp_ge (X := ((i : Nat) : Int)) (Y := 4) (tgt := 68) (nI_toInt (by omega)) (by decide) dX6_pastHand_30 (by decide) ?_ ?_
    · intro c_30_t
      refine e_iload dX6_pastHand_68 rfl ?_
      refine e_iret dX6_pastHand_70 (mret_i _) ?_
      have e : i = 4 := by omega
      subst e
      exact hR
    · intro c_30_f
      exfalso; omega
  | succ d ih =>
    intro i hd4
    have q := ih (i + 1) (by omega)
    have eS : cH sz (fun p => A (40 * p)) hd bits (i + 1) = cH sz (fun p => A (40 * p)) hd bits i ||| (if wI sz hd bits i then A (40 * (4 + 4 * hd + i)) else 0) := rfl
    have hw9 : (if wI sz hd bits i then 1 else 0) < 2 := by split <;> omega
    refine e_iload dX6_pastHand_27 rfl ?_
    refine e_iconst (v := 4) dX6_pastHand_29 (by decide) ?_
    refine b_icmp_ge (X := ((i : Nat) : Int)) (Y := 4) (tgt := 68) (nI_toInt (by omega)) (by decide) dX6_pastHand_30 (by decide) ?_ ?_
    · intro c_30_t
      exfalso; omega
    · intro c_30_f
      refine e_iload dX6_pastHand_33 rfl ?_
      refine e_iload dX6_pastHand_35 rfl ?_
      refine e_ishr dX6_pastHand_37 ?_
      refine e_iconst (v := 1) dX6_pastHand_38 (by decide) ?_
      refine z_iand (z := nI (if wI sz hd bits i then 1 else 0)) (ph_2 hb9 (by omega)) dX6_pastHand_39 ?_
      refine e_iconst (v := 1) dX6_pastHand_40 (by decide) ?_
      refine b_icmp_ne (X := ((if wI sz hd bits i then 1 else 0 : Nat) : Int)) (Y := 1) (tgt := 62) (nI_toInt (by omega)) (by decide) dX6_pastHand_41 (by decide) ?_ ?_
      · intro e_41_t c_41_t
        refine e_iinc (v := nI (i + 1)) (ls2 := [some (.inr 9), some (.inl (nI hd)), y2, y3, some (.inl (hb sz hd 4 &&& (nI bits ||| 8))), some (.inl (nI (cH sz (fun p => A (40 * p)) hd bits i))), some (.inl (nI (i + 1)))]) dX6_pastHand_62 rfl (nI_inc1 _) (Nat.le_of_ble_eq_true rfl) rfl ?_
        refine e_goto (tgt := 27) dX6_pastHand_65 (by decide) ?_
        rw [if_neg (by intro z; rw [if_pos z] at c_41_t; omega), Nat.or_zero] at eS
        rw [eS] at q
        exact q
      · intro e_41_f c_41_f
        refine e_iload dX6_pastHand_44 rfl ?_
        refine e_aload_n (i := 0) dX6_pastHand_46 rfl rfl ?_
        refine e_iload_n (i := 1) dX6_pastHand_47 rfl rfl ?_
        refine e_iload dX6_pastHand_48 rfl ?_
        refine e_invSi (As := [.inl (nI hd), .inl (nI i)]) (v := nI (4 + 4 * hd + i)) (h2 := h) dX6_pastHand_50 lk_X6_71 ys_X7_pageOf rfl rfl rfl (Nat.le_of_ble_eq_true rfl) (Nat.le_of_ble_eq_true rfl) ⟨Nat.le_of_ble_eq_true rfl, Nat.le_of_ble_eq_true rfl⟩ (k_pageOfX l h hd i) ?_
        refine e_bipush (v := 40) dX6_pastHand_53 (by decide) ?_
        refine z_imul (z := nI (40 * (4 + 4 * hd + i))) (by rw [nI_mulc, Nat.mul_comm]) dX6_pastHand_55 ?_
        refine e_invVi (As := [.inl (nI (40 * (4 + 4 * hd + i)))]) (v := nI (A (40 * (4 + 4 * hd + i)))) (h2 := h) dX6_pastHand_56 lk_X6_29 yv_X6_asked rfl rfl rfl (Nat.le_of_ble_eq_true rfl) sh_9 ci_X6 (Nat.le_of_ble_eq_true rfl) ⟨Nat.le_of_ble_eq_true rfl, Nat.le_of_ble_eq_true rfl⟩ (k_W_askedX l h (40 * (4 + 4 * hd + i)) (by omega) (hA _ (by omega))) ?_
        refine z_ior (z := nI (cH sz (fun p => A (40 * p)) hd bits i ||| A (40 * (4 + 4 * hd + i)))) (fa_or _ _) dX6_pastHand_59 ?_
        refine e_istore (ls2 := [some (.inr 9), some (.inl (nI hd)), y2, y3, some (.inl (hb sz hd 4 &&& (nI bits ||| 8))), some (.inl (nI (cH sz (fun p => A (40 * p)) hd bits i ||| A (40 * (4 + 4 * hd + i))))), some (.inl (nI i))]) dX6_pastHand_60 (Nat.le_of_ble_eq_true rfl) rfl ?_
        refine e_iinc (v := nI (i + 1)) (ls2 := [some (.inr 9), some (.inl (nI hd)), y2, y3, some (.inl (hb sz hd 4 &&& (nI bits ||| 8))), some (.inl (nI (cH sz (fun p => A (40 * p)) hd bits i ||| A (40 * (4 + 4 * hd + i))))), some (.inl (nI (i + 1)))]) dX6_pastHand_62 rfl (nI_inc1 _) (Nat.le_of_ble_eq_true rfl) rfl ?_
        refine e_goto (tgt := 27) dX6_pastHand_65 (by decide) ?_
        have hwt : wI sz hd bits i = true := Classical.byContradiction (fun z => by rw [if_neg z] at c_41_f; omega)
        rw [if_pos hwt] at eS
        rw [eS] at q
        exact q
set_option maxHeartbeats 1000000 in
theorem k_W_past (l : Launch) (h : mH) (sz A : Nat → Nat) (hs15 : ∀ p, p < 20 → h 15 p = nI (sz p) ∧ sz p ≤ 40) (hA : ∀ q, q < 800 → h 25 q = nI (A q)) (hd bits : Nat) (hh : hd < 4) (hb9 : bits < 8) : mD l Sh0 iX6_pastHand [.inr 9, .inl (nI hd), .inl (nI bits)] h (some (nI (pH sz (fun p => A (40 * p)) hd bits 3))) h := by
  rw [← cH_pH]
  intro RT hR
  show mE l Sh0 none iX6_pastHand RT 0 [some (.inr 9), some (.inl (nI hd)), some (.inl (nI bits)), none, none, none, none] [] h
  refine e_aload_n (i := 0) dX6_pastHand_0 rfl rfl ?_
  refine e_getR (r := 2) dX6_pastHand_1 fl_X6_21 sh_9 fj_9_0 ?_
  refine e_iload_n (i := 1) dX6_pastHand_4 rfl rfl ?_
  refine e_invVi (As := [.inl (nI hd)]) (v := hb sz hd 4) (h2 := h) dX6_pastHand_5 lk_X6_68 yv_X0_clauses rfl rfl rfl (Nat.le_of_ble_eq_true rfl) sh_2 ci_X0 (Nat.le_of_ble_eq_true rfl) ⟨Nat.le_of_ble_eq_true rfl, Nat.le_of_ble_eq_true rfl⟩ (k_B_clauses l sz h hd hh hs15) ?_
  refine e_istore_n (i := 3) (ls2 := [some (.inr 9), some (.inl (nI hd)), some (.inl (nI bits)), some (.inl (hb sz hd 4)), none, none, none]) dX6_pastHand_8 rfl (Nat.le_of_ble_eq_true rfl) rfl ?_
  refine e_iload_n (i := 3) dX6_pastHand_9 rfl rfl ?_
  refine e_iload_n (i := 2) dX6_pastHand_10 rfl rfl ?_
  refine e_bipush (v := 8) dX6_pastHand_11 (by decide) ?_
  refine e_ior dX6_pastHand_13 ?_
  refine e_iand dX6_pastHand_14 ?_
  refine e_istore (ls2 := [some (.inr 9), some (.inl (nI hd)), some (.inl (nI bits)), some (.inl (hb sz hd 4)), some (.inl (hb sz hd 4 &&& (nI bits ||| 8))), none, none]) dX6_pastHand_15 (Nat.le_of_ble_eq_true rfl) rfl ?_
  refine e_iload_n (i := 2) dX6_pastHand_17 rfl rfl ?_
  refine e_iload_n (i := 3) dX6_pastHand_18 rfl rfl ?_
  refine e_iconst (v := (-1)) dX6_pastHand_19 (by decide) ?_
  refine e_ixor dX6_pastHand_20 ?_
  refine z_iand (z := nI (uB (hC9 sz hd 0) (hC9 sz hd 1) (hC9 sz hd 2) bits)) (ph_1 hb9) dX6_pastHand_21 ?_
  refine e_istore (ls2 := [some (.inr 9), some (.inl (nI hd)), some (.inl (nI bits)), some (.inl (hb sz hd 4)), some (.inl (hb sz hd 4 &&& (nI bits ||| 8))), some (.inl (nI (uB (hC9 sz hd 0) (hC9 sz hd 1) (hC9 sz hd 2) bits))), none]) dX6_pastHand_22 (Nat.le_of_ble_eq_true rfl) rfl ?_
  refine e_iconst (v := 0) dX6_pastHand_24 (by decide) ?_
  refine e_istore (ls2 := [some (.inr 9), some (.inl (nI hd)), some (.inl (nI bits)), some (.inl (hb sz hd 4)), some (.inl (hb sz hd 4 &&& (nI bits ||| 8))), some (.inl (nI (uB (hC9 sz hd 0) (hC9 sz hd 1) (hC9 sz hd 2) bits))), some (.inl 0)]) dX6_pastHand_25 (Nat.le_of_ble_eq_true rfl) rfl ?_
  exact lp_W_past l h sz A hA hd bits hh hb9 _ _ RT hR 4 0 rfl
set_option maxHeartbeats 1000000 in
theorem lp_W_asks (l : Launch) (h : mH) (sg : Nat → Int32) (ln A : Nat → Nat) (pl own : Nat) (ho : own ≤ 3) (he : ∀ i, i < own → pOf ln (aFs sg pl) i < 800 ∧ h 25 (pOf ln (aFs sg pl) i) = nI (A (pOf ln (aFs sg pl) i)) ∧ h 14 (pOf ln (aFs sg pl) i) = nI (pOf ln (aFs sg pl) (i + 1))) (y1 y2 : Option mV) (RT : Option Int32 → mH → Prop) (hR : ∀ y4 y6, mE l Sh0 none iX6_asksOf RT 63 [some (.inr 9), y1, y2, some (.inl (nI (bR (fun i => A (pOf ln (aFs sg pl) i)) own))), y4, some (.inl (nI own)), y6] [] h) : ∀ (d i : Nat), i + d = own → mE l Sh0 none iX6_asksOf RT 30 [some (.inr 9), y1, y2, some (.inl (nI (bR (fun i => A (pOf ln (aFs sg pl) i)) i))), some (.inl (nI (pOf ln (aFs sg pl) i))), some (.inl (nI own)), some (.inl (nI i))] [] h := by
  intro d
  induction d with
  | zero =>
    intro i hd
    refine e_iload dX6_asksOf_30 rfl ?_
    refine e_iload dX6_asksOf_32 rfl ?_
    refine b_icmp_ge (X := ((i : Nat) : Int)) (Y := ((own : Nat) : Int)) (tgt := 63) (nI_toInt (by omega)) (nI_toInt (by omega)) dX6_asksOf_34 (by decide) ?_ ?_
    · intro c_34_t
      have e : i = own := by omega
      subst e
      exact hR _ _
    · intro c_34_f
      exfalso; omega
  | succ d ih =>
    intro i hd
    obtain ⟨e1, e2, e3⟩ := he i (by omega)
    refine e_iload dX6_asksOf_30 rfl ?_
    refine e_iload dX6_asksOf_32 rfl ?_
    refine b_icmp_ge (X := ((i : Nat) : Int)) (Y := ((own : Nat) : Int)) (tgt := 63) (nI_toInt (by omega)) (nI_toInt (by omega)) dX6_asksOf_34 (by decide) ?_ ?_
    · intro c_34_t
      exfalso; omega
    · intro c_34_f
      refine e_iload_n (i := 3) dX6_asksOf_37 rfl rfl ?_
      refine e_aload_n (i := 0) dX6_asksOf_38 rfl rfl ?_
      refine e_iload dX6_asksOf_39 rfl ?_
      refine e_invVi (As := [.inl (nI (pOf ln (aFs sg pl) i))]) (v := nI (A (pOf ln (aFs sg pl) i))) (h2 := h) dX6_asksOf_41 lk_X6_29 yv_X6_asked rfl rfl rfl (Nat.le_of_ble_eq_true rfl) sh_9 ci_X6 (Nat.le_of_ble_eq_true rfl) ⟨Nat.le_of_ble_eq_true rfl, Nat.le_of_ble_eq_true rfl⟩ (k_W_askedX l h (pOf ln (aFs sg pl) i) e1 e2) ?_
      refine z_ior (z := nI (bR (fun i => A (pOf ln (aFs sg pl) i)) (i + 1))) (by rw [fa_or]; rfl) dX6_asksOf_44 ?_
      refine e_istore_n (i := 3) (ls2 := [some (.inr 9), y1, y2, some (.inl (nI (bR (fun i => A (pOf ln (aFs sg pl) i)) (i + 1)))), some (.inl (nI (pOf ln (aFs sg pl) i))), some (.inl (nI own)), some (.inl (nI i))]) dX6_asksOf_45 rfl (Nat.le_of_ble_eq_true rfl) rfl ?_
      refine e_aload_n (i := 0) dX6_asksOf_46 rfl rfl ?_
      refine e_getR (r := 2) dX6_asksOf_47 fl_X6_21 sh_9 fj_9_0 ?_
      refine e_iload dX6_asksOf_50 rfl ?_
      refine e_invVi (As := [.inl (nI (pOf ln (aFs sg pl) i))]) (v := nI (pOf ln (aFs sg pl) (i + 1))) (h2 := h) dX6_asksOf_52 lk_X6_59 yv_X0_after rfl rfl rfl (Nat.le_of_ble_eq_true rfl) sh_2 ci_X0 (Nat.le_of_ble_eq_true rfl) ⟨Nat.le_of_ble_eq_true rfl, Nat.le_of_ble_eq_true rfl⟩ (k_B_afterX l h (pOf ln (aFs sg pl) i) e1 e3) ?_
      refine e_istore (ls2 := [some (.inr 9), y1, y2, some (.inl (nI (bR (fun i => A (pOf ln (aFs sg pl) i)) (i + 1)))), some (.inl (nI (pOf ln (aFs sg pl) (i + 1)))), some (.inl (nI own)), some (.inl (nI i))]) dX6_asksOf_55 (Nat.le_of_ble_eq_true rfl) rfl ?_
      refine e_iinc (v := nI (i + 1)) (ls2 := [some (.inr 9), y1, y2, some (.inl (nI (bR (fun i => A (pOf ln (aFs sg pl) i)) (i + 1)))), some (.inl (nI (pOf ln (aFs sg pl) (i + 1)))), some (.inl (nI own)), some (.inl (nI (i + 1)))]) dX6_asksOf_57 rfl (nI_inc1 _) (Nat.le_of_ble_eq_true rfl) rfl ?_
      refine e_goto (tgt := 30) dX6_asksOf_60 (by decide) ?_
      exact ih (i + 1) (by omega)
theorem shl_bit : ∀ d : Fin 3, (1 : Int32) <<< (nI d.val &&& 31) = nI (2 ^ d.val) := by decide
set_option maxHeartbeats 1000000 in
theorem k_W_as_q (l : Launch) {sg : Nat → Int32} {ln sz : Nat → Nat} (hB : aWB sg ln sz) (h : mH) (hC : CB sg ln sz h) (A W : Nat → Nat) (hA : ∀ q, q < 800 → h 25 q = nI (A q)) (hW : ∀ d, d < 4 → h 27 d = nI (W d)) (hA8 : ∀ q, A q < 8) (pl : Nat) (hw : wr sz pl) (d : Nat) (hd3 : d < 3) (hx : (sg pl).toInt = 112 + (d : Int)) (y4 y6 : Option mV) (RT : Option Int32 → mH → Prop) (hR : RT (some (nI (yF sg ln sz A W pl))) h) : mE l Sh0 none iX6_asksOf RT 63 [some (.inr 9), some (.inl (nI pl)), some (.inl (sg pl)), some (.inl (nI (bR (fun i => A (pOf ln (aFs sg pl) i)) (aOf (sg pl).toInt).toNat))), y4, some (.inl (nI (aOf (sg pl).toInt).toNat)), y6] [] h := by
  have hp := hw.1
  have hb8 : bR (fun i => A (pOf ln (aFs sg pl) i)) (aOf (sg pl).toInt).toNat < 8 := bR_lt (fun i _ => hA8 _)
  have eF : yF sg ln sz A W pl = bR (fun i => A (pOf ln (aFs sg pl) i)) (aOf (sg pl).toInt).toNat ||| 2 ^ d := by unfold yF yG; rw [if_pos (by omega), show ((sg pl).toInt - 112).toNat = d from by omega]
  rw [eF] at hR
  refine e_iload_n (i := 2) dX6_asksOf_63 rfl rfl ?_
  refine e_lookup (off := 52) (tgt := 116) dX6_asksOf_64 (by decide) (by rcases (show d = 0 ∨ d = 1 ∨ d = 2 by omega) with rfl | rfl | rfl <;> rw [hx] <;> decide) (by decide) ?_
  refine e_iload_n (i := 3) dX6_asksOf_116 rfl rfl ?_
  refine e_iconst (v := 1) dX6_asksOf_117 (by decide) ?_
  refine e_iload_n (i := 2) dX6_asksOf_118 rfl rfl ?_
  refine e_bipush (v := 112) dX6_asksOf_119 (by decide) ?_
  refine z_isub (z := nI d) (sub112 hx) dX6_asksOf_121 ?_
  refine z_ishl (z := nI (2 ^ d)) (shl_bit ⟨d, hd3⟩) dX6_asksOf_122 ?_
  refine z_ior (z := nI (bR (fun i => A (pOf ln (aFs sg pl) i)) (aOf (sg pl).toInt).toNat ||| 2 ^ d)) (fa_or _ _) dX6_asksOf_123 ?_
  refine e_iret dX6_asksOf_124 (mret_i _) ?_
  exact hR
set_option maxHeartbeats 1000000 in
theorem k_W_as_k (l : Launch) {sg : Nat → Int32} {ln sz : Nat → Nat} (hB : aWB sg ln sz) (h : mH) (hC : CB sg ln sz h) (A W : Nat → Nat) (hA : ∀ q, q < 800 → h 25 q = nI (A q)) (hW : ∀ d, d < 4 → h 27 d = nI (W d)) (hA8 : ∀ q, A q < 8) (pl : Nat) (hw : wr sz pl) (hx : (sg pl).toInt = 107) (y4 y6 : Option mV) (RT : Option Int32 → mH → Prop) (hR : RT (some (nI (yF sg ln sz A W pl))) h) : mE l Sh0 none iX6_asksOf RT 63 [some (.inr 9), some (.inl (nI pl)), some (.inl (sg pl)), some (.inl (nI (bR (fun i => A (pOf ln (aFs sg pl) i)) (aOf (sg pl).toInt).toNat))), y4, some (.inl (nI (aOf (sg pl).toInt).toNat)), y6] [] h := by
  have hp := hw.1
  have hb8 : bR (fun i => A (pOf ln (aFs sg pl) i)) (aOf (sg pl).toInt).toNat < 8 := bR_lt (fun i _ => hA8 _)
  have eF : yF sg ln sz A W pl = bR (fun i => A (pOf ln (aFs sg pl) i)) (aOf (sg pl).toInt).toNat ||| W ((pl / 40 - 4) / 4) := by unfold yF yG; rw [if_neg (by omega), if_neg (by omega), if_pos hx]
  rw [eF] at hR
  have hV : aV sg sz pl := Classical.byContradiction (fun z => by
    have := aDig hB pl hw.1 hw.2 z
    omega)
  have h4 := (hB.2 pl hV).2.2.2.2.2.2.2.2.2 hx
  refine e_iload_n (i := 2) dX6_asksOf_63 rfl rfl ?_
  refine e_lookup (off := 61) (tgt := 125) dX6_asksOf_64 (by decide) (by rw [hx]; decide) (by decide) ?_
  refine e_iload_n (i := 3) dX6_asksOf_125 rfl rfl ?_
  refine e_aload_n (i := 0) dX6_asksOf_126 rfl rfl ?_
  refine e_iload_n (i := 1) dX6_asksOf_127 rfl rfl ?_
  refine e_bipush (v := 40) dX6_asksOf_128 (by decide) ?_
  refine z_idiv (z := nI (pl / 40)) (nI_div40 (by omega)) dX6_asksOf_130 (by decide) ?_
  refine e_invVi (As := [.inl (nI (pl / 40))]) (v := nI (W ((pl / 40 - 4) / 4))) (h2 := h) dX6_asksOf_131 lk_X6_62 yv_X6_whatGoesOn rfl rfl rfl (Nat.le_of_ble_eq_true rfl) sh_9 ci_X6 (Nat.le_of_ble_eq_true rfl) ⟨Nat.le_of_ble_eq_true rfl, Nat.le_of_ble_eq_true rfl⟩ (k_W_goesOn l h W hW (pl / 40) h4.1 (by omega)) ?_
  refine z_ior (z := nI (bR (fun i => A (pOf ln (aFs sg pl) i)) (aOf (sg pl).toInt).toNat ||| W ((pl / 40 - 4) / 4))) (fa_or _ _) dX6_asksOf_134 ?_
  refine e_iret dX6_asksOf_135 (mret_i _) ?_
  exact hR
set_option maxHeartbeats 1000000 in
theorem k_W_as_a (l : Launch) {sg : Nat → Int32} {ln sz : Nat → Nat} (hB : aWB sg ln sz) (h : mH) (hC : CB sg ln sz h) (A W : Nat → Nat) (hA : ∀ q, q < 800 → h 25 q = nI (A q)) (hW : ∀ d, d < 4 → h 27 d = nI (W d)) (hA8 : ∀ q, A q < 8) (pl : Nat) (hw : wr sz pl) (hx : (sg pl).toInt = 64) (y4 y6 : Option mV) (RT : Option Int32 → mH → Prop) (hR : RT (some (nI (yF sg ln sz A W pl))) h) : mE l Sh0 none iX6_asksOf RT 63 [some (.inr 9), some (.inl (nI pl)), some (.inl (sg pl)), some (.inl (nI (bR (fun i => A (pOf ln (aFs sg pl) i)) (aOf (sg pl).toInt).toNat))), y4, some (.inl (nI (aOf (sg pl).toInt).toNat)), y6] [] h := by
  have hp := hw.1
  have hb8 : bR (fun i => A (pOf ln (aFs sg pl) i)) (aOf (sg pl).toInt).toNat < 8 := bR_lt (fun i _ => hA8 _)
  have eF : yF sg ln sz A W pl = pH sz (fun p => A (40 * p)) (aHd sg pl) (bR (fun i => A (pOf ln (aFs sg pl) i)) (aOf (sg pl).toInt).toNat) 3 := by unfold yF yG; rw [if_neg (by omega), if_pos hx]
  rw [eF] at hR
  obtain ⟨hV, hh, hp1, hd1, hd2⟩ := wr_hd hB hw hx
  refine e_iload_n (i := 2) dX6_asksOf_63 rfl rfl ?_
  refine e_lookup (off := 72) (tgt := 136) dX6_asksOf_64 (by decide) (by rw [hx]; decide) (by decide) ?_
  refine e_aload_n (i := 0) dX6_asksOf_136 rfl rfl ?_
  refine e_aload_n (i := 0) dX6_asksOf_137 rfl rfl ?_
  refine e_getR (r := 2) dX6_asksOf_138 fl_X6_21 sh_9 fj_9_0 ?_
  refine e_iload_n (i := 1) dX6_asksOf_141 rfl rfl ?_
  refine e_invVi (As := [.inl (nI pl)]) (v := nI (aHd sg pl)) (h2 := h) dX6_asksOf_142 lk_X6_47 yv_X0_hand rfl rfl rfl (Nat.le_of_ble_eq_true rfl) sh_2 ci_X0 (Nat.le_of_ble_eq_true rfl) ⟨Nat.le_of_ble_eq_true rfl, Nat.le_of_ble_eq_true rfl⟩ (k_B_handX l h sg pl hp1 (hC.1 _ hp) (hC.1 _ hp1) hx hd1) ?_
  refine e_iload_n (i := 3) dX6_asksOf_145 rfl rfl ?_
  refine e_invVi (As := [.inl (nI (aHd sg pl)), .inl (nI (bR (fun i => A (pOf ln (aFs sg pl) i)) (aOf (sg pl).toInt).toNat))]) (v := nI (pH sz (fun p => A (40 * p)) (aHd sg pl) (bR (fun i => A (pOf ln (aFs sg pl) i)) (aOf (sg pl).toInt).toNat) 3)) (h2 := h) dX6_asksOf_146 lk_X6_65 yv_X6_pastHand rfl rfl rfl (Nat.le_of_ble_eq_true rfl) sh_9 ci_X6 (Nat.le_of_ble_eq_true rfl) ⟨Nat.le_of_ble_eq_true rfl, Nat.le_of_ble_eq_true rfl⟩ (k_W_past l h sz A (fun p hp => ⟨hC.2.1 p hp, hB.1 p hp⟩) hA (aHd sg pl) (bR (fun i => A (pOf ln (aFs sg pl) i)) (aOf (sg pl).toInt).toNat) hh hb8) ?_
  refine e_iret dX6_asksOf_149 (mret_i _) ?_
  exact hR
set_option maxHeartbeats 1000000 in
theorem k_W_as_o (l : Launch) {sg : Nat → Int32} {ln sz : Nat → Nat} (hB : aWB sg ln sz) (h : mH) (hC : CB sg ln sz h) (A W : Nat → Nat) (hA : ∀ q, q < 800 → h 25 q = nI (A q)) (hW : ∀ d, d < 4 → h 27 d = nI (W d)) (hA8 : ∀ q, A q < 8) (pl : Nat) (hw : wr sz pl) (h1 : (sg pl).toInt ≠ 112 ∧ (sg pl).toInt ≠ 113 ∧ (sg pl).toInt ≠ 114) (h2 : (sg pl).toInt ≠ 64) (h3 : (sg pl).toInt ≠ 107) (y4 y6 : Option mV) (RT : Option Int32 → mH → Prop) (hR : RT (some (nI (yF sg ln sz A W pl))) h) : mE l Sh0 none iX6_asksOf RT 63 [some (.inr 9), some (.inl (nI pl)), some (.inl (sg pl)), some (.inl (nI (bR (fun i => A (pOf ln (aFs sg pl) i)) (aOf (sg pl).toInt).toNat))), y4, some (.inl (nI (aOf (sg pl).toInt).toNat)), y6] [] h := by
  have hp := hw.1
  have hb8 : bR (fun i => A (pOf ln (aFs sg pl) i)) (aOf (sg pl).toInt).toNat < 8 := bR_lt (fun i _ => hA8 _)
  have eF : yF sg ln sz A W pl = bR (fun i => A (pOf ln (aFs sg pl) i)) (aOf (sg pl).toInt).toNat := by unfold yF yG; rw [if_neg (by omega), if_neg h2, if_neg h3]
  rw [eF] at hR
  refine e_iload_n (i := 2) dX6_asksOf_63 rfl rfl ?_
  refine e_lookup (off := 86) (tgt := 150) dX6_asksOf_64 (by decide) (by rw [lv_osw (x := sg pl) (k := 64) (fun z => h2 (by rw [z]; decide)) (by decide), lv_osw (x := sg pl) (k := 107) (fun z => h3 (by rw [z]; decide)) (by decide), lv_osw (x := sg pl) (k := 112) (fun z => h1.1 (by rw [z]; decide)) (by decide), lv_osw (x := sg pl) (k := 113) (fun z => h1.2.1 (by rw [z]; decide)) (by decide), lv_osw (x := sg pl) (k := 114) (fun z => h1.2.2 (by rw [z]; decide)) (by decide)]; rfl) (by decide) ?_
  refine e_iload_n (i := 3) dX6_asksOf_150 rfl rfl ?_
  refine e_iret dX6_asksOf_151 (mret_i _) ?_
  exact hR
set_option maxHeartbeats 1000000 in
theorem k_W_asksOf (l : Launch) {sg : Nat → Int32} {ln sz : Nat → Nat} (hB : aWB sg ln sz) (h : mH) (hC : CB sg ln sz h) (A W : Nat → Nat) (hA : ∀ q, q < 800 → h 25 q = nI (A q)) (hW : ∀ d, d < 4 → h 27 d = nI (W d)) (hA8 : ∀ q, A q < 8) (pl : Nat) (hw : wr sz pl) : mD l Sh0 iX6_asksOf [.inr 9, .inl (nI pl)] h (some (nI (yF sg ln sz A W pl))) h := by
  have hp := hw.1
  obtain ⟨a1, a2, a3, a4⟩ := aPar hB hw.1 hw.2
  have ho : (aOf (sg pl).toInt).toNat ≤ 3 := by have := aOf_le (sg pl).toInt; omega
  intro RT hR
  have k63 : ∀ y4 y6, mE l Sh0 none iX6_asksOf RT 63 [some (.inr 9), some (.inl (nI pl)), some (.inl (sg pl)), some (.inl (nI (bR (fun i => A (pOf ln (aFs sg pl) i)) (aOf (sg pl).toInt).toNat))), y4, some (.inl (nI (aOf (sg pl).toInt).toNat)), y6] [] h := by
    intro y4 y6
    by_cases h1 : (sg pl).toInt = 112 ∨ (sg pl).toInt = 113 ∨ (sg pl).toInt = 114
    · exact k_W_as_q l hB h hC A W hA hW hA8 pl hw ((sg pl).toInt - 112).toNat (by omega) (by omega) y4 y6 RT hR
    · by_cases h2 : (sg pl).toInt = 64
      · exact k_W_as_a l hB h hC A W hA hW hA8 pl hw h2 y4 y6 RT hR
      · by_cases h3 : (sg pl).toInt = 107
        · exact k_W_as_k l hB h hC A W hA hW hA8 pl hw h3 y4 y6 RT hR
        · exact k_W_as_o l hB h hC A W hA hW hA8 pl hw (by omega) h2 h3 y4 y6 RT hR
  show mE l Sh0 none iX6_asksOf RT 0 [some (.inr 9), some (.inl (nI pl)), none, none, none, none, none] [] h
  refine e_aload_n (i := 0) dX6_asksOf_0 rfl rfl ?_
  refine e_getR (r := 2) dX6_asksOf_1 fl_X6_21 sh_9 fj_9_0 ?_
  refine e_iload_n (i := 1) dX6_asksOf_4 rfl rfl ?_
  refine e_invVi (As := [.inl (nI pl)]) (v := sg pl) (h2 := h) dX6_asksOf_5 lk_X6_50 yv_X0_sign rfl rfl rfl (Nat.le_of_ble_eq_true rfl) sh_2 ci_X0 (Nat.le_of_ble_eq_true rfl) ⟨Nat.le_of_ble_eq_true rfl, Nat.le_of_ble_eq_true rfl⟩ (k_B_signX l h pl hp (hC.1 pl hp)) ?_
  refine e_istore_n (i := 2) (ls2 := [some (.inr 9), some (.inl (nI pl)), some (.inl (sg pl)), none, none, none, none]) dX6_asksOf_8 rfl (Nat.le_of_ble_eq_true rfl) rfl ?_
  refine e_iconst (v := 0) dX6_asksOf_9 (by decide) ?_
  refine e_istore_n (i := 3) (ls2 := [some (.inr 9), some (.inl (nI pl)), some (.inl (sg pl)), some (.inl 0), none, none, none]) dX6_asksOf_10 rfl (Nat.le_of_ble_eq_true rfl) rfl ?_
  refine e_aload_n (i := 0) dX6_asksOf_11 rfl rfl ?_
  refine e_getR (r := 2) dX6_asksOf_12 fl_X6_21 sh_9 fj_9_0 ?_
  refine e_iload_n (i := 1) dX6_asksOf_15 rfl rfl ?_
  refine e_invVi (As := [.inl (nI pl)]) (v := nI (aFs sg pl)) (h2 := h) dX6_asksOf_16 lk_X6_53 yv_X0_first rfl rfl rfl (Nat.le_of_ble_eq_true rfl) sh_2 ci_X0 (Nat.le_of_ble_eq_true rfl) ⟨Nat.le_of_ble_eq_true rfl, Nat.le_of_ble_eq_true rfl⟩ (k_B_firstX l h sg pl hp (hC.1 pl hp)) ?_
  refine e_istore (ls2 := [some (.inr 9), some (.inl (nI pl)), some (.inl (sg pl)), some (.inl 0), some (.inl (nI (aFs sg pl))), none, none]) dX6_asksOf_19 (Nat.le_of_ble_eq_true rfl) rfl ?_
  refine e_iload_n (i := 2) dX6_asksOf_21 rfl rfl ?_
  refine e_invSi (As := [.inl (sg pl)]) (v := nI ((aOf (sg pl).toInt).toNat)) (h2 := h) dX6_asksOf_22 lk_X6_56 ys_X7_textsOf rfl rfl rfl (Nat.le_of_ble_eq_true rfl) (Nat.le_of_ble_eq_true rfl) ⟨Nat.le_of_ble_eq_true rfl, Nat.le_of_ble_eq_true rfl⟩ (k_textsOfX l h (sg pl) a1) ?_
  refine e_istore (ls2 := [some (.inr 9), some (.inl (nI pl)), some (.inl (sg pl)), some (.inl 0), some (.inl (nI (aFs sg pl))), some (.inl (nI ((aOf (sg pl).toInt).toNat))), none]) dX6_asksOf_25 (Nat.le_of_ble_eq_true rfl) rfl ?_
  refine e_iconst (v := 0) dX6_asksOf_27 (by decide) ?_
  refine e_istore (ls2 := [some (.inr 9), some (.inl (nI pl)), some (.inl (sg pl)), some (.inl 0), some (.inl (nI (aFs sg pl))), some (.inl (nI ((aOf (sg pl).toInt).toNat))), some (.inl 0)]) dX6_asksOf_28 (Nat.le_of_ble_eq_true rfl) rfl ?_
  exact lp_W_asks l h sg ln A pl _ ho (fun i hi => by
    have b1 := (a2 i hi).1
    exact ⟨b1.1, hA _ b1.1, hC.2.2 _ b1⟩) _ _ RT k63 _ 0 (Nat.zero_add _)
