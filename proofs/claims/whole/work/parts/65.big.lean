/-! The constructors of the two objects. -/
section PAIR
variable {p : Program} {l : Launch} {e : Env} {s : State} {m : MethodId} {args : Array Value} {below : List Frame} {meth : Method} {c : Code} {H : Heap} {locs : List Loc} {cells slots : Nat} {Q : State → Prop} {sx : Option (Nat × (Nat → Int32))} {I : mI} {D : va_G} {cI : ClassId} {ad : Nat → Nat} {A : Nat → Prop} {pc : Nat} {lr : Array Slot} {rest : List Value}
/-- a new row into a final field -/
theorem n_pair {ci j idx N NN h0 : Nat} {n : Int32} {Cn : String} {T : u_T} {fs : List Value} {arrs : va_W} (C : mC sx I p s m args meth c D cI ad A) (hin : meth.name = "<init>") (Wd : nW D A s.heap H locs ((h0, .inr (ci, fs)) :: arrs)) (hL : fs.length = NN) (hcl : vwCl[ci]? = some (Cn, T, NN)) (hins : ∀ w ∈ u_ws Cn T NN, w ∈ wG) (ty0 : Nat → FieldType) (hty : ∀ k, k < NN → parseFieldDescriptor (T k).2.2.1 = some (ty0 k)) (hnm : ∀ a, a < NN → ∀ b, b < NN → a ≠ b → (T a).2.1 ≠ (T b).2.1) (hj : j < NN) (hlink : Cond.fieldLink I.1 idx (T j).1 (T j).2.1 (T j).2.2.1 ∈ wG) (hfin : (T j).2.2.2 = true) (hdecl : (T j).1 = I.1) (hd : parseFieldDescriptor (T j).2.2.1 = some (.array .int)) (hn : n = nI N) (hN : N ≤ 12000) (hc1 : cells + 1 ≤ I.2.2.2.2.cells) (hs1 : slots + N ≤ I.2.2.2.2.slots) (hd1 : decode I.2.1 pc = .ok (.newarray .int, 2)) (hd2 : decode I.2.1 (pc + 2) = .ok (.putfield idx, 3))
    (kk : ∀ (q : Nat) (H1 : Heap) (locs1 : List Loc), nW D A s.heap H1 locs1 ((h0, .inr (ci, fs.set j (.ref q))) :: (arrs ++ [(q, .inl (cI, N, .inl (fun _ => 0)))])) → (fs.set j (.ref q)).length = NN → W p l e I.2.2.2.2 s m args below meth c H1 locs1 (cells + 1) (slots + N) Q (F0 m (pc + 5) lr rest)) : W p l e I.2.2.2.2 s m args below meth c H locs cells slots Q (F0 m pc lr (.int n :: .ref h0 :: rest)) := by
  refine n_newa C Wd hn hN hc1 hs1 hd1 (fun q H1 Wd1 => ?_)
  obtain ⟨hP, hD, hS⟩ := Wd1
  refine va_putF (D := D) (ci := ci) (v := .ref q) (ty := .array .int) (C := Cn) (T := T) (N := NN) C.1 C.2.1 C.2.2.2.2.2.2.1 hins ty0 hty hnm C.2.2.2.2.2.1 C.2.2.2.2.2.2.2.2.1 hP hD hS 0 rfl hcl j hj (C.2.2.2.2.2.2.1 _ hlink) (fun _ h9 => h9) hfin hin hdecl hd rfl rfl (by rw [hL]; exact hj) hd2 (fun H2 locs2 hP2 hD2 hS2 => ?_)
  exact kk q H2 locs2 ⟨hP2, hD2, hS2⟩ (by rw [List.length_set]; exact hL)
end PAIR
def fkD_0 : List Nat := [4, 7, 11, 13, 15, 17, 26]
def fkD_1 : List Nat := [5, 6, 0]
def fkD_4 : List Nat := [8, 9, 10]
def fkD_8 : List Nat := [12, 0]
def fkD_10 : List Nat := [14, 0]
def fkD_12 : List Nat := [16, 0]
def fkD_14 : List Nat := [7, 18, 21, 25, 11, 1, 0, 0, 0, 0, 0, 0, 0, 0, 0, 0]
def fkD_15 : List Nat := [19, 20, 0, 0]
def fkD_18 : List Nat := [22, 23, 24, 0]
def fkD_23 : List Nat := [7, 27, 28, 29]
def ShD : mS := [.inl (7, fkD_0), .inl (2, fkD_1), .inr 40, .inr 10, .inl (0, fkD_4), .inr 800, .inr 800, .inr 20, .inl (3, fkD_8), .inr 8, .inl (3, fkD_10), .inr 8, .inl (3, fkD_12), .inr 8, .inl (4, fkD_14), .inl (5, fkD_15), .inr 8200, .inr 8200, .inl (1, fkD_18), .inr 201, .inr 201, .inr 201, .inr 200, .inl (6, fkD_23), .inr 800, .inr 800, .inr 4]
theorem shD_0 : ShD[0]? = some (.inl (7, fkD_0)) := rfl
theorem shD_1 : ShD[1]? = some (.inl (2, fkD_1)) := rfl
theorem shD_2 : ShD[2]? = some (.inr 40) := rfl
theorem shD_3 : ShD[3]? = some (.inr 10) := rfl
theorem shD_4 : ShD[4]? = some (.inl (0, fkD_4)) := rfl
theorem shD_5 : ShD[5]? = some (.inr 800) := rfl
theorem shD_6 : ShD[6]? = some (.inr 800) := rfl
theorem shD_7 : ShD[7]? = some (.inr 20) := rfl
theorem shD_8 : ShD[8]? = some (.inl (3, fkD_8)) := rfl
theorem shD_9 : ShD[9]? = some (.inr 8) := rfl
theorem shD_10 : ShD[10]? = some (.inl (3, fkD_10)) := rfl
theorem shD_11 : ShD[11]? = some (.inr 8) := rfl
theorem shD_12 : ShD[12]? = some (.inl (3, fkD_12)) := rfl
theorem shD_13 : ShD[13]? = some (.inr 8) := rfl
theorem shD_14 : ShD[14]? = some (.inl (4, fkD_14)) := rfl
theorem shD_15 : ShD[15]? = some (.inl (5, fkD_15)) := rfl
theorem shD_16 : ShD[16]? = some (.inr 8200) := rfl
theorem shD_17 : ShD[17]? = some (.inr 8200) := rfl
theorem shD_18 : ShD[18]? = some (.inl (1, fkD_18)) := rfl
theorem shD_19 : ShD[19]? = some (.inr 201) := rfl
theorem shD_20 : ShD[20]? = some (.inr 201) := rfl
theorem shD_21 : ShD[21]? = some (.inr 201) := rfl
theorem shD_22 : ShD[22]? = some (.inr 200) := rfl
theorem shD_23 : ShD[23]? = some (.inl (6, fkD_23)) := rfl
theorem shD_24 : ShD[24]? = some (.inr 800) := rfl
theorem shD_25 : ShD[25]? = some (.inr 800) := rfl
theorem shD_26 : ShD[26]? = some (.inr 4) := rfl
theorem fjD_0_0 : fkD_0[0]? = some (1 + 3) := rfl
theorem fjD_0_1 : fkD_0[1]? = some (4 + 3) := rfl
theorem fjD_0_2 : fkD_0[2]? = some (8 + 3) := rfl
theorem fjD_0_3 : fkD_0[3]? = some (10 + 3) := rfl
theorem fjD_0_4 : fkD_0[4]? = some (12 + 3) := rfl
theorem fjD_0_5 : fkD_0[5]? = some (14 + 3) := rfl
theorem fjD_0_6 : fkD_0[6]? = some (23 + 3) := rfl
theorem fjD_1_0 : fkD_1[0]? = some (2 + 3) := rfl
theorem fjD_1_1 : fkD_1[1]? = some (3 + 3) := rfl
theorem fjD_1_2 : fkD_1[2]? = some 0 := rfl
theorem fjD_4_0 : fkD_4[0]? = some (5 + 3) := rfl
theorem fjD_4_1 : fkD_4[1]? = some (6 + 3) := rfl
theorem fjD_4_2 : fkD_4[2]? = some (7 + 3) := rfl
theorem fjD_8_0 : fkD_8[0]? = some (9 + 3) := rfl
theorem fjD_8_1 : fkD_8[1]? = some 0 := rfl
theorem fjD_10_0 : fkD_10[0]? = some (11 + 3) := rfl
theorem fjD_10_1 : fkD_10[1]? = some 0 := rfl
theorem fjD_12_0 : fkD_12[0]? = some (13 + 3) := rfl
theorem fjD_12_1 : fkD_12[1]? = some 0 := rfl
theorem fjD_14_0 : fkD_14[0]? = some (4 + 3) := rfl
theorem fjD_14_1 : fkD_14[1]? = some (15 + 3) := rfl
theorem fjD_14_2 : fkD_14[2]? = some (18 + 3) := rfl
theorem fjD_14_3 : fkD_14[3]? = some (22 + 3) := rfl
theorem fjD_14_4 : fkD_14[4]? = some (8 + 3) := rfl
theorem fjD_14_5 : fkD_14[5]? = some 1 := rfl
theorem fjD_14_6 : fkD_14[6]? = some 0 := rfl
theorem fjD_14_7 : fkD_14[7]? = some 0 := rfl
theorem fjD_14_8 : fkD_14[8]? = some 0 := rfl
theorem fjD_14_9 : fkD_14[9]? = some 0 := rfl
theorem fjD_14_10 : fkD_14[10]? = some 0 := rfl
theorem fjD_14_11 : fkD_14[11]? = some 0 := rfl
theorem fjD_14_12 : fkD_14[12]? = some 0 := rfl
theorem fjD_14_13 : fkD_14[13]? = some 0 := rfl
theorem fjD_14_14 : fkD_14[14]? = some 0 := rfl
theorem fjD_14_15 : fkD_14[15]? = some 0 := rfl
theorem fjD_15_0 : fkD_15[0]? = some (16 + 3) := rfl
theorem fjD_15_1 : fkD_15[1]? = some (17 + 3) := rfl
theorem fjD_15_2 : fkD_15[2]? = some 0 := rfl
theorem fjD_15_3 : fkD_15[3]? = some 0 := rfl
theorem fjD_18_0 : fkD_18[0]? = some (19 + 3) := rfl
theorem fjD_18_1 : fkD_18[1]? = some (20 + 3) := rfl
theorem fjD_18_2 : fkD_18[2]? = some (21 + 3) := rfl
theorem fjD_18_3 : fkD_18[3]? = some 0 := rfl
theorem fjD_23_0 : fkD_23[0]? = some (4 + 3) := rfl
theorem fjD_23_1 : fkD_23[1]? = some (24 + 3) := rfl
theorem fjD_23_2 : fkD_23[2]? = some (25 + 3) := rfl
theorem fjD_23_3 : fkD_23[3]? = some (26 + 3) := rfl
abbrev jX7_init : mI := (RX7, cX7_init, 2, none, { frames := 3, cells := 26, slots := 20541, locals := 54 })
theorem nY_X7 : nY yX7_init jX7_init 0 := ⟨by decide +kernel, rfl, ⟨by decide +kernel, by decide +kernel, by decide +kernel⟩, wG_at 57 (by decide +kernel) rfl, wG_at 43 (by decide +kernel) rfl, rfl, wG_at 56 (by decide +kernel) rfl, rfl⟩
def nstD (h : mH) (t : Nat) : mH := hs (hs (hs h 5 (40 * t) 48) 6 (40 * t) (nI (40 * t + 1))) 7 t 1
def noD : Nat → mH
  | 0 => fun _ _ => 0
  | t + 1 => nstD (noD t) t
set_option maxHeartbeats 1000000 in
theorem k_B_nought (l : Launch) (h : mH) (t : Nat) (ht : t < 20) : mD l ShD iX0_writeNought [.inr 4, .inl (nI t)] h none (nstD h t) := by
  intro RT hR
  show mE l ShD none iX0_writeNought RT 0 [some (.inr 4), some (.inl (nI t))] [] h
  refine e_iload_n (i := 1) dX0_writeNought_0 rfl rfl ?_
  refine b_if_lt (X := ((t : Nat) : Int)) (tgt := 43) (nI_toInt (by omega)) dX0_writeNought_1 (by decide) ?_ ?_
  · intro c_1_t
    exfalso; omega
  · intro c_1_f
    refine e_iload_n (i := 1) dX0_writeNought_4 rfl rfl ?_
    refine e_bipush (v := 20) dX0_writeNought_5 (by decide) ?_
    refine b_icmp_ge (X := ((t : Nat) : Int)) (Y := 20) (tgt := 43) (nI_toInt (by omega)) (by decide) dX0_writeNought_7 (by decide) ?_ ?_
    · intro c_7_t
      exfalso; omega
    · intro c_7_f
      refine e_aload_n (i := 0) dX0_writeNought_10 rfl rfl ?_
      refine e_getR (r := 5) dX0_writeNought_11 fl_X0_9 shD_4 fjD_4_0 ?_
      refine e_iload_n (i := 1) dX0_writeNought_14 rfl rfl ?_
      refine e_bipush (v := 40) dX0_writeNought_15 (by decide) ?_
      refine z_imul (z := nI (40 * t)) (by rw [nI_mulc, Nat.mul_comm]) dX0_writeNought_17 ?_
      refine e_bipush (v := 48) dX0_writeNought_18 (by decide) ?_
      refine e_iast dX0_writeNought_20 shD_5 (vin_ofX (X := ((40 * t : Nat) : Int)) (nI_toInt (by omega)) (by omega) (by omega)) ?_
      rw [nI_clamp (by omega)]
      refine e_aload_n (i := 0) dX0_writeNought_21 rfl rfl ?_
      refine e_getR (r := 6) dX0_writeNought_22 fl_X0_15 shD_4 fjD_4_1 ?_
      refine e_iload_n (i := 1) dX0_writeNought_25 rfl rfl ?_
      refine e_bipush (v := 40) dX0_writeNought_26 (by decide) ?_
      refine z_imul (z := nI (40 * t)) (by rw [nI_mulc, Nat.mul_comm]) dX0_writeNought_28 ?_
      refine e_iload_n (i := 1) dX0_writeNought_29 rfl rfl ?_
      refine e_bipush (v := 40) dX0_writeNought_30 (by decide) ?_
      refine z_imul (z := nI (40 * t)) (by rw [nI_mulc, Nat.mul_comm]) dX0_writeNought_32 ?_
      refine e_iconst (v := 1) dX0_writeNought_33 (by decide) ?_
      refine z_iadd (z := nI (40 * t + 1)) (nI_addc _ 1) dX0_writeNought_34 ?_
      refine e_iast dX0_writeNought_35 shD_6 (vin_ofX (X := ((40 * t : Nat) : Int)) (nI_toInt (by omega)) (by omega) (by omega)) ?_
      rw [nI_clamp (by omega)]
      refine e_aload_n (i := 0) dX0_writeNought_36 rfl rfl ?_
      refine e_getR (r := 7) dX0_writeNought_37 fl_X0_18 shD_4 fjD_4_2 ?_
      refine e_iload_n (i := 1) dX0_writeNought_40 rfl rfl ?_
      refine e_iconst (v := 1) dX0_writeNought_41 (by decide) ?_
      refine e_iast dX0_writeNought_42 shD_7 (vin_ofX (X := ((t : Nat) : Int)) (nI_toInt (by omega)) (by omega) (by omega)) ?_
      rw [nI_clamp (by omega)]
      refine e_ret dX0_writeNought_43 rfl ?_
      exact hR
set_option maxHeartbeats 1000000 in
theorem lp_X7_init (l : Launch) : ∀ (d t : Nat), t + d = 4 → mE2 l ShD none jX7_init (fun _ u => u = noD 4) 26 20541 95 [some (.inr 0), some (.inl (nI t))] [] (noD t) := by
  have hkn : 26 + 0 ≤ jX7_init.2.2.2.2.cells ∧ 20541 + 0 ≤ jX7_init.2.2.2.2.slots := ⟨Nat.le_of_ble_eq_true rfl, Nat.le_of_ble_eq_true rfl⟩
  intro d
  induction d with
  | zero =>
    intro t hd
    refine e2_iload_n (i := 1) dX7_init_95 rfl rfl ?_
    refine e2_iconst (v := 4) dX7_init_96 (by decide) ?_
    refine b2_icmp_ge (X := ((t : Nat) : Int)) (Y := 4) (tgt := 114) (nI_toInt (by omega)) (by decide) dX7_init_97 (by decide) ?_ ?_
    · intro c_97_t
      refine e2_ret dX7_init_114 rfl ?_
      rw [show t = 4 from by omega]
    · intro c_97_f
      exfalso; omega
  | succ d ih =>
    intro t hd
    refine e2_iload_n (i := 1) dX7_init_95 rfl rfl ?_
    refine e2_iconst (v := 4) dX7_init_96 (by decide) ?_
    refine b2_icmp_ge (X := ((t : Nat) : Int)) (Y := 4) (tgt := 114) (nI_toInt (by omega)) (by decide) dX7_init_97 (by decide) ?_ ?_
    · intro c_97_t
      exfalso; omega
    · intro c_97_f
      refine e2_aload_n (i := 0) dX7_init_100 rfl rfl ?_
      refine e2_getR (r := 4) dX7_init_101 fl_X7_19 shD_0 fjD_0_1 ?_
      refine e2_iload_n (i := 1) dX7_init_104 rfl rfl ?_
      refine e2_invVv (hkn := hkn) (As := [.inl (nI t)]) (h2 := (noD (t + 1))) (ty := .int) (v := 0) dX7_init_105 lk_X7_54 yv_X0_writeNought rfl rfl rfl (Nat.le_of_ble_eq_true rfl) shD_4 ci_X0 (Nat.le_of_ble_eq_true rfl) ⟨Nat.le_of_ble_eq_true rfl, Nat.le_of_ble_eq_true rfl⟩ (k_B_nought l (noD t) t (by omega)) ?_
      refine e2_iinc (v := nI (t + 1)) (ls2 := [some (.inr 0), some (.inl (nI (t + 1)))]) dX7_init_108 rfl (nI_inc1 _) (Nat.le_of_ble_eq_true rfl) rfl ?_
      refine e2_goto (tgt := 95) dX7_init_111 (by decide) ?_
      exact ih (t + 1) (by omega)
set_option maxHeartbeats 1000000 in
theorem tl_X7_init (l : Launch) : mE2 l ShD none jX7_init (fun _ u => u = noD 4) 26 20541 93 [some (.inr 0), none] [] (fun _ _ => 0) := by
  refine e2_iconst (v := 0) dX7_init_93 (by decide) ?_
  refine e2_istore_n (i := 1) (ls2 := [some (.inr 0), some (.inl 0)]) dX7_init_94 rfl (Nat.le_of_ble_eq_true rfl) rfl ?_
  exact lp_X7_init l 4 0 rfl
def wX7 (cI : ClassId) (h0 : Nat) (u : Nat → Nat) : va_W := mws ShD (fun k => if k = 0 then h0 else u k) cI (noD 4)
def fkM_0 : List Nat := [0, 4, 5, 6, 7, 0, 8, 9, 0, 10, 11, 12, 13, 14, 15, 0, 16, 17, 18, 0, 19, 20, 21, 0, 0, 0, 0, 0, 0, 22, 0, 23, 0, 0, 24, 0, 0, 0, 0, 0, 25, 26, 27, 28]
def ShM : mS := [.inl (8, fkM_0), .inr 40, .inr 20, .inr 800, .inr 800, .inr 8, .inr 41, .inr 512, .inr 512, .inr 512, .inr 512, .inr 512, .inr 512, .inr 12000, .inr 12000, .inr 12000, .inr 256, .inr 256, .inr 256, .inr 256, .inr 8, .inr 12000, .inr 20, .inr 4, .inr 41, .inr 4]
theorem shM_0 : ShM[0]? = some (.inl (8, fkM_0)) := rfl
theorem shM_1 : ShM[1]? = some (.inr 40) := rfl
theorem shM_2 : ShM[2]? = some (.inr 20) := rfl
theorem shM_3 : ShM[3]? = some (.inr 800) := rfl
theorem shM_4 : ShM[4]? = some (.inr 800) := rfl
theorem shM_5 : ShM[5]? = some (.inr 8) := rfl
theorem shM_6 : ShM[6]? = some (.inr 41) := rfl
theorem shM_7 : ShM[7]? = some (.inr 512) := rfl
theorem shM_8 : ShM[8]? = some (.inr 512) := rfl
theorem shM_9 : ShM[9]? = some (.inr 512) := rfl
theorem shM_10 : ShM[10]? = some (.inr 512) := rfl
theorem shM_11 : ShM[11]? = some (.inr 512) := rfl
theorem shM_12 : ShM[12]? = some (.inr 512) := rfl
theorem shM_13 : ShM[13]? = some (.inr 12000) := rfl
theorem shM_14 : ShM[14]? = some (.inr 12000) := rfl
theorem shM_15 : ShM[15]? = some (.inr 12000) := rfl
theorem shM_16 : ShM[16]? = some (.inr 256) := rfl
theorem shM_17 : ShM[17]? = some (.inr 256) := rfl
theorem shM_18 : ShM[18]? = some (.inr 256) := rfl
theorem shM_19 : ShM[19]? = some (.inr 256) := rfl
theorem shM_20 : ShM[20]? = some (.inr 8) := rfl
theorem shM_21 : ShM[21]? = some (.inr 12000) := rfl
theorem shM_22 : ShM[22]? = some (.inr 20) := rfl
theorem shM_23 : ShM[23]? = some (.inr 4) := rfl
theorem shM_24 : ShM[24]? = some (.inr 41) := rfl
theorem shM_25 : ShM[25]? = some (.inr 4) := rfl
theorem fjM_0_0 : fkM_0[0]? = some 0 := rfl
theorem fjM_0_1 : fkM_0[1]? = some (1 + 3) := rfl
theorem fjM_0_2 : fkM_0[2]? = some (2 + 3) := rfl
theorem fjM_0_3 : fkM_0[3]? = some (3 + 3) := rfl
theorem fjM_0_4 : fkM_0[4]? = some (4 + 3) := rfl
theorem fjM_0_5 : fkM_0[5]? = some 0 := rfl
theorem fjM_0_6 : fkM_0[6]? = some (5 + 3) := rfl
theorem fjM_0_7 : fkM_0[7]? = some (6 + 3) := rfl
theorem fjM_0_8 : fkM_0[8]? = some 0 := rfl
theorem fjM_0_9 : fkM_0[9]? = some (7 + 3) := rfl
theorem fjM_0_10 : fkM_0[10]? = some (8 + 3) := rfl
theorem fjM_0_11 : fkM_0[11]? = some (9 + 3) := rfl
theorem fjM_0_12 : fkM_0[12]? = some (10 + 3) := rfl
theorem fjM_0_13 : fkM_0[13]? = some (11 + 3) := rfl
theorem fjM_0_14 : fkM_0[14]? = some (12 + 3) := rfl
theorem fjM_0_15 : fkM_0[15]? = some 0 := rfl
theorem fjM_0_16 : fkM_0[16]? = some (13 + 3) := rfl
theorem fjM_0_17 : fkM_0[17]? = some (14 + 3) := rfl
theorem fjM_0_18 : fkM_0[18]? = some (15 + 3) := rfl
theorem fjM_0_19 : fkM_0[19]? = some 0 := rfl
theorem fjM_0_20 : fkM_0[20]? = some (16 + 3) := rfl
theorem fjM_0_21 : fkM_0[21]? = some (17 + 3) := rfl
theorem fjM_0_22 : fkM_0[22]? = some (18 + 3) := rfl
theorem fjM_0_23 : fkM_0[23]? = some 0 := rfl
theorem fjM_0_24 : fkM_0[24]? = some 0 := rfl
theorem fjM_0_25 : fkM_0[25]? = some 0 := rfl
theorem fjM_0_26 : fkM_0[26]? = some 0 := rfl
theorem fjM_0_27 : fkM_0[27]? = some 0 := rfl
theorem fjM_0_28 : fkM_0[28]? = some 0 := rfl
theorem fjM_0_29 : fkM_0[29]? = some (19 + 3) := rfl
theorem fjM_0_30 : fkM_0[30]? = some 0 := rfl
theorem fjM_0_31 : fkM_0[31]? = some (20 + 3) := rfl
theorem fjM_0_32 : fkM_0[32]? = some 0 := rfl
theorem fjM_0_33 : fkM_0[33]? = some 0 := rfl
theorem fjM_0_34 : fkM_0[34]? = some (21 + 3) := rfl
theorem fjM_0_35 : fkM_0[35]? = some 0 := rfl
theorem fjM_0_36 : fkM_0[36]? = some 0 := rfl
theorem fjM_0_37 : fkM_0[37]? = some 0 := rfl
theorem fjM_0_38 : fkM_0[38]? = some 0 := rfl
theorem fjM_0_39 : fkM_0[39]? = some 0 := rfl
theorem fjM_0_40 : fkM_0[40]? = some (22 + 3) := rfl
theorem fjM_0_41 : fkM_0[41]? = some (23 + 3) := rfl
theorem fjM_0_42 : fkM_0[42]? = some (24 + 3) := rfl
theorem fjM_0_43 : fkM_0[43]? = some (25 + 3) := rfl
abbrev jX8_init : mI := (RX8, cX8_init, 2, none, { frames := 1, cells := 25, slots := 53882, locals := 12 })
theorem nY_X8 : nY yX8_init jX8_init 0 := ⟨by decide +kernel, rfl, ⟨by decide +kernel, by decide +kernel, by decide +kernel⟩, wG_at 623 (by decide +kernel) rfl, wG_at 51 (by decide +kernel) rfl, rfl, wG_at 622 (by decide +kernel) rfl, rfl⟩
def nstM (h : mH) (t : Nat) : mH := hs (hs (hs h 2 t 1) 3 (40 * t) 48) 4 (40 * t) 1
def noM : Nat → mH
  | 0 => fun _ _ => 0
  | t + 1 => nstM (noM t) t
set_option maxHeartbeats 1000000 in
theorem lp_X8_init (l : Launch) : ∀ (d t : Nat), t + d = 4 → mE2 l ShM none jX8_init (fun _ u => u = noM 4) 25 53882 220 [some (.inr 0), some (.inl (nI t))] [] (noM t) := by
  have hkn : 25 + 0 ≤ jX8_init.2.2.2.2.cells ∧ 53882 + 0 ≤ jX8_init.2.2.2.2.slots := ⟨Nat.le_of_ble_eq_true rfl, Nat.le_of_ble_eq_true rfl⟩
  intro d
  induction d with
  | zero =>
    intro t hd
    refine e2_iload_n (i := 1) dX8_init_220 rfl rfl ?_
    refine e2_iconst (v := 4) dX8_init_221 (by decide) ?_
    refine b2_icmp_ge (X := ((t : Nat) : Int)) (Y := 4) (tgt := 259) (nI_toInt (by omega)) (by decide) dX8_init_222 (by decide) ?_ ?_
    · intro c_222_t
      refine e2_ret dX8_init_259 rfl ?_
      rw [show t = 4 from by omega]
    · intro c_222_f
      exfalso; omega
  | succ d ih =>
    intro t hd
    refine e2_iload_n (i := 1) dX8_init_220 rfl rfl ?_
    refine e2_iconst (v := 4) dX8_init_221 (by decide) ?_
    refine b2_icmp_ge (X := ((t : Nat) : Int)) (Y := 4) (tgt := 259) (nI_toInt (by omega)) (by decide) dX8_init_222 (by decide) ?_ ?_
    · intro c_222_t
      exfalso; omega
    · intro c_222_f
      refine e2_aload_n (i := 0) dX8_init_225 rfl rfl ?_
      refine e2_getR (r := 2) dX8_init_226 fl_X8_13 shM_0 fjM_0_2 ?_
      refine e2_iload_n (i := 1) dX8_init_229 rfl rfl ?_
      refine e2_iconst (v := 1) dX8_init_230 (by decide) ?_
      refine e2_iast dX8_init_231 shM_2 (vin_ofX (X := ((t : Nat) : Int)) (nI_toInt (by omega)) (by omega) (by omega)) ?_
      rw [nI_clamp (by omega)]
      refine e2_aload_n (i := 0) dX8_init_232 rfl rfl ?_
      refine e2_getR (r := 3) dX8_init_233 fl_X8_16 shM_0 fjM_0_3 ?_
      refine e2_bipush (v := 40) dX8_init_236 (by decide) ?_
      refine e2_iload_n (i := 1) dX8_init_238 rfl rfl ?_
      refine z2_imul (z := nI (40 * t)) (nI_mulcl 40 _) dX8_init_239 ?_
      refine e2_bipush (v := 48) dX8_init_240 (by decide) ?_
      refine e2_iast dX8_init_242 shM_3 (vin_ofX (X := ((40 * t : Nat) : Int)) (nI_toInt (by omega)) (by omega) (by omega)) ?_
      rw [nI_clamp (by omega)]
      refine e2_aload_n (i := 0) dX8_init_243 rfl rfl ?_
      refine e2_getR (r := 4) dX8_init_244 fl_X8_19 shM_0 fjM_0_4 ?_
      refine e2_bipush (v := 40) dX8_init_247 (by decide) ?_
      refine e2_iload_n (i := 1) dX8_init_249 rfl rfl ?_
      refine z2_imul (z := nI (40 * t)) (nI_mulcl 40 _) dX8_init_250 ?_
      refine e2_iconst (v := 1) dX8_init_251 (by decide) ?_
      refine e2_iast dX8_init_252 shM_4 (vin_ofX (X := ((40 * t : Nat) : Int)) (nI_toInt (by omega)) (by omega) (by omega)) ?_
      rw [nI_clamp (by omega)]
      refine e2_iinc (v := nI (t + 1)) (ls2 := [some (.inr 0), some (.inl (nI (t + 1)))]) dX8_init_253 rfl (nI_inc1 _) (Nat.le_of_ble_eq_true rfl) rfl ?_
      refine e2_goto (tgt := 220) dX8_init_256 (by decide) ?_
      exact ih (t + 1) (by omega)
set_option maxHeartbeats 1000000 in
theorem tl_X8_init (l : Launch) : mE2 l ShM none jX8_init (fun _ u => u = noM 4) 25 53882 218 [some (.inr 0), none] [] (fun _ _ => 0) := by
  refine e2_iconst (v := 0) dX8_init_218 (by decide) ?_
  refine e2_istore_n (i := 1) (ls2 := [some (.inr 0), some (.inl 0)]) dX8_init_219 rfl (Nat.le_of_ble_eq_true rfl) rfl ?_
  exact lp_X8_init l 4 0 rfl
def wX8 (cI : ClassId) (h0 : Nat) (u : Nat → Nat) : va_W := mws ShM (fun k => if k = 0 then h0 else u k) cI (noM 4)
