/-! The class's turns. -/
theorem KP.mk {h h' : mH} (q : KP h h') {m : Nat} {a b : Int32} : KP h (mkH h' m a b) := ((q.hs (by omega)).hs (by omega)).hs (by omega)
theorem KP.en {h h' : mH} (q : KP h h') {m : Nat} {a b c : Int32} : KP h (enH h' m a b c) := (((q.hs (by omega)).hs (by omega)).hs (by omega)).hs (by omega)
theorem KP.ent {h h' : mH} (q : KP h h') {m : Nat} {p a b c : Int32} : KP h (entH h' m p a b c) := ((q.en.hs (by omega)).hs (by omega)).hs (by omega)
theorem sub48 {x : Int32} (h : 48 ≤ x.toInt) : x - 48 = nI (x.toInt - 48).toNat := by
  have e7 : x = nI x.toInt.toNat := nI_ofInt (by omega)
  have hhi := i32_hi x
  rw [e7, nI_subc 48 (by omega), nI_toInt (by omega)]
  congr 1
  omega
theorem toI_m6 {x : Int32} (h : x = -6) : x.toInt = -6 := by rw [h]; decide
theorem mkH_20s (h : mH) (m : Nat) (a b : Int32) : mkH h m a b 20 m = a := by
  unfold mkH
  rw [hs_ne _ _ (by omega), hs_ne _ _ (by omega), hs_at]
theorem mkH_21s (h : mH) (m : Nat) (a b : Int32) : mkH h m a b 21 m = b := by
  unfold mkH
  rw [hs_ne _ _ (by omega), hs_at]
theorem mkH_o (h : mH) (m : Nat) (a b : Int32) {k : Nat} (h1 : k ≠ 7) (h2 : k ≠ 20) (h3 : k ≠ 21) : mkH h m a b k = h k := by
  unfold mkH
  rw [hs_rown _ _ _ h1, hs_rown _ _ _ h3, hs_rown _ _ _ h2]
set_option maxHeartbeats 2000000 in
theorem t_begin (l : Launch) {sg : Nat → Int32} {ln sz : Nat → Nat} {r : List Nat} {rc : Nat} (hB : aWB sg ln sz) (h : mH) (hC : CB sg ln sz h) {pl x k : Nat} {P : List aF} {K : List (List aF)} {n g u : Nat} {q : List Nat} (hJ : aJ sg sz r (true, pl, x, k, P, K, n, g, u, q)) (hRC : RC rc h (true, pl, x, k, P, K, n, g, u, q)) : mG l Sh0 iX4_begin [.inr 6] h (fun v h' => v = none ∧ KP h h' ∧ RO rc h' (aBeg sg pl x k P K n g u q)) := by
  obtain ⟨made, cm, nd, KS, h4, h5, hb, hb2, h9, h12, h13, ⟨h10, h11, h14, h15, h19⟩, hm, hcm, hch, hKS, hseg, hnd, hlt, hmd, hcc⟩ := hRC
  obtain ⟨jx, jb, jP, jK, jn, jg, ju, jq, jc, gs, g1, g2, g3, g4⟩ := hJ
  obtain ⟨hpl, c, hcl, hc, hax, hck⟩ := hb rfl
  obtain ⟨jV, jk, jd⟩ := jb rfl
  have hp8 : pl < 800 := jV.1
  have hsg : h 13 pl = sg pl := hC.1 pl hp8
  have hcc : cm + 0 ≤ n + 1 := hcc
  have hdot := (hB.2 pl jV).1
  intro RT hR
  show mE l Sh0 none iX4_begin RT 0 [some (.inr 6), none] [] h
  refine e_aload_n (i := 0) dX4_begin_0 rfl rfl ?_
  refine e_getI (x := nI n) dX4_begin_1 fl_X4_47 sh_6 fj_6_10 h10 ?_
  refine e_sipush (v := 200) dX4_begin_4 (by decide) ?_
  refine b_icmp_lt (X := ((n : Nat) : Int)) (Y := 200) (tgt := 17) (nI_toInt (by omega)) (by decide) dX4_begin_7 (by decide) ?_ ?_
  · intro c_7_t
    refine e_aload_n (i := 0) dX4_begin_17 rfl rfl ?_
    refine e_dup dX4_begin_18 ?_
    refine e_getI (x := nI n) dX4_begin_19 fl_X4_47 sh_6 fj_6_10 h10 ?_
    refine e_iconst (v := 1) dX4_begin_22 (by decide) ?_
    refine z_iadd (z := nI (n + 1)) (nI_addc _ 1) dX4_begin_23 ?_
    refine e_putI dX4_begin_24 fl_X4_47 fp_X4_10 sh_6 fj_6_10 ?_
    refine e_aload_n (i := 0) dX4_begin_27 rfl rfl ?_
    refine e_getR (r := 2) dX4_begin_28 fl_X4_29 sh_6 fj_6_0 ?_
    refine e_aload_n (i := 0) dX4_begin_31 rfl rfl ?_
    refine e_getI (x := nI pl) dX4_begin_32 fl_X4_86 sh_6 fj_6_6 hpl ?_
    refine e_invVi (As := [.inl (nI pl)]) (v := sg pl) (h2 := (hs h 6 10 (nI (n + 1)))) dX4_begin_35 lk_X4_92 yv_X0_sign rfl rfl rfl (Nat.le_of_ble_eq_true rfl) sh_2 ci_X0 (Nat.le_of_ble_eq_true rfl) ⟨Nat.le_of_ble_eq_true rfl, Nat.le_of_ble_eq_true rfl⟩ (k_B_signX l (hs h 6 10 (nI (n + 1))) pl hp8 hsg) ?_
    refine e_istore_n (i := 1) (ls2 := [some (.inr 6), some (.inl (sg pl))]) dX4_begin_38 rfl (Nat.le_of_ble_eq_true rfl) rfl ?_
    refine e_iload_n (i := 1) dX4_begin_39 rfl rfl ?_
    refine e_bipush (v := 120) dX4_begin_40 (by decide) ?_
    refine b_icmp_ne (X := (sg pl).toInt) (Y := 120) (tgt := 63) rfl (by decide) dX4_begin_42 (by decide) ?_ ?_
    · intro e_42_t c_42_t
      refine e_iload_n (i := 1) dX4_begin_63 rfl rfl ?_
      refine e_invSi (As := [.inl (sg pl)]) (v := aI (sg pl).toInt) (h2 := (hs h 6 10 (nI (n + 1)))) dX4_begin_64 lk_X4_105 ys_X7_textsOf rfl rfl rfl (Nat.le_of_ble_eq_true rfl) (Nat.le_of_ble_eq_true rfl) ⟨Nat.le_of_ble_eq_true rfl, Nat.le_of_ble_eq_true rfl⟩ (k_textsOf l (hs h 6 10 (nI (n + 1))) (sg pl)) ?_
      refine b_if_ne (X := aOf (sg pl).toInt) (tgt := 81) (aI_toInt _) dX4_begin_67 (by decide) ?_ ?_
      · intro e_67_t c_67_t
        refine e_aload_n (i := 0) dX4_begin_81 rfl rfl ?_
        refine e_getR (r := 7) dX4_begin_82 fl_X4_12 sh_6 fj_6_1 ?_
        refine e_aload_n (i := 0) dX4_begin_85 rfl rfl ?_
        refine e_getI (x := nI pl) dX4_begin_86 fl_X4_86 sh_6 fj_6_6 hpl ?_
        refine e_aload_n (i := 0) dX4_begin_89 rfl rfl ?_
        refine e_getI (x := nI c) dX4_begin_90 fl_X4_83 sh_6 fj_6_7 hcl ?_
        refine e_invVi (As := [.inl (nI pl), .inl (nI c)]) (v := 1) (h2 := (mkH (hs (hs h 6 10 (nI (n + 1))) 7 3 (nI made)) made (nI (pl + 1024 * 0 + 16384 * c)) (h 7 3))) dX4_begin_93 lk_X4_108 yv_X5_push rfl rfl rfl (Nat.le_of_ble_eq_true rfl) sh_7 ci_X5 (Nat.le_of_ble_eq_true rfl) ⟨Nat.le_of_ble_eq_true rfl, Nat.le_of_ble_eq_true rfl⟩ (k_T_pushX l (hs h 6 10 (nI (n + 1))) made hm (by omega) hp8 (by omega)) ?_
        refine b_if_eq (X := 1) (tgt := 117) (by decide) dX4_begin_96 (by decide) ?_ ?_
        · intro e_96_t c_96_t
          exfalso; omega
        · intro e_96_f c_96_f
          refine e_aload_n (i := 0) dX4_begin_99 rfl rfl ?_
          refine e_aload_n (i := 0) dX4_begin_100 rfl rfl ?_
          refine e_getR (r := 2) dX4_begin_101 fl_X4_29 sh_6 fj_6_0 ?_
          refine e_aload_n (i := 0) dX4_begin_104 rfl rfl ?_
          refine e_getI (x := nI pl) dX4_begin_105 fl_X4_86 sh_6 fj_6_6 hpl ?_
          refine e_invVi (As := [.inl (nI pl)]) (v := nI (aFs sg pl)) (h2 := (mkH (hs (hs h 6 10 (nI (n + 1))) 7 3 (nI made)) made (nI (pl + 1024 * 0 + 16384 * c)) (h 7 3))) dX4_begin_108 lk_X4_112 yv_X0_first rfl rfl rfl (Nat.le_of_ble_eq_true rfl) sh_2 ci_X0 (Nat.le_of_ble_eq_true rfl) ⟨Nat.le_of_ble_eq_true rfl, Nat.le_of_ble_eq_true rfl⟩ (k_B_firstX l (mkH (hs (hs h 6 10 (nI (n + 1))) 7 3 (nI made)) made (nI (pl + 1024 * 0 + 16384 * c)) (h 7 3)) sg pl hp8 hsg) ?_
          refine e_putI dX4_begin_111 fl_X4_86 fp_X4_6 sh_6 fj_6_6 ?_
          refine e_goto (tgt := 123) dX4_begin_114 (by decide) ?_
          refine e_ret dX4_begin_123 rfl ?_
          have e : aBeg sg pl x k P K n g u q = .inl (true, aFs sg pl, x, k, (pl, x, k, 0) :: P, K, n + 1, g, u, q) := by unfold aBeg; rw [if_neg (by omega), if_neg (by omega), if_neg (by omega)]
          rw [e] at hR
          have hx20 : ∀ i, i < made → mkH (hs (hs h 6 10 (nI (n + 1))) 7 3 (nI made)) made (nI (pl + 1024 * 0 + 16384 * c)) (h 7 3) 20 i = h 20 i := fun i hi => mkH_20 _ _ _ _ hi
          have hx21 : ∀ i, i < made → mkH (hs (hs h 6 10 (nI (n + 1))) 7 3 (nI made)) made (nI (pl + 1024 * 0 + 16384 * c)) (h 7 3) 21 i = h 21 i := fun i hi => mkH_21 _ _ _ _ hi
          have hext : ∀ {nd : List Nat} {P : List aF} {t e : Int32}, (∀ i ∈ nd, i < made) → chn h KS cm nd P t e → chn ((hs (mkH (hs (hs h 6 10 (nI (n + 1))) 7 3 (nI made)) made (nI (pl + 1024 * 0 + 16384 * c)) (h 7 3)) 6 6 (nI (aFs sg pl)))) KS cm nd P t e := by
            intro nd P t e hz hq
            have z := chn_ext (h := h) (h' := (hs (mkH (hs (hs h 6 10 (nI (n + 1))) 7 3 (nI made)) made (nI (pl + 1024 * 0 + 16384 * c)) (h 7 3)) 6 6 (nI (aFs sg pl)))) (Z := []) (Nat.le_refl cm) (fun c _ => ⟨rfl, rfl, rfl⟩) (fun i hi => ⟨hx20 i (hz i hi), hx21 i (hz i hi)⟩) hq
            rwa [List.append_nil] at z
          have hck2 : cK ((hs (mkH (hs (hs h 6 10 (nI (n + 1))) 7 3 (nI made)) made (nI (pl + 1024 * 0 + 16384 * c)) (h 7 3)) 6 6 (nI (aFs sg pl)))) KS c k := by
            have z := cK_ext (h := h) (h' := (hs (mkH (hs (hs h 6 10 (nI (n + 1))) 7 3 (nI made)) made (nI (pl + 1024 * 0 + 16384 * c)) (h 7 3)) 6 6 (nI (aFs sg pl)))) (Z := []) rfl rfl hck
            rwa [List.append_nil] at z
          refine hR _ _ ⟨rfl, (((KP.refl h).hs (by omega)).hs (by omega)).mk.hs (by omega), made + 1, cm, made :: nd, KS, h4, h5, fun _ => ⟨rfl, c, hcl, hc, hax, hck2⟩, fun z => (by cases z), h9, h12, h13, ⟨rfl, h11, h14, h15, h19⟩, rfl, hcm, ⟨rfl, ⟨c, hc, mkH_20s (hs (hs h 6 10 (nI (n + 1))) 7 3 (nI made)) made (nI (pl + 1024 * 0 + 16384 * c)) (h 7 3), hax, hck2⟩, ?_⟩, hKS, fun j nj L z1 z2 => ?_, ?_, ?_, by omega, by show cm + 0 ≤ n + 1 + 1; omega⟩
          · have z : (hs (mkH (hs (hs h 6 10 (nI (n + 1))) 7 3 (nI made)) made (nI (pl + 1024 * 0 + 16384 * c)) (h 7 3)) 6 6 (nI (aFs sg pl))) 21 made = h 7 3 := mkH_21s (hs (hs h 6 10 (nI (n + 1))) 7 3 (nI made)) made (nI (pl + 1024 * 0 + 16384 * c)) (h 7 3)
            rw [z]
            exact hext (fun i hi => hlt i (List.mem_append_left _ hi)) hch
          · obtain ⟨t, e, z⟩ := hseg j nj L z1 z2
            exact ⟨t, e, hext (fun i hi => hlt i (List.mem_append_right _ (List.mem_flatten.mpr ⟨nj, List.mem_of_getElem? z1, hi⟩))) z⟩
          · rw [List.cons_append, List.nodup_cons]
            exact ⟨fun z => Nat.lt_irrefl _ (hlt _ z), hnd⟩
          · intro i hi
            rw [List.cons_append] at hi
            rcases List.mem_cons.mp hi with rfl | hi
            · exact Nat.lt_succ_self _
            · exact Nat.lt_succ_of_lt (hlt i hi)
      · intro e_67_f c_67_f
        refine e_aload_n (i := 0) dX4_begin_70 rfl rfl ?_
        refine e_iload_n (i := 1) dX4_begin_71 rfl rfl ?_
        refine e_bipush (v := 48) dX4_begin_72 (by decide) ?_
        refine z_isub (z := nI (((sg pl).toInt - 48).toNat)) (sub48 (by have q9 := aOf_0 (x := (sg pl).toInt) (by omega) (by omega); omega)) dX4_begin_74 ?_
        refine e_invVv (As := [.inl (nI (((sg pl).toInt - 48).toNat))]) (h2 := (hs (hs (hs h 6 10 (nI (n + 1))) 6 8 (nI (((sg pl).toInt - 48).toNat))) 6 5 0)) (ty := .int) (v := 0) dX4_begin_75 lk_X4_101 yv_X4_give rfl rfl rfl (Nat.le_of_ble_eq_true rfl) sh_6 ci_X4 (Nat.le_of_ble_eq_true rfl) ⟨Nat.le_of_ble_eq_true rfl, Nat.le_of_ble_eq_true rfl⟩ (k_X_give l (hs h 6 10 (nI (n + 1))) (nI (((sg pl).toInt - 48).toNat))) ?_
        refine e_goto (tgt := 123) dX4_begin_78 (by decide) ?_
        refine e_ret dX4_begin_123 rfl ?_
        have e : aBeg sg pl x k P K n g u q = .inl (false, 0, ((sg pl).toInt - 48).toNat, 0, P, K, n + 1, g, u, q) := by unfold aBeg; rw [if_neg (by omega), if_neg (by omega), if_pos (by omega)]
        rw [e] at hR
        exact hR _ _ ⟨rfl, (((KP.refl h).hs (by omega)).hs (by omega)).hs (by omega), made, cm, nd, KS, h4, rfl, fun z => (by cases z), fun _ => rfl, h9, h12, h13, ⟨rfl, h11, h14, h15, h19⟩, hm, hcm, chn_same (h := h) (h' := (hs (hs (hs h 6 10 (nI (n + 1))) 6 8 (nI (((sg pl).toInt - 48).toNat))) 6 5 0)) rfl rfl rfl rfl rfl hch, hKS, fun j nj L z1 z2 => (hseg j nj L z1 z2).imp (fun _ z => z.imp (fun _ z => chn_same (h := h) (h' := (hs (hs (hs h 6 10 (nI (n + 1))) 6 8 (nI (((sg pl).toInt - 48).toNat))) 6 5 0)) rfl rfl rfl rfl rfl z)), hnd, hlt, by omega, by show cm + 1 ≤ n + 1 + 1; omega⟩
    · intro e_42_f c_42_f
      refine e_aload_n (i := 0) dX4_begin_45 rfl rfl ?_
      refine e_aload_n (i := 0) dX4_begin_46 rfl rfl ?_
      refine e_getR (r := 8) dX4_begin_47 fl_X4_21 sh_6 fj_6_2 ?_
      refine e_aload_n (i := 0) dX4_begin_50 rfl rfl ?_
      refine e_getI (x := nI c) dX4_begin_51 fl_X4_83 sh_6 fj_6_7 hcl ?_
      refine e_invVi (As := [.inl (nI c)]) (v := nI x) (h2 := (hs h 6 10 (nI (n + 1)))) dX4_begin_54 lk_X4_98 yv_X1_argument rfl rfl rfl (Nat.le_of_ble_eq_true rfl) sh_8 ci_X1 (Nat.le_of_ble_eq_true rfl) ⟨Nat.le_of_ble_eq_true rfl, Nat.le_of_ble_eq_true rfl⟩ (k_C_argumentX l (hs h 6 10 (nI (n + 1))) c cm hcm hc (by omega) hax) ?_
      refine e_invVv (As := [.inl (nI x)]) (h2 := (hs (hs (hs h 6 10 (nI (n + 1))) 6 8 (nI x)) 6 5 0)) (ty := .int) (v := 0) dX4_begin_57 lk_X4_101 yv_X4_give rfl rfl rfl (Nat.le_of_ble_eq_true rfl) sh_6 ci_X4 (Nat.le_of_ble_eq_true rfl) ⟨Nat.le_of_ble_eq_true rfl, Nat.le_of_ble_eq_true rfl⟩ (k_X_give l (hs h 6 10 (nI (n + 1))) (nI x)) ?_
      refine e_goto (tgt := 123) dX4_begin_60 (by decide) ?_
      refine e_ret dX4_begin_123 rfl ?_
      have e : aBeg sg pl x k P K n g u q = .inl (false, 0, x, 0, P, K, n + 1, g, u, q) := by unfold aBeg; rw [if_neg (by omega), if_pos (by omega)]
      rw [e] at hR
      exact hR _ _ ⟨rfl, (((KP.refl h).hs (by omega)).hs (by omega)).hs (by omega), made, cm, nd, KS, h4, rfl, fun z => (by cases z), fun _ => rfl, h9, h12, h13, ⟨rfl, h11, h14, h15, h19⟩, hm, hcm, chn_same (h := h) (h' := (hs (hs (hs h 6 10 (nI (n + 1))) 6 8 (nI x)) 6 5 0)) rfl rfl rfl rfl rfl hch, hKS, fun j nj L z1 z2 => (hseg j nj L z1 z2).imp (fun _ z => z.imp (fun _ z => chn_same (h := h) (h' := (hs (hs (hs h 6 10 (nI (n + 1))) 6 8 (nI x)) 6 5 0)) rfl rfl rfl rfl rfl z)), hnd, hlt, by omega, by show cm + 1 ≤ n + 1 + 1; omega⟩
  · intro c_7_f
    refine e_aload_n (i := 0) dX4_begin_10 rfl rfl ?_
    refine e_bipush (v := 9) dX4_begin_11 (by decide) ?_
    refine e_putI dX4_begin_13 fl_X4_44 fp_X4_9 sh_6 fj_6_9 ?_
    refine e_ret dX4_begin_16 rfl ?_
    have e : aBeg sg pl x k P K n g u q = .inr (9, -6, -6, n, g, u, q) := if_pos (by omega)
    rw [e] at hR
    exact hR _ _ ⟨rfl, (KP.refl h).hs (by omega), (by show (9 : Int32).toInt = 9; decide), toI_m6 h12, toI_m6 h13, h10, h11, h14, h15, h19⟩
