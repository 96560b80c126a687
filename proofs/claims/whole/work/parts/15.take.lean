/-! The class's turns: a frame is taken up. -/
theorem lay_o {u : Int32} {k : Nat} (h1 : k ≠ 7) (h2 : k ≠ 20) (h3 : k ≠ 21) : ∀ (nd : List Nat) (h : mH) (m : Nat), lay u h m nd k = h k
  | [], _, _ => rfl
  | [i], h, m => mkH_o h m _ _ h1 h2 h3
  | i :: j :: nd, h, m => (lay_o h1 h2 h3 (j :: nd) _ _).trans (mkH_o h m _ _ h1 h2 h3)
theorem lay_lt {u : Int32} {a : Nat} : ∀ (nd : List Nat) (h : mH) (m : Nat), a < m → lay u h m nd 20 a = h 20 a ∧ lay u h m nd 21 a = h 21 a
  | [], _, _, _ => ⟨rfl, rfl⟩
  | [i], h, m, ha => ⟨mkH_20 h m _ _ ha, mkH_21 h m _ _ ha⟩
  | i :: j :: nd, h, m, ha => by
    have q := lay_lt (u := u) (a := a) (j :: nd) (mkH h m (h 20 i) (nI (m + 1))) (m + 1) (by omega)
    exact ⟨q.1.trans (mkH_20 h m _ _ ha), q.2.trans (mkH_21 h m _ _ ha)⟩
theorem lay_73 {u : Int32} : ∀ (nd : List Nat) (h : mH) (m : Nat), lay u h m nd 7 3 = h 7 3
  | [], _, _ => rfl
  | [i], h, m => rfl
  | i :: j :: nd, h, m => (lay_73 (j :: nd) _ _).trans rfl
theorem lay_72 {u : Int32} : ∀ (nd : List Nat) (h : mH) (m : Nat), h 7 2 = nI m → lay u h m nd 7 2 = nI (m + nd.length)
  | [], _, _, e => e
  | [i], h, m, e => rfl
  | i :: j :: nd, h, m, e => by
    have q := lay_72 (u := u) (j :: nd) (mkH h m (h 20 i) (nI (m + 1))) (m + 1) rfl
    show lay u (mkH h m (h 20 i) (nI (m + 1))) (m + 1) (j :: nd) 7 2 = nI (m + (nd.length + 1 + 1))
    rw [q]
    congr 1
    simp only [List.length_cons]
    omega
theorem lay_chn {u : Int32} {KS : List (List Nat)} {cm : Nat} : ∀ (nd : List Nat) (L : List aF) (h : mH) (m : Nat) (t e : Int32), nd ≠ [] → (∀ i ∈ nd, i < m) → chn h KS cm nd L t e → chn (lay u h m nd) KS cm (List.range' m nd.length) L (nI m) u
  | [], _, _, _, _, _, hn, _, _ => absurd rfl hn
  | [i], [], _, _, _, _, _, _, q => q.elim
  | [i], [F], h, m, t, e, _, hl, q => by
    obtain ⟨q1, q2, q3⟩ := q
    have z := cFr_ext (h := h) (h' := mkH h m (h 20 i) u) (Z := []) (cm := cm) (Nat.le_refl cm) (fun c _ => ⟨rfl, rfl, rfl⟩) (mkH_20 h m _ _ (hl i List.mem_cons_self)) q2
    rw [List.append_nil] at z
    obtain ⟨c, z1, z2, z3, z4⟩ := z
    refine ⟨rfl, ⟨c, z1, ?_, z3, z4⟩, ?_⟩
    · show mkH h m (h 20 i) u 20 m = _
      rw [mkH_20s, ← z2, mkH_20 h m _ _ (hl i List.mem_cons_self)]
    · show mkH h m (h 20 i) u 21 m = u
      rw [mkH_21s]
  | [i], F :: G :: L, _, _, _, _, _, _, q => q.2.2.elim
  | i :: j :: nd, [], _, _, _, _, _, _, q => q.elim
  | i :: j :: nd, F :: L, h, m, t, e, _, hl, q => by
    obtain ⟨q1, q2, q3⟩ := q
    have hi := hl i List.mem_cons_self
    have hl2 : ∀ z ∈ j :: nd, z < m := fun z hz => hl z (List.mem_cons_of_mem _ hz)
    have q4 := chn_ext (h := h) (h' := mkH h m (h 20 i) (nI (m + 1))) (Z := []) (Nat.le_refl cm) (fun c _ => ⟨rfl, rfl, rfl⟩) (fun z hz => ⟨mkH_20 h m _ _ (hl2 z hz), mkH_21 h m _ _ (hl2 z hz)⟩) q3
    rw [List.append_nil] at q4
    have ih := lay_chn (u := u) (j :: nd) L (mkH h m (h 20 i) (nI (m + 1))) (m + 1) _ _ (by simp) (fun z hz => Nat.lt_succ_of_lt (hl2 z hz)) q4
    obtain ⟨b1, b2⟩ := lay_lt (u := u) (a := m) (j :: nd) (mkH h m (h 20 i) (nI (m + 1))) (m + 1) (Nat.lt_succ_self m)
    rw [mkH_20s] at b1
    rw [mkH_21s] at b2
    obtain ⟨c, z1, z2, z3, z4⟩ := q2
    have o22 : lay u (mkH h m (h 20 i) (nI (m + 1))) (m + 1) (j :: nd) 22 = h 22 := lay_o (by decide) (by decide) (by decide) (i :: j :: nd) h m
    have o23 : lay u (mkH h m (h 20 i) (nI (m + 1))) (m + 1) (j :: nd) 23 = h 23 := lay_o (by decide) (by decide) (by decide) (i :: j :: nd) h m
    have o24 : lay u (mkH h m (h 20 i) (nI (m + 1))) (m + 1) (j :: nd) 24 = h 24 := lay_o (by decide) (by decide) (by decide) (i :: j :: nd) h m
    have z5 := cK_ext (h := h) (h' := lay u (mkH h m (h 20 i) (nI (m + 1))) (m + 1) (j :: nd)) (Z := []) (by rw [o23]) (by rw [o24]) z4
    rw [List.append_nil] at z5
    refine ⟨rfl, ⟨c, z1, b1.trans z2, by rw [show lay u h m (i :: j :: nd) 22 = h 22 from o22]; exact z3, z5⟩, ?_⟩
    show chn (lay u (mkH h m (h 20 i) (nI (m + 1))) (m + 1) (j :: nd)) KS cm (List.range' (m + 1) (j :: nd).length) L (lay u (mkH h m (h 20 i) (nI (m + 1))) (m + 1) (j :: nd) 21 m) u
    rw [b2]
    exact ih
theorem KP.lay {h h' : mH} (q : KP h h') {u : Int32} : ∀ {nd : List Nat} {m : Nat}, KP h (lay u h' m nd) := fun {nd m} a ha => by
  rw [lay_o (by omega) (by omega) (by omega)]
  exact q a ha
theorem nI_inj {a b : Nat} (ha : a < 2 ^ 31) (hb : b < 2 ^ 31) (h : nI a = nI b) : a = b := (nI_eq ha hb).mp h
theorem lnk_of {h : mH} {KS : List (List Nat)} {cm b : Nat} : ∀ {nd : List Nat} {L : List aF} {t e : Int32}, chn h KS cm nd L t e → nd.getLast? = some b → nd.Nodup → lnk h b nd
  | [], _, _, _, _, hb, _ => by cases hb
  | [i], _, _, _, _, hb, _ => by simpa [lnk] using hb
  | i :: j :: nd, [], _, _, q, _, _ => q.elim
  | i :: j :: nd, [F], _, _, q, _, _ => q.2.2.elim
  | i :: j :: nd, F :: G :: L, t, e, q, hb, hnd => by
    have hb2 : (j :: nd).getLast? = some b := by rw [← hb]; rfl
    have hmem : b ∈ j :: nd := List.mem_of_getLast? hb2
    rw [List.nodup_cons] at hnd
    exact ⟨fun z => hnd.1 (by rw [z]; exact hmem), q.2.2.1, lnk_of q.2.2 hb2 hnd.2⟩
theorem k_B_firstY (l : Launch) (h : mH) (sg : Nat → Int32) (p : Nat) (hp : p < 800) (e : h 13 p = sg p) (hne : (sg p).toInt ≠ 64) : mD l Sh0 iX0_first [.inr 2, .inl (nI p)] h (some (nI (p + 1))) h := by
  have q := k_B_firstX l h sg p hp e
  rw [show aFs sg p = p + 1 from if_neg hne] at q
  exact q
set_option maxHeartbeats 4000000 in
theorem t_take_hold (l : Launch) {sg : Nat → Int32} {ln sz : Nat → Nat} {r : List Nat} {rc rr : Nat} (hB : aWB sg ln sz) (h : mH) (hC : CB sg ln sz h) {v pl x k w : Nat} {P : List aF} {K : List (List aF)} {n g u : Nat} {q : List Nat} (hJ : aJ sg sz r (false, 0, v, 0, (pl, x, k, w) :: P, K, n, g, u, q)) (hRC : RC rc h (false, 0, v, 0, (pl, x, k, w) :: P, K, n, g, u, q)) (h2 : aOf (sg pl).toInt = 2) (hw0 : w = 0) : mG l Sh0 iX4_takeUp [.inr 6] h (fun v' h' => v' = none ∧ KP h h' ∧ RO rc h' (aTop sg ln sz r v pl x k w P K n g u q)) := by
  obtain ⟨made, cm, nd, KS, h4, h5, hb, hb2, h9, h12, h13, ⟨h10, h11, h14, h15, h19⟩, hm, hcm, hch, hKS, hseg, hnd, hlt, hmd, hcc⟩ := hRC
  obtain ⟨jx, jb, jP, jK, jn, jg, ju, jq, jc, gs, g1, g2, g3, g4⟩ := hJ
  obtain ⟨i, nd, rfl⟩ : ∃ (i : Nat) (nd' : List Nat), nd = i :: nd' := by
    cases nd with
    | nil => exact hch.elim
    | cons i nd => exact ⟨i, nd, rfl⟩
  obtain ⟨h73, ⟨c, hc, hmk, har, hck⟩, hch2⟩ := hch
  dsimp only at hmk har hck
  have h68 : h 6 8 = nI v := hb2 rfl
  have hi : i < made := hlt i List.mem_cons_self
  have hM : made ≤ 8200 := by omega
  have hcc : cm + 1 ≤ n + 1 := hcc
  have hcc2 : cm ≤ 200 := by omega
  obtain ⟨f1, f2, f3, f4, f5, f6, f7⟩ := jP (pl, x, k, w) List.mem_cons_self
  dsimp only at f1 f2 f3 f4 f5 f6 f7
  have hp8 : pl < 800 := f1.1
  have hsg : h 13 pl = sg pl := hC.1 pl hp8
  have hB9 := hB.2 pl f1
  have hnd1 : i ∉ nd ++ KS.flatten := (List.nodup_cons.mp (by simpa using hnd)).1
  have hnd2 : (nd ++ KS.flatten).Nodup := (List.nodup_cons.mp (by simpa using hnd)).2
  have hlt2 : ∀ j ∈ nd ++ KS.flatten, j < made := fun j hj => hlt j (by rw [List.cons_append]; exact List.mem_cons_of_mem _ hj)
  have hne64 : (sg pl).toInt ≠ 64 := by rcases aOf_2 h2 with z | z | z | z <;> omega
  have v1 := hB9.2.2.2.1 (by omega)
  rw [show aFs sg pl = pl + 1 from if_neg hne64] at v1
  have h14a : h 14 (pl + 1) = nI (pl + 1 + ln (pl + 1)) := hC.2.2 _ v1.1
  have hp9 : pl + 1 < 800 := v1.1.1
  subst hw0
  intro RT hR
  show mE l Sh0 none iX4_takeUp RT 0 [some (.inr 6), none, none] [] h
  refine e_aload_n (i := 0) dX4_takeUp_0 rfl rfl ?_
  refine e_getR (r := 7) dX4_takeUp_1 fl_X4_12 sh_6 fj_6_1 ?_
  refine e_getI (x := nI i) dX4_takeUp_4 fl_X4_115 sh_7 fj_7_3 h73 ?_
  refine e_istore_n (i := 1) (ls2 := [some (.inr 6), some (.inl (nI i)), none]) dX4_takeUp_7 rfl (Nat.le_of_ble_eq_true rfl) rfl ?_
  refine e_iload_n (i := 1) dX4_takeUp_8 rfl rfl ?_
  refine e_iconst (v := (-1)) dX4_takeUp_9 (by decide) ?_
  refine b_icmp_ne (X := ((i : Nat) : Int)) (Y := (-1)) (tgt := 22) (nI_toInt (by omega)) (by decide) dX4_takeUp_10 (by decide) ?_ ?_
  · intro e_10_t c_10_t
    refine e_aload_n (i := 0) dX4_takeUp_22 rfl rfl ?_
    refine e_aload_n (i := 0) dX4_takeUp_23 rfl rfl ?_
    refine e_getR (r := 7) dX4_takeUp_24 fl_X4_12 sh_6 fj_6_1 ?_
    refine e_iload_n (i := 1) dX4_takeUp_27 rfl rfl ?_
    refine e_invVi (As := [.inl (nI i)]) (v := nI pl) (h2 := h) dX4_takeUp_28 lk_X4_118 yv_X5_place rfl rfl rfl (Nat.le_of_ble_eq_true rfl) sh_7 ci_X5 (Nat.le_of_ble_eq_true rfl) ⟨Nat.le_of_ble_eq_true rfl, Nat.le_of_ble_eq_true rfl⟩ (k_T_placeX l h i made hm hi hM hmk hp8 (by omega) (by omega)) ?_
    refine e_putI dX4_takeUp_31 fl_X4_86 fp_X4_6 sh_6 fj_6_6 ?_
    refine e_aload_n (i := 0) dX4_takeUp_34 rfl rfl ?_
    refine e_aload_n (i := 0) dX4_takeUp_35 rfl rfl ?_
    refine e_getR (r := 7) dX4_takeUp_36 fl_X4_12 sh_6 fj_6_1 ?_
    refine e_iload_n (i := 1) dX4_takeUp_39 rfl rfl ?_
    refine e_invVi (As := [.inl (nI i)]) (v := nI c) (h2 := (hs h 6 6 (nI pl))) dX4_takeUp_40 lk_X4_120 yv_X5_call rfl rfl rfl (Nat.le_of_ble_eq_true rfl) sh_7 ci_X5 (Nat.le_of_ble_eq_true rfl) ⟨Nat.le_of_ble_eq_true rfl, Nat.le_of_ble_eq_true rfl⟩ (k_T_callX l (hs h 6 6 (nI pl)) i made hm hi hM hmk hp8 (by omega) (by omega)) ?_
    refine e_putI dX4_takeUp_43 fl_X4_83 fp_X4_7 sh_6 fj_6_7 ?_
    refine e_aload_n (i := 0) dX4_takeUp_46 rfl rfl ?_
    refine e_getR (r := 2) dX4_takeUp_47 fl_X4_29 sh_6 fj_6_0 ?_
    refine e_aload_n (i := 0) dX4_takeUp_50 rfl rfl ?_
    refine e_getI (x := nI pl) dX4_takeUp_51 fl_X4_86 sh_6 fj_6_6 rfl ?_
    refine e_invVi (As := [.inl (nI pl)]) (v := sg pl) (h2 := (hs (hs h 6 6 (nI pl)) 6 7 (nI c))) dX4_takeUp_54 lk_X4_92 yv_X0_sign rfl rfl rfl (Nat.le_of_ble_eq_true rfl) sh_2 ci_X0 (Nat.le_of_ble_eq_true rfl) ⟨Nat.le_of_ble_eq_true rfl, Nat.le_of_ble_eq_true rfl⟩ (k_B_signX l (hs (hs h 6 6 (nI pl)) 6 7 (nI c)) pl hp8 hsg) ?_
    refine e_istore_n (i := 2) (ls2 := [some (.inr 6), some (.inl (nI i)), some (.inl (sg pl))]) dX4_takeUp_57 rfl (Nat.le_of_ble_eq_true rfl) rfl ?_
    refine e_iload_n (i := 2) dX4_takeUp_58 rfl rfl ?_
    refine e_invSi (As := [.inl (sg pl)]) (v := aI (sg pl).toInt) (h2 := (hs (hs h 6 6 (nI pl)) 6 7 (nI c))) dX4_takeUp_59 lk_X4_105 ys_X7_textsOf rfl rfl rfl (Nat.le_of_ble_eq_true rfl) (Nat.le_of_ble_eq_true rfl) ⟨Nat.le_of_ble_eq_true rfl, Nat.le_of_ble_eq_true rfl⟩ (k_textsOf l (hs (hs h 6 6 (nI pl)) 6 7 (nI c)) (sg pl)) ?_
    refine e_iconst (v := 2) dX4_takeUp_62 (by decide) ?_
    refine b_icmp_ne (X := aOf (sg pl).toInt) (Y := 2) (tgt := 118) (aI_toInt _) (by decide) dX4_takeUp_63 (by decide) ?_ ?_
    · intro e_63_t c_63_t
      exfalso; omega
    · intro e_63_f c_63_f
      refine e_aload_n (i := 0) dX4_takeUp_66 rfl rfl ?_
      refine e_getR (r := 7) dX4_takeUp_67 fl_X4_12 sh_6 fj_6_1 ?_
      refine e_iload_n (i := 1) dX4_takeUp_70 rfl rfl ?_
      refine e_invVi (As := [.inl (nI i)]) (v := dn 0) (h2 := (hs (hs h 6 6 (nI pl)) 6 7 (nI c))) dX4_takeUp_71 lk_X4_122 yv_X5_held rfl rfl rfl (Nat.le_of_ble_eq_true rfl) sh_7 ci_X5 (Nat.le_of_ble_eq_true rfl) ⟨Nat.le_of_ble_eq_true rfl, Nat.le_of_ble_eq_true rfl⟩ (k_T_heldX l (hs (hs h 6 6 (nI pl)) 6 7 (nI c)) i made hm hi hM hmk hp8 (by omega) (by omega)) ?_
      refine e_iconst (v := (-1)) dX4_takeUp_74 (by decide) ?_
      refine b_icmp_ne (X := (-1)) (Y := (-1)) (tgt := 118) (by decide) (by decide) dX4_takeUp_75 (by decide) ?_ ?_
      · intro e_75_t c_75_t
        exfalso; omega
      · intro e_75_f c_75_f
        refine e_aload_n (i := 0) dX4_takeUp_78 rfl rfl ?_
        refine e_getR (r := 7) dX4_takeUp_79 fl_X4_12 sh_6 fj_6_1 ?_
        refine e_iload_n (i := 1) dX4_takeUp_82 rfl rfl ?_
        refine e_aload_n (i := 0) dX4_takeUp_83 rfl rfl ?_
        refine e_getI (x := nI v) dX4_takeUp_84 fl_X4_89 sh_6 fj_6_8 h68 ?_
        refine e_invVv (As := [.inl (nI i), .inl (nI v)]) (h2 := (hs (hs (hs h 6 6 (nI pl)) 6 7 (nI c)) 20 i (nI (pl + 1024 * (v + 1) + 16384 * c)))) (ty := .int) (v := 0) dX4_takeUp_87 lk_X4_125 yv_X5_hold rfl rfl rfl (Nat.le_of_ble_eq_true rfl) sh_7 ci_X5 (Nat.le_of_ble_eq_true rfl) ⟨Nat.le_of_ble_eq_true rfl, Nat.le_of_ble_eq_true rfl⟩ (k_T_holdX l (hs (hs h 6 6 (nI pl)) 6 7 (nI c)) i made hm hi hM hmk hp8 (by omega) jx) ?_
        refine e_aload_n (i := 0) dX4_takeUp_90 rfl rfl ?_
        refine e_aload_n (i := 0) dX4_takeUp_91 rfl rfl ?_
        refine e_getR (r := 2) dX4_takeUp_92 fl_X4_29 sh_6 fj_6_0 ?_
        refine e_aload_n (i := 0) dX4_takeUp_95 rfl rfl ?_
        refine e_getR (r := 2) dX4_takeUp_96 fl_X4_29 sh_6 fj_6_0 ?_
        refine e_aload_n (i := 0) dX4_takeUp_99 rfl rfl ?_
        refine e_getI (x := nI pl) dX4_takeUp_100 fl_X4_86 sh_6 fj_6_6 rfl ?_
        refine e_invVi (As := [.inl (nI pl)]) (v := nI (pl + 1)) (h2 := (hs (hs (hs h 6 6 (nI pl)) 6 7 (nI c)) 20 i (nI (pl + 1024 * (v + 1) + 16384 * c)))) dX4_takeUp_103 lk_X4_112 yv_X0_first rfl rfl rfl (Nat.le_of_ble_eq_true rfl) sh_2 ci_X0 (Nat.le_of_ble_eq_true rfl) ⟨Nat.le_of_ble_eq_true rfl, Nat.le_of_ble_eq_true rfl⟩ (k_B_firstY l (hs (hs (hs h 6 6 (nI pl)) 6 7 (nI c)) 20 i (nI (pl + 1024 * (v + 1) + 16384 * c))) sg pl hp8 hsg hne64) ?_
        refine e_invVi (As := [.inl (nI (pl + 1))]) (v := nI (pl + 1 + ln (pl + 1))) (h2 := (hs (hs (hs h 6 6 (nI pl)) 6 7 (nI c)) 20 i (nI (pl + 1024 * (v + 1) + 16384 * c)))) dX4_takeUp_106 lk_X4_129 yv_X0_after rfl rfl rfl (Nat.le_of_ble_eq_true rfl) sh_2 ci_X0 (Nat.le_of_ble_eq_true rfl) ⟨Nat.le_of_ble_eq_true rfl, Nat.le_of_ble_eq_true rfl⟩ (k_B_afterX l (hs (hs (hs h 6 6 (nI pl)) 6 7 (nI c)) 20 i (nI (pl + 1024 * (v + 1) + 16384 * c))) (pl + 1) hp9 h14a) ?_
        refine e_putI dX4_takeUp_109 fl_X4_86 fp_X4_6 sh_6 fj_6_6 ?_
        refine e_aload_n (i := 0) dX4_takeUp_112 rfl rfl ?_
        refine e_iconst (v := 1) dX4_takeUp_113 (by decide) ?_
        refine e_putZ dX4_takeUp_114 fl_X4_70 fp_X4_5 sh_6 fj_6_5 (by decide) ?_
        refine e_ret dX4_takeUp_117 rfl ?_
        have e : aTop sg ln sz r v pl x k 0 P K n g u q = .inl (true, pl + 1 + ln (pl + 1), x, k, (pl, x, k, v + 1) :: P, K, n, g, u, q) := if_pos ⟨h2, rfl⟩
        rw [e] at hR
        have hext : ∀ {nd : List Nat} {P : List aF} {t e : Int32}, i ∉ nd → chn h KS cm nd P t e → chn (hs (hs (hs (hs (hs h 6 6 (nI pl)) 6 7 (nI c)) 20 i (nI (pl + 1024 * (v + 1) + 16384 * c))) 6 6 (nI (pl + 1 + ln (pl + 1)))) 6 5 1) KS cm nd P t e := by
          intro nd P t e hz hq
          have z := chn_ext (h := h) (h' := (hs (hs (hs (hs (hs h 6 6 (nI pl)) 6 7 (nI c)) 20 i (nI (pl + 1024 * (v + 1) + 16384 * c))) 6 6 (nI (pl + 1 + ln (pl + 1)))) 6 5 1)) (Z := []) (Nat.le_refl cm) (fun c _ => ⟨rfl, rfl, rfl⟩) (fun j hj => ⟨(show (hs (hs (hs (hs (hs h 6 6 (nI pl)) 6 7 (nI c)) 20 i (nI (pl + 1024 * (v + 1) + 16384 * c))) 6 6 (nI (pl + 1 + ln (pl + 1)))) 6 5 1) 20 j = hs h 20 i (nI (pl + 1024 * (v + 1) + 16384 * c)) 20 j from rfl).trans (hs_ne _ _ (fun z => hz (by rw [← z.2]; exact hj))), rfl⟩) hq
          rwa [List.append_nil] at z
        have hck2 : cK (hs (hs (hs (hs (hs h 6 6 (nI pl)) 6 7 (nI c)) 20 i (nI (pl + 1024 * (v + 1) + 16384 * c))) 6 6 (nI (pl + 1 + ln (pl + 1)))) 6 5 1) KS c k := by
          have z := cK_ext (h := h) (h' := (hs (hs (hs (hs (hs h 6 6 (nI pl)) 6 7 (nI c)) 20 i (nI (pl + 1024 * (v + 1) + 16384 * c))) 6 6 (nI (pl + 1 + ln (pl + 1)))) 6 5 1)) (Z := []) rfl rfl hck
          rwa [List.append_nil] at z
        refine hR _ _ ⟨rfl, (((((KP.refl h).hs (by omega)).hs (by omega)).hs (by omega)).hs (by omega)).hs (by omega), made, cm, i :: nd, KS, h4, rfl, fun _ => ⟨rfl, c, rfl, hc, har, hck2⟩, fun z => (by cases z), h9, h12, h13, ⟨h10, h11, h14, h15, h19⟩, hm, hcm, ⟨h73, ⟨c, hc, ?_, har, hck2⟩, hext (fun z => hnd1 (List.mem_append_left _ z)) hch2⟩, hKS, fun j nj L z1 z2 => ?_, hnd, hlt, hmd, by show cm + 0 ≤ n + 1; omega⟩
        · exact (show (hs (hs (hs (hs (hs h 6 6 (nI pl)) 6 7 (nI c)) 20 i (nI (pl + 1024 * (v + 1) + 16384 * c))) 6 6 (nI (pl + 1 + ln (pl + 1)))) 6 5 1) 20 i = hs h 20 i (nI (pl + 1024 * (v + 1) + 16384 * c)) 20 i from rfl).trans (hs_at _ _ _ _)
        · obtain ⟨t, e, z⟩ := hseg j nj L z1 z2
          exact ⟨t, e, hext (fun z => hnd1 (List.mem_append_right _ (List.mem_flatten.mpr ⟨nj, List.mem_of_getElem? z1, z⟩))) z⟩
  · intro e_10_f c_10_f
    exfalso; omega
set_option maxHeartbeats 4000000 in
theorem t_take_choose0 (l : Launch) {sg : Nat → Int32} {ln sz : Nat → Nat} {r : List Nat} {rc rr : Nat} (hB : aWB sg ln sz) (h : mH) (hC : CB sg ln sz h) {v pl x k w : Nat} {P : List aF} {K : List (List aF)} {n g u : Nat} {q : List Nat} (hJ : aJ sg sz r (false, 0, v, 0, (pl, x, k, w) :: P, K, n, g, u, q)) (hRC : RC rc h (false, 0, v, 0, (pl, x, k, w) :: P, K, n, g, u, q)) (h63 : (sg pl).toInt = 63) (hv : v = 0) : mG l Sh0 iX4_takeUp [.inr 6] h (fun v' h' => v' = none ∧ KP h h' ∧ RO rc h' (aTop sg ln sz r v pl x k w P K n g u q)) := by
  obtain ⟨made, cm, nd, KS, h4, h5, hb, hb2, h9, h12, h13, ⟨h10, h11, h14, h15, h19⟩, hm, hcm, hch, hKS, hseg, hnd, hlt, hmd, hcc⟩ := hRC
  obtain ⟨jx, jb, jP, jK, jn, jg, ju, jq, jc, gs, g1, g2, g3, g4⟩ := hJ
  obtain ⟨i, nd, rfl⟩ : ∃ (i : Nat) (nd' : List Nat), nd = i :: nd' := by
    cases nd with
    | nil => exact hch.elim
    | cons i nd => exact ⟨i, nd, rfl⟩
  obtain ⟨h73, ⟨c, hc, hmk, har, hck⟩, hch2⟩ := hch
  dsimp only at hmk har hck
  have h68 : h 6 8 = nI v := hb2 rfl
  have hi : i < made := hlt i List.mem_cons_self
  have hM : made ≤ 8200 := by omega
  have hcc : cm + 1 ≤ n + 1 := hcc
  have hcc2 : cm ≤ 200 := by omega
  obtain ⟨f1, f2, f3, f4, f5, f6, f7⟩ := jP (pl, x, k, w) List.mem_cons_self
  dsimp only at f1 f2 f3 f4 f5 f6 f7
  have hp8 : pl < 800 := f1.1
  have hsg : h 13 pl = sg pl := hC.1 pl hp8
  have hB9 := hB.2 pl f1
  have hnd1 : i ∉ nd ++ KS.flatten := (List.nodup_cons.mp (by simpa using hnd)).1
  have hnd2 : (nd ++ KS.flatten).Nodup := (List.nodup_cons.mp (by simpa using hnd)).2
  have hlt2 : ∀ j ∈ nd ++ KS.flatten, j < made := fun j hj => hlt j (by rw [List.cons_append]; exact List.mem_cons_of_mem _ hj)
  have h3 : aOf (sg pl).toInt = 3 := by rw [h63]; exact aOf_is3
  have hne64 : (sg pl).toInt ≠ 64 := by omega
  have v1 := hB9.2.2.2.1 (by omega)
  rw [show aFs sg pl = pl + 1 from if_neg hne64] at v1
  have v2 := hB9.2.2.2.2.2.1 (by omega)
  have h14a : h 14 (pl + 1) = nI (pl + 1 + ln (pl + 1)) := hC.2.2 _ v1.1
  have h14b : h 14 (pl + 1 + ln (pl + 1)) = nI (pl + 1 + ln (pl + 1) + ln (pl + 1 + ln (pl + 1))) := hC.2.2 _ v2.1
  intro RT hR
  show mE l Sh0 none iX4_takeUp RT 0 [some (.inr 6), none, none] [] h
  refine e_aload_n (i := 0) dX4_takeUp_0 rfl rfl ?_
  refine e_getR (r := 7) dX4_takeUp_1 fl_X4_12 sh_6 fj_6_1 ?_
  refine e_getI (x := nI i) dX4_takeUp_4 fl_X4_115 sh_7 fj_7_3 h73 ?_
  refine e_istore_n (i := 1) (ls2 := [some (.inr 6), some (.inl (nI i)), none]) dX4_takeUp_7 rfl (Nat.le_of_ble_eq_true rfl) rfl ?_
  refine e_iload_n (i := 1) dX4_takeUp_8 rfl rfl ?_
  refine e_iconst (v := (-1)) dX4_takeUp_9 (by decide) ?_
  refine b_icmp_ne (X := ((i : Nat) : Int)) (Y := (-1)) (tgt := 22) (nI_toInt (by omega)) (by decide) dX4_takeUp_10 (by decide) ?_ ?_
  · intro e_10_t c_10_t
    refine e_aload_n (i := 0) dX4_takeUp_22 rfl rfl ?_
    refine e_aload_n (i := 0) dX4_takeUp_23 rfl rfl ?_
    refine e_getR (r := 7) dX4_takeUp_24 fl_X4_12 sh_6 fj_6_1 ?_
    refine e_iload_n (i := 1) dX4_takeUp_27 rfl rfl ?_
    refine e_invVi (As := [.inl (nI i)]) (v := nI pl) (h2 := h) dX4_takeUp_28 lk_X4_118 yv_X5_place rfl rfl rfl (Nat.le_of_ble_eq_true rfl) sh_7 ci_X5 (Nat.le_of_ble_eq_true rfl) ⟨Nat.le_of_ble_eq_true rfl, Nat.le_of_ble_eq_true rfl⟩ (k_T_placeX l h i made hm hi hM hmk hp8 (by omega) (by omega)) ?_
    refine e_putI dX4_takeUp_31 fl_X4_86 fp_X4_6 sh_6 fj_6_6 ?_
    refine e_aload_n (i := 0) dX4_takeUp_34 rfl rfl ?_
    refine e_aload_n (i := 0) dX4_takeUp_35 rfl rfl ?_
    refine e_getR (r := 7) dX4_takeUp_36 fl_X4_12 sh_6 fj_6_1 ?_
    refine e_iload_n (i := 1) dX4_takeUp_39 rfl rfl ?_
    refine e_invVi (As := [.inl (nI i)]) (v := nI c) (h2 := (hs h 6 6 (nI pl))) dX4_takeUp_40 lk_X4_120 yv_X5_call rfl rfl rfl (Nat.le_of_ble_eq_true rfl) sh_7 ci_X5 (Nat.le_of_ble_eq_true rfl) ⟨Nat.le_of_ble_eq_true rfl, Nat.le_of_ble_eq_true rfl⟩ (k_T_callX l (hs h 6 6 (nI pl)) i made hm hi hM hmk hp8 (by omega) (by omega)) ?_
    refine e_putI dX4_takeUp_43 fl_X4_83 fp_X4_7 sh_6 fj_6_7 ?_
    refine e_aload_n (i := 0) dX4_takeUp_46 rfl rfl ?_
    refine e_getR (r := 2) dX4_takeUp_47 fl_X4_29 sh_6 fj_6_0 ?_
    refine e_aload_n (i := 0) dX4_takeUp_50 rfl rfl ?_
    refine e_getI (x := nI pl) dX4_takeUp_51 fl_X4_86 sh_6 fj_6_6 rfl ?_
    refine e_invVi (As := [.inl (nI pl)]) (v := sg pl) (h2 := (hs (hs h 6 6 (nI pl)) 6 7 (nI c))) dX4_takeUp_54 lk_X4_92 yv_X0_sign rfl rfl rfl (Nat.le_of_ble_eq_true rfl) sh_2 ci_X0 (Nat.le_of_ble_eq_true rfl) ⟨Nat.le_of_ble_eq_true rfl, Nat.le_of_ble_eq_true rfl⟩ (k_B_signX l (hs (hs h 6 6 (nI pl)) 6 7 (nI c)) pl hp8 hsg) ?_
    refine e_istore_n (i := 2) (ls2 := [some (.inr 6), some (.inl (nI i)), some (.inl (sg pl))]) dX4_takeUp_57 rfl (Nat.le_of_ble_eq_true rfl) rfl ?_
    refine e_iload_n (i := 2) dX4_takeUp_58 rfl rfl ?_
    refine e_invSi (As := [.inl (sg pl)]) (v := aI (sg pl).toInt) (h2 := (hs (hs h 6 6 (nI pl)) 6 7 (nI c))) dX4_takeUp_59 lk_X4_105 ys_X7_textsOf rfl rfl rfl (Nat.le_of_ble_eq_true rfl) (Nat.le_of_ble_eq_true rfl) ⟨Nat.le_of_ble_eq_true rfl, Nat.le_of_ble_eq_true rfl⟩ (k_textsOf l (hs (hs h 6 6 (nI pl)) 6 7 (nI c)) (sg pl)) ?_
    refine e_iconst (v := 2) dX4_takeUp_62 (by decide) ?_
    refine b_icmp_ne (X := aOf (sg pl).toInt) (Y := 2) (tgt := 118) (aI_toInt _) (by decide) dX4_takeUp_63 (by decide) ?_ ?_
    · intro e_63_t c_63_t
      refine e_aload_n (i := 0) dX4_takeUp_118 rfl rfl ?_
      refine e_getR (r := 7) dX4_takeUp_119 fl_X4_12 sh_6 fj_6_1 ?_
      refine e_aload_n (i := 0) dX4_takeUp_122 rfl rfl ?_
      refine e_getR (r := 7) dX4_takeUp_123 fl_X4_12 sh_6 fj_6_1 ?_
      refine e_iload_n (i := 1) dX4_takeUp_126 rfl rfl ?_
      refine e_invVi (As := [.inl (nI i)]) (v := h 21 i) (h2 := (hs (hs h 6 6 (nI pl)) 6 7 (nI c))) dX4_takeUp_127 lk_X4_132 yv_X5_below rfl rfl rfl (Nat.le_of_ble_eq_true rfl) sh_7 ci_X5 (Nat.le_of_ble_eq_true rfl) ⟨Nat.le_of_ble_eq_true rfl, Nat.le_of_ble_eq_true rfl⟩ (k_T_belowX l (hs (hs h 6 6 (nI pl)) 6 7 (nI c)) i made hm hi hM rfl) ?_
      refine e_putI dX4_takeUp_130 fl_X4_115 fp_X5_3 sh_7 fj_7_3 ?_
      refine e_iload_n (i := 2) dX4_takeUp_133 rfl rfl ?_
      by_cases sk_134_63 : sg pl = 63
      · have skt_134_63 : (sg pl).toInt = 63 := by rw [sk_134_63]; decide
        refine e_lookup (off := 58) (tgt := 192) dX4_takeUp_134 (by decide) (by rw [sk_134_63]; decide) (by decide) ?_
        refine e_aload_n (i := 0) dX4_takeUp_192 rfl rfl ?_
        refine e_invVv (As := []) (h2 := (hs (hs (hs (hs (hs h 6 6 (nI pl)) 6 7 (nI c)) 7 3 (h 21 i)) 6 6 (nI (pl + 1 + ln (pl + 1)))) 6 5 1)) (ty := .int) (v := 0) dX4_takeUp_193 lk_X4_135 yv_X4_choose rfl rfl rfl (Nat.le_of_ble_eq_true rfl) sh_6 ci_X4 (Nat.le_of_ble_eq_true rfl) ⟨Nat.le_of_ble_eq_true rfl, Nat.le_of_ble_eq_true rfl⟩ (k_X_choose0 l (hs (hs (hs h 6 6 (nI pl)) 6 7 (nI c)) 7 3 (h 21 i)) sg pl v _ _ v1.1.1 v2.1.1 rfl h68 jx hsg h63 h14a h14b hv) ?_
        refine e_goto (tgt := 263) dX4_takeUp_196 (by decide) ?_
        refine e_ret dX4_takeUp_263 rfl ?_
        have e : aTop sg ln sz r v pl x k w P K n g u q = .inl (true, pl + 1 + ln (pl + 1), x, k, P, K, n, g, u, q) := by unfold aTop; rw [if_neg (by omega), if_pos h63, if_pos hv]
        rw [e] at hR
        have hck2 : cK (hs (hs (hs (hs (hs h 6 6 (nI pl)) 6 7 (nI c)) 7 3 (h 21 i)) 6 6 (nI (pl + 1 + ln (pl + 1)))) 6 5 1) KS c k := by
          have z := cK_ext (h := h) (h' := (hs (hs (hs (hs (hs h 6 6 (nI pl)) 6 7 (nI c)) 7 3 (h 21 i)) 6 6 (nI (pl + 1 + ln (pl + 1)))) 6 5 1)) (Z := []) rfl rfl hck
          rwa [List.append_nil] at z
        exact hR _ _ ⟨rfl, (((((KP.refl h).hs (by omega)).hs (by omega)).hs (by omega)).hs (by omega)).hs (by omega), made, cm, nd, KS, h4, rfl, fun _ => ⟨rfl, c, rfl, hc, har, hck2⟩, fun z => (by cases z), h9, h12, h13, ⟨h10, h11, h14, h15, h19⟩, hm, hcm, chn_same (h := h) (h' := (hs (hs (hs (hs (hs h 6 6 (nI pl)) 6 7 (nI c)) 7 3 (h 21 i)) 6 6 (nI (pl + 1 + ln (pl + 1)))) 6 5 1)) rfl rfl rfl rfl rfl hch2, hKS, fun j nj L z1 z2 => (hseg j nj L z1 z2).imp (fun _ z => z.imp (fun _ z => chn_same (h := h) (h' := (hs (hs (hs (hs (hs h 6 6 (nI pl)) 6 7 (nI c)) 7 3 (h 21 i)) 6 6 (nI (pl + 1 + ln (pl + 1)))) 6 5 1)) rfl rfl rfl rfl rfl z)), hnd2, hlt2, hmd, by show cm + 0 ≤ n + 1; omega⟩
      have skf_134_63 : ¬ (sg pl).toInt = 63 := fun z => sk_134_63 (Int32.toInt_inj.mp (by rw [z]; decide))
      by_cases sk_134_64 : sg pl = 64
      · have skt_134_64 : (sg pl).toInt = 64 := by rw [sk_134_64]; decide
        exfalso; omega
      have skf_134_64 : ¬ (sg pl).toInt = 64 := fun z => sk_134_64 (Int32.toInt_inj.mp (by rw [z]; decide))
      by_cases sk_134_107 : sg pl = 107
      · have skt_134_107 : (sg pl).toInt = 107 := by rw [sk_134_107]; decide
        exfalso; omega
      have skf_134_107 : ¬ (sg pl).toInt = 107 := fun z => sk_134_107 (Int32.toInt_inj.mp (by rw [z]; decide))
      by_cases sk_134_112 : sg pl = 112
      · have skt_134_112 : (sg pl).toInt = 112 := by rw [sk_134_112]; decide
        exfalso; omega
      have skf_134_112 : ¬ (sg pl).toInt = 112 := fun z => sk_134_112 (Int32.toInt_inj.mp (by rw [z]; decide))
      by_cases sk_134_113 : sg pl = 113
      · have skt_134_113 : (sg pl).toInt = 113 := by rw [sk_134_113]; decide
        exfalso; omega
      have skf_134_113 : ¬ (sg pl).toInt = 113 := fun z => sk_134_113 (Int32.toInt_inj.mp (by rw [z]; decide))
      by_cases sk_134_114 : sg pl = 114
      · have skt_134_114 : (sg pl).toInt = 114 := by rw [sk_134_114]; decide
        exfalso; omega
      have skf_134_114 : ¬ (sg pl).toInt = 114 := fun z => sk_134_114 (Int32.toInt_inj.mp (by rw [z]; decide))
      exfalso; omega
    · intro e_63_f c_63_f
      exfalso; omega
  · intro e_10_f c_10_f
    exfalso; omega
set_option maxHeartbeats 4000000 in
theorem t_take_choose1 (l : Launch) {sg : Nat → Int32} {ln sz : Nat → Nat} {r : List Nat} {rc rr : Nat} (hB : aWB sg ln sz) (h : mH) (hC : CB sg ln sz h) {v pl x k w : Nat} {P : List aF} {K : List (List aF)} {n g u : Nat} {q : List Nat} (hJ : aJ sg sz r (false, 0, v, 0, (pl, x, k, w) :: P, K, n, g, u, q)) (hRC : RC rc h (false, 0, v, 0, (pl, x, k, w) :: P, K, n, g, u, q)) (h63 : (sg pl).toInt = 63) (hv : v ≠ 0) : mG l Sh0 iX4_takeUp [.inr 6] h (fun v' h' => v' = none ∧ KP h h' ∧ RO rc h' (aTop sg ln sz r v pl x k w P K n g u q)) := by
  obtain ⟨made, cm, nd, KS, h4, h5, hb, hb2, h9, h12, h13, ⟨h10, h11, h14, h15, h19⟩, hm, hcm, hch, hKS, hseg, hnd, hlt, hmd, hcc⟩ := hRC
  obtain ⟨jx, jb, jP, jK, jn, jg, ju, jq, jc, gs, g1, g2, g3, g4⟩ := hJ
  obtain ⟨i, nd, rfl⟩ : ∃ (i : Nat) (nd' : List Nat), nd = i :: nd' := by
    cases nd with
    | nil => exact hch.elim
    | cons i nd => exact ⟨i, nd, rfl⟩
  obtain ⟨h73, ⟨c, hc, hmk, har, hck⟩, hch2⟩ := hch
  dsimp only at hmk har hck
  have h68 : h 6 8 = nI v := hb2 rfl
  have hi : i < made := hlt i List.mem_cons_self
  have hM : made ≤ 8200 := by omega
  have hcc : cm + 1 ≤ n + 1 := hcc
  have hcc2 : cm ≤ 200 := by omega
  obtain ⟨f1, f2, f3, f4, f5, f6, f7⟩ := jP (pl, x, k, w) List.mem_cons_self
  dsimp only at f1 f2 f3 f4 f5 f6 f7
  have hp8 : pl < 800 := f1.1
  have hsg : h 13 pl = sg pl := hC.1 pl hp8
  have hB9 := hB.2 pl f1
  have hnd1 : i ∉ nd ++ KS.flatten := (List.nodup_cons.mp (by simpa using hnd)).1
  have hnd2 : (nd ++ KS.flatten).Nodup := (List.nodup_cons.mp (by simpa using hnd)).2
  have hlt2 : ∀ j ∈ nd ++ KS.flatten, j < made := fun j hj => hlt j (by rw [List.cons_append]; exact List.mem_cons_of_mem _ hj)
  have h3 : aOf (sg pl).toInt = 3 := by rw [h63]; exact aOf_is3
  have hne64 : (sg pl).toInt ≠ 64 := by omega
  have v1 := hB9.2.2.2.1 (by omega)
  rw [show aFs sg pl = pl + 1 from if_neg hne64] at v1
  have v2 := hB9.2.2.2.2.2.1 (by omega)
  have h14a : h 14 (pl + 1) = nI (pl + 1 + ln (pl + 1)) := hC.2.2 _ v1.1
  have h14b : h 14 (pl + 1 + ln (pl + 1)) = nI (pl + 1 + ln (pl + 1) + ln (pl + 1 + ln (pl + 1))) := hC.2.2 _ v2.1
  intro RT hR
  show mE l Sh0 none iX4_takeUp RT 0 [some (.inr 6), none, none] [] h
  refine e_aload_n (i := 0) dX4_takeUp_0 rfl rfl ?_
  refine e_getR (r := 7) dX4_takeUp_1 fl_X4_12 sh_6 fj_6_1 ?_
  refine e_getI (x := nI i) dX4_takeUp_4 fl_X4_115 sh_7 fj_7_3 h73 ?_
  refine e_istore_n (i := 1) (ls2 := [some (.inr 6), some (.inl (nI i)), none]) dX4_takeUp_7 rfl (Nat.le_of_ble_eq_true rfl) rfl ?_
  refine e_iload_n (i := 1) dX4_takeUp_8 rfl rfl ?_
  refine e_iconst (v := (-1)) dX4_takeUp_9 (by decide) ?_
  refine b_icmp_ne (X := ((i : Nat) : Int)) (Y := (-1)) (tgt := 22) (nI_toInt (by omega)) (by decide) dX4_takeUp_10 (by decide) ?_ ?_
  · intro e_10_t c_10_t
    refine e_aload_n (i := 0) dX4_takeUp_22 rfl rfl ?_
    refine e_aload_n (i := 0) dX4_takeUp_23 rfl rfl ?_
    refine e_getR (r := 7) dX4_takeUp_24 fl_X4_12 sh_6 fj_6_1 ?_
    refine e_iload_n (i := 1) dX4_takeUp_27 rfl rfl ?_
    refine e_invVi (As := [.inl (nI i)]) (v := nI pl) (h2 := h) dX4_takeUp_28 lk_X4_118 yv_X5_place rfl rfl rfl (Nat.le_of_ble_eq_true rfl) sh_7 ci_X5 (Nat.le_of_ble_eq_true rfl) ⟨Nat.le_of_ble_eq_true rfl, Nat.le_of_ble_eq_true rfl⟩ (k_T_placeX l h i made hm hi hM hmk hp8 (by omega) (by omega)) ?_
    refine e_putI dX4_takeUp_31 fl_X4_86 fp_X4_6 sh_6 fj_6_6 ?_
    refine e_aload_n (i := 0) dX4_takeUp_34 rfl rfl ?_
    refine e_aload_n (i := 0) dX4_takeUp_35 rfl rfl ?_
    refine e_getR (r := 7) dX4_takeUp_36 fl_X4_12 sh_6 fj_6_1 ?_
    refine e_iload_n (i := 1) dX4_takeUp_39 rfl rfl ?_
    refine e_invVi (As := [.inl (nI i)]) (v := nI c) (h2 := (hs h 6 6 (nI pl))) dX4_takeUp_40 lk_X4_120 yv_X5_call rfl rfl rfl (Nat.le_of_ble_eq_true rfl) sh_7 ci_X5 (Nat.le_of_ble_eq_true rfl) ⟨Nat.le_of_ble_eq_true rfl, Nat.le_of_ble_eq_true rfl⟩ (k_T_callX l (hs h 6 6 (nI pl)) i made hm hi hM hmk hp8 (by omega) (by omega)) ?_
    refine e_putI dX4_takeUp_43 fl_X4_83 fp_X4_7 sh_6 fj_6_7 ?_
    refine e_aload_n (i := 0) dX4_takeUp_46 rfl rfl ?_
    refine e_getR (r := 2) dX4_takeUp_47 fl_X4_29 sh_6 fj_6_0 ?_
    refine e_aload_n (i := 0) dX4_takeUp_50 rfl rfl ?_
    refine e_getI (x := nI pl) dX4_takeUp_51 fl_X4_86 sh_6 fj_6_6 rfl ?_
    refine e_invVi (As := [.inl (nI pl)]) (v := sg pl) (h2 := (hs (hs h 6 6 (nI pl)) 6 7 (nI c))) dX4_takeUp_54 lk_X4_92 yv_X0_sign rfl rfl rfl (Nat.le_of_ble_eq_true rfl) sh_2 ci_X0 (Nat.le_of_ble_eq_true rfl) ⟨Nat.le_of_ble_eq_true rfl, Nat.le_of_ble_eq_true rfl⟩ (k_B_signX l (hs (hs h 6 6 (nI pl)) 6 7 (nI c)) pl hp8 hsg) ?_
    refine e_istore_n (i := 2) (ls2 := [some (.inr 6), some (.inl (nI i)), some (.inl (sg pl))]) dX4_takeUp_57 rfl (Nat.le_of_ble_eq_true rfl) rfl ?_
    refine e_iload_n (i := 2) dX4_takeUp_58 rfl rfl ?_
    refine e_invSi (As := [.inl (sg pl)]) (v := aI (sg pl).toInt) (h2 := (hs (hs h 6 6 (nI pl)) 6 7 (nI c))) dX4_takeUp_59 lk_X4_105 ys_X7_textsOf rfl rfl rfl (Nat.le_of_ble_eq_true rfl) (Nat.le_of_ble_eq_true rfl) ⟨Nat.le_of_ble_eq_true rfl, Nat.le_of_ble_eq_true rfl⟩ (k_textsOf l (hs (hs h 6 6 (nI pl)) 6 7 (nI c)) (sg pl)) ?_
    refine e_iconst (v := 2) dX4_takeUp_62 (by decide) ?_
    refine b_icmp_ne (X := aOf (sg pl).toInt) (Y := 2) (tgt := 118) (aI_toInt _) (by decide) dX4_takeUp_63 (by decide) ?_ ?_
    · intro e_63_t c_63_t
      refine e_aload_n (i := 0) dX4_takeUp_118 rfl rfl ?_
      refine e_getR (r := 7) dX4_takeUp_119 fl_X4_12 sh_6 fj_6_1 ?_
      refine e_aload_n (i := 0) dX4_takeUp_122 rfl rfl ?_
      refine e_getR (r := 7) dX4_takeUp_123 fl_X4_12 sh_6 fj_6_1 ?_
      refine e_iload_n (i := 1) dX4_takeUp_126 rfl rfl ?_
      refine e_invVi (As := [.inl (nI i)]) (v := h 21 i) (h2 := (hs (hs h 6 6 (nI pl)) 6 7 (nI c))) dX4_takeUp_127 lk_X4_132 yv_X5_below rfl rfl rfl (Nat.le_of_ble_eq_true rfl) sh_7 ci_X5 (Nat.le_of_ble_eq_true rfl) ⟨Nat.le_of_ble_eq_true rfl, Nat.le_of_ble_eq_true rfl⟩ (k_T_belowX l (hs (hs h 6 6 (nI pl)) 6 7 (nI c)) i made hm hi hM rfl) ?_
      refine e_putI dX4_takeUp_130 fl_X4_115 fp_X5_3 sh_7 fj_7_3 ?_
      refine e_iload_n (i := 2) dX4_takeUp_133 rfl rfl ?_
      by_cases sk_134_63 : sg pl = 63
      · have skt_134_63 : (sg pl).toInt = 63 := by rw [sk_134_63]; decide
        refine e_lookup (off := 58) (tgt := 192) dX4_takeUp_134 (by decide) (by rw [sk_134_63]; decide) (by decide) ?_
        refine e_aload_n (i := 0) dX4_takeUp_192 rfl rfl ?_
        refine e_invVv (As := []) (h2 := (hs (hs (hs (hs (hs h 6 6 (nI pl)) 6 7 (nI c)) 7 3 (h 21 i)) 6 6 (nI (pl + 1 + ln (pl + 1) + ln (pl + 1 + ln (pl + 1))))) 6 5 1)) (ty := .int) (v := 0) dX4_takeUp_193 lk_X4_135 yv_X4_choose rfl rfl rfl (Nat.le_of_ble_eq_true rfl) sh_6 ci_X4 (Nat.le_of_ble_eq_true rfl) ⟨Nat.le_of_ble_eq_true rfl, Nat.le_of_ble_eq_true rfl⟩ (k_X_choose1 l (hs (hs (hs h 6 6 (nI pl)) 6 7 (nI c)) 7 3 (h 21 i)) sg pl v _ _ v1.1.1 v2.1.1 rfl h68 jx hsg h63 h14a h14b hv) ?_
        refine e_goto (tgt := 263) dX4_takeUp_196 (by decide) ?_
        refine e_ret dX4_takeUp_263 rfl ?_
        have e : aTop sg ln sz r v pl x k w P K n g u q = .inl (true, pl + 1 + ln (pl + 1) + ln (pl + 1 + ln (pl + 1)), x, k, P, K, n, g, u, q) := by unfold aTop; rw [if_neg (by omega), if_pos h63, if_neg hv]
        rw [e] at hR
        have hck2 : cK (hs (hs (hs (hs (hs h 6 6 (nI pl)) 6 7 (nI c)) 7 3 (h 21 i)) 6 6 (nI (pl + 1 + ln (pl + 1) + ln (pl + 1 + ln (pl + 1))))) 6 5 1) KS c k := by
          have z := cK_ext (h := h) (h' := (hs (hs (hs (hs (hs h 6 6 (nI pl)) 6 7 (nI c)) 7 3 (h 21 i)) 6 6 (nI (pl + 1 + ln (pl + 1) + ln (pl + 1 + ln (pl + 1))))) 6 5 1)) (Z := []) rfl rfl hck
          rwa [List.append_nil] at z
        exact hR _ _ ⟨rfl, (((((KP.refl h).hs (by omega)).hs (by omega)).hs (by omega)).hs (by omega)).hs (by omega), made, cm, nd, KS, h4, rfl, fun _ => ⟨rfl, c, rfl, hc, har, hck2⟩, fun z => (by cases z), h9, h12, h13, ⟨h10, h11, h14, h15, h19⟩, hm, hcm, chn_same (h := h) (h' := (hs (hs (hs (hs (hs h 6 6 (nI pl)) 6 7 (nI c)) 7 3 (h 21 i)) 6 6 (nI (pl + 1 + ln (pl + 1) + ln (pl + 1 + ln (pl + 1))))) 6 5 1)) rfl rfl rfl rfl rfl hch2, hKS, fun j nj L z1 z2 => (hseg j nj L z1 z2).imp (fun _ z => z.imp (fun _ z => chn_same (h := h) (h' := (hs (hs (hs (hs (hs h 6 6 (nI pl)) 6 7 (nI c)) 7 3 (h 21 i)) 6 6 (nI (pl + 1 + ln (pl + 1) + ln (pl + 1 + ln (pl + 1))))) 6 5 1)) rfl rfl rfl rfl rfl z)), hnd2, hlt2, hmd, by show cm + 0 ≤ n + 1; omega⟩
      have skf_134_63 : ¬ (sg pl).toInt = 63 := fun z => sk_134_63 (Int32.toInt_inj.mp (by rw [z]; decide))
      by_cases sk_134_64 : sg pl = 64
      · have skt_134_64 : (sg pl).toInt = 64 := by rw [sk_134_64]; decide
        exfalso; omega
      have skf_134_64 : ¬ (sg pl).toInt = 64 := fun z => sk_134_64 (Int32.toInt_inj.mp (by rw [z]; decide))
      by_cases sk_134_107 : sg pl = 107
      · have skt_134_107 : (sg pl).toInt = 107 := by rw [sk_134_107]; decide
        exfalso; omega
      have skf_134_107 : ¬ (sg pl).toInt = 107 := fun z => sk_134_107 (Int32.toInt_inj.mp (by rw [z]; decide))
      by_cases sk_134_112 : sg pl = 112
      · have skt_134_112 : (sg pl).toInt = 112 := by rw [sk_134_112]; decide
        exfalso; omega
      have skf_134_112 : ¬ (sg pl).toInt = 112 := fun z => sk_134_112 (Int32.toInt_inj.mp (by rw [z]; decide))
      by_cases sk_134_113 : sg pl = 113
      · have skt_134_113 : (sg pl).toInt = 113 := by rw [sk_134_113]; decide
        exfalso; omega
      have skf_134_113 : ¬ (sg pl).toInt = 113 := fun z => sk_134_113 (Int32.toInt_inj.mp (by rw [z]; decide))
      by_cases sk_134_114 : sg pl = 114
      · have skt_134_114 : (sg pl).toInt = 114 := by rw [sk_134_114]; decide
        exfalso; omega
      have skf_134_114 : ¬ (sg pl).toInt = 114 := fun z => sk_134_114 (Int32.toInt_inj.mp (by rw [z]; decide))
      exfalso; omega
    · intro e_63_f c_63_f
      exfalso; omega
  · intro e_10_f c_10_f
    exfalso; omega
theorem act_eq {s : Int32} {a b : Nat} (h2 : s.toInt = 43 ∨ s.toInt = 45 ∨ s.toInt = 42 ∨ s.toInt = 109) (ha : a < 8) (hb : b < 8) : cAct s (nI a) (nI b) = nI (aAct s.toInt a b) := by
  have key : ∀ a : Fin 8, ∀ b : Fin 8, (nI a.val + nI b.val) &&& 7 = nI ((a.val + b.val) % 8) ∧ (nI a.val - nI b.val) &&& 7 = nI ((a.val + 8 - b.val) % 8) ∧ (nI a.val * nI b.val) &&& 7 = nI ((a.val * b.val) % 8) ∧ cMin (nI a.val) (nI b.val) = nI (if b.val < a.val then b.val else a.val) := by decide +kernel
  obtain ⟨k1, k2, k3, k4⟩ := key ⟨a, ha⟩ ⟨b, hb⟩
  unfold cAct aAct
  rcases h2 with q | q | q | q
  · rw [if_pos q, if_pos q]; exact k1
  · rw [if_neg (by omega), if_pos q, if_neg (by omega), if_pos q]; exact k2
  · rw [if_neg (by omega), if_neg (by omega), if_pos q, if_neg (by omega), if_neg (by omega), if_pos q]; exact k3
  · rw [if_neg (by omega), if_neg (by omega), if_neg (by omega), if_neg (by omega), if_neg (by omega), if_neg (by omega)]; exact k4
set_option maxHeartbeats 4000000 in
theorem t_take_act (l : Launch) {sg : Nat → Int32} {ln sz : Nat → Nat} {r : List Nat} {rc rr : Nat} (hB : aWB sg ln sz) (h : mH) (hC : CB sg ln sz h) {v pl x k w : Nat} {P : List aF} {K : List (List aF)} {n g u : Nat} {q : List Nat} (hJ : aJ sg sz r (false, 0, v, 0, (pl, x, k, w) :: P, K, n, g, u, q)) (hRC : RC rc h (false, 0, v, 0, (pl, x, k, w) :: P, K, n, g, u, q)) (h2 : aOf (sg pl).toInt = 2) (hw0 : w ≠ 0) : mG l Sh0 iX4_takeUp [.inr 6] h (fun v' h' => v' = none ∧ KP h h' ∧ RO rc h' (aTop sg ln sz r v pl x k w P K n g u q)) := by
  obtain ⟨made, cm, nd, KS, h4, h5, hb, hb2, h9, h12, h13, ⟨h10, h11, h14, h15, h19⟩, hm, hcm, hch, hKS, hseg, hnd, hlt, hmd, hcc⟩ := hRC
  obtain ⟨jx, jb, jP, jK, jn, jg, ju, jq, jc, gs, g1, g2, g3, g4⟩ := hJ
  obtain ⟨i, nd, rfl⟩ : ∃ (i : Nat) (nd' : List Nat), nd = i :: nd' := by
    cases nd with
    | nil => exact hch.elim
    | cons i nd => exact ⟨i, nd, rfl⟩
  obtain ⟨h73, ⟨c, hc, hmk, har, hck⟩, hch2⟩ := hch
  dsimp only at hmk har hck
  have h68 : h 6 8 = nI v := hb2 rfl
  have hi : i < made := hlt i List.mem_cons_self
  have hM : made ≤ 8200 := by omega
  have hcc : cm + 1 ≤ n + 1 := hcc
  have hcc2 : cm ≤ 200 := by omega
  obtain ⟨f1, f2, f3, f4, f5, f6, f7⟩ := jP (pl, x, k, w) List.mem_cons_self
  dsimp only at f1 f2 f3 f4 f5 f6 f7
  have hp8 : pl < 800 := f1.1
  have hsg : h 13 pl = sg pl := hC.1 pl hp8
  have hB9 := hB.2 pl f1
  have hnd1 : i ∉ nd ++ KS.flatten := (List.nodup_cons.mp (by simpa using hnd)).1
  have hnd2 : (nd ++ KS.flatten).Nodup := (List.nodup_cons.mp (by simpa using hnd)).2
  have hlt2 : ∀ j ∈ nd ++ KS.flatten, j < made := fun j hj => hlt j (by rw [List.cons_append]; exact List.mem_cons_of_mem _ hj)
  have h2c := aOf_2 h2
  obtain ⟨w, rfl⟩ : ∃ w', w = w' + 1 := ⟨w - 1, by omega⟩
  have hact := act_eq (s := sg pl) (a := w) (b := v) h2c (by omega) jx
  intro RT hR
  show mE l Sh0 none iX4_takeUp RT 0 [some (.inr 6), none, none] [] h
  refine e_aload_n (i := 0) dX4_takeUp_0 rfl rfl ?_
  refine e_getR (r := 7) dX4_takeUp_1 fl_X4_12 sh_6 fj_6_1 ?_
  refine e_getI (x := nI i) dX4_takeUp_4 fl_X4_115 sh_7 fj_7_3 h73 ?_
  refine e_istore_n (i := 1) (ls2 := [some (.inr 6), some (.inl (nI i)), none]) dX4_takeUp_7 rfl (Nat.le_of_ble_eq_true rfl) rfl ?_
  refine e_iload_n (i := 1) dX4_takeUp_8 rfl rfl ?_
  refine e_iconst (v := (-1)) dX4_takeUp_9 (by decide) ?_
  refine b_icmp_ne (X := ((i : Nat) : Int)) (Y := (-1)) (tgt := 22) (nI_toInt (by omega)) (by decide) dX4_takeUp_10 (by decide) ?_ ?_
  · intro e_10_t c_10_t
    refine e_aload_n (i := 0) dX4_takeUp_22 rfl rfl ?_
    refine e_aload_n (i := 0) dX4_takeUp_23 rfl rfl ?_
    refine e_getR (r := 7) dX4_takeUp_24 fl_X4_12 sh_6 fj_6_1 ?_
    refine e_iload_n (i := 1) dX4_takeUp_27 rfl rfl ?_
    refine e_invVi (As := [.inl (nI i)]) (v := nI pl) (h2 := h) dX4_takeUp_28 lk_X4_118 yv_X5_place rfl rfl rfl (Nat.le_of_ble_eq_true rfl) sh_7 ci_X5 (Nat.le_of_ble_eq_true rfl) ⟨Nat.le_of_ble_eq_true rfl, Nat.le_of_ble_eq_true rfl⟩ (k_T_placeX l h i made hm hi hM hmk hp8 (by omega) (by omega)) ?_
    refine e_putI dX4_takeUp_31 fl_X4_86 fp_X4_6 sh_6 fj_6_6 ?_
    refine e_aload_n (i := 0) dX4_takeUp_34 rfl rfl ?_
    refine e_aload_n (i := 0) dX4_takeUp_35 rfl rfl ?_
    refine e_getR (r := 7) dX4_takeUp_36 fl_X4_12 sh_6 fj_6_1 ?_
    refine e_iload_n (i := 1) dX4_takeUp_39 rfl rfl ?_
    refine e_invVi (As := [.inl (nI i)]) (v := nI c) (h2 := (hs h 6 6 (nI pl))) dX4_takeUp_40 lk_X4_120 yv_X5_call rfl rfl rfl (Nat.le_of_ble_eq_true rfl) sh_7 ci_X5 (Nat.le_of_ble_eq_true rfl) ⟨Nat.le_of_ble_eq_true rfl, Nat.le_of_ble_eq_true rfl⟩ (k_T_callX l (hs h 6 6 (nI pl)) i made hm hi hM hmk hp8 (by omega) (by omega)) ?_
    refine e_putI dX4_takeUp_43 fl_X4_83 fp_X4_7 sh_6 fj_6_7 ?_
    refine e_aload_n (i := 0) dX4_takeUp_46 rfl rfl ?_
    refine e_getR (r := 2) dX4_takeUp_47 fl_X4_29 sh_6 fj_6_0 ?_
    refine e_aload_n (i := 0) dX4_takeUp_50 rfl rfl ?_
    refine e_getI (x := nI pl) dX4_takeUp_51 fl_X4_86 sh_6 fj_6_6 rfl ?_
    refine e_invVi (As := [.inl (nI pl)]) (v := sg pl) (h2 := (hs (hs h 6 6 (nI pl)) 6 7 (nI c))) dX4_takeUp_54 lk_X4_92 yv_X0_sign rfl rfl rfl (Nat.le_of_ble_eq_true rfl) sh_2 ci_X0 (Nat.le_of_ble_eq_true rfl) ⟨Nat.le_of_ble_eq_true rfl, Nat.le_of_ble_eq_true rfl⟩ (k_B_signX l (hs (hs h 6 6 (nI pl)) 6 7 (nI c)) pl hp8 hsg) ?_
    refine e_istore_n (i := 2) (ls2 := [some (.inr 6), some (.inl (nI i)), some (.inl (sg pl))]) dX4_takeUp_57 rfl (Nat.le_of_ble_eq_true rfl) rfl ?_
    refine e_iload_n (i := 2) dX4_takeUp_58 rfl rfl ?_
    refine e_invSi (As := [.inl (sg pl)]) (v := aI (sg pl).toInt) (h2 := (hs (hs h 6 6 (nI pl)) 6 7 (nI c))) dX4_takeUp_59 lk_X4_105 ys_X7_textsOf rfl rfl rfl (Nat.le_of_ble_eq_true rfl) (Nat.le_of_ble_eq_true rfl) ⟨Nat.le_of_ble_eq_true rfl, Nat.le_of_ble_eq_true rfl⟩ (k_textsOf l (hs (hs h 6 6 (nI pl)) 6 7 (nI c)) (sg pl)) ?_
    refine e_iconst (v := 2) dX4_takeUp_62 (by decide) ?_
    refine b_icmp_ne (X := aOf (sg pl).toInt) (Y := 2) (tgt := 118) (aI_toInt _) (by decide) dX4_takeUp_63 (by decide) ?_ ?_
    · intro e_63_t c_63_t
      exfalso; omega
    · intro e_63_f c_63_f
      refine e_aload_n (i := 0) dX4_takeUp_66 rfl rfl ?_
      refine e_getR (r := 7) dX4_takeUp_67 fl_X4_12 sh_6 fj_6_1 ?_
      refine e_iload_n (i := 1) dX4_takeUp_70 rfl rfl ?_
      refine e_invVi (As := [.inl (nI i)]) (v := nI w) (h2 := (hs (hs h 6 6 (nI pl)) 6 7 (nI c))) dX4_takeUp_71 lk_X4_122 yv_X5_held rfl rfl rfl (Nat.le_of_ble_eq_true rfl) sh_7 ci_X5 (Nat.le_of_ble_eq_true rfl) ⟨Nat.le_of_ble_eq_true rfl, Nat.le_of_ble_eq_true rfl⟩ ((dn_s w) ▸ k_T_heldX l (hs (hs h 6 6 (nI pl)) 6 7 (nI c)) i made hm hi hM hmk hp8 (by omega) (by omega)) ?_
      refine e_iconst (v := (-1)) dX4_takeUp_74 (by decide) ?_
      refine b_icmp_ne (X := ((w : Nat) : Int)) (Y := (-1)) (tgt := 118) (nI_toInt (by omega)) (by decide) dX4_takeUp_75 (by decide) ?_ ?_
      · intro e_75_t c_75_t
        refine e_aload_n (i := 0) dX4_takeUp_118 rfl rfl ?_
        refine e_getR (r := 7) dX4_takeUp_119 fl_X4_12 sh_6 fj_6_1 ?_
        refine e_aload_n (i := 0) dX4_takeUp_122 rfl rfl ?_
        refine e_getR (r := 7) dX4_takeUp_123 fl_X4_12 sh_6 fj_6_1 ?_
        refine e_iload_n (i := 1) dX4_takeUp_126 rfl rfl ?_
        refine e_invVi (As := [.inl (nI i)]) (v := h 21 i) (h2 := (hs (hs h 6 6 (nI pl)) 6 7 (nI c))) dX4_takeUp_127 lk_X4_132 yv_X5_below rfl rfl rfl (Nat.le_of_ble_eq_true rfl) sh_7 ci_X5 (Nat.le_of_ble_eq_true rfl) ⟨Nat.le_of_ble_eq_true rfl, Nat.le_of_ble_eq_true rfl⟩ (k_T_belowX l (hs (hs h 6 6 (nI pl)) 6 7 (nI c)) i made hm hi hM rfl) ?_
        refine e_putI dX4_takeUp_130 fl_X4_115 fp_X5_3 sh_7 fj_7_3 ?_
        refine e_iload_n (i := 2) dX4_takeUp_133 rfl rfl ?_
        by_cases sk_134_63 : sg pl = 63
        · have skt_134_63 : (sg pl).toInt = 63 := by rw [sk_134_63]; decide
          exfalso; omega
        have skf_134_63 : ¬ (sg pl).toInt = 63 := fun z => sk_134_63 (Int32.toInt_inj.mp (by rw [z]; decide))
        by_cases sk_134_64 : sg pl = 64
        · have skt_134_64 : (sg pl).toInt = 64 := by rw [sk_134_64]; decide
          exfalso; omega
        have skf_134_64 : ¬ (sg pl).toInt = 64 := fun z => sk_134_64 (Int32.toInt_inj.mp (by rw [z]; decide))
        by_cases sk_134_107 : sg pl = 107
        · have skt_134_107 : (sg pl).toInt = 107 := by rw [sk_134_107]; decide
          exfalso; omega
        have skf_134_107 : ¬ (sg pl).toInt = 107 := fun z => sk_134_107 (Int32.toInt_inj.mp (by rw [z]; decide))
        by_cases sk_134_112 : sg pl = 112
        · have skt_134_112 : (sg pl).toInt = 112 := by rw [sk_134_112]; decide
          exfalso; omega
        have skf_134_112 : ¬ (sg pl).toInt = 112 := fun z => sk_134_112 (Int32.toInt_inj.mp (by rw [z]; decide))
        by_cases sk_134_113 : sg pl = 113
        · have skt_134_113 : (sg pl).toInt = 113 := by rw [sk_134_113]; decide
          exfalso; omega
        have skf_134_113 : ¬ (sg pl).toInt = 113 := fun z => sk_134_113 (Int32.toInt_inj.mp (by rw [z]; decide))
        by_cases sk_134_114 : sg pl = 114
        · have skt_134_114 : (sg pl).toInt = 114 := by rw [sk_134_114]; decide
          exfalso; omega
        have skf_134_114 : ¬ (sg pl).toInt = 114 := fun z => sk_134_114 (Int32.toInt_inj.mp (by rw [z]; decide))
        refine e_lookup (off := 109) (tgt := 243) dX4_takeUp_134 (by decide) (by rw [lv_osw sk_134_63 (by decide), lv_osw sk_134_64 (by decide), lv_osw sk_134_107 (by decide), lv_osw sk_134_112 (by decide), lv_osw sk_134_113 (by decide), lv_osw sk_134_114 (by decide)]; rfl) (by decide) ?_
        refine e_aload_n (i := 0) dX4_takeUp_243 rfl rfl ?_
        refine e_iload_n (i := 2) dX4_takeUp_244 rfl rfl ?_
        refine e_aload_n (i := 0) dX4_takeUp_245 rfl rfl ?_
        refine e_getR (r := 7) dX4_takeUp_246 fl_X4_12 sh_6 fj_6_1 ?_
        refine e_iload_n (i := 1) dX4_takeUp_249 rfl rfl ?_
        refine e_invVi (As := [.inl (nI i)]) (v := nI w) (h2 := (hs (hs (hs h 6 6 (nI pl)) 6 7 (nI c)) 7 3 (h 21 i))) dX4_takeUp_250 lk_X4_122 yv_X5_held rfl rfl rfl (Nat.le_of_ble_eq_true rfl) sh_7 ci_X5 (Nat.le_of_ble_eq_true rfl) ⟨Nat.le_of_ble_eq_true rfl, Nat.le_of_ble_eq_true rfl⟩ ((dn_s w) ▸ k_T_heldX l (hs (hs (hs h 6 6 (nI pl)) 6 7 (nI c)) 7 3 (h 21 i)) i made hm hi hM hmk hp8 (by omega) (by omega)) ?_
        refine e_aload_n (i := 0) dX4_takeUp_253 rfl rfl ?_
        refine e_getI (x := nI v) dX4_takeUp_254 fl_X4_89 sh_6 fj_6_8 h68 ?_
        refine e_invSi (As := [.inl (sg pl), .inl (nI w), .inl (nI v)]) (v := nI (aAct (sg pl).toInt w v)) (h2 := (hs (hs (hs h 6 6 (nI pl)) 6 7 (nI c)) 7 3 (h 21 i))) dX4_takeUp_257 lk_X4_153 ys_X4_act rfl rfl rfl (Nat.le_of_ble_eq_true rfl) (Nat.le_of_ble_eq_true rfl) ⟨Nat.le_of_ble_eq_true rfl, Nat.le_of_ble_eq_true rfl⟩ (hact ▸ k_X_act l (hs (hs (hs h 6 6 (nI pl)) 6 7 (nI c)) 7 3 (h 21 i)) (sg pl) (nI w) (nI v)) ?_
        refine e_invVv (As := [.inl (nI (aAct (sg pl).toInt w v))]) (h2 := (hs (hs (hs (hs (hs h 6 6 (nI pl)) 6 7 (nI c)) 7 3 (h 21 i)) 6 8 (nI (aAct (sg pl).toInt w v))) 6 5 0)) (ty := .int) (v := 0) dX4_takeUp_260 lk_X4_101 yv_X4_give rfl rfl rfl (Nat.le_of_ble_eq_true rfl) sh_6 ci_X4 (Nat.le_of_ble_eq_true rfl) ⟨Nat.le_of_ble_eq_true rfl, Nat.le_of_ble_eq_true rfl⟩ (k_X_give l (hs (hs (hs h 6 6 (nI pl)) 6 7 (nI c)) 7 3 (h 21 i)) (nI (aAct (sg pl).toInt w v))) ?_
        refine e_ret dX4_takeUp_263 rfl ?_
        have e : aTop sg ln sz r v pl x k (w + 1) P K n g u q = .inl (false, 0, aAct (sg pl).toInt w v, 0, P, K, n, g, u, q) := by unfold aTop; rw [if_neg (by omega), if_neg (by omega), if_neg (by omega), if_neg (by omega), if_neg (by omega)]; rfl
        rw [e] at hR
        exact hR _ _ ⟨rfl, (((((KP.refl h).hs (by omega)).hs (by omega)).hs (by omega)).hs (by omega)).hs (by omega), made, cm, nd, KS, h4, rfl, fun z => (by cases z), fun _ => rfl, h9, h12, h13, ⟨h10, h11, h14, h15, h19⟩, hm, hcm, chn_same (h := h) (h' := (hs (hs (hs (hs (hs h 6 6 (nI pl)) 6 7 (nI c)) 7 3 (h 21 i)) 6 8 (nI (aAct (sg pl).toInt w v))) 6 5 0)) rfl rfl rfl rfl rfl hch2, hKS, fun j nj L z1 z2 => (hseg j nj L z1 z2).imp (fun _ z => z.imp (fun _ z => chn_same (h := h) (h' := (hs (hs (hs (hs (hs h 6 6 (nI pl)) 6 7 (nI c)) 7 3 (h 21 i)) 6 8 (nI (aAct (sg pl).toInt w v))) 6 5 0)) rfl rfl rfl rfl rfl z)), hnd2, hlt2, hmd, hcc⟩
      · intro e_75_f c_75_f
        exfalso; omega
  · intro e_10_f c_10_f
    exfalso; omega
