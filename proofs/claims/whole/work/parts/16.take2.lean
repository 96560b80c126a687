/-! The class's turns: back, going on, asking. -/
theorem ent_lt (h : mH) {m j : Nat} (p a b c : Int32) (hj : j < m) : entH h m p a b c 22 j = h 22 j ∧ entH h m p a b c 23 j = h 23 j ∧ entH h m p a b c 24 j = h 24 j := by
  refine ⟨?_, ?_, ?_⟩
  · show hs h 22 m a 22 j = _
    exact hs_ne _ _ (by omega)
  · show hs (hs h 22 m a) 23 m b 23 j = _
    exact hs_ne _ _ (by omega)
  · show hs (hs (hs h 22 m a) 23 m b) 24 m c 24 j = _
    exact hs_ne _ _ (by omega)
theorem ent_at (h : mH) (m : Nat) (p a b c : Int32) : entH h m p a b c 22 m = a ∧ entH h m p a b c 23 m = b ∧ entH h m p a b c 24 m = c := by
  refine ⟨?_, ?_, ?_⟩
  · show hs h 22 m a 22 m = _
    exact hs_at _ _ _ _
  · show hs (hs h 22 m a) 23 m b 23 m = _
    exact hs_at _ _ _ _
  · show hs (hs (hs h 22 m a) 23 m b) 24 m c 24 m = _
    exact hs_at _ _ _ _
theorem nodup_mem : ∀ {KS : List (List Nat)} {nk : List Nat}, KS.flatten.Nodup → nk ∈ KS → nk.Nodup
  | [], _, _, h => by cases h
  | a :: KS, nk, hn, h => by
    rw [List.flatten_cons, List.nodup_append] at hn
    rcases List.mem_cons.mp h with rfl | h
    · exact hn.1
    · exact nodup_mem hn.2.1 h
theorem nI_page (a : Nat) : nI a * 40 = nI (40 * a) := by rw [nI_mulc, Nat.mul_comm]
set_option maxHeartbeats 4000000 in
theorem t_take_back1 (l : Launch) {sg : Nat → Int32} {ln sz : Nat → Nat} {r : List Nat} {rc rr : Nat} (hB : aWB sg ln sz) (h : mH) (hC : CB sg ln sz h) {v pl x k w : Nat} {P : List aF} {K : List (List aF)} {n g u : Nat} {q : List Nat} (hJ : aJ sg sz r (false, 0, v, 0, (pl, x, k, w) :: P, K, n, g, u, q)) (hRC : RC rc h (false, 0, v, 0, (pl, x, k, w) :: P, K, n, g, u, q)) (h64 : (sg pl).toInt = 64) (hz : 0 < sz (4 + 4 * aHd sg pl + 3)) : mG l Sh0 iX4_takeUp [.inr 6] h (fun v' h' => v' = none ∧ KP h h' ∧ RO rc h' (aTop sg ln sz r v pl x k w P K n g u q)) := by
  obtain ⟨made, cm, nd, KS, h4, h5, hb, hb2, h9, h12, h13, ⟨h10, h11, h14, h15, h19⟩, hm, hcm, hch, hKS, hseg, hnd, hlt, hmd, hcc⟩ := hRC
  obtain ⟨jx, jb, jP, jK, jn, jg, ju, jq, jc, gs, g1, g2, g3, g4⟩ := hJ
  obtain ⟨i, nd, rfl⟩ : ∃ (i : Nat) (nd' : List Nat), nd = i :: nd' := by
    cases nd with
    | nil => exact hch.elim
    | cons i nd => exact ⟨i, nd, rfl⟩
  obtain ⟨h73, ⟨c, hc, hmk, har, hck⟩, hch2⟩ := hch
  dsimp only at hmk har hck
  have h68 : h 6 8 = nI v := hb2 rfl
  have hi : i < made := hlt i List.mem_cons_self
  have hM : made ≤ 8200 := by omega
  have hcc : cm + 1 ≤ n + 1 := hcc
  have hcc2 : cm ≤ 200 := by omega
  obtain ⟨f1, f2, f3, f4, f5, f6, f7⟩ := jP (pl, x, k, w) List.mem_cons_self
  dsimp only at f1 f2 f3 f4 f5 f6 f7
  have hp8 : pl < 800 := f1.1
  have hsg : h 13 pl = sg pl := hC.1 pl hp8
  have hB9 := hB.2 pl f1
  have hnd1 : i ∉ nd ++ KS.flatten := (List.nodup_cons.mp (by simpa using hnd)).1
  have hnd2 : (nd ++ KS.flatten).Nodup := (List.nodup_cons.mp (by simpa using hnd)).2
  have hlt2 : ∀ j ∈ nd ++ KS.flatten, j < made := fun j hj => hlt j (by rw [List.cons_append]; exact List.mem_cons_of_mem _ hj)
  have h9b := hB9.2.2.2.2.2.2.2.2.1 h64
  have hh : aHd sg pl < 4 := by unfold aHd; omega
  have hsz : h 15 (4 + 4 * aHd sg pl + 3) = nI (sz (4 + 4 * aHd sg pl + 3)) := hC.2.1 _ (by omega)
  have hsz2 := hB.1 (4 + 4 * aHd sg pl + 3) (by omega)
  have h1 : aOf (sg pl).toInt = 1 := by rw [h64]; exact aOf_64
  intro RT hR
  show mE l Sh0 none iX4_takeUp RT 0 [some (.inr 6), none, none] [] h
  refine e_aload_n (i := 0) dX4_takeUp_0 rfl rfl ?_
  refine e_getR (r := 7) dX4_takeUp_1 fl_X4_12 sh_6 fj_6_1 ?_
  refine e_getI (x := nI i) dX4_takeUp_4 fl_X4_115 sh_7 fj_7_3 h73 ?_
  refine e_istore_n (i := 1) (ls2 := [some (.inr 6), some (.inl (nI i)), none]) dX4_takeUp_7 rfl (Nat.le_of_ble_eq_true rfl) rfl ?_
  refine e_iload_n (i := 1) dX4_takeUp_8 rfl rfl ?_
  refine e_iconst (v := (-1)) dX4_takeUp_9 (by decide) ?_
  refine b_icmp_ne (X := ((i : Nat) : Int)) (Y := (-1)) (tgt := 22) (nI_toInt (by omega)) (by decide) dX4_takeUp_10 (by decide) ?_ ?_
  · intro e_10_t c_10_t
    refine e_aload_n (i := 0) dX4_takeUp_22 rfl rfl ?_
    refine e_aload_n (i := 0) dX4_takeUp_23 rfl rfl ?_
    refine e_getR (r := 7) dX4_takeUp_24 fl_X4_12 sh_6 fj_6_1 ?_
    refine e_iload_n (i := 1) dX4_takeUp_27 rfl rfl ?_
    refine e_invVi (As := [.inl (nI i)]) (v := nI pl) (h2 := h) dX4_takeUp_28 lk_X4_118 yv_X5_place rfl rfl rfl (Nat.le_of_ble_eq_true rfl) sh_7 ci_X5 (Nat.le_of_ble_eq_true rfl) ⟨Nat.le_of_ble_eq_true rfl, Nat.le_of_ble_eq_true rfl⟩ (k_T_placeX l h i made hm hi hM hmk hp8 (by omega) (by omega)) ?_
    refine e_putI dX4_takeUp_31 fl_X4_86 fp_X4_6 sh_6 fj_6_6 ?_
    refine e_aload_n (i := 0) dX4_takeUp_34 rfl rfl ?_
    refine e_aload_n (i := 0) dX4_takeUp_35 rfl rfl ?_
    refine e_getR (r := 7) dX4_takeUp_36 fl_X4_12 sh_6 fj_6_1 ?_
    refine e_iload_n (i := 1) dX4_takeUp_39 rfl rfl ?_
    refine e_invVi (As := [.inl (nI i)]) (v := nI c) (h2 := (hs h 6 6 (nI pl))) dX4_takeUp_40 lk_X4_120 yv_X5_call rfl rfl rfl (Nat.le_of_ble_eq_true rfl) sh_7 ci_X5 (Nat.le_of_ble_eq_true rfl) ⟨Nat.le_of_ble_eq_true rfl, Nat.le_of_ble_eq_true rfl⟩ (k_T_callX l (hs h 6 6 (nI pl)) i made hm hi hM hmk hp8 (by omega) (by omega)) ?_
    refine e_putI dX4_takeUp_43 fl_X4_83 fp_X4_7 sh_6 fj_6_7 ?_
    refine e_aload_n (i := 0) dX4_takeUp_46 rfl rfl ?_
    refine e_getR (r := 2) dX4_takeUp_47 fl_X4_29 sh_6 fj_6_0 ?_
    refine e_aload_n (i := 0) dX4_takeUp_50 rfl rfl ?_
    refine e_getI (x := nI pl) dX4_takeUp_51 fl_X4_86 sh_6 fj_6_6 rfl ?_
    refine e_invVi (As := [.inl (nI pl)]) (v := sg pl) (h2 := (hs (hs h 6 6 (nI pl)) 6 7 (nI c))) dX4_takeUp_54 lk_X4_92 yv_X0_sign rfl rfl rfl (Nat.le_of_ble_eq_true rfl) sh_2 ci_X0 (Nat.le_of_ble_eq_true rfl) ⟨Nat.le_of_ble_eq_true rfl, Nat.le_of_ble_eq_true rfl⟩ (k_B_signX l (hs (hs h 6 6 (nI pl)) 6 7 (nI c)) pl hp8 hsg) ?_
    refine e_istore_n (i := 2) (ls2 := [some (.inr 6), some (.inl (nI i)), some (.inl (sg pl))]) dX4_takeUp_57 rfl (Nat.le_of_ble_eq_true rfl) rfl ?_
    refine e_iload_n (i := 2) dX4_takeUp_58 rfl rfl ?_
    refine e_invSi (As := [.inl (sg pl)]) (v := aI (sg pl).toInt) (h2 := (hs (hs h 6 6 (nI pl)) 6 7 (nI c))) dX4_takeUp_59 lk_X4_105 ys_X7_textsOf rfl rfl rfl (Nat.le_of_ble_eq_true rfl) (Nat.le_of_ble_eq_true rfl) ⟨Nat.le_of_ble_eq_true rfl, Nat.le_of_ble_eq_true rfl⟩ (k_textsOf l (hs (hs h 6 6 (nI pl)) 6 7 (nI c)) (sg pl)) ?_
    refine e_iconst (v := 2) dX4_takeUp_62 (by decide) ?_
    refine b_icmp_ne (X := aOf (sg pl).toInt) (Y := 2) (tgt := 118) (aI_toInt _) (by decide) dX4_takeUp_63 (by decide) ?_ ?_
    · intro e_63_t c_63_t
      refine e_aload_n (i := 0) dX4_takeUp_118 rfl rfl ?_
      refine e_getR (r := 7) dX4_takeUp_119 fl_X4_12 sh_6 fj_6_1 ?_
      refine e_aload_n (i := 0) dX4_takeUp_122 rfl rfl ?_
      refine e_getR (r := 7) dX4_takeUp_123 fl_X4_12 sh_6 fj_6_1 ?_
      refine e_iload_n (i := 1) dX4_takeUp_126 rfl rfl ?_
      refine e_invVi (As := [.inl (nI i)]) (v := h 21 i) (h2 := (hs (hs h 6 6 (nI pl)) 6 7 (nI c))) dX4_takeUp_127 lk_X4_132 yv_X5_below rfl rfl rfl (Nat.le_of_ble_eq_true rfl) sh_7 ci_X5 (Nat.le_of_ble_eq_true rfl) ⟨Nat.le_of_ble_eq_true rfl, Nat.le_of_ble_eq_true rfl⟩ (k_T_belowX l (hs (hs h 6 6 (nI pl)) 6 7 (nI c)) i made hm hi hM rfl) ?_
      refine e_putI dX4_takeUp_130 fl_X4_115 fp_X5_3 sh_7 fj_7_3 ?_
      refine e_iload_n (i := 2) dX4_takeUp_133 rfl rfl ?_
      by_cases sk_134_63 : sg pl = 63
      · have skt_134_63 : (sg pl).toInt = 63 := by rw [sk_134_63]; decide
        exfalso; omega
      have skf_134_63 : ¬ (sg pl).toInt = 63 := fun z => sk_134_63 (Int32.toInt_inj.mp (by rw [z]; decide))
      by_cases sk_134_64 : sg pl = 64
      · have skt_134_64 : (sg pl).toInt = 64 := by rw [sk_134_64]; decide
        refine e_lookup (off := 65) (tgt := 199) dX4_takeUp_134 (by decide) (by rw [sk_134_64]; decide) (by decide) ?_
        refine e_aload_n (i := 0) dX4_takeUp_199 rfl rfl ?_
        refine e_aload_n (i := 0) dX4_takeUp_200 rfl rfl ?_
        refine e_getR (r := 2) dX4_takeUp_201 fl_X4_29 sh_6 fj_6_0 ?_
        refine e_aload_n (i := 0) dX4_takeUp_204 rfl rfl ?_
        refine e_getI (x := nI pl) dX4_takeUp_205 fl_X4_86 sh_6 fj_6_6 rfl ?_
        refine e_invVi (As := [.inl (nI pl)]) (v := nI (aHd sg pl)) (h2 := (hs (hs (hs h 6 6 (nI pl)) 6 7 (nI c)) 7 3 (h 21 i))) dX4_takeUp_208 lk_X4_138 yv_X0_hand rfl rfl rfl (Nat.le_of_ble_eq_true rfl) sh_2 ci_X0 (Nat.le_of_ble_eq_true rfl) ⟨Nat.le_of_ble_eq_true rfl, Nat.le_of_ble_eq_true rfl⟩ (k_B_handX l (hs (hs (hs h 6 6 (nI pl)) 6 7 (nI c)) 7 3 (h 21 i)) sg pl h9b.2.2 hsg (hC.1 _ h9b.2.2) h64 h9b.1) ?_
        refine e_invVv (As := [.inl (nI (aHd sg pl))]) (h2 := (entH (hs (hs (hs h 6 6 (nI pl)) 6 7 (nI c)) 7 3 (h 21 i)) cm (nI (4 + 4 * aHd sg pl + 3)) (nI v) (-1) (-1))) (ty := .int) (v := 0) dX4_takeUp_211 lk_X4_141 yv_X4_comeBack rfl rfl rfl (Nat.le_of_ble_eq_true rfl) sh_6 ci_X4 (Nat.le_of_ble_eq_true rfl) ⟨Nat.le_of_ble_eq_true rfl, Nat.le_of_ble_eq_true rfl⟩ (k_X_back1 l (hs (hs (hs h 6 6 (nI pl)) 6 7 (nI c)) 7 3 (h 21 i)) (aHd sg pl) v _ cm hh h68 hsz hsz2 hcm (by omega) hz) ?_
        refine e_goto (tgt := 263) dX4_takeUp_214 (by decide) ?_
        refine e_ret dX4_takeUp_263 rfl ?_
        have e : aTop sg ln sz r v pl x k w P K n g u q = .inl (true, 40 * (4 + 4 * aHd sg pl + 3), v, 0, P, K, n, g, u, q) := by unfold aTop; rw [if_neg (by omega), if_neg (by omega), if_pos h64, if_pos hz]
        rw [e] at hR
        have hext : ∀ {nd : List Nat} {P : List aF} {t e : Int32}, chn h KS cm nd P t e → chn (entH (hs (hs (hs h 6 6 (nI pl)) 6 7 (nI c)) 7 3 (h 21 i)) cm (nI (4 + 4 * aHd sg pl + 3)) (nI v) (-1) (-1)) KS (cm + 1) nd P t e := by
          intro nd P t e hq
          have z := chn_ext (h := h) (h' := (entH (hs (hs (hs h 6 6 (nI pl)) 6 7 (nI c)) 7 3 (h 21 i)) cm (nI (4 + 4 * aHd sg pl + 3)) (nI v) (-1) (-1))) (Z := []) (Nat.le_succ cm) (fun c hc => ent_lt (hs (hs (hs h 6 6 (nI pl)) 6 7 (nI c)) 7 3 (h 21 i)) _ _ _ _ hc) (fun j hj => ⟨rfl, rfl⟩) hq
          rwa [List.append_nil] at z
        exact hR _ _ ⟨rfl, ((((KP.refl h).hs (by omega)).hs (by omega)).hs (by omega)).ent, made, cm + 1, nd, KS, h4, rfl, fun _ => ⟨nI_page _, cm, rfl, Nat.lt_succ_self _, (ent_at (hs (hs (hs h 6 6 (nI pl)) 6 7 (nI c)) 7 3 (h 21 i)) cm _ _ _ _).1, Or.inl rfl⟩, fun z => (by cases z), h9, h12, h13, ⟨h10, h11, h14, h15, h19⟩, hm, rfl, hext hch2, hKS, fun j nj L z1 z2 => (hseg j nj L z1 z2).imp (fun _ z => z.imp (fun _ z => hext z)), hnd2, hlt2, hmd, by show cm + 1 + 0 ≤ n + 1; omega⟩
      have skf_134_64 : ¬ (sg pl).toInt = 64 := fun z => sk_134_64 (Int32.toInt_inj.mp (by rw [z]; decide))
      by_cases sk_134_107 : sg pl = 107
      · have skt_134_107 : (sg pl).toInt = 107 := by rw [sk_134_107]; decide
        exfalso; omega
      have skf_134_107 : ¬ (sg pl).toInt = 107 := fun z => sk_134_107 (Int32.toInt_inj.mp (by rw [z]; decide))
      by_cases sk_134_112 : sg pl = 112
      · have skt_134_112 : (sg pl).toInt = 112 := by rw [sk_134_112]; decide
        exfalso; omega
      have skf_134_112 : ¬ (sg pl).toInt = 112 := fun z => sk_134_112 (Int32.toInt_inj.mp (by rw [z]; decide))
      by_cases sk_134_113 : sg pl = 113
      · have skt_134_113 : (sg pl).toInt = 113 := by rw [sk_134_113]; decide
        exfalso; omega
      have skf_134_113 : ¬ (sg pl).toInt = 113 := fun z => sk_134_113 (Int32.toInt_inj.mp (by rw [z]; decide))
      by_cases sk_134_114 : sg pl = 114
      · have skt_134_114 : (sg pl).toInt = 114 := by rw [sk_134_114]; decide
        exfalso; omega
      have skf_134_114 : ¬ (sg pl).toInt = 114 := fun z => sk_134_114 (Int32.toInt_inj.mp (by rw [z]; decide))
      exfalso; omega
    · intro e_63_f c_63_f
      exfalso; omega
  · intro e_10_f c_10_f
    exfalso; omega
set_option maxHeartbeats 4000000 in
theorem t_take_back0 (l : Launch) {sg : Nat → Int32} {ln sz : Nat → Nat} {r : List Nat} {rc rr : Nat} (hB : aWB sg ln sz) (h : mH) (hC : CB sg ln sz h) {v pl x k w : Nat} {P : List aF} {K : List (List aF)} {n g u : Nat} {q : List Nat} (hJ : aJ sg sz r (false, 0, v, 0, (pl, x, k, w) :: P, K, n, g, u, q)) (hRC : RC rc h (false, 0, v, 0, (pl, x, k, w) :: P, K, n, g, u, q)) (h64 : (sg pl).toInt = 64) (hz : sz (4 + 4 * aHd sg pl + 3) = 0) : mG l Sh0 iX4_takeUp [.inr 6] h (fun v' h' => v' = none ∧ KP h h' ∧ RO rc h' (aTop sg ln sz r v pl x k w P K n g u q)) := by
  obtain ⟨made, cm, nd, KS, h4, h5, hb, hb2, h9, h12, h13, ⟨h10, h11, h14, h15, h19⟩, hm, hcm, hch, hKS, hseg, hnd, hlt, hmd, hcc⟩ := hRC
  obtain ⟨jx, jb, jP, jK, jn, jg, ju, jq, jc, gs, g1, g2, g3, g4⟩ := hJ
  obtain ⟨i, nd, rfl⟩ : ∃ (i : Nat) (nd' : List Nat), nd = i :: nd' := by
    cases nd with
    | nil => exact hch.elim
    | cons i nd => exact ⟨i, nd, rfl⟩
  obtain ⟨h73, ⟨c, hc, hmk, har, hck⟩, hch2⟩ := hch
  dsimp only at hmk har hck
  have h68 : h 6 8 = nI v := hb2 rfl
  have hi : i < made := hlt i List.mem_cons_self
  have hM : made ≤ 8200 := by omega
  have hcc : cm + 1 ≤ n + 1 := hcc
  have hcc2 : cm ≤ 200 := by omega
  obtain ⟨f1, f2, f3, f4, f5, f6, f7⟩ := jP (pl, x, k, w) List.mem_cons_self
  dsimp only at f1 f2 f3 f4 f5 f6 f7
  have hp8 : pl < 800 := f1.1
  have hsg : h 13 pl = sg pl := hC.1 pl hp8
  have hB9 := hB.2 pl f1
  have hnd1 : i ∉ nd ++ KS.flatten := (List.nodup_cons.mp (by simpa using hnd)).1
  have hnd2 : (nd ++ KS.flatten).Nodup := (List.nodup_cons.mp (by simpa using hnd)).2
  have hlt2 : ∀ j ∈ nd ++ KS.flatten, j < made := fun j hj => hlt j (by rw [List.cons_append]; exact List.mem_cons_of_mem _ hj)
  have h9b := hB9.2.2.2.2.2.2.2.2.1 h64
  have hh : aHd sg pl < 4 := by unfold aHd; omega
  have hsz : h 15 (4 + 4 * aHd sg pl + 3) = nI (sz (4 + 4 * aHd sg pl + 3)) := hC.2.1 _ (by omega)
  have hsz2 := hB.1 (4 + 4 * aHd sg pl + 3) (by omega)
  have h1 : aOf (sg pl).toInt = 1 := by rw [h64]; exact aOf_64
  intro RT hR
  show mE l Sh0 none iX4_takeUp RT 0 [some (.inr 6), none, none] [] h
  refine e_aload_n (i := 0) dX4_takeUp_0 rfl rfl ?_
  refine e_getR (r := 7) dX4_takeUp_1 fl_X4_12 sh_6 fj_6_1 ?_
  refine e_getI (x := nI i) dX4_takeUp_4 fl_X4_115 sh_7 fj_7_3 h73 ?_
  refine e_istore_n (i := 1) (ls2 := [some (.inr 6), some (.inl (nI i)), none]) dX4_takeUp_7 rfl (Nat.le_of_ble_eq_true rfl) rfl ?_
  refine e_iload_n (i := 1) dX4_takeUp_8 rfl rfl ?_
  refine e_iconst (v := (-1)) dX4_takeUp_9 (by decide) ?_
  refine b_icmp_ne (X := ((i : Nat) : Int)) (Y := (-1)) (tgt := 22) (nI_toInt (by omega)) (by decide) dX4_takeUp_10 (by decide) ?_ ?_
  · intro e_10_t c_10_t
    refine e_aload_n (i := 0) dX4_takeUp_22 rfl rfl ?_
    refine e_aload_n (i := 0) dX4_takeUp_23 rfl rfl ?_
    refine e_getR (r := 7) dX4_takeUp_24 fl_X4_12 sh_6 fj_6_1 ?_
    refine e_iload_n (i := 1) dX4_takeUp_27 rfl rfl ?_
    refine e_invVi (As := [.inl (nI i)]) (v := nI pl) (h2 := h) dX4_takeUp_28 lk_X4_118 yv_X5_place rfl rfl rfl (Nat.le_of_ble_eq_true rfl) sh_7 ci_X5 (Nat.le_of_ble_eq_true rfl) ⟨Nat.le_of_ble_eq_true rfl, Nat.le_of_ble_eq_true rfl⟩ (k_T_placeX l h i made hm hi hM hmk hp8 (by omega) (by omega)) ?_
    refine e_putI dX4_takeUp_31 fl_X4_86 fp_X4_6 sh_6 fj_6_6 ?_
    refine e_aload_n (i := 0) dX4_takeUp_34 rfl rfl ?_
    refine e_aload_n (i := 0) dX4_takeUp_35 rfl rfl ?_
    refine e_getR (r := 7) dX4_takeUp_36 fl_X4_12 sh_6 fj_6_1 ?_
    refine e_iload_n (i := 1) dX4_takeUp_39 rfl rfl ?_
    refine e_invVi (As := [.inl (nI i)]) (v := nI c) (h2 := (hs h 6 6 (nI pl))) dX4_takeUp_40 lk_X4_120 yv_X5_call rfl rfl rfl (Nat.le_of_ble_eq_true rfl) sh_7 ci_X5 (Nat.le_of_ble_eq_true rfl) ⟨Nat.le_of_ble_eq_true rfl, Nat.le_of_ble_eq_true rfl⟩ (k_T_callX l (hs h 6 6 (nI pl)) i made hm hi hM hmk hp8 (by omega) (by omega)) ?_
    refine e_putI dX4_takeUp_43 fl_X4_83 fp_X4_7 sh_6 fj_6_7 ?_
    refine e_aload_n (i := 0) dX4_takeUp_46 rfl rfl ?_
    refine e_getR (r := 2) dX4_takeUp_47 fl_X4_29 sh_6 fj_6_0 ?_
    refine e_aload_n (i := 0) dX4_takeUp_50 rfl rfl ?_
    refine e_getI (x := nI pl) dX4_takeUp_51 fl_X4_86 sh_6 fj_6_6 rfl ?_
    refine e_invVi (As := [.inl (nI pl)]) (v := sg pl) (h2 := (hs (hs h 6 6 (nI pl)) 6 7 (nI c))) dX4_takeUp_54 lk_X4_92 yv_X0_sign rfl rfl rfl (Nat.le_of_ble_eq_true rfl) sh_2 ci_X0 (Nat.le_of_ble_eq_true rfl) ⟨Nat.le_of_ble_eq_true rfl, Nat.le_of_ble_eq_true rfl⟩ (k_B_signX l (hs (hs h 6 6 (nI pl)) 6 7 (nI c)) pl hp8 hsg) ?_
    refine e_istore_n (i := 2) (ls2 := [some (.inr 6), some (.inl (nI i)), some (.inl (sg pl))]) dX4_takeUp_57 rfl (Nat.le_of_ble_eq_true rfl) rfl ?_
    refine e_iload_n (i := 2) dX4_takeUp_58 rfl rfl ?_
    refine e_invSi (As := [.inl (sg pl)]) (v := aI (sg pl).toInt) (h2 := (hs (hs h 6 6 (nI pl)) 6 7 (nI c))) dX4_takeUp_59 lk_X4_105 ys_X7_textsOf rfl rfl rfl (Nat.le_of_ble_eq_true rfl) (Nat.le_of_ble_eq_true rfl) ⟨Nat.le_of_ble_eq_true rfl, Nat.le_of_ble_eq_true rfl⟩ (k_textsOf l (hs (hs h 6 6 (nI pl)) 6 7 (nI c)) (sg pl)) ?_
    refine e_iconst (v := 2) dX4_takeUp_62 (by decide) ?_
    refine b_icmp_ne (X := aOf (sg pl).toInt) (Y := 2) (tgt := 118) (aI_toInt _) (by decide) dX4_takeUp_63 (by decide) ?_ ?_
    · intro e_63_t c_63_t
      refine e_aload_n (i := 0) dX4_takeUp_118 rfl rfl ?_
      refine e_getR (r := 7) dX4_takeUp_119 fl_X4_12 sh_6 fj_6_1 ?_
      refine e_aload_n (i := 0) dX4_takeUp_122 rfl rfl ?_
      refine e_getR (r := 7) dX4_takeUp_123 fl_X4_12 sh_6 fj_6_1 ?_
      refine e_iload_n (i := 1) dX4_takeUp_126 rfl rfl ?_
      refine e_invVi (As := [.inl (nI i)]) (v := h 21 i) (h2 := (hs (hs h 6 6 (nI pl)) 6 7 (nI c))) dX4_takeUp_127 lk_X4_132 yv_X5_below rfl rfl rfl (Nat.le_of_ble_eq_true rfl) sh_7 ci_X5 (Nat.le_of_ble_eq_true rfl) ⟨Nat.le_of_ble_eq_true rfl, Nat.le_of_ble_eq_true rfl⟩ (k_T_belowX l (hs (hs h 6 6 (nI pl)) 6 7 (nI c)) i made hm hi hM rfl) ?_
      refine e_putI dX4_takeUp_130 fl_X4_115 fp_X5_3 sh_7 fj_7_3 ?_
      refine e_iload_n (i := 2) dX4_takeUp_133 rfl rfl ?_
      by_cases sk_134_63 : sg pl = 63
      · have skt_134_63 : (sg pl).toInt = 63 := by rw [sk_134_63]; decide
        exfalso; omega
      have skf_134_63 : ¬ (sg pl).toInt = 63 := fun z => sk_134_63 (Int32.toInt_inj.mp (by rw [z]; decide))
      by_cases sk_134_64 : sg pl = 64
      · have skt_134_64 : (sg pl).toInt = 64 := by rw [sk_134_64]; decide
        refine e_lookup (off := 65) (tgt := 199) dX4_takeUp_134 (by decide) (by rw [sk_134_64]; decide) (by decide) ?_
        refine e_aload_n (i := 0) dX4_takeUp_199 rfl rfl ?_
        refine e_aload_n (i := 0) dX4_takeUp_200 rfl rfl ?_
        refine e_getR (r := 2) dX4_takeUp_201 fl_X4_29 sh_6 fj_6_0 ?_
        refine e_aload_n (i := 0) dX4_takeUp_204 rfl rfl ?_
        refine e_getI (x := nI pl) dX4_takeUp_205 fl_X4_86 sh_6 fj_6_6 rfl ?_
        refine e_invVi (As := [.inl (nI pl)]) (v := nI (aHd sg pl)) (h2 := (hs (hs (hs h 6 6 (nI pl)) 6 7 (nI c)) 7 3 (h 21 i))) dX4_takeUp_208 lk_X4_138 yv_X0_hand rfl rfl rfl (Nat.le_of_ble_eq_true rfl) sh_2 ci_X0 (Nat.le_of_ble_eq_true rfl) ⟨Nat.le_of_ble_eq_true rfl, Nat.le_of_ble_eq_true rfl⟩ (k_B_handX l (hs (hs (hs h 6 6 (nI pl)) 6 7 (nI c)) 7 3 (h 21 i)) sg pl h9b.2.2 hsg (hC.1 _ h9b.2.2) h64 h9b.1) ?_
        refine e_invVv (As := [.inl (nI (aHd sg pl))]) (h2 := (hs (hs (hs h 6 6 (nI pl)) 6 7 (nI c)) 7 3 (h 21 i))) (ty := .int) (v := 0) dX4_takeUp_211 lk_X4_141 yv_X4_comeBack rfl rfl rfl (Nat.le_of_ble_eq_true rfl) sh_6 ci_X4 (Nat.le_of_ble_eq_true rfl) ⟨Nat.le_of_ble_eq_true rfl, Nat.le_of_ble_eq_true rfl⟩ (k_X_back0 l (hs (hs (hs h 6 6 (nI pl)) 6 7 (nI c)) 7 3 (h 21 i)) (aHd sg pl) v _ cm hh h68 hsz hsz2 hz) ?_
        refine e_goto (tgt := 263) dX4_takeUp_214 (by decide) ?_
        refine e_ret dX4_takeUp_263 rfl ?_
        have e : aTop sg ln sz r v pl x k w P K n g u q = .inl (false, 0, v, 0, P, K, n, g, u, q) := by unfold aTop; rw [if_neg (by omega), if_neg (by omega), if_pos h64, if_neg (by omega)]
        rw [e] at hR
        exact hR _ _ ⟨rfl, (((KP.refl h).hs (by omega)).hs (by omega)).hs (by omega), made, cm, nd, KS, h4, h5, fun z => (by cases z), fun _ => h68, h9, h12, h13, ⟨h10, h11, h14, h15, h19⟩, hm, hcm, chn_same (h := h) (h' := (hs (hs (hs h 6 6 (nI pl)) 6 7 (nI c)) 7 3 (h 21 i))) rfl rfl rfl rfl rfl hch2, hKS, fun j nj L z1 z2 => (hseg j nj L z1 z2).imp (fun _ z => z.imp (fun _ z => chn_same (h := h) (h' := (hs (hs (hs h 6 6 (nI pl)) 6 7 (nI c)) 7 3 (h 21 i))) rfl rfl rfl rfl rfl z)), hnd2, hlt2, hmd, hcc⟩
      have skf_134_64 : ¬ (sg pl).toInt = 64 := fun z => sk_134_64 (Int32.toInt_inj.mp (by rw [z]; decide))
      by_cases sk_134_107 : sg pl = 107
      · have skt_134_107 : (sg pl).toInt = 107 := by rw [sk_134_107]; decide
        exfalso; omega
      have skf_134_107 : ¬ (sg pl).toInt = 107 := fun z => sk_134_107 (Int32.toInt_inj.mp (by rw [z]; decide))
      by_cases sk_134_112 : sg pl = 112
      · have skt_134_112 : (sg pl).toInt = 112 := by rw [sk_134_112]; decide
        exfalso; omega
      have skf_134_112 : ¬ (sg pl).toInt = 112 := fun z => sk_134_112 (Int32.toInt_inj.mp (by rw [z]; decide))
      by_cases sk_134_113 : sg pl = 113
      · have skt_134_113 : (sg pl).toInt = 113 := by rw [sk_134_113]; decide
        exfalso; omega
      have skf_134_113 : ¬ (sg pl).toInt = 113 := fun z => sk_134_113 (Int32.toInt_inj.mp (by rw [z]; decide))
      by_cases sk_134_114 : sg pl = 114
      · have skt_134_114 : (sg pl).toInt = 114 := by rw [sk_134_114]; decide
        exfalso; omega
      have skf_134_114 : ¬ (sg pl).toInt = 114 := fun z => sk_134_114 (Int32.toInt_inj.mp (by rw [z]; decide))
      exfalso; omega
    · intro e_63_f c_63_f
      exfalso; omega
  · intro e_10_f c_10_f
    exfalso; omega
set_option maxHeartbeats 4000000 in
theorem t_take_go9 (l : Launch) {sg : Nat → Int32} {ln sz : Nat → Nat} {r : List Nat} {rc rr : Nat} (hB : aWB sg ln sz) (h : mH) (hC : CB sg ln sz h) {v pl x k w : Nat} {P : List aF} {K : List (List aF)} {n g u : Nat} {q : List Nat} (hJ : aJ sg sz r (false, 0, v, 0, (pl, x, k, w) :: P, K, n, g, u, q)) (hRC : RC rc h (false, 0, v, 0, (pl, x, k, w) :: P, K, n, g, u, q)) (h107 : (sg pl).toInt = 107) (hg : g = 40) : mG l Sh0 iX4_takeUp [.inr 6] h (fun v' h' => v' = none ∧ KP h h' ∧ RO rc h' (aTop sg ln sz r v pl x k w P K n g u q)) := by
  obtain ⟨made, cm, nd, KS, h4, h5, hb, hb2, h9, h12, h13, ⟨h10, h11, h14, h15, h19⟩, hm, hcm, hch, hKS, hseg, hnd, hlt, hmd, hcc⟩ := hRC
  obtain ⟨jx, jb, jP, jK, jn, jg, ju, jq, jc, gs, g1, g2, g3, g4⟩ := hJ
  obtain ⟨i, nd, rfl⟩ : ∃ (i : Nat) (nd' : List Nat), nd = i :: nd' := by
    cases nd with
    | nil => exact hch.elim
    | cons i nd => exact ⟨i, nd, rfl⟩
  obtain ⟨h73, ⟨c, hc, hmk, har, hck⟩, hch2⟩ := hch
  dsimp only at hmk har hck
  have h68 : h 6 8 = nI v := hb2 rfl
  have hi : i < made := hlt i List.mem_cons_self
  have hM : made ≤ 8200 := by omega
  have hcc : cm + 1 ≤ n + 1 := hcc
  have hcc2 : cm ≤ 200 := by omega
  obtain ⟨f1, f2, f3, f4, f5, f6, f7⟩ := jP (pl, x, k, w) List.mem_cons_self
  dsimp only at f1 f2 f3 f4 f5 f6 f7
  have hp8 : pl < 800 := f1.1
  have hsg : h 13 pl = sg pl := hC.1 pl hp8
  have hB9 := hB.2 pl f1
  have hnd1 : i ∉ nd ++ KS.flatten := (List.nodup_cons.mp (by simpa using hnd)).1
  have hnd2 : (nd ++ KS.flatten).Nodup := (List.nodup_cons.mp (by simpa using hnd)).2
  have hlt2 : ∀ j ∈ nd ++ KS.flatten, j < made := fun j hj => hlt j (by rw [List.cons_append]; exact List.mem_cons_of_mem _ hj)
  have h1 : aOf (sg pl).toInt = 1 := by rw [h107]; exact aOf_107
  intro RT hR
  show mE l Sh0 none iX4_takeUp RT 0 [some (.inr 6), none, none] [] h
  refine e_aload_n (i := 0) dX4_takeUp_0 rfl rfl ?_
  refine e_getR (r := 7) dX4_takeUp_1 fl_X4_12 sh_6 fj_6_1 ?_
  refine e_getI (x := nI i) dX4_takeUp_4 fl_X4_115 sh_7 fj_7_3 h73 ?_
  refine e_istore_n (i := 1) (ls2 := [some (.inr 6), some (.inl (nI i)), none]) dX4_takeUp_7 rfl (Nat.le_of_ble_eq_true rfl) rfl ?_
  refine e_iload_n (i := 1) dX4_takeUp_8 rfl rfl ?_
  refine e_iconst (v := (-1)) dX4_takeUp_9 (by decide) ?_
  refine b_icmp_ne (X := ((i : Nat) : Int)) (Y := (-1)) (tgt := 22) (nI_toInt (by omega)) (by decide) dX4_takeUp_10 (by decide) ?_ ?_
  · intro e_10_t c_10_t
    refine e_aload_n (i := 0) dX4_takeUp_22 rfl rfl ?_
    refine e_aload_n (i := 0) dX4_takeUp_23 rfl rfl ?_
    refine e_getR (r := 7) dX4_takeUp_24 fl_X4_12 sh_6 fj_6_1 ?_
    refine e_iload_n (i := 1) dX4_takeUp_27 rfl rfl ?_
    refine e_invVi (As := [.inl (nI i)]) (v := nI pl) (h2 := h) dX4_takeUp_28 lk_X4_118 yv_X5_place rfl rfl rfl (Nat.le_of_ble_eq_true rfl) sh_7 ci_X5 (Nat.le_of_ble_eq_true rfl) ⟨Nat.le_of_ble_eq_true rfl, Nat.le_of_ble_eq_true rfl⟩ (k_T_placeX l h i made hm hi hM hmk hp8 (by omega) (by omega)) ?_
    refine e_putI dX4_takeUp_31 fl_X4_86 fp_X4_6 sh_6 fj_6_6 ?_
    refine e_aload_n (i := 0) dX4_takeUp_34 rfl rfl ?_
    refine e_aload_n (i := 0) dX4_takeUp_35 rfl rfl ?_
    refine e_getR (r := 7) dX4_takeUp_36 fl_X4_12 sh_6 fj_6_1 ?_
    refine e_iload_n (i := 1) dX4_takeUp_39 rfl rfl ?_
    refine e_invVi (As := [.inl (nI i)]) (v := nI c) (h2 := (hs h 6 6 (nI pl))) dX4_takeUp_40 lk_X4_120 yv_X5_call rfl rfl rfl (Nat.le_of_ble_eq_true rfl) sh_7 ci_X5 (Nat.le_of_ble_eq_true rfl) ⟨Nat.le_of_ble_eq_true rfl, Nat.le_of_ble_eq_true rfl⟩ (k_T_callX l (hs h 6 6 (nI pl)) i made hm hi hM hmk hp8 (by omega) (by omega)) ?_
    refine e_putI dX4_takeUp_43 fl_X4_83 fp_X4_7 sh_6 fj_6_7 ?_
    refine e_aload_n (i := 0) dX4_takeUp_46 rfl rfl ?_
    refine e_getR (r := 2) dX4_takeUp_47 fl_X4_29 sh_6 fj_6_0 ?_
    refine e_aload_n (i := 0) dX4_takeUp_50 rfl rfl ?_
    refine e_getI (x := nI pl) dX4_takeUp_51 fl_X4_86 sh_6 fj_6_6 rfl ?_
    refine e_invVi (As := [.inl (nI pl)]) (v := sg pl) (h2 := (hs (hs h 6 6 (nI pl)) 6 7 (nI c))) dX4_takeUp_54 lk_X4_92 yv_X0_sign rfl rfl rfl (Nat.le_of_ble_eq_true rfl) sh_2 ci_X0 (Nat.le_of_ble_eq_true rfl) ⟨Nat.le_of_ble_eq_true rfl, Nat.le_of_ble_eq_true rfl⟩ (k_B_signX l (hs (hs h 6 6 (nI pl)) 6 7 (nI c)) pl hp8 hsg) ?_
    refine e_istore_n (i := 2) (ls2 := [some (.inr 6), some (.inl (nI i)), some (.inl (sg pl))]) dX4_takeUp_57 rfl (Nat.le_of_ble_eq_true rfl) rfl ?_
    refine e_iload_n (i := 2) dX4_takeUp_58 rfl rfl ?_
    refine e_invSi (As := [.inl (sg pl)]) (v := aI (sg pl).toInt) (h2 := (hs (hs h 6 6 (nI pl)) 6 7 (nI c))) dX4_takeUp_59 lk_X4_105 ys_X7_textsOf rfl rfl rfl (Nat.le_of_ble_eq_true rfl) (Nat.le_of_ble_eq_true rfl) ⟨Nat.le_of_ble_eq_true rfl, Nat.le_of_ble_eq_true rfl⟩ (k_textsOf l (hs (hs h 6 6 (nI pl)) 6 7 (nI c)) (sg pl)) ?_
    refine e_iconst (v := 2) dX4_takeUp_62 (by decide) ?_
    refine b_icmp_ne (X := aOf (sg pl).toInt) (Y := 2) (tgt := 118) (aI_toInt _) (by decide) dX4_takeUp_63 (by decide) ?_ ?_
    · intro e_63_t c_63_t
      refine e_aload_n (i := 0) dX4_takeUp_118 rfl rfl ?_
      refine e_getR (r := 7) dX4_takeUp_119 fl_X4_12 sh_6 fj_6_1 ?_
      refine e_aload_n (i := 0) dX4_takeUp_122 rfl rfl ?_
      refine e_getR (r := 7) dX4_takeUp_123 fl_X4_12 sh_6 fj_6_1 ?_
      refine e_iload_n (i := 1) dX4_takeUp_126 rfl rfl ?_
      refine e_invVi (As := [.inl (nI i)]) (v := h 21 i) (h2 := (hs (hs h 6 6 (nI pl)) 6 7 (nI c))) dX4_takeUp_127 lk_X4_132 yv_X5_below rfl rfl rfl (Nat.le_of_ble_eq_true rfl) sh_7 ci_X5 (Nat.le_of_ble_eq_true rfl) ⟨Nat.le_of_ble_eq_true rfl, Nat.le_of_ble_eq_true rfl⟩ (k_T_belowX l (hs (hs h 6 6 (nI pl)) 6 7 (nI c)) i made hm hi hM rfl) ?_
      refine e_putI dX4_takeUp_130 fl_X4_115 fp_X5_3 sh_7 fj_7_3 ?_
      refine e_iload_n (i := 2) dX4_takeUp_133 rfl rfl ?_
      by_cases sk_134_63 : sg pl = 63
      · have skt_134_63 : (sg pl).toInt = 63 := by rw [sk_134_63]; decide
        exfalso; omega
      have skf_134_63 : ¬ (sg pl).toInt = 63 := fun z => sk_134_63 (Int32.toInt_inj.mp (by rw [z]; decide))
      by_cases sk_134_64 : sg pl = 64
      · have skt_134_64 : (sg pl).toInt = 64 := by rw [sk_134_64]; decide
        exfalso; omega
      have skf_134_64 : ¬ (sg pl).toInt = 64 := fun z => sk_134_64 (Int32.toInt_inj.mp (by rw [z]; decide))
      by_cases sk_134_107 : sg pl = 107
      · have skt_134_107 : (sg pl).toInt = 107 := by rw [sk_134_107]; decide
        refine e_lookup (off := 83) (tgt := 217) dX4_takeUp_134 (by decide) (by rw [sk_134_107]; decide) (by decide) ?_
        refine e_aload_n (i := 0) dX4_takeUp_217 rfl rfl ?_
        refine e_invVv (As := []) (h2 := (hs (hs (hs (hs h 6 6 (nI pl)) 6 7 (nI c)) 7 3 (h 21 i)) 6 9 9)) (ty := .int) (v := 0) dX4_takeUp_218 lk_X4_144 yv_X4_goOn rfl rfl rfl (Nat.le_of_ble_eq_true rfl) sh_6 ci_X4 (Nat.le_of_ble_eq_true rfl) ⟨Nat.le_of_ble_eq_true rfl, Nat.le_of_ble_eq_true rfl⟩ (k_X_go9 l (hs (hs (hs h 6 6 (nI pl)) 6 7 (nI c)) 7 3 (h 21 i)) g h14 hg) ?_
        refine e_goto (tgt := 263) dX4_takeUp_221 (by decide) ?_
        refine e_ret dX4_takeUp_263 rfl ?_
        have e : aTop sg ln sz r v pl x k w P K n g u q = .inr (9, -6, -6, n, g, u, q) := by unfold aTop; rw [if_neg (by omega), if_neg (by omega), if_neg (by omega), if_pos h107, if_pos (by omega)]
        rw [e] at hR
        exact hR _ _ ⟨rfl, ((((KP.refl h).hs (by omega)).hs (by omega)).hs (by omega)).hs (by omega), (by show (9 : Int32).toInt = 9; decide), toI_m6 h12, toI_m6 h13, h10, h11, h14, h15, h19⟩
      have skf_134_107 : ¬ (sg pl).toInt = 107 := fun z => sk_134_107 (Int32.toInt_inj.mp (by rw [z]; decide))
      by_cases sk_134_112 : sg pl = 112
      · have skt_134_112 : (sg pl).toInt = 112 := by rw [sk_134_112]; decide
        exfalso; omega
      have skf_134_112 : ¬ (sg pl).toInt = 112 := fun z => sk_134_112 (Int32.toInt_inj.mp (by rw [z]; decide))
      by_cases sk_134_113 : sg pl = 113
      · have skt_134_113 : (sg pl).toInt = 113 := by rw [sk_134_113]; decide
        exfalso; omega
      have skf_134_113 : ¬ (sg pl).toInt = 113 := fun z => sk_134_113 (Int32.toInt_inj.mp (by rw [z]; decide))
      by_cases sk_134_114 : sg pl = 114
      · have skt_134_114 : (sg pl).toInt = 114 := by rw [sk_134_114]; decide
        exfalso; omega
      have skf_134_114 : ¬ (sg pl).toInt = 114 := fun z => sk_134_114 (Int32.toInt_inj.mp (by rw [z]; decide))
      exfalso; omega
    · intro e_63_f c_63_f
      exfalso; omega
  · intro e_10_f c_10_f
    exfalso; omega
set_option maxHeartbeats 4000000 in
theorem t_take_go (l : Launch) {sg : Nat → Int32} {ln sz : Nat → Nat} {r : List Nat} {rc rr : Nat} (hB : aWB sg ln sz) (h : mH) (hC : CB sg ln sz h) {v pl x k w : Nat} {P : List aF} {K : List (List aF)} {n g u : Nat} {q : List Nat} (hJ : aJ sg sz r (false, 0, v, 0, (pl, x, k, w) :: P, K, n, g, u, q)) (hRC : RC rc h (false, 0, v, 0, (pl, x, k, w) :: P, K, n, g, u, q)) (h107 : (sg pl).toInt = 107) (hg : g < 40) : mG l Sh0 iX4_takeUp [.inr 6] h (fun v' h' => v' = none ∧ KP h h' ∧ RO rc h' (aTop sg ln sz r v pl x k w P K n g u q)) := by
  obtain ⟨made, cm, nd, KS, h4, h5, hb, hb2, h9, h12, h13, ⟨h10, h11, h14, h15, h19⟩, hm, hcm, hch, hKS, hseg, hnd, hlt, hmd, hcc⟩ := hRC
  obtain ⟨jx, jb, jP, jK, jn, jg, ju, jq, jc, gs, g1, g2, g3, g4⟩ := hJ
  obtain ⟨i, nd, rfl⟩ : ∃ (i : Nat) (nd' : List Nat), nd = i :: nd' := by
    cases nd with
    | nil => exact hch.elim
    | cons i nd => exact ⟨i, nd, rfl⟩
  obtain ⟨h73, ⟨c, hc, hmk, har, hck⟩, hch2⟩ := hch
  dsimp only at hmk har hck
  have h68 : h 6 8 = nI v := hb2 rfl
  have hi : i < made := hlt i List.mem_cons_self
  have hM : made ≤ 8200 := by omega
  have hcc : cm + 1 ≤ n + 1 := hcc
  have hcc2 : cm ≤ 200 := by omega
  obtain ⟨f1, f2, f3, f4, f5, f6, f7⟩ := jP (pl, x, k, w) List.mem_cons_self
  dsimp only at f1 f2 f3 f4 f5 f6 f7
  have hp8 : pl < 800 := f1.1
  have hsg : h 13 pl = sg pl := hC.1 pl hp8
  have hB9 := hB.2 pl f1
  have hnd1 : i ∉ nd ++ KS.flatten := (List.nodup_cons.mp (by simpa using hnd)).1
  have hnd2 : (nd ++ KS.flatten).Nodup := (List.nodup_cons.mp (by simpa using hnd)).2
  have hlt2 : ∀ j ∈ nd ++ KS.flatten, j < made := fun j hj => hlt j (by rw [List.cons_append]; exact List.mem_cons_of_mem _ hj)
  have h1 : aOf (sg pl).toInt = 1 := by rw [h107]; exact aOf_107
  have hk1 : 1 ≤ k := f5 (hB9.2.2.2.2.2.2.2.2.2 h107)
  obtain ⟨nk, a, b, k1, k2, k3, k4, k5⟩ : ∃ (nk : List Nat) (a b : Nat), KS[k - 1]? = some nk ∧ nk.head? = some a ∧ nk.getLast? = some b ∧ h 23 c = nI a ∧ h 24 c = nI b := by
    rcases hck with z | z
    · omega
    · exact z
  have hkl : k - 1 < K.length := by omega
  have e2 : K[k - 1]? = some (K.getD (k - 1) []) := by rw [List.getD_eq_getElem?_getD, List.getElem?_eq_getElem hkl]; rfl
  obtain ⟨tk, ek, hchk⟩ := hseg (k - 1) nk _ k1 e2
  have hnkm : ∀ j ∈ nk, j ∈ KS.flatten := fun j hj => List.mem_flatten.mpr ⟨nk, List.mem_of_getElem? k1, hj⟩
  have hnkl : ∀ j ∈ nk, j < made := fun j hj => hlt2 j (List.mem_append_right _ (hnkm j hj))
  have hnkn : nk.Nodup := by
    have z := (List.nodup_append.mp hnd2).2.1
    exact nodup_mem z (List.mem_of_getElem? k1)
  have hblt : b < made := hnkl b (List.mem_of_getLast? k3)
  have hlk : lnk h b nk := lnk_of hchk k3 hnkn
  obtain ⟨p1, p2⟩ := g4 _ _ e2
  have hlen : nk.length ≤ 200 := by rw [chn_len hchk]; have := aPt_len p1; omega
  have hne : nk ≠ [] := by intro z; rw [z] at k2; cases k2
  have hhd : nk.headD 0 = a := by cases nk with | nil => cases k2 | cons y ys => simpa using k2
  have k4' : h 23 c = nI (nk.headD 0) := by rw [hhd]; exact k4
  intro RT hR
  show mE l Sh0 none iX4_takeUp RT 0 [some (.inr 6), none, none] [] h
  refine e_aload_n (i := 0) dX4_takeUp_0 rfl rfl ?_
  refine e_getR (r := 7) dX4_takeUp_1 fl_X4_12 sh_6 fj_6_1 ?_
  refine e_getI (x := nI i) dX4_takeUp_4 fl_X4_115 sh_7 fj_7_3 h73 ?_
  refine e_istore_n (i := 1) (ls2 := [some (.inr 6), some (.inl (nI i)), none]) dX4_takeUp_7 rfl (Nat.le_of_ble_eq_true rfl) rfl ?_
  refine e_iload_n (i := 1) dX4_takeUp_8 rfl rfl ?_
  refine e_iconst (v := (-1)) dX4_takeUp_9 (by decide) ?_
  refine b_icmp_ne (X := ((i : Nat) : Int)) (Y := (-1)) (tgt := 22) (nI_toInt (by omega)) (by decide) dX4_takeUp_10 (by decide) ?_ ?_
  · intro e_10_t c_10_t
    refine e_aload_n (i := 0) dX4_takeUp_22 rfl rfl ?_
    refine e_aload_n (i := 0) dX4_takeUp_23 rfl rfl ?_
    refine e_getR (r := 7) dX4_takeUp_24 fl_X4_12 sh_6 fj_6_1 ?_
    refine e_iload_n (i := 1) dX4_takeUp_27 rfl rfl ?_
    refine e_invVi (As := [.inl (nI i)]) (v := nI pl) (h2 := h) dX4_takeUp_28 lk_X4_118 yv_X5_place rfl rfl rfl (Nat.le_of_ble_eq_true rfl) sh_7 ci_X5 (Nat.le_of_ble_eq_true rfl) ⟨Nat.le_of_ble_eq_true rfl, Nat.le_of_ble_eq_true rfl⟩ (k_T_placeX l h i made hm hi hM hmk hp8 (by omega) (by omega)) ?_
    refine e_putI dX4_takeUp_31 fl_X4_86 fp_X4_6 sh_6 fj_6_6 ?_
    refine e_aload_n (i := 0) dX4_takeUp_34 rfl rfl ?_
    refine e_aload_n (i := 0) dX4_takeUp_35 rfl rfl ?_
    refine e_getR (r := 7) dX4_takeUp_36 fl_X4_12 sh_6 fj_6_1 ?_
    refine e_iload_n (i := 1) dX4_takeUp_39 rfl rfl ?_
    refine e_invVi (As := [.inl (nI i)]) (v := nI c) (h2 := (hs h 6 6 (nI pl))) dX4_takeUp_40 lk_X4_120 yv_X5_call rfl rfl rfl (Nat.le_of_ble_eq_true rfl) sh_7 ci_X5 (Nat.le_of_ble_eq_true rfl) ⟨Nat.le_of_ble_eq_true rfl, Nat.le_of_ble_eq_true rfl⟩ (k_T_callX l (hs h 6 6 (nI pl)) i made hm hi hM hmk hp8 (by omega) (by omega)) ?_
    refine e_putI dX4_takeUp_43 fl_X4_83 fp_X4_7 sh_6 fj_6_7 ?_
    refine e_aload_n (i := 0) dX4_takeUp_46 rfl rfl ?_
    refine e_getR (r := 2) dX4_takeUp_47 fl_X4_29 sh_6 fj_6_0 ?_
    refine e_aload_n (i := 0) dX4_takeUp_50 rfl rfl ?_
    refine e_getI (x := nI pl) dX4_takeUp_51 fl_X4_86 sh_6 fj_6_6 rfl ?_
    refine e_invVi (As := [.inl (nI pl)]) (v := sg pl) (h2 := (hs (hs h 6 6 (nI pl)) 6 7 (nI c))) dX4_takeUp_54 lk_X4_92 yv_X0_sign rfl rfl rfl (Nat.le_of_ble_eq_true rfl) sh_2 ci_X0 (Nat.le_of_ble_eq_true rfl) ⟨Nat.le_of_ble_eq_true rfl, Nat.le_of_ble_eq_true rfl⟩ (k_B_signX l (hs (hs h 6 6 (nI pl)) 6 7 (nI c)) pl hp8 hsg) ?_
    refine e_istore_n (i := 2) (ls2 := [some (.inr 6), some (.inl (nI i)), some (.inl (sg pl))]) dX4_takeUp_57 rfl (Nat.le_of_ble_eq_true rfl) rfl ?_
    refine e_iload_n (i := 2) dX4_takeUp_58 rfl rfl ?_
    refine e_invSi (As := [.inl (sg pl)]) (v := aI (sg pl).toInt) (h2 := (hs (hs h 6 6 (nI pl)) 6 7 (nI c))) dX4_takeUp_59 lk_X4_105 ys_X7_textsOf rfl rfl rfl (Nat.le_of_ble_eq_true rfl) (Nat.le_of_ble_eq_true rfl) ⟨Nat.le_of_ble_eq_true rfl, Nat.le_of_ble_eq_true rfl⟩ (k_textsOf l (hs (hs h 6 6 (nI pl)) 6 7 (nI c)) (sg pl)) ?_
    refine e_iconst (v := 2) dX4_takeUp_62 (by decide) ?_
    refine b_icmp_ne (X := aOf (sg pl).toInt) (Y := 2) (tgt := 118) (aI_toInt _) (by decide) dX4_takeUp_63 (by decide) ?_ ?_
    · intro e_63_t c_63_t
      refine e_aload_n (i := 0) dX4_takeUp_118 rfl rfl ?_
      refine e_getR (r := 7) dX4_takeUp_119 fl_X4_12 sh_6 fj_6_1 ?_
      refine e_aload_n (i := 0) dX4_takeUp_122 rfl rfl ?_
      refine e_getR (r := 7) dX4_takeUp_123 fl_X4_12 sh_6 fj_6_1 ?_
      refine e_iload_n (i := 1) dX4_takeUp_126 rfl rfl ?_
      refine e_invVi (As := [.inl (nI i)]) (v := h 21 i) (h2 := (hs (hs h 6 6 (nI pl)) 6 7 (nI c))) dX4_takeUp_127 lk_X4_132 yv_X5_below rfl rfl rfl (Nat.le_of_ble_eq_true rfl) sh_7 ci_X5 (Nat.le_of_ble_eq_true rfl) ⟨Nat.le_of_ble_eq_true rfl, Nat.le_of_ble_eq_true rfl⟩ (k_T_belowX l (hs (hs h 6 6 (nI pl)) 6 7 (nI c)) i made hm hi hM rfl) ?_
      refine e_putI dX4_takeUp_130 fl_X4_115 fp_X5_3 sh_7 fj_7_3 ?_
      refine e_iload_n (i := 2) dX4_takeUp_133 rfl rfl ?_
      by_cases sk_134_63 : sg pl = 63
      · have skt_134_63 : (sg pl).toInt = 63 := by rw [sk_134_63]; decide
        exfalso; omega
      have skf_134_63 : ¬ (sg pl).toInt = 63 := fun z => sk_134_63 (Int32.toInt_inj.mp (by rw [z]; decide))
      by_cases sk_134_64 : sg pl = 64
      · have skt_134_64 : (sg pl).toInt = 64 := by rw [sk_134_64]; decide
        exfalso; omega
      have skf_134_64 : ¬ (sg pl).toInt = 64 := fun z => sk_134_64 (Int32.toInt_inj.mp (by rw [z]; decide))
      by_cases sk_134_107 : sg pl = 107
      · have skt_134_107 : (sg pl).toInt = 107 := by rw [sk_134_107]; decide
        refine e_lookup (off := 83) (tgt := 217) dX4_takeUp_134 (by decide) (by rw [sk_134_107]; decide) (by decide) ?_
        refine e_aload_n (i := 0) dX4_takeUp_217 rfl rfl ?_
        refine e_invVv (As := []) (h2 := (lay (h 21 i) (hs (hs (hs (hs (hs h 6 6 (nI pl)) 6 7 (nI c)) 7 3 (h 21 i)) 6 14 (nI (g + 1))) 7 3 (nI made)) made nk)) (ty := .int) (v := 0) dX4_takeUp_218 lk_X4_144 yv_X4_goOn rfl rfl rfl (Nat.le_of_ble_eq_true rfl) sh_6 ci_X4 (Nat.le_of_ble_eq_true rfl) ⟨Nat.le_of_ble_eq_true rfl, Nat.le_of_ble_eq_true rfl⟩ (k_X_go l (hs (hs (hs h 6 6 (nI pl)) 6 7 (nI c)) 7 3 (h 21 i)) g h14 hg c cm made b nk rfl hcm hc (by omega) hm (by omega) k4' k5 hnkl (by omega) (lnk_same (h := h) (h' := (hs (hs (hs h 6 6 (nI pl)) 6 7 (nI c)) 7 3 (h 21 i))) rfl hlk)) ?_
        refine e_goto (tgt := 263) dX4_takeUp_221 (by decide) ?_
        refine e_ret dX4_takeUp_263 rfl ?_
        have e : aTop sg ln sz r v pl x k w P K n g u q = .inl (false, 0, v, 0, K.getD (k - 1) [] ++ P, K, n, g + 1, u, q) := by unfold aTop; rw [if_neg (by omega), if_neg (by omega), if_neg (by omega), if_pos h107, if_neg (by omega)]
        rw [e] at hR
        have o6 : (lay (h 21 i) (hs (hs (hs (hs (hs h 6 6 (nI pl)) 6 7 (nI c)) 7 3 (h 21 i)) 6 14 (nI (g + 1))) 7 3 (nI made)) made nk) 6 = (hs (hs (hs (hs (hs h 6 6 (nI pl)) 6 7 (nI c)) 7 3 (h 21 i)) 6 14 (nI (g + 1))) 7 3 (nI made)) 6 := lay_o (by decide) (by decide) (by decide) nk _ _
        have o8 : (lay (h 21 i) (hs (hs (hs (hs (hs h 6 6 (nI pl)) 6 7 (nI c)) 7 3 (h 21 i)) 6 14 (nI (g + 1))) 7 3 (nI made)) made nk) 8 = (hs (hs (hs (hs (hs h 6 6 (nI pl)) 6 7 (nI c)) 7 3 (h 21 i)) 6 14 (nI (g + 1))) 7 3 (nI made)) 8 := lay_o (by decide) (by decide) (by decide) nk _ _
        have o19 : (lay (h 21 i) (hs (hs (hs (hs (hs h 6 6 (nI pl)) 6 7 (nI c)) 7 3 (h 21 i)) 6 14 (nI (g + 1))) 7 3 (nI made)) made nk) 19 = (hs (hs (hs (hs (hs h 6 6 (nI pl)) 6 7 (nI c)) 7 3 (h 21 i)) 6 14 (nI (g + 1))) 7 3 (nI made)) 19 := lay_o (by decide) (by decide) (by decide) nk _ _
        have o22 : (lay (h 21 i) (hs (hs (hs (hs (hs h 6 6 (nI pl)) 6 7 (nI c)) 7 3 (h 21 i)) 6 14 (nI (g + 1))) 7 3 (nI made)) made nk) 22 = h 22 := lay_o (by decide) (by decide) (by decide) nk _ _
        have o23 : (lay (h 21 i) (hs (hs (hs (hs (hs h 6 6 (nI pl)) 6 7 (nI c)) 7 3 (h 21 i)) 6 14 (nI (g + 1))) 7 3 (nI made)) made nk) 23 = h 23 := lay_o (by decide) (by decide) (by decide) nk _ _
        have o24 : (lay (h 21 i) (hs (hs (hs (hs (hs h 6 6 (nI pl)) 6 7 (nI c)) 7 3 (h 21 i)) 6 14 (nI (g + 1))) 7 3 (nI made)) made nk) 24 = h 24 := lay_o (by decide) (by decide) (by decide) nk _ _
        have hext : ∀ {nd : List Nat} {P : List aF} {t e : Int32}, (∀ j ∈ nd, j < made) → chn h KS cm nd P t e → chn (lay (h 21 i) (hs (hs (hs (hs (hs h 6 6 (nI pl)) 6 7 (nI c)) 7 3 (h 21 i)) 6 14 (nI (g + 1))) 7 3 (nI made)) made nk) KS cm nd P t e := by
          intro nd P t e hz hq
          have z := chn_ext (h := h) (h' := (lay (h 21 i) (hs (hs (hs (hs (hs h 6 6 (nI pl)) 6 7 (nI c)) 7 3 (h 21 i)) 6 14 (nI (g + 1))) 7 3 (nI made)) made nk)) (Z := []) (Nat.le_refl cm) (fun c _ => ⟨by rw [o22], by rw [o23], by rw [o24]⟩) (fun j hj => lay_lt (u := h 21 i) nk (hs (hs (hs (hs (hs h 6 6 (nI pl)) 6 7 (nI c)) 7 3 (h 21 i)) 6 14 (nI (g + 1))) 7 3 (nI made)) made (hz j hj)) hq
          rwa [List.append_nil] at z
        have hcl := lay_chn (u := h 21 i) (KS := KS) (cm := cm) nk _ (hs (hs (hs (hs (hs h 6 6 (nI pl)) 6 7 (nI c)) 7 3 (h 21 i)) 6 14 (nI (g + 1))) 7 3 (nI made)) made _ _ hne hnkl (chn_same (h := h) (h' := (hs (hs (hs (hs (hs h 6 6 (nI pl)) 6 7 (nI c)) 7 3 (h 21 i)) 6 14 (nI (g + 1))) 7 3 (nI made))) rfl rfl rfl rfl rfl hchk)
        have hjn := chn_join hcl (hext (fun j hj => hlt2 j (List.mem_append_left _ hj)) hch2)
        refine hR _ _ ⟨rfl, (((((KP.refl h).hs (by omega)).hs (by omega)).hs (by omega)).hs (by omega)).hs (by omega) |>.lay, made + nk.length, cm, List.range' made nk.length ++ nd, KS, by rw [o6]; exact h4, by rw [o6]; exact h5, fun z => (by cases z), fun _ => by rw [o6]; exact h68, by rw [o6]; exact h9, by rw [o6]; exact h12, by rw [o6]; exact h13, ⟨by rw [o6]; exact h10, by rw [o6]; exact h11, by rw [o6]; rfl, by rw [o6]; exact h15, fun j z1 z2 => by rw [o19]; exact h19 j z1 z2⟩, lay_72 nk _ made hm, by rw [o8]; exact hcm, ?_, hKS, fun j nj L z1 z2 => ?_, ?_, ?_, by omega, hcc⟩
        · have z : (lay (h 21 i) (hs (hs (hs (hs (hs h 6 6 (nI pl)) 6 7 (nI c)) 7 3 (h 21 i)) 6 14 (nI (g + 1))) 7 3 (nI made)) made nk) 7 3 = nI made := lay_73 nk _ _
          rw [z]
          exact hjn
        · obtain ⟨t, e, z⟩ := hseg j nj L z1 z2
          exact ⟨t, e, hext (fun i hi => hlt2 i (List.mem_append_right _ (List.mem_flatten.mpr ⟨nj, List.mem_of_getElem? z1, hi⟩))) z⟩
        · rw [List.append_assoc, List.nodup_append]
          refine ⟨List.nodup_range', hnd2, fun a ha b hb z => ?_⟩
          have z1 := (List.mem_range'_1.mp ha).1
          have z2 := hlt2 b hb
          omega
        · intro j hj
          rw [List.append_assoc] at hj
          rcases List.mem_append.mp hj with hj | hj
          · exact (List.mem_range'_1.mp hj).2
          · have := hlt2 j hj
            omega
      have skf_134_107 : ¬ (sg pl).toInt = 107 := fun z => sk_134_107 (Int32.toInt_inj.mp (by rw [z]; decide))
      by_cases sk_134_112 : sg pl = 112
      · have skt_134_112 : (sg pl).toInt = 112 := by rw [sk_134_112]; decide
        exfalso; omega
      have skf_134_112 : ¬ (sg pl).toInt = 112 := fun z => sk_134_112 (Int32.toInt_inj.mp (by rw [z]; decide))
      by_cases sk_134_113 : sg pl = 113
      · have skt_134_113 : (sg pl).toInt = 113 := by rw [sk_134_113]; decide
        exfalso; omega
      have skf_134_113 : ¬ (sg pl).toInt = 113 := fun z => sk_134_113 (Int32.toInt_inj.mp (by rw [z]; decide))
      by_cases sk_134_114 : sg pl = 114
      · have skt_134_114 : (sg pl).toInt = 114 := by rw [sk_134_114]; decide
        exfalso; omega
      have skf_134_114 : ¬ (sg pl).toInt = 114 := fun z => sk_134_114 (Int32.toInt_inj.mp (by rw [z]; decide))
      exfalso; omega
    · intro e_63_f c_63_f
      exfalso; omega
  · intro e_10_f c_10_f
    exfalso; omega
