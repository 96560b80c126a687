/-! The class's turns: asking. -/
theorem sub112 {x : Int32} {d : Nat} (h : x.toInt = 112 + (d : Int)) : x - 112 = nI d := by
  have e7 : x = nI (112 + d) := toInt_nI (by omega)
  rw [e7, nI_subc 112 (by omega)]
  congr 1
  omega
theorem anH_o (h : mH) (ql : Nat) (a : Int32) {k : Nat} (hk : k ≠ 19) : anH h ql a k = h k := by
  unfold anH
  split
  · exact hs_rown _ _ _ hk
  · rfl
theorem KP.an {h h' : mH} (q : KP h h') {m : Nat} {a : Int32} : KP h (anH h' m a) := fun k hk => by
  rw [anH_o _ _ _ (by omega)]
  exact q k hk
theorem anH_19 {h : mH} {q : List Nat} {z : Nat} (h19 : ∀ i, i < q.length → i < 200 → h 19 i = nI (q.getD i 0)) : ∀ i, i < (q ++ [z]).length → i < 200 → anH h q.length (nI z) 19 i = nI ((q ++ [z]).getD i 0) := by
  intro i hi h2
  rw [List.length_append] at hi
  simp only [List.length_cons, List.length_nil] at hi
  unfold anH
  by_cases hq : i < q.length
  · have e : (q ++ [z]).getD i 0 = q.getD i 0 := by rw [List.getD_eq_getElem?_getD, List.getD_eq_getElem?_getD, List.getElem?_append_left hq]
    rw [e]
    split
    · rw [hs_ne _ _ (by omega)]; exact h19 i hq h2
    · exact h19 i hq h2
  · have e0 : i = q.length := by omega
    subst e0
    have e : (q ++ [z]).getD q.length 0 = z := by rw [List.getD_eq_getElem?_getD, List.getElem?_append_right (Nat.le_refl _), Nat.sub_self]; rfl
    rw [e, if_pos h2, hs_at]
theorem k_X_ask1 (l : Launch) (h : mH) (d v ql : Nat) (hd : d < 3) (hv : v < 8) (hq : ql < 100000) (h68 : h 6 8 = nI v) (h15 : h 6 15 = nI ql) (sg : Nat → Int32) (i made cm pl w c hd2 : Nat) (hm : h 7 2 = nI made) (hi : i < made) (hM : made ≤ 8200) (hmk : h 20 i = nI (pl + 1024 * w + 16384 * c)) (hp8 : pl + 1 < 800) (hw : w < 16) (hc : c < 65536) (kH : ∀ h2 : mH, h2 13 = h 13 → mD l Sh0 iX0_hand [.inr 2, .inl (nI pl)] h2 (some (nI hd2)) h2) (hcm : h 8 3 = nI cm) (hc2 : cm < 201) : mD l Sh0 iX4_ask [.inr 6, .inl (nI d), .inl (nI i)] h none (entH (hs (hs (anH h ql (nI (100 * d + 10 * v + hd2))) 6 15 (nI (ql + 1))) 7 3 (h 21 i)) cm (nI (4 + 4 * hd2 + d)) (nI v) (h 7 3) (nI i)) := by
  by_cases hql : ql < 200
  · exact k_X_ask1s l h d v ql hd hv hq h68 h15 hql sg i made cm pl w c hd2 hm hi hM hmk hp8 hw hc kH hcm hc2
  · exact k_X_ask1b l h d v ql hd hv hq h68 h15 hql sg i made cm pl w c hd2 hm hi hM hmk hp8 hw hc kH hcm hc2
theorem k_X_ask0r (l : Launch) (h : mH) (d v ql : Nat) (hd : d < 3) (hv : v < 8) (hq : ql < 100000) (h68 : h 6 8 = nI v) (h15 : h 6 15 = nI ql) (rc rr u rl : Nat) (hS : Sh0[rc]? = some (.inl (3, [rr + 3, 0]))) (hA : Sh0[rr]? = some (.inr 8)) (hrc : rc = 3 ∨ rc = 4 ∨ rc = 5) (hrr : 16 ≤ rr ∧ rr ≤ 18) (h64 : h 6 4 = nI rc) (h11 : h 6 11 = nI u) (hrl : h rc 1 = nI rl) (hrl8 : rl ≤ 8) (hu8 : u ≤ rl) (w : Nat) (hw : h rr u = nI w) (hu : u < rl) : mD l Sh0 iX4_ask [.inr 6, .inl (nI d), .inl (-1)] h none (hs (hs (hs (hs (anH h ql (nI (100 * d + 10 * v + 9))) 6 15 (nI (ql + 1))) 6 8 (nI w)) 6 5 0) 6 11 (nI (u + 1))) := by
  by_cases hql : ql < 200
  · exact k_X_ask0rs l h d v ql hd hv hq h68 h15 hql rc rr u rl hS hA hrc hrr h64 h11 hrl hrl8 hu8 w hw hu
  · exact k_X_ask0rb l h d v ql hd hv hq h68 h15 hql rc rr u rl hS hA hrc hrr h64 h11 hrl hrl8 hu8 w hw hu
theorem k_X_ask0e (l : Launch) (h : mH) (d v ql : Nat) (hd : d < 3) (hv : v < 8) (hq : ql < 100000) (h68 : h 6 8 = nI v) (h15 : h 6 15 = nI ql) (rc rr u rl : Nat) (hS : Sh0[rc]? = some (.inl (3, [rr + 3, 0]))) (hA : Sh0[rr]? = some (.inr 8)) (hrc : rc = 3 ∨ rc = 4 ∨ rc = 5) (hrr : 16 ≤ rr ∧ rr ≤ 18) (h64 : h 6 4 = nI rc) (h11 : h 6 11 = nI u) (hrl : h rc 1 = nI rl) (hrl8 : rl ≤ 8) (hu8 : u ≤ rl) (hu : u = rl) : mD l Sh0 iX4_ask [.inr 6, .inl (nI d), .inl (-1)] h none (hs (hs (hs (hs (anH h ql (nI (100 * d + 10 * v + 9))) 6 15 (nI (ql + 1))) 6 9 8) 6 12 (nI d)) 6 13 (nI v)) := by
  by_cases hql : ql < 200
  · exact k_X_ask0es l h d v ql hd hv hq h68 h15 hql rc rr u rl hS hA hrc hrr h64 h11 hrl hrl8 hu8 hu
  · exact k_X_ask0eb l h d v ql hd hv hq h68 h15 hql rc rr u rl hS hA hrc hrr h64 h11 hrl hrl8 hu8 hu
set_option maxHeartbeats 4000000 in
theorem t_take_ask1 (l : Launch) {sg : Nat → Int32} {ln sz : Nat → Nat} {r : List Nat} {rc rr : Nat} (hB : aWB sg ln sz) (h : mH) (hC : CB sg ln sz h) {v pl x k w : Nat} {P : List aF} {K : List (List aF)} {n g u : Nat} {q : List Nat} (hJ : aJ sg sz r (false, 0, v, 0, (pl, x, k, w) :: P, K, n, g, u, q)) (hRC : RC rc h (false, 0, v, 0, (pl, x, k, w) :: P, K, n, g, u, q)) {d : Nat} (hd : d < 3) (hsd : (sg pl).toInt = 112 + (d : Int)) {A : List aF} {G : aF} {CC : List aF} (hN : aNr sg sz d P = some (A, G, CC)) (hr8 : r.length ≤ 8) : mG l Sh0 iX4_takeUp [.inr 6] h (fun v' h' => v' = none ∧ KP h h' ∧ RO rc h' (aTop sg ln sz r v pl x k w P K n g u q)) := by
  obtain ⟨made, cm, nd, KS, h4, h5, hb, hb2, h9, h12, h13, ⟨h10, h11, h14, h15, h19⟩, hm, hcm, hch, hKS, hseg, hnd, hlt, hmd, hcc⟩ := hRC
  obtain ⟨jx, jb, jP, jK, jn, jg, ju, jq, jc, gs, g1, g2, g3, g4⟩ := hJ
  obtain ⟨i, nd, rfl⟩ : ∃ (i : Nat) (nd' : List Nat), nd = i :: nd' := by
    cases nd with
    | nil => exact hch.elim
    | cons i nd => exact ⟨i, nd, rfl⟩
  obtain ⟨h73, ⟨c, hc, hmk, har, hck⟩, hch2⟩ := hch
  dsimp only at hmk har hck
  have h68 : h 6 8 = nI v := hb2 rfl
  have hi : i < made := hlt i List.mem_cons_self
  have hM : made ≤ 8200 := by omega
  have hcc : cm + 1 ≤ n + 1 := hcc
  have hcc2 : cm ≤ 200 := by omega
  obtain ⟨f1, f2, f3, f4, f5, f6, f7⟩ := jP (pl, x, k, w) List.mem_cons_self
  dsimp only at f1 f2 f3 f4 f5 f6 f7
  have hp8 : pl < 800 := f1.1
  have hsg : h 13 pl = sg pl := hC.1 pl hp8
  have hB9 := hB.2 pl f1
  have hnd1 : i ∉ nd ++ KS.flatten := (List.nodup_cons.mp (by simpa using hnd)).1
  have hnd2 : (nd ++ KS.flatten).Nodup := (List.nodup_cons.mp (by simpa using hnd)).2
  have hlt2 : ∀ j ∈ nd ++ KS.flatten, j < made := fun j hj => hlt j (by rw [List.cons_append]; exact List.mem_cons_of_mem _ hj)
  have h1 : aOf (sg pl).toInt = 1 := by rcases (show d = 0 ∨ d = 1 ∨ d = 2 by omega) with z | z | z <;> subst z <;> rw [hsd] <;> decide
  have hs3 : (sg pl).toInt = 112 ∨ (sg pl).toInt = 113 ∨ (sg pl).toInt = 114 := by omega
  have hdd : ((sg pl).toInt - 112).toNat = d := by omega
  have hP2 : ∀ F ∈ P, aFok sg sz K.length F := fun F hF => jP F (List.mem_cons_of_mem _ hF)
  have hPl : P.length ≤ 200 := by have := aPt_len g2.2; omega
  have hql : q.length < 100000 := by
    have z1 : K.length + 1 ≤ n + 1 := jc
    have z2 : r.length ≤ 8 := hr8
    omega
  have hnl : ∀ j ∈ nd, j < made := fun j hj => hlt2 j (List.mem_append_left _ hj)
  have eT : aTop sg ln sz r v pl x k w P K n g u q = aAsk sg sz r d v P K n g u q := by
    unfold aTop
    rw [if_neg (by omega), if_neg (by omega), if_neg (by omega), if_neg (by omega), if_pos hs3, hdd]
  have eA : aAsk sg sz r d v P K n g u q = .inl (true, 40 * (4 + 4 * aHd sg G.1 + d), v, K.length + 1, CC, K ++ [A ++ [G]], n, g, u, q ++ [100 * d + 10 * v + aHd sg G.1]) := by
    unfold aAsk
    rw [hN]
  obtain ⟨e1, e2, e3, e4⟩ := aNr_some hN
  have hch0 := hch2
  rw [e1] at hch2
  obtain ⟨nA, j, nC, en, c1, ⟨cG, hcG, hmkG, harG, hckG⟩, c3⟩ := chn_split hch2
  have hlA := chn_len c1
  have hnr : nrN sg sz d nd P = nI j := by rw [en, e1]; exact nrN_some ⟨e2, e3⟩ hlA e4
  have hGm : G ∈ P := by rw [e1]; exact List.mem_append_right _ List.mem_cons_self
  obtain ⟨w1, w2, w3, w4, w5, w6, w7⟩ := hP2 G hGm
  have h9G := (hB.2 G.1 w1).2.2.2.2.2.2.2.2.1 e2
  have hj : j < made := hnl j (by rw [en]; exact List.mem_append_right _ List.mem_cons_self)
  have kH : ∀ h2 : mH, h2 13 = h 13 → mD l Sh0 iX0_hand [.inr 2, .inl (nI G.1)] h2 (some (nI (aHd sg G.1))) h2 := fun h2 e => k_B_handX l h2 sg G.1 h9G.2.2 (by rw [e]; exact hC.1 _ w1.1) (by rw [e]; exact hC.1 _ h9G.2.2) e2 h9G.1
  intro RT hR
  show mE l Sh0 none iX4_takeUp RT 0 [some (.inr 6), none, none] [] h
  refine e_aload_n (i := 0) dX4_takeUp_0 rfl rfl ?_
  refine e_getR (r := 7) dX4_takeUp_1 fl_X4_12 sh_6 fj_6_1 ?_
  refine e_getI (x := nI i) dX4_takeUp_4 fl_X4_115 sh_7 fj_7_3 h73 ?_
  refine e_istore_n (i := 1) (ls2 := [some (.inr 6), some (.inl (nI i)), none]) dX4_takeUp_7 rfl (Nat.le_of_ble_eq_true rfl) rfl ?_
  refine e_iload_n (i := 1) dX4_takeUp_8 rfl rfl ?_
  refine e_iconst (v := (-1)) dX4_takeUp_9 (by decide) ?_
  refine b_icmp_ne (X := ((i : Nat) : Int)) (Y := (-1)) (tgt := 22) (nI_toInt (by omega)) (by decide) dX4_takeUp_10 (by decide) ?_ ?_
  · intro e_10_t c_10_t
    refine e_aload_n (i := 0) dX4_takeUp_22 rfl rfl ?_
    refine e_aload_n (i := 0) dX4_takeUp_23 rfl rfl ?_
    refine e_getR (r := 7) dX4_takeUp_24 fl_X4_12 sh_6 fj_6_1 ?_
    refine e_iload_n (i := 1) dX4_takeUp_27 rfl rfl ?_
    refine e_invVi (As := [.inl (nI i)]) (v := nI pl) (h2 := h) dX4_takeUp_28 lk_X4_118 yv_X5_place rfl rfl rfl (Nat.le_of_ble_eq_true rfl) sh_7 ci_X5 (Nat.le_of_ble_eq_true rfl) ⟨Nat.le_of_ble_eq_true rfl, Nat.le_of_ble_eq_true rfl⟩ (k_T_placeX l h i made hm hi hM hmk hp8 (by omega) (by omega)) ?_
    refine e_putI dX4_takeUp_31 fl_X4_86 fp_X4_6 sh_6 fj_6_6 ?_
    refine e_aload_n (i := 0) dX4_takeUp_34 rfl rfl ?_
    refine e_aload_n (i := 0) dX4_takeUp_35 rfl rfl ?_
    refine e_getR (r := 7) dX4_takeUp_36 fl_X4_12 sh_6 fj_6_1 ?_
    refine e_iload_n (i := 1) dX4_takeUp_39 rfl rfl ?_
    refine e_invVi (As := [.inl (nI i)]) (v := nI c) (h2 := (hs h 6 6 (nI pl))) dX4_takeUp_40 lk_X4_120 yv_X5_call rfl rfl rfl (Nat.le_of_ble_eq_true rfl) sh_7 ci_X5 (Nat.le_of_ble_eq_true rfl) ⟨Nat.le_of_ble_eq_true rfl, Nat.le_of_ble_eq_true rfl⟩ (k_T_callX l (hs h 6 6 (nI pl)) i made hm hi hM hmk hp8 (by omega) (by omega)) ?_
    refine e_putI dX4_takeUp_43 fl_X4_83 fp_X4_7 sh_6 fj_6_7 ?_
    refine e_aload_n (i := 0) dX4_takeUp_46 rfl rfl ?_
    refine e_getR (r := 2) dX4_takeUp_47 fl_X4_29 sh_6 fj_6_0 ?_
    refine e_aload_n (i := 0) dX4_takeUp_50 rfl rfl ?_
    refine e_getI (x := nI pl) dX4_takeUp_51 fl_X4_86 sh_6 fj_6_6 rfl ?_
    refine e_invVi (As := [.inl (nI pl)]) (v := sg pl) (h2 := (hs (hs h 6 6 (nI pl)) 6 7 (nI c))) dX4_takeUp_54 lk_X4_92 yv_X0_sign rfl rfl rfl (Nat.le_of_ble_eq_true rfl) sh_2 ci_X0 (Nat.le_of_ble_eq_true rfl) ⟨Nat.le_of_ble_eq_true rfl, Nat.le_of_ble_eq_true rfl⟩ (k_B_signX l (hs (hs h 6 6 (nI pl)) 6 7 (nI c)) pl hp8 hsg) ?_
    refine e_istore_n (i := 2) (ls2 := [some (.inr 6), some (.inl (nI i)), some (.inl (sg pl))]) dX4_takeUp_57 rfl (Nat.le_of_ble_eq_true rfl) rfl ?_
    refine e_iload_n (i := 2) dX4_takeUp_58 rfl rfl ?_
    refine e_invSi (As := [.inl (sg pl)]) (v := aI (sg pl).toInt) (h2 := (hs (hs h 6 6 (nI pl)) 6 7 (nI c))) dX4_takeUp_59 lk_X4_105 ys_X7_textsOf rfl rfl rfl (Nat.le_of_ble_eq_true rfl) (Nat.le_of_ble_eq_true rfl) ⟨Nat.le_of_ble_eq_true rfl, Nat.le_of_ble_eq_true rfl⟩ (k_textsOf l (hs (hs h 6 6 (nI pl)) 6 7 (nI c)) (sg pl)) ?_
    refine e_iconst (v := 2) dX4_takeUp_62 (by decide) ?_
    refine b_icmp_ne (X := aOf (sg pl).toInt) (Y := 2) (tgt := 118) (aI_toInt _) (by decide) dX4_takeUp_63 (by decide) ?_ ?_
    · intro e_63_t c_63_t
      refine e_aload_n (i := 0) dX4_takeUp_118 rfl rfl ?_
      refine e_getR (r := 7) dX4_takeUp_119 fl_X4_12 sh_6 fj_6_1 ?_
      refine e_aload_n (i := 0) dX4_takeUp_122 rfl rfl ?_
      refine e_getR (r := 7) dX4_takeUp_123 fl_X4_12 sh_6 fj_6_1 ?_
      refine e_iload_n (i := 1) dX4_takeUp_126 rfl rfl ?_
      refine e_invVi (As := [.inl (nI i)]) (v := h 21 i) (h2 := (hs (hs h 6 6 (nI pl)) 6 7 (nI c))) dX4_takeUp_127 lk_X4_132 yv_X5_below rfl rfl rfl (Nat.le_of_ble_eq_true rfl) sh_7 ci_X5 (Nat.le_of_ble_eq_true rfl) ⟨Nat.le_of_ble_eq_true rfl, Nat.le_of_ble_eq_true rfl⟩ (k_T_belowX l (hs (hs h 6 6 (nI pl)) 6 7 (nI c)) i made hm hi hM rfl) ?_
      refine e_putI dX4_takeUp_130 fl_X4_115 fp_X5_3 sh_7 fj_7_3 ?_
      refine e_iload_n (i := 2) dX4_takeUp_133 rfl rfl ?_
      refine e_lookup (off := 90) (tgt := 224) dX4_takeUp_134 (by decide) (by rcases hs3 with z | z | z <;> rw [z] <;> decide) (by decide) ?_
      refine e_aload_n (i := 0) dX4_takeUp_224 rfl rfl ?_
      refine e_iload_n (i := 2) dX4_takeUp_225 rfl rfl ?_
      refine e_bipush (v := 112) dX4_takeUp_226 (by decide) ?_
      refine z_isub (z := nI d) (sub112 hsd) dX4_takeUp_228 ?_
      refine e_aload_n (i := 0) dX4_takeUp_229 rfl rfl ?_
      refine e_iload_n (i := 2) dX4_takeUp_230 rfl rfl ?_
      refine e_bipush (v := 112) dX4_takeUp_231 (by decide) ?_
      refine z_isub (z := nI d) (sub112 hsd) dX4_takeUp_233 ?_
      refine e_invVi (As := [.inl (nI d)]) (v := nI j) (h2 := (hs (hs (hs h 6 6 (nI pl)) 6 7 (nI c)) 7 3 (h 21 i))) dX4_takeUp_234 lk_X4_147 yv_X4_nearest rfl rfl rfl (Nat.le_of_ble_eq_true rfl) sh_6 ci_X4 (Nat.le_of_ble_eq_true rfl) ⟨Nat.le_of_ble_eq_true rfl, Nat.le_of_ble_eq_true rfl⟩ (hnr ▸ k_X_nearest (KS := KS) (cm := cm) (made := made) (nK := K.length) l hB (hs (hs (hs h 6 6 (nI pl)) 6 7 (nI c)) 7 3 (h 21 i)) hC hd hm hM (by omega) nd P (chn_same (h := h) (h' := (hs (hs (hs h 6 6 (nI pl)) 6 7 (nI c)) 7 3 (h 21 i))) rfl rfl rfl rfl rfl hch0) hnl hP2 (by omega)) ?_
      refine e_invVv (As := [.inl (nI d), .inl (nI j)]) (h2 := (entH (hs (hs (anH (hs (hs (hs h 6 6 (nI pl)) 6 7 (nI c)) 7 3 (h 21 i)) q.length (nI (100 * d + 10 * v + aHd sg G.1))) 6 15 (nI (q.length + 1))) 7 3 (h 21 j)) cm (nI (4 + 4 * aHd sg G.1 + d)) (nI v) (h 21 i) (nI j))) (ty := .int) (v := 0) dX4_takeUp_237 lk_X4_150 yv_X4_ask rfl rfl rfl (Nat.le_of_ble_eq_true rfl) sh_6 ci_X4 (Nat.le_of_ble_eq_true rfl) ⟨Nat.le_of_ble_eq_true rfl, Nat.le_of_ble_eq_true rfl⟩ (k_X_ask1 l (hs (hs (hs h 6 6 (nI pl)) 6 7 (nI c)) 7 3 (h 21 i)) d v q.length hd jx hql h68 h15 sg j made cm G.1 G.2.2.2 cG (aHd sg G.1) hm hj hM hmkG h9G.2.2 (by omega) (by omega) kH hcm (by omega)) ?_
      refine e_goto (tgt := 263) dX4_takeUp_240 (by decide) ?_
      refine e_ret dX4_takeUp_263 rfl ?_
      rw [eT, eA] at hR
      obtain ⟨ha, eha, hao, ha19, hak⟩ : ∃ ha : mH, anH (hs (hs (hs h 6 6 (nI pl)) 6 7 (nI c)) 7 3 (h 21 i)) q.length (nI (100 * d + 10 * v + aHd sg G.1)) = ha ∧ (∀ k, k ≠ 19 → ha k = (hs (hs (hs h 6 6 (nI pl)) 6 7 (nI c)) 7 3 (h 21 i)) k) ∧ (∀ z, z < (q ++ [100 * d + 10 * v + aHd sg G.1]).length → z < 200 → ha 19 z = nI ((q ++ [100 * d + 10 * v + aHd sg G.1]).getD z 0)) ∧ KP h ha := ⟨_, rfl, fun k hk => anH_o _ _ _ hk, anH_19 h19, (((KP.refl h).hs (by omega)).hs (by omega)).hs (by omega) |>.an⟩
      rw [eha]
      have o20 : (entH (hs (hs ha 6 15 (nI (q.length + 1))) 7 3 (h 21 j)) cm (nI (4 + 4 * aHd sg G.1 + d)) (nI v) (h 21 i) (nI j)) 20 = h 20 := (show (entH (hs (hs ha 6 15 (nI (q.length + 1))) 7 3 (h 21 j)) cm (nI (4 + 4 * aHd sg G.1 + d)) (nI v) (h 21 i) (nI j)) 20 = ha 20 from rfl).trans (hao 20 (by decide))
      have o21 : (entH (hs (hs ha 6 15 (nI (q.length + 1))) 7 3 (h 21 j)) cm (nI (4 + 4 * aHd sg G.1 + d)) (nI v) (h 21 i) (nI j)) 21 = h 21 := (show (entH (hs (hs ha 6 15 (nI (q.length + 1))) 7 3 (h 21 j)) cm (nI (4 + 4 * aHd sg G.1 + d)) (nI v) (h 21 i) (nI j)) 21 = ha 21 from rfl).trans (hao 21 (by decide))
      have i22 : (hs (hs ha 6 15 (nI (q.length + 1))) 7 3 (h 21 j)) 22 = h 22 := (show (hs (hs ha 6 15 (nI (q.length + 1))) 7 3 (h 21 j)) 22 = ha 22 from rfl).trans (hao 22 (by decide))
      have i23 : (hs (hs ha 6 15 (nI (q.length + 1))) 7 3 (h 21 j)) 23 = h 23 := (show (hs (hs ha 6 15 (nI (q.length + 1))) 7 3 (h 21 j)) 23 = ha 23 from rfl).trans (hao 23 (by decide))
      have i24 : (hs (hs ha 6 15 (nI (q.length + 1))) 7 3 (h 21 j)) 24 = h 24 := (show (hs (hs ha 6 15 (nI (q.length + 1))) 7 3 (h 21 j)) 24 = ha 24 from rfl).trans (hao 24 (by decide))
      have i6 : ∀ z, ha 6 z = (hs (hs (hs h 6 6 (nI pl)) 6 7 (nI c)) 7 3 (h 21 i)) 6 z := fun z => by rw [hao 6 (by decide)]
      have i7 : ha 7 2 = h 7 2 := by rw [hao 7 (by decide)]; rfl
      have hcl : ∀ c, c < cm → (entH (hs (hs ha 6 15 (nI (q.length + 1))) 7 3 (h 21 j)) cm (nI (4 + 4 * aHd sg G.1 + d)) (nI v) (h 21 i) (nI j)) 22 c = h 22 c ∧ (entH (hs (hs ha 6 15 (nI (q.length + 1))) 7 3 (h 21 j)) cm (nI (4 + 4 * aHd sg G.1 + d)) (nI v) (h 21 i) (nI j)) 23 c = h 23 c ∧ (entH (hs (hs ha 6 15 (nI (q.length + 1))) 7 3 (h 21 j)) cm (nI (4 + 4 * aHd sg G.1 + d)) (nI v) (h 21 i) (nI j)) 24 c = h 24 c := fun c hc => by
        obtain ⟨z1, z2, z3⟩ := ent_lt (hs (hs ha 6 15 (nI (q.length + 1))) 7 3 (h 21 j)) (nI (4 + 4 * aHd sg G.1 + d)) (nI v) (h 21 i) (nI j) hc
        exact ⟨z1.trans (by rw [i22]), z2.trans (by rw [i23]), z3.trans (by rw [i24])⟩
      have hext : ∀ {nd : List Nat} {P : List aF} {t e : Int32}, chn h KS cm nd P t e → chn (entH (hs (hs ha 6 15 (nI (q.length + 1))) 7 3 (h 21 j)) cm (nI (4 + 4 * aHd sg G.1 + d)) (nI v) (h 21 i) (nI j)) (KS ++ [nA ++ [j]]) (cm + 1) nd P t e := by
        intro nd P t e hq
        exact chn_ext (h := h) (h' := (entH (hs (hs ha 6 15 (nI (q.length + 1))) 7 3 (h 21 j)) cm (nI (4 + 4 * aHd sg G.1 + d)) (nI v) (h 21 i) (nI j))) (Z := [nA ++ [j]]) (Nat.le_succ cm) hcl (fun z hz => ⟨by rw [o20], by rw [o21]⟩) hq
      obtain ⟨at1, at2, at3⟩ := ent_at (hs (hs ha 6 15 (nI (q.length + 1))) 7 3 (h 21 j)) cm (nI (4 + 4 * aHd sg G.1 + d)) (nI v) (h 21 i) (nI j)
      have hcG2 : chn h KS cm (nA ++ [j]) (A ++ [G]) (h 21 i) (h 21 j) := chn_join c1 ⟨rfl, ⟨cG, hcG, hmkG, harG, hckG⟩, rfl⟩
      obtain ⟨ah, ha1, ha2⟩ : ∃ a, (nA ++ [j]).head? = some a ∧ h 21 i = nI a := by
        cases nA with
        | nil => cases A with
          | nil => exact ⟨j, rfl, c1⟩
          | cons F A => exact c1.elim
        | cons y ys => cases A with
          | nil => exact c1.elim
          | cons F A => exact ⟨y, rfl, c1.1⟩
      have hKl : (KS ++ [nA ++ [j]]).length = (K ++ [A ++ [G]]).length := by rw [List.length_append, List.length_append, hKS]; rfl
      have hperm : (nC ++ (KS ++ [nA ++ [j]]).flatten).Perm (nd ++ KS.flatten) := by
        rw [List.flatten_append, show [nA ++ [j]].flatten = nA ++ [j] from by simp, en]
        refine (List.perm_append_comm).trans ?_
        rw [List.append_assoc]
        refine (List.perm_append_comm).trans ?_
        rw [show (nA ++ [j]) ++ nC ++ KS.flatten = nA ++ j :: nC ++ KS.flatten from by simp]
      refine hR _ _ ⟨rfl, ((hak.hs (by omega)).hs (by omega)).ent, made, cm + 1, nC, KS ++ [nA ++ [j]], (i6 4).trans h4, rfl, fun _ => ⟨nI_page _, cm, rfl, Nat.lt_succ_self _, at1, Or.inr ⟨nA ++ [j], ah, j, ?_, ha1, by simp, at2.trans ha2, at3⟩⟩, fun z => (by cases z), (i6 9).trans h9, (i6 12).trans h12, (i6 13).trans h13, ⟨(i6 10).trans h10, (i6 11).trans h11, (i6 14).trans h14, by rw [List.length_append]; rfl, ha19⟩, i7.trans hm, rfl, hext c3, hKl, fun z nj L z1 z2 => ?_, hperm.nodup_iff.mpr hnd2, fun z hz => hlt2 z (hperm.mem_iff.mp hz), hmd, by show cm + 1 + 0 ≤ n + 1; omega⟩
      · rw [Nat.add_sub_cancel, ← hKS, List.getElem?_append_right (Nat.le_refl _), Nat.sub_self]
        rfl
      · by_cases hz : z < KS.length
        · rw [List.getElem?_append_left hz] at z1
          rw [List.getElem?_append_left (by omega)] at z2
          obtain ⟨t, e, z3⟩ := hseg z nj L z1 z2
          exact ⟨t, e, hext z3⟩
        · rw [List.getElem?_append_right (by omega)] at z1
          rw [List.getElem?_append_right (by omega)] at z2
          have hz0 : z = KS.length := by
            have := (List.getElem?_eq_some_iff.mp z1).1
            simp only [List.length_cons, List.length_nil] at this
            omega
          subst hz0
          rw [Nat.sub_self] at z1
          rw [hKS, Nat.sub_self] at z2
          cases z1
          cases z2
          exact ⟨_, _, hext hcG2⟩
    · intro e_63_f c_63_f
      exfalso; omega
  · intro e_10_f c_10_f
    exfalso; omega
set_option maxHeartbeats 4000000 in
theorem t_take_ask0r (l : Launch) {sg : Nat → Int32} {ln sz : Nat → Nat} {r : List Nat} {rc rr : Nat} (hB : aWB sg ln sz) (h : mH) (hC : CB sg ln sz h) {v pl x k w : Nat} {P : List aF} {K : List (List aF)} {n g u : Nat} {q : List Nat} (hJ : aJ sg sz r (false, 0, v, 0, (pl, x, k, w) :: P, K, n, g, u, q)) (hRC : RC rc h (false, 0, v, 0, (pl, x, k, w) :: P, K, n, g, u, q)) {d : Nat} (hd : d < 3) (hsd : (sg pl).toInt = 112 + (d : Int)) (hN : aNr sg sz d P = none) (hCR : CR rc rr r h) (hS : Sh0[rc]? = some (.inl (3, [rr + 3, 0]))) (hA : Sh0[rr]? = some (.inr 8)) (hrc : rc = 3 ∨ rc = 4 ∨ rc = 5) (hrr : 16 ≤ rr ∧ rr ≤ 18) (hu : u < r.length) : mG l Sh0 iX4_takeUp [.inr 6] h (fun v' h' => v' = none ∧ KP h h' ∧ RO rc h' (aTop sg ln sz r v pl x k w P K n g u q)) := by
  obtain ⟨made, cm, nd, KS, h4, h5, hb, hb2, h9, h12, h13, ⟨h10, h11, h14, h15, h19⟩, hm, hcm, hch, hKS, hseg, hnd, hlt, hmd, hcc⟩ := hRC
  obtain ⟨jx, jb, jP, jK, jn, jg, ju, jq, jc, gs, g1, g2, g3, g4⟩ := hJ
  obtain ⟨i, nd, rfl⟩ : ∃ (i : Nat) (nd' : List Nat), nd = i :: nd' := by
    cases nd with
    | nil => exact hch.elim
    | cons i nd => exact ⟨i, nd, rfl⟩
  obtain ⟨h73, ⟨c, hc, hmk, har, hck⟩, hch2⟩ := hch
  dsimp only at hmk har hck
  have h68 : h 6 8 = nI v := hb2 rfl
  have hi : i < made := hlt i List.mem_cons_self
  have hM : made ≤ 8200 := by omega
  have hcc : cm + 1 ≤ n + 1 := hcc
  have hcc2 : cm ≤ 200 := by omega
  obtain ⟨f1, f2, f3, f4, f5, f6, f7⟩ := jP (pl, x, k, w) List.mem_cons_self
  dsimp only at f1 f2 f3 f4 f5 f6 f7
  have hp8 : pl < 800 := f1.1
  have hsg : h 13 pl = sg pl := hC.1 pl hp8
  have hB9 := hB.2 pl f1
  have hnd1 : i ∉ nd ++ KS.flatten := (List.nodup_cons.mp (by simpa using hnd)).1
  have hnd2 : (nd ++ KS.flatten).Nodup := (List.nodup_cons.mp (by simpa using hnd)).2
  have hlt2 : ∀ j ∈ nd ++ KS.flatten, j < made := fun j hj => hlt j (by rw [List.cons_append]; exact List.mem_cons_of_mem _ hj)
  have h1 : aOf (sg pl).toInt = 1 := by rcases (show d = 0 ∨ d = 1 ∨ d = 2 by omega) with z | z | z <;> subst z <;> rw [hsd] <;> decide
  have hs3 : (sg pl).toInt = 112 ∨ (sg pl).toInt = 113 ∨ (sg pl).toInt = 114 := by omega
  have hdd : ((sg pl).toInt - 112).toNat = d := by omega
  have hP2 : ∀ F ∈ P, aFok sg sz K.length F := fun F hF => jP F (List.mem_cons_of_mem _ hF)
  have hPl : P.length ≤ 200 := by have := aPt_len g2.2; omega
  have hql : q.length < 100000 := by
    have z1 : K.length + 1 ≤ n + 1 := jc
    have z2 : r.length ≤ 8 := hCR.2.1
    omega
  have hnl : ∀ j ∈ nd, j < made := fun j hj => hlt2 j (List.mem_append_left _ hj)
  have eT : aTop sg ln sz r v pl x k w P K n g u q = aAsk sg sz r d v P K n g u q := by
    unfold aTop
    rw [if_neg (by omega), if_neg (by omega), if_neg (by omega), if_neg (by omega), if_pos hs3, hdd]
  have eA : aAsk sg sz r d v P K n g u q = .inl (false, 0, r.getD u 0, 0, P, K, n, g, u + 1, q ++ [100 * d + 10 * v + 9]) := by
    unfold aAsk
    rw [hN]
    exact if_pos hu
  have hnr : nrN sg sz d nd P = -1 := nrN_none (aNr_none hN)
  obtain ⟨r1, r2, r3⟩ := hCR
  have hrP : (hs (hs (hs h 6 6 (nI pl)) 6 7 (nI c)) 7 3 (h 21 i)) rc 1 = nI r.length := by rw [hs_ne _ _ (by omega), hs_ne _ _ (by omega), hs_ne _ _ (by omega)]; exact r1
  have hrV : (hs (hs (hs h 6 6 (nI pl)) 6 7 (nI c)) 7 3 (h 21 i)) rr u = h rr u := by rw [hs_ne _ _ (by omega), hs_ne _ _ (by omega), hs_ne _ _ (by omega)]
  intro RT hR
  show mE l Sh0 none iX4_takeUp RT 0 [some (.inr 6), none, none] [] h
  refine e_aload_n (i := 0) dX4_takeUp_0 rfl rfl ?_
  refine e_getR (r := 7) dX4_takeUp_1 fl_X4_12 sh_6 fj_6_1 ?_
  refine e_getI (x := nI i) dX4_takeUp_4 fl_X4_115 sh_7 fj_7_3 h73 ?_
  refine e_istore_n (i := 1) (ls2 := [some (.inr 6), some (.inl (nI i)), none]) dX4_takeUp_7 rfl (Nat.le_of_ble_eq_true rfl) rfl ?_
  refine e_iload_n (i := 1) dX4_takeUp_8 rfl rfl ?_
  refine e_iconst (v := (-1)) dX4_takeUp_9 (by decide) ?_
  refine b_icmp_ne (X := ((i : Nat) : Int)) (Y := (-1)) (tgt := 22) (nI_toInt (by omega)) (by decide) dX4_takeUp_10 (by decide) ?_ ?_
  · intro e_10_t c_10_t
    refine e_aload_n (i := 0) dX4_takeUp_22 rfl rfl ?_
    refine e_aload_n (i := 0) dX4_takeUp_23 rfl rfl ?_
    refine e_getR (r := 7) dX4_takeUp_24 fl_X4_12 sh_6 fj_6_1 ?_
    refine e_iload_n (i := 1) dX4_takeUp_27 rfl rfl ?_
    refine e_invVi (As := [.inl (nI i)]) (v := nI pl) (h2 := h) dX4_takeUp_28 lk_X4_118 yv_X5_place rfl rfl rfl (Nat.le_of_ble_eq_true rfl) sh_7 ci_X5 (Nat.le_of_ble_eq_true rfl) ⟨Nat.le_of_ble_eq_true rfl, Nat.le_of_ble_eq_true rfl⟩ (k_T_placeX l h i made hm hi hM hmk hp8 (by omega) (by omega)) ?_
    refine e_putI dX4_takeUp_31 fl_X4_86 fp_X4_6 sh_6 fj_6_6 ?_
    refine e_aload_n (i := 0) dX4_takeUp_34 rfl rfl ?_
    refine e_aload_n (i := 0) dX4_takeUp_35 rfl rfl ?_
    refine e_getR (r := 7) dX4_takeUp_36 fl_X4_12 sh_6 fj_6_1 ?_
    refine e_iload_n (i := 1) dX4_takeUp_39 rfl rfl ?_
    refine e_invVi (As := [.inl (nI i)]) (v := nI c) (h2 := (hs h 6 6 (nI pl))) dX4_takeUp_40 lk_X4_120 yv_X5_call rfl rfl rfl (Nat.le_of_ble_eq_true rfl) sh_7 ci_X5 (Nat.le_of_ble_eq_true rfl) ⟨Nat.le_of_ble_eq_true rfl, Nat.le_of_ble_eq_true rfl⟩ (k_T_callX l (hs h 6 6 (nI pl)) i made hm hi hM hmk hp8 (by omega) (by omega)) ?_
    refine e_putI dX4_takeUp_43 fl_X4_83 fp_X4_7 sh_6 fj_6_7 ?_
    refine e_aload_n (i := 0) dX4_takeUp_46 rfl rfl ?_
    refine e_getR (r := 2) dX4_takeUp_47 fl_X4_29 sh_6 fj_6_0 ?_
    refine e_aload_n (i := 0) dX4_takeUp_50 rfl rfl ?_
    refine e_getI (x := nI pl) dX4_takeUp_51 fl_X4_86 sh_6 fj_6_6 rfl ?_
    refine e_invVi (As := [.inl (nI pl)]) (v := sg pl) (h2 := (hs (hs h 6 6 (nI pl)) 6 7 (nI c))) dX4_takeUp_54 lk_X4_92 yv_X0_sign rfl rfl rfl (Nat.le_of_ble_eq_true rfl) sh_2 ci_X0 (Nat.le_of_ble_eq_true rfl) ⟨Nat.le_of_ble_eq_true rfl, Nat.le_of_ble_eq_true rfl⟩ (k_B_signX l (hs (hs h 6 6 (nI pl)) 6 7 (nI c)) pl hp8 hsg) ?_
    refine e_istore_n (i := 2) (ls2 := [some (.inr 6), some (.inl (nI i)), some (.inl (sg pl))]) dX4_takeUp_57 rfl (Nat.le_of_ble_eq_true rfl) rfl ?_
    refine e_iload_n (i := 2) dX4_takeUp_58 rfl rfl ?_
    refine e_invSi (As := [.inl (sg pl)]) (v := aI (sg pl).toInt) (h2 := (hs (hs h 6 6 (nI pl)) 6 7 (nI c))) dX4_takeUp_59 lk_X4_105 ys_X7_textsOf rfl rfl rfl (Nat.le_of_ble_eq_true rfl) (Nat.le_of_ble_eq_true rfl) ⟨Nat.le_of_ble_eq_true rfl, Nat.le_of_ble_eq_true rfl⟩ (k_textsOf l (hs (hs h 6 6 (nI pl)) 6 7 (nI c)) (sg pl)) ?_
    refine e_iconst (v := 2) dX4_takeUp_62 (by decide) ?_
    refine b_icmp_ne (X := aOf (sg pl).toInt) (Y := 2) (tgt := 118) (aI_toInt _) (by decide) dX4_takeUp_63 (by decide) ?_ ?_
    · intro e_63_t c_63_t
      refine e_aload_n (i := 0) dX4_takeUp_118 rfl rfl ?_
      refine e_getR (r := 7) dX4_takeUp_119 fl_X4_12 sh_6 fj_6_1 ?_
      refine e_aload_n (i := 0) dX4_takeUp_122 rfl rfl ?_
      refine e_getR (r := 7) dX4_takeUp_123 fl_X4_12 sh_6 fj_6_1 ?_
      refine e_iload_n (i := 1) dX4_takeUp_126 rfl rfl ?_
      refine e_invVi (As := [.inl (nI i)]) (v := h 21 i) (h2 := (hs (hs h 6 6 (nI pl)) 6 7 (nI c))) dX4_takeUp_127 lk_X4_132 yv_X5_below rfl rfl rfl (Nat.le_of_ble_eq_true rfl) sh_7 ci_X5 (Nat.le_of_ble_eq_true rfl) ⟨Nat.le_of_ble_eq_true rfl, Nat.le_of_ble_eq_true rfl⟩ (k_T_belowX l (hs (hs h 6 6 (nI pl)) 6 7 (nI c)) i made hm hi hM rfl) ?_
      refine e_putI dX4_takeUp_130 fl_X4_115 fp_X5_3 sh_7 fj_7_3 ?_
      refine e_iload_n (i := 2) dX4_takeUp_133 rfl rfl ?_
      refine e_lookup (off := 90) (tgt := 224) dX4_takeUp_134 (by decide) (by rcases hs3 with z | z | z <;> rw [z] <;> decide) (by decide) ?_
      refine e_aload_n (i := 0) dX4_takeUp_224 rfl rfl ?_
      refine e_iload_n (i := 2) dX4_takeUp_225 rfl rfl ?_
      refine e_bipush (v := 112) dX4_takeUp_226 (by decide) ?_
      refine z_isub (z := nI d) (sub112 hsd) dX4_takeUp_228 ?_
      refine e_aload_n (i := 0) dX4_takeUp_229 rfl rfl ?_
      refine e_iload_n (i := 2) dX4_takeUp_230 rfl rfl ?_
      refine e_bipush (v := 112) dX4_takeUp_231 (by decide) ?_
      refine z_isub (z := nI d) (sub112 hsd) dX4_takeUp_233 ?_
      refine e_invVi (As := [.inl (nI d)]) (v := (-1)) (h2 := (hs (hs (hs h 6 6 (nI pl)) 6 7 (nI c)) 7 3 (h 21 i))) dX4_takeUp_234 lk_X4_147 yv_X4_nearest rfl rfl rfl (Nat.le_of_ble_eq_true rfl) sh_6 ci_X4 (Nat.le_of_ble_eq_true rfl) ⟨Nat.le_of_ble_eq_true rfl, Nat.le_of_ble_eq_true rfl⟩ (hnr ▸ k_X_nearest (KS := KS) (cm := cm) (made := made) (nK := K.length) l hB (hs (hs (hs h 6 6 (nI pl)) 6 7 (nI c)) 7 3 (h 21 i)) hC hd hm hM (by omega) nd P (chn_same (h := h) (h' := (hs (hs (hs h 6 6 (nI pl)) 6 7 (nI c)) 7 3 (h 21 i))) rfl rfl rfl rfl rfl hch2) hnl hP2 (by omega)) ?_
      refine e_invVv (As := [.inl (nI d), .inl (-1)]) (h2 := (hs (hs (hs (hs (anH (hs (hs (hs h 6 6 (nI pl)) 6 7 (nI c)) 7 3 (h 21 i)) q.length (nI (100 * d + 10 * v + 9))) 6 15 (nI (q.length + 1))) 6 8 (nI (r.getD u 0))) 6 5 0) 6 11 (nI (u + 1)))) (ty := .int) (v := 0) dX4_takeUp_237 lk_X4_150 yv_X4_ask rfl rfl rfl (Nat.le_of_ble_eq_true rfl) sh_6 ci_X4 (Nat.le_of_ble_eq_true rfl) ⟨Nat.le_of_ble_eq_true rfl, Nat.le_of_ble_eq_true rfl⟩ (k_X_ask0r l (hs (hs (hs h 6 6 (nI pl)) 6 7 (nI c)) 7 3 (h 21 i)) d v q.length hd jx hql h68 h15 rc rr u r.length hS hA hrc hrr h4 h11 hrP r2 ju (r.getD u 0) (hrV.trans (r3 u hu)) hu) ?_
      refine e_goto (tgt := 263) dX4_takeUp_240 (by decide) ?_
      refine e_ret dX4_takeUp_263 rfl ?_
      rw [eT, eA] at hR
      obtain ⟨ha, eha, hao, ha19, hak⟩ : ∃ ha : mH, (anH (hs (hs (hs h 6 6 (nI pl)) 6 7 (nI c)) 7 3 (h 21 i)) q.length (nI (100 * d + 10 * v + 9))) = ha ∧ (∀ k, k ≠ 19 → ha k = (hs (hs (hs h 6 6 (nI pl)) 6 7 (nI c)) 7 3 (h 21 i)) k) ∧ (∀ z, z < (q ++ [100 * d + 10 * v + 9]).length → z < 200 → ha 19 z = nI ((q ++ [100 * d + 10 * v + 9]).getD z 0)) ∧ KP h ha := ⟨_, rfl, fun k hk => anH_o _ _ _ hk, anH_19 h19, (((KP.refl h).hs (by omega)).hs (by omega)).hs (by omega) |>.an⟩
      rw [eha]
      have i6 : ∀ z, ha 6 z = (hs (hs (hs h 6 6 (nI pl)) 6 7 (nI c)) 7 3 (h 21 i)) 6 z := fun z => by rw [hao 6 (by decide)]
      have i7 : ∀ z, ha 7 z = (hs (hs (hs h 6 6 (nI pl)) 6 7 (nI c)) 7 3 (h 21 i)) 7 z := fun z => by rw [hao 7 (by decide)]
      have i8 : ha 8 3 = (hs (hs (hs h 6 6 (nI pl)) 6 7 (nI c)) 7 3 (h 21 i)) 8 3 := by rw [hao 8 (by decide)]
      have hext : ∀ {nd : List Nat} {P : List aF} {t e : Int32}, chn h KS cm nd P t e → chn (hs (hs (hs (hs ha 6 15 (nI (q.length + 1))) 6 8 (nI (r.getD u 0))) 6 5 0) 6 11 (nI (u + 1))) KS cm nd P t e := fun hq => chn_same (h := h) (h' := (hs (hs (hs (hs ha 6 15 (nI (q.length + 1))) 6 8 (nI (r.getD u 0))) 6 5 0) 6 11 (nI (u + 1)))) ((show (hs (hs (hs (hs ha 6 15 (nI (q.length + 1))) 6 8 (nI (r.getD u 0))) 6 5 0) 6 11 (nI (u + 1))) 20 = ha 20 from rfl).trans (hao 20 (by decide))) ((show (hs (hs (hs (hs ha 6 15 (nI (q.length + 1))) 6 8 (nI (r.getD u 0))) 6 5 0) 6 11 (nI (u + 1))) 21 = ha 21 from rfl).trans (hao 21 (by decide))) ((show (hs (hs (hs (hs ha 6 15 (nI (q.length + 1))) 6 8 (nI (r.getD u 0))) 6 5 0) 6 11 (nI (u + 1))) 22 = ha 22 from rfl).trans (hao 22 (by decide))) ((show (hs (hs (hs (hs ha 6 15 (nI (q.length + 1))) 6 8 (nI (r.getD u 0))) 6 5 0) 6 11 (nI (u + 1))) 23 = ha 23 from rfl).trans (hao 23 (by decide))) ((show (hs (hs (hs (hs ha 6 15 (nI (q.length + 1))) 6 8 (nI (r.getD u 0))) 6 5 0) 6 11 (nI (u + 1))) 24 = ha 24 from rfl).trans (hao 24 (by decide))) hq
      refine hR _ _ ⟨rfl, ((((hak.hs (by omega)).hs (by omega)).hs (by omega)).hs (by omega)), made, cm, nd, KS, (i6 4).trans h4, rfl, fun z => (by cases z), fun _ => rfl, (i6 9).trans h9, (i6 12).trans h12, (i6 13).trans h13, ⟨(i6 10).trans h10, rfl, (i6 14).trans h14, by rw [List.length_append]; rfl, ha19⟩, (i7 2).trans hm, i8.trans hcm, ?_, hKS, fun j nj L z1 z2 => (hseg j nj L z1 z2).imp (fun _ z => z.imp (fun _ z => hext z)), hnd2, hlt2, hmd, hcc⟩
      rw [show (hs (hs (hs (hs ha 6 15 (nI (q.length + 1))) 6 8 (nI (r.getD u 0))) 6 5 0) 6 11 (nI (u + 1))) 7 3 = h 21 i from (i7 3)]
      exact hext hch2
    · intro e_63_f c_63_f
      exfalso; omega
  · intro e_10_f c_10_f
    exfalso; omega
set_option maxHeartbeats 4000000 in
theorem t_take_ask0e (l : Launch) {sg : Nat → Int32} {ln sz : Nat → Nat} {r : List Nat} {rc rr : Nat} (hB : aWB sg ln sz) (h : mH) (hC : CB sg ln sz h) {v pl x k w : Nat} {P : List aF} {K : List (List aF)} {n g u : Nat} {q : List Nat} (hJ : aJ sg sz r (false, 0, v, 0, (pl, x, k, w) :: P, K, n, g, u, q)) (hRC : RC rc h (false, 0, v, 0, (pl, x, k, w) :: P, K, n, g, u, q)) {d : Nat} (hd : d < 3) (hsd : (sg pl).toInt = 112 + (d : Int)) (hN : aNr sg sz d P = none) (hCR : CR rc rr r h) (hS : Sh0[rc]? = some (.inl (3, [rr + 3, 0]))) (hA : Sh0[rr]? = some (.inr 8)) (hrc : rc = 3 ∨ rc = 4 ∨ rc = 5) (hrr : 16 ≤ rr ∧ rr ≤ 18) (hu : ¬ u < r.length) : mG l Sh0 iX4_takeUp [.inr 6] h (fun v' h' => v' = none ∧ KP h h' ∧ RO rc h' (aTop sg ln sz r v pl x k w P K n g u q)) := by
  obtain ⟨made, cm, nd, KS, h4, h5, hb, hb2, h9, h12, h13, ⟨h10, h11, h14, h15, h19⟩, hm, hcm, hch, hKS, hseg, hnd, hlt, hmd, hcc⟩ := hRC
  obtain ⟨jx, jb, jP, jK, jn, jg, ju, jq, jc, gs, g1, g2, g3, g4⟩ := hJ
  obtain ⟨i, nd, rfl⟩ : ∃ (i : Nat) (nd' : List Nat), nd = i :: nd' := by
    cases nd with
    | nil => exact hch.elim
    | cons i nd => exact ⟨i, nd, rfl⟩
  obtain ⟨h73, ⟨c, hc, hmk, har, hck⟩, hch2⟩ := hch
  dsimp only at hmk har hck
  have h68 : h 6 8 = nI v := hb2 rfl
  have hi : i < made := hlt i List.mem_cons_self
  have hM : made ≤ 8200 := by omega
  have hcc : cm + 1 ≤ n + 1 := hcc
  have hcc2 : cm ≤ 200 := by omega
  obtain ⟨f1, f2, f3, f4, f5, f6, f7⟩ := jP (pl, x, k, w) List.mem_cons_self
  dsimp only at f1 f2 f3 f4 f5 f6 f7
  have hp8 : pl < 800 := f1.1
  have hsg : h 13 pl = sg pl := hC.1 pl hp8
  have hB9 := hB.2 pl f1
  have hnd1 : i ∉ nd ++ KS.flatten := (List.nodup_cons.mp (by simpa using hnd)).1
  have hnd2 : (nd ++ KS.flatten).Nodup := (List.nodup_cons.mp (by simpa using hnd)).2
  have hlt2 : ∀ j ∈ nd ++ KS.flatten, j < made := fun j hj => hlt j (by rw [List.cons_append]; exact List.mem_cons_of_mem _ hj)
  have h1 : aOf (sg pl).toInt = 1 := by rcases (show d = 0 ∨ d = 1 ∨ d = 2 by omega) with z | z | z <;> subst z <;> rw [hsd] <;> decide
  have hs3 : (sg pl).toInt = 112 ∨ (sg pl).toInt = 113 ∨ (sg pl).toInt = 114 := by omega
  have hdd : ((sg pl).toInt - 112).toNat = d := by omega
  have hP2 : ∀ F ∈ P, aFok sg sz K.length F := fun F hF => jP F (List.mem_cons_of_mem _ hF)
  have hPl : P.length ≤ 200 := by have := aPt_len g2.2; omega
  have hql : q.length < 100000 := by
    have z1 : K.length + 1 ≤ n + 1 := jc
    have z2 : r.length ≤ 8 := hCR.2.1
    omega
  have hnl : ∀ j ∈ nd, j < made := fun j hj => hlt2 j (List.mem_append_left _ hj)
  have eT : aTop sg ln sz r v pl x k w P K n g u q = aAsk sg sz r d v P K n g u q := by
    unfold aTop
    rw [if_neg (by omega), if_neg (by omega), if_neg (by omega), if_neg (by omega), if_pos hs3, hdd]
  have eA : aAsk sg sz r d v P K n g u q = .inr (8, (d : Int), (v : Int), n, g, u, q ++ [100 * d + 10 * v + 9]) := by
    unfold aAsk
    rw [hN]
    exact if_neg hu
  have hnr : nrN sg sz d nd P = -1 := nrN_none (aNr_none hN)
  obtain ⟨r1, r2, r3⟩ := hCR
  have hrP : (hs (hs (hs h 6 6 (nI pl)) 6 7 (nI c)) 7 3 (h 21 i)) rc 1 = nI r.length := by rw [hs_ne _ _ (by omega), hs_ne _ _ (by omega), hs_ne _ _ (by omega)]; exact r1
  have hrV : (hs (hs (hs h 6 6 (nI pl)) 6 7 (nI c)) 7 3 (h 21 i)) rr u = h rr u := by rw [hs_ne _ _ (by omega), hs_ne _ _ (by omega), hs_ne _ _ (by omega)]
  intro RT hR
  show mE l Sh0 none iX4_takeUp RT 0 [some (.inr 6), none, none] [] h
  refine e_aload_n (i := 0) dX4_takeUp_0 rfl rfl ?_
  refine e_getR (r := 7) dX4_takeUp_1 fl_X4_12 sh_6 fj_6_1 ?_
  refine e_getI (x := nI i) dX4_takeUp_4 fl_X4_115 sh_7 fj_7_3 h73 ?_
  refine e_istore_n (i := 1) (ls2 := [some (.inr 6), some (.inl (nI i)), none]) dX4_takeUp_7 rfl (Nat.le_of_ble_eq_true rfl) rfl ?_
  refine e_iload_n (i := 1) dX4_takeUp_8 rfl rfl ?_
  refine e_iconst (v := (-1)) dX4_takeUp_9 (by decide) ?_
  refine b_icmp_ne (X := ((i : Nat) : Int)) (Y := (-1)) (tgt := 22) (nI_toInt (by omega)) (by decide) dX4_takeUp_10 (by decide) ?_ ?_
  · intro e_10_t c_10_t
    refine e_aload_n (i := 0) dX4_takeUp_22 rfl rfl ?_
    refine e_aload_n (i := 0) dX4_takeUp_23 rfl rfl ?_
    refine e_getR (r := 7) dX4_takeUp_24 fl_X4_12 sh_6 fj_6_1 ?_
    refine e_iload_n (i := 1) dX4_takeUp_27 rfl rfl ?_
    refine e_invVi (As := [.inl (nI i)]) (v := nI pl) (h2 := h) dX4_takeUp_28 lk_X4_118 yv_X5_place rfl rfl rfl (Nat.le_of_ble_eq_true rfl) sh_7 ci_X5 (Nat.le_of_ble_eq_true rfl) ⟨Nat.le_of_ble_eq_true rfl, Nat.le_of_ble_eq_true rfl⟩ (k_T_placeX l h i made hm hi hM hmk hp8 (by omega) (by omega)) ?_
    refine e_putI dX4_takeUp_31 fl_X4_86 fp_X4_6 sh_6 fj_6_6 ?_
    refine e_aload_n (i := 0) dX4_takeUp_34 rfl rfl ?_
    refine e_aload_n (i := 0) dX4_takeUp_35 rfl rfl ?_
    refine e_getR (r := 7) dX4_takeUp_36 fl_X4_12 sh_6 fj_6_1 ?_
    refine e_iload_n (i := 1) dX4_takeUp_39 rfl rfl ?_
    refine e_invVi (As := [.inl (nI i)]) (v := nI c) (h2 := (hs h 6 6 (nI pl))) dX4_takeUp_40 lk_X4_120 yv_X5_call rfl rfl rfl (Nat.le_of_ble_eq_true rfl) sh_7 ci_X5 (Nat.le_of_ble_eq_true rfl) ⟨Nat.le_of_ble_eq_true rfl, Nat.le_of_ble_eq_true rfl⟩ (k_T_callX l (hs h 6 6 (nI pl)) i made hm hi hM hmk hp8 (by omega) (by omega)) ?_
    refine e_putI dX4_takeUp_43 fl_X4_83 fp_X4_7 sh_6 fj_6_7 ?_
    refine e_aload_n (i := 0) dX4_takeUp_46 rfl rfl ?_
    refine e_getR (r := 2) dX4_takeUp_47 fl_X4_29 sh_6 fj_6_0 ?_
    refine e_aload_n (i := 0) dX4_takeUp_50 rfl rfl ?_
    refine e_getI (x := nI pl) dX4_takeUp_51 fl_X4_86 sh_6 fj_6_6 rfl ?_
    refine e_invVi (As := [.inl (nI pl)]) (v := sg pl) (h2 := (hs (hs h 6 6 (nI pl)) 6 7 (nI c))) dX4_takeUp_54 lk_X4_92 yv_X0_sign rfl rfl rfl (Nat.le_of_ble_eq_true rfl) sh_2 ci_X0 (Nat.le_of_ble_eq_true rfl) ⟨Nat.le_of_ble_eq_true rfl, Nat.le_of_ble_eq_true rfl⟩ (k_B_signX l (hs (hs h 6 6 (nI pl)) 6 7 (nI c)) pl hp8 hsg) ?_
    refine e_istore_n (i := 2) (ls2 := [some (.inr 6), some (.inl (nI i)), some (.inl (sg pl))]) dX4_takeUp_57 rfl (Nat.le_of_ble_eq_true rfl) rfl ?_
    refine e_iload_n (i := 2) dX4_takeUp_58 rfl rfl ?_
    refine e_invSi (As := [.inl (sg pl)]) (v := aI (sg pl).toInt) (h2 := (hs (hs h 6 6 (nI pl)) 6 7 (nI c))) dX4_takeUp_59 lk_X4_105 ys_X7_textsOf rfl rfl rfl (Nat.le_of_ble_eq_true rfl) (Nat.le_of_ble_eq_true rfl) ⟨Nat.le_of_ble_eq_true rfl, Nat.le_of_ble_eq_true rfl⟩ (k_textsOf l (hs (hs h 6 6 (nI pl)) 6 7 (nI c)) (sg pl)) ?_
    refine e_iconst (v := 2) dX4_takeUp_62 (by decide) ?_
    refine b_icmp_ne (X := aOf (sg pl).toInt) (Y := 2) (tgt := 118) (aI_toInt _) (by decide) dX4_takeUp_63 (by decide) ?_ ?_
    · intro e_63_t c_63_t
      refine e_aload_n (i := 0) dX4_takeUp_118 rfl rfl ?_
      refine e_getR (r := 7) dX4_takeUp_119 fl_X4_12 sh_6 fj_6_1 ?_
      refine e_aload_n (i := 0) dX4_takeUp_122 rfl rfl ?_
      refine e_getR (r := 7) dX4_takeUp_123 fl_X4_12 sh_6 fj_6_1 ?_
      refine e_iload_n (i := 1) dX4_takeUp_126 rfl rfl ?_
      refine e_invVi (As := [.inl (nI i)]) (v := h 21 i) (h2 := (hs (hs h 6 6 (nI pl)) 6 7 (nI c))) dX4_takeUp_127 lk_X4_132 yv_X5_below rfl rfl rfl (Nat.le_of_ble_eq_true rfl) sh_7 ci_X5 (Nat.le_of_ble_eq_true rfl) ⟨Nat.le_of_ble_eq_true rfl, Nat.le_of_ble_eq_true rfl⟩ (k_T_belowX l (hs (hs h 6 6 (nI pl)) 6 7 (nI c)) i made hm hi hM rfl) ?_
      refine e_putI dX4_takeUp_130 fl_X4_115 fp_X5_3 sh_7 fj_7_3 ?_
      refine e_iload_n (i := 2) dX4_takeUp_133 rfl rfl ?_
      refine e_lookup (off := 90) (tgt := 224) dX4_takeUp_134 (by decide) (by rcases hs3 with z | z | z <;> rw [z] <;> decide) (by decide) ?_
      refine e_aload_n (i := 0) dX4_takeUp_224 rfl rfl ?_
      refine e_iload_n (i := 2) dX4_takeUp_225 rfl rfl ?_
      refine e_bipush (v := 112) dX4_takeUp_226 (by decide) ?_
      refine z_isub (z := nI d) (sub112 hsd) dX4_takeUp_228 ?_
      refine e_aload_n (i := 0) dX4_takeUp_229 rfl rfl ?_
      refine e_iload_n (i := 2) dX4_takeUp_230 rfl rfl ?_
      refine e_bipush (v := 112) dX4_takeUp_231 (by decide) ?_
      refine z_isub (z := nI d) (sub112 hsd) dX4_takeUp_233 ?_
      refine e_invVi (As := [.inl (nI d)]) (v := (-1)) (h2 := (hs (hs (hs h 6 6 (nI pl)) 6 7 (nI c)) 7 3 (h 21 i))) dX4_takeUp_234 lk_X4_147 yv_X4_nearest rfl rfl rfl (Nat.le_of_ble_eq_true rfl) sh_6 ci_X4 (Nat.le_of_ble_eq_true rfl) ⟨Nat.le_of_ble_eq_true rfl, Nat.le_of_ble_eq_true rfl⟩ (hnr ▸ k_X_nearest (KS := KS) (cm := cm) (made := made) (nK := K.length) l hB (hs (hs (hs h 6 6 (nI pl)) 6 7 (nI c)) 7 3 (h 21 i)) hC hd hm hM (by omega) nd P (chn_same (h := h) (h' := (hs (hs (hs h 6 6 (nI pl)) 6 7 (nI c)) 7 3 (h 21 i))) rfl rfl rfl rfl rfl hch2) hnl hP2 (by omega)) ?_
      refine e_invVv (As := [.inl (nI d), .inl (-1)]) (h2 := (hs (hs (hs (hs (anH (hs (hs (hs h 6 6 (nI pl)) 6 7 (nI c)) 7 3 (h 21 i)) q.length (nI (100 * d + 10 * v + 9))) 6 15 (nI (q.length + 1))) 6 9 8) 6 12 (nI d)) 6 13 (nI v))) (ty := .int) (v := 0) dX4_takeUp_237 lk_X4_150 yv_X4_ask rfl rfl rfl (Nat.le_of_ble_eq_true rfl) sh_6 ci_X4 (Nat.le_of_ble_eq_true rfl) ⟨Nat.le_of_ble_eq_true rfl, Nat.le_of_ble_eq_true rfl⟩ (k_X_ask0e l (hs (hs (hs h 6 6 (nI pl)) 6 7 (nI c)) 7 3 (h 21 i)) d v q.length hd jx hql h68 h15 rc rr u r.length hS hA hrc hrr h4 h11 hrP r2 ju (by omega)) ?_
      refine e_goto (tgt := 263) dX4_takeUp_240 (by decide) ?_
      refine e_ret dX4_takeUp_263 rfl ?_
      rw [eT, eA] at hR
      obtain ⟨ha, eha, hao, ha19, hak⟩ : ∃ ha : mH, (anH (hs (hs (hs h 6 6 (nI pl)) 6 7 (nI c)) 7 3 (h 21 i)) q.length (nI (100 * d + 10 * v + 9))) = ha ∧ (∀ k, k ≠ 19 → ha k = (hs (hs (hs h 6 6 (nI pl)) 6 7 (nI c)) 7 3 (h 21 i)) k) ∧ (∀ z, z < (q ++ [100 * d + 10 * v + 9]).length → z < 200 → ha 19 z = nI ((q ++ [100 * d + 10 * v + 9]).getD z 0)) ∧ KP h ha := ⟨_, rfl, fun k hk => anH_o _ _ _ hk, anH_19 h19, (((KP.refl h).hs (by omega)).hs (by omega)).hs (by omega) |>.an⟩
      rw [eha]
      have i6 : ∀ z, ha 6 z = (hs (hs (hs h 6 6 (nI pl)) 6 7 (nI c)) 7 3 (h 21 i)) 6 z := fun z => by rw [hao 6 (by decide)]
      have i7 : ∀ z, ha 7 z = (hs (hs (hs h 6 6 (nI pl)) 6 7 (nI c)) 7 3 (h 21 i)) 7 z := fun z => by rw [hao 7 (by decide)]
      have i8 : ha 8 3 = (hs (hs (hs h 6 6 (nI pl)) 6 7 (nI c)) 7 3 (h 21 i)) 8 3 := by rw [hao 8 (by decide)]
      exact hR _ _ ⟨rfl, ((((hak.hs (by omega)).hs (by omega)).hs (by omega)).hs (by omega)), (by show (8 : Int32).toInt = 8; decide), (by show (nI d).toInt = (d : Int); exact nI_toInt (by omega)), (by show (nI v).toInt = (v : Int); exact nI_toInt (by omega)), (i6 10).trans h10, (i6 11).trans h11, (i6 14).trans h14, by rw [List.length_append]; rfl, ha19⟩
    · intro e_63_f c_63_f
      exfalso; omega
  · intro e_10_f c_10_f
    exfalso; omega
