/-! The class's OFTEN. -/
theorem nI_max {a b : Nat} (ha : a < 2 ^ 31) (hb9 : b < 2 ^ 31) : (if nI a < nI b then nI b else nI a) = nI (if a < b then b else a) := by
  by_cases z : a < b
  · rw [if_pos z, if_pos (Int32.lt_iff_toInt_lt.mpr (by rw [nI_toInt ha, nI_toInt hb9]; omega))]
  · rw [if_neg z, if_neg (fun q => by have := Int32.lt_iff_toInt_lt.mp q; rw [nI_toInt ha, nI_toInt hb9] at this; omega)]
theorem nI_min {a b : Nat} (ha : a < 2 ^ 31) (hb9 : b < 2 ^ 31) : (if nI a < nI b then nI a else nI b) = nI (if a < b then a else b) := by
  by_cases z : a < b
  · rw [if_pos z, if_pos (Int32.lt_iff_toInt_lt.mpr (by rw [nI_toInt ha, nI_toInt hb9]; omega))]
  · rw [if_neg z, if_neg (fun q => by have := Int32.lt_iff_toInt_lt.mp q; rw [nI_toInt ha, nI_toInt hb9] at this; omega)]
theorem k_W_countedX (l : Launch) (h : mH) (p : Nat) (hp : p < 800) {s : Int32} (e : h 26 p = s) : mD l Sh0 iX6_counted [.inr 9, .inl (nI p)] h (some s) h := by
  have q := k_W_counted l h (nI p)
  rw [gA_in hp (by omega), e] at q
  exact q
set_option maxHeartbeats 1000000 in
theorem k_W_go_k (l : Launch) (h : mH) (sg : Nat → Int32) (ln : Nat → Nat) (p : Nat) (hp : p < 800) (e : h 13 p = sg p) (S : Nat → Nat) (hS : ∀ i, S i ≤ 2) (he : ∀ i, i < (aOf (sg p).toInt).toNat → pOf ln (aFs sg p) i < 800 ∧ h 26 (pOf ln (aFs sg p) i) = nI (S i) ∧ h 14 (pOf ln (aFs sg p) i) = nI (pOf ln (aFs sg p) (i + 1))) (hx : (sg p).toInt = 107) : mD l Sh0 iX6_goingsOf [.inr 9, .inl (nI p)] h (some (nI (oT (sg p).toInt S))) h := by
  have s0 := hS 0
  have s1 := hS 1
  have s2 := hS 2
  have ho : (aOf (sg p).toInt).toNat = 1 := by rw [hx]; decide
  rw [ho] at he
  have e0 := he 0 (by omega)
  have eT : oT (sg p).toInt S = S 0 + 1 := by unfold oT; rw [if_pos hx]
  rw [eT]
  intro RT hR
  show mE l Sh0 none iX6_goingsOf RT 0 [some (.inr 9), some (.inl (nI p)), none, none] [] h
  refine e_aload_n (i := 0) dX6_goingsOf_0 rfl rfl ?_
  refine e_getR (r := 2) dX6_goingsOf_1 fl_X6_21 sh_9 fj_9_0 ?_
  refine e_iload_n (i := 1) dX6_goingsOf_4 rfl rfl ?_
  refine e_invVi (As := [.inl (nI p)]) (v := nI (pOf ln (aFs sg p) 0)) (h2 := h) dX6_goingsOf_5 lk_X6_53 yv_X0_first rfl rfl rfl (Nat.le_of_ble_eq_true rfl) sh_2 ci_X0 (Nat.le_of_ble_eq_true rfl) ⟨Nat.le_of_ble_eq_true rfl, Nat.le_of_ble_eq_true rfl⟩ (k_B_firstX l h sg p hp e) ?_
  refine e_istore_n (i := 2) (ls2 := [some (.inr 9), some (.inl (nI p)), some (.inl (nI (pOf ln (aFs sg p) 0))), none]) dX6_goingsOf_8 rfl (Nat.le_of_ble_eq_true rfl) rfl ?_
  refine e_aload_n (i := 0) dX6_goingsOf_9 rfl rfl ?_
  refine e_getR (r := 2) dX6_goingsOf_10 fl_X6_21 sh_9 fj_9_0 ?_
  refine e_iload_n (i := 2) dX6_goingsOf_13 rfl rfl ?_
  refine e_invVi (As := [.inl (nI (pOf ln (aFs sg p) 0))]) (v := nI (pOf ln (aFs sg p) 1)) (h2 := h) dX6_goingsOf_14 lk_X6_59 yv_X0_after rfl rfl rfl (Nat.le_of_ble_eq_true rfl) sh_2 ci_X0 (Nat.le_of_ble_eq_true rfl) ⟨Nat.le_of_ble_eq_true rfl, Nat.le_of_ble_eq_true rfl⟩ (k_B_afterX l h (pOf ln (aFs sg p) 0) e0.1 e0.2.2) ?_
  refine e_istore_n (i := 3) (ls2 := [some (.inr 9), some (.inl (nI p)), some (.inl (nI (pOf ln (aFs sg p) 0))), some (.inl (nI (pOf ln (aFs sg p) 1)))]) dX6_goingsOf_17 rfl (Nat.le_of_ble_eq_true rfl) rfl ?_
  refine e_aload_n (i := 0) dX6_goingsOf_18 rfl rfl ?_
  refine e_getR (r := 2) dX6_goingsOf_19 fl_X6_21 sh_9 fj_9_0 ?_
  refine e_iload_n (i := 1) dX6_goingsOf_22 rfl rfl ?_
  refine e_invVi (As := [.inl (nI p)]) (v := sg p) (h2 := h) dX6_goingsOf_23 lk_X6_50 yv_X0_sign rfl rfl rfl (Nat.le_of_ble_eq_true rfl) sh_2 ci_X0 (Nat.le_of_ble_eq_true rfl) ⟨Nat.le_of_ble_eq_true rfl, Nat.le_of_ble_eq_true rfl⟩ (k_B_signX l h p hp e) ?_
  refine e_lookup (off := 135) (tgt := 161) dX6_goingsOf_26 (by decide) (by rw [hx]; decide) (by decide) ?_
  refine e_aload_n (i := 0) dX6_goingsOf_161 rfl rfl ?_
  refine e_iload_n (i := 2) dX6_goingsOf_162 rfl rfl ?_
  refine e_invVi (As := [.inl (nI (pOf ln (aFs sg p) 0))]) (v := nI (S 0)) (h2 := h) dX6_goingsOf_163 lk_X6_77 yv_X6_counted rfl rfl rfl (Nat.le_of_ble_eq_true rfl) sh_9 ci_X6 (Nat.le_of_ble_eq_true rfl) ⟨Nat.le_of_ble_eq_true rfl, Nat.le_of_ble_eq_true rfl⟩ (k_W_countedX l h (pOf ln (aFs sg p) 0) e0.1 e0.2.1) ?_
  refine e_iconst (v := 1) dX6_goingsOf_166 (by decide) ?_
  refine z_iadd (z := nI (S 0 + 1)) (nI_addc _ 1) dX6_goingsOf_167 ?_
  refine e_iret dX6_goingsOf_168 (mret_i _) ?_
  exact hR
set_option maxHeartbeats 1000000 in
theorem k_W_go_a (l : Launch) (h : mH) (sg : Nat → Int32) (ln : Nat → Nat) (p : Nat) (hp : p < 800) (e : h 13 p = sg p) (S : Nat → Nat) (hS : ∀ i, S i ≤ 2) (he : ∀ i, i < (aOf (sg p).toInt).toNat → pOf ln (aFs sg p) i < 800 ∧ h 26 (pOf ln (aFs sg p) i) = nI (S i) ∧ h 14 (pOf ln (aFs sg p) i) = nI (pOf ln (aFs sg p) (i + 1))) (hx : (sg p).toInt = 64) : mD l Sh0 iX6_goingsOf [.inr 9, .inl (nI p)] h (some (nI (oT (sg p).toInt S))) h := by
  have s0 := hS 0
  have s1 := hS 1
  have s2 := hS 2
  have ho : (aOf (sg p).toInt).toNat = 1 := by rw [hx]; decide
  rw [ho] at he
  have e0 := he 0 (by omega)
  have eT : oT (sg p).toInt S = if 0 < S 0 then 2 else 0 := by unfold oT; rw [hx]; rfl
  rw [eT]
  intro RT hR
  show mE l Sh0 none iX6_goingsOf RT 0 [some (.inr 9), some (.inl (nI p)), none, none] [] h
  refine e_aload_n (i := 0) dX6_goingsOf_0 rfl rfl ?_
  refine e_getR (r := 2) dX6_goingsOf_1 fl_X6_21 sh_9 fj_9_0 ?_
  refine e_iload_n (i := 1) dX6_goingsOf_4 rfl rfl ?_
  refine e_invVi (As := [.inl (nI p)]) (v := nI (pOf ln (aFs sg p) 0)) (h2 := h) dX6_goingsOf_5 lk_X6_53 yv_X0_first rfl rfl rfl (Nat.le_of_ble_eq_true rfl) sh_2 ci_X0 (Nat.le_of_ble_eq_true rfl) ⟨Nat.le_of_ble_eq_true rfl, Nat.le_of_ble_eq_true rfl⟩ (k_B_firstX l h sg p hp e) ?_
  refine e_istore_n (i := 2) (ls2 := [some (.inr 9), some (.inl (nI p)), some (.inl (nI (pOf ln (aFs sg p) 0))), none]) dX6_goingsOf_8 rfl (Nat.le_of_ble_eq_true rfl) rfl ?_
  refine e_aload_n (i := 0) dX6_goingsOf_9 rfl rfl ?_
  refine e_getR (r := 2) dX6_goingsOf_10 fl_X6_21 sh_9 fj_9_0 ?_
  refine e_iload_n (i := 2) dX6_goingsOf_13 rfl rfl ?_
  refine e_invVi (As := [.inl (nI (pOf ln (aFs sg p) 0))]) (v := nI (pOf ln (aFs sg p) 1)) (h2 := h) dX6_goingsOf_14 lk_X6_59 yv_X0_after rfl rfl rfl (Nat.le_of_ble_eq_true rfl) sh_2 ci_X0 (Nat.le_of_ble_eq_true rfl) ⟨Nat.le_of_ble_eq_true rfl, Nat.le_of_ble_eq_true rfl⟩ (k_B_afterX l h (pOf ln (aFs sg p) 0) e0.1 e0.2.2) ?_
  refine e_istore_n (i := 3) (ls2 := [some (.inr 9), some (.inl (nI p)), some (.inl (nI (pOf ln (aFs sg p) 0))), some (.inl (nI (pOf ln (aFs sg p) 1)))]) dX6_goingsOf_17 rfl (Nat.le_of_ble_eq_true rfl) rfl ?_
  refine e_aload_n (i := 0) dX6_goingsOf_18 rfl rfl ?_
  refine e_getR (r := 2) dX6_goingsOf_19 fl_X6_21 sh_9 fj_9_0 ?_
  refine e_iload_n (i := 1) dX6_goingsOf_22 rfl rfl ?_
  refine e_invVi (As := [.inl (nI p)]) (v := sg p) (h2 := h) dX6_goingsOf_23 lk_X6_50 yv_X0_sign rfl rfl rfl (Nat.le_of_ble_eq_true rfl) sh_2 ci_X0 (Nat.le_of_ble_eq_true rfl) ⟨Nat.le_of_ble_eq_true rfl, Nat.le_of_ble_eq_true rfl⟩ (k_B_signX l h p hp e) ?_
  refine e_lookup (off := 143) (tgt := 169) dX6_goingsOf_26 (by decide) (by rw [hx]; decide) (by decide) ?_
  refine e_aload_n (i := 0) dX6_goingsOf_169 rfl rfl ?_
  refine e_iload_n (i := 2) dX6_goingsOf_170 rfl rfl ?_
  refine e_invVi (As := [.inl (nI (pOf ln (aFs sg p) 0))]) (v := nI (S 0)) (h2 := h) dX6_goingsOf_171 lk_X6_77 yv_X6_counted rfl rfl rfl (Nat.le_of_ble_eq_true rfl) sh_9 ci_X6 (Nat.le_of_ble_eq_true rfl) ⟨Nat.le_of_ble_eq_true rfl, Nat.le_of_ble_eq_true rfl⟩ (k_W_countedX l h (pOf ln (aFs sg p) 0) e0.1 e0.2.1) ?_
  refine b_if_le (X := ((S 0 : Nat) : Int)) (tgt := 181) (nI_toInt (by omega)) dX6_goingsOf_174 (by decide) ?_ ?_
  · intro c_174_t
    refine e_iconst (v := 0) dX6_goingsOf_181 (by decide) ?_
    refine e_iret dX6_goingsOf_182 (mret_i _) ?_
    rw [if_neg (by omega), show nI 0 = 0 from by decide] at hR
    exact hR
  · intro c_174_f
    refine e_iconst (v := 2) dX6_goingsOf_177 (by decide) ?_
    refine e_goto (tgt := 182) dX6_goingsOf_178 (by decide) ?_
    refine e_iret dX6_goingsOf_182 (mret_i _) ?_
    rw [if_pos (by omega), show nI 2 = 2 from by decide] at hR
    exact hR
set_option maxHeartbeats 1000000 in
theorem k_W_go_q (l : Launch) (h : mH) (sg : Nat → Int32) (ln : Nat → Nat) (p : Nat) (hp : p < 800) (e : h 13 p = sg p) (S : Nat → Nat) (hS : ∀ i, S i ≤ 2) (he : ∀ i, i < (aOf (sg p).toInt).toNat → pOf ln (aFs sg p) i < 800 ∧ h 26 (pOf ln (aFs sg p) i) = nI (S i) ∧ h 14 (pOf ln (aFs sg p) i) = nI (pOf ln (aFs sg p) (i + 1))) (hx : (sg p).toInt = 112 ∨ (sg p).toInt = 113 ∨ (sg p).toInt = 114) : mD l Sh0 iX6_goingsOf [.inr 9, .inl (nI p)] h (some (nI (oT (sg p).toInt S))) h := by
  have s0 := hS 0
  have s1 := hS 1
  have s2 := hS 2
  have ho : (aOf (sg p).toInt).toNat = 1 := by rcases hx with z | z | z <;> rw [z] <;> decide
  rw [ho] at he
  have e0 := he 0 (by omega)
  have eT : oT (sg p).toInt S = S 0 := by unfold oT; rcases hx with z | z | z <;> rw [z] <;> rfl
  rw [eT]
  intro RT hR
  show mE l Sh0 none iX6_goingsOf RT 0 [some (.inr 9), some (.inl (nI p)), none, none] [] h
  refine e_aload_n (i := 0) dX6_goingsOf_0 rfl rfl ?_
  refine e_getR (r := 2) dX6_goingsOf_1 fl_X6_21 sh_9 fj_9_0 ?_
  refine e_iload_n (i := 1) dX6_goingsOf_4 rfl rfl ?_
  refine e_invVi (As := [.inl (nI p)]) (v := nI (pOf ln (aFs sg p) 0)) (h2 := h) dX6_goingsOf_5 lk_X6_53 yv_X0_first rfl rfl rfl (Nat.le_of_ble_eq_true rfl) sh_2 ci_X0 (Nat.le_of_ble_eq_true rfl) ⟨Nat.le_of_ble_eq_true rfl, Nat.le_of_ble_eq_true rfl⟩ (k_B_firstX l h sg p hp e) ?_
  refine e_istore_n (i := 2) (ls2 := [some (.inr 9), some (.inl (nI p)), some (.inl (nI (pOf ln (aFs sg p) 0))), none]) dX6_goingsOf_8 rfl (Nat.le_of_ble_eq_true rfl) rfl ?_
  refine e_aload_n (i := 0) dX6_goingsOf_9 rfl rfl ?_
  refine e_getR (r := 2) dX6_goingsOf_10 fl_X6_21 sh_9 fj_9_0 ?_
  refine e_iload_n (i := 2) dX6_goingsOf_13 rfl rfl ?_
  refine e_invVi (As := [.inl (nI (pOf ln (aFs sg p) 0))]) (v := nI (pOf ln (aFs sg p) 1)) (h2 := h) dX6_goingsOf_14 lk_X6_59 yv_X0_after rfl rfl rfl (Nat.le_of_ble_eq_true rfl) sh_2 ci_X0 (Nat.le_of_ble_eq_true rfl) ⟨Nat.le_of_ble_eq_true rfl, Nat.le_of_ble_eq_true rfl⟩ (k_B_afterX l h (pOf ln (aFs sg p) 0) e0.1 e0.2.2) ?_
  refine e_istore_n (i := 3) (ls2 := [some (.inr 9), some (.inl (nI p)), some (.inl (nI (pOf ln (aFs sg p) 0))), some (.inl (nI (pOf ln (aFs sg p) 1)))]) dX6_goingsOf_17 rfl (Nat.le_of_ble_eq_true rfl) rfl ?_
  refine e_aload_n (i := 0) dX6_goingsOf_18 rfl rfl ?_
  refine e_getR (r := 2) dX6_goingsOf_19 fl_X6_21 sh_9 fj_9_0 ?_
  refine e_iload_n (i := 1) dX6_goingsOf_22 rfl rfl ?_
  refine e_invVi (As := [.inl (nI p)]) (v := sg p) (h2 := h) dX6_goingsOf_23 lk_X6_50 yv_X0_sign rfl rfl rfl (Nat.le_of_ble_eq_true rfl) sh_2 ci_X0 (Nat.le_of_ble_eq_true rfl) ⟨Nat.le_of_ble_eq_true rfl, Nat.le_of_ble_eq_true rfl⟩ (k_B_signX l h p hp e) ?_
  refine e_lookup (off := 129) (tgt := 155) dX6_goingsOf_26 (by decide) (by rcases hx with z | z | z <;> rw [z] <;> decide) (by decide) ?_
  refine e_aload_n (i := 0) dX6_goingsOf_155 rfl rfl ?_
  refine e_iload_n (i := 2) dX6_goingsOf_156 rfl rfl ?_
  refine e_invVi (As := [.inl (nI (pOf ln (aFs sg p) 0))]) (v := nI (S 0)) (h2 := h) dX6_goingsOf_157 lk_X6_77 yv_X6_counted rfl rfl rfl (Nat.le_of_ble_eq_true rfl) sh_9 ci_X6 (Nat.le_of_ble_eq_true rfl) ⟨Nat.le_of_ble_eq_true rfl, Nat.le_of_ble_eq_true rfl⟩ (k_W_countedX l h (pOf ln (aFs sg p) 0) e0.1 e0.2.1) ?_
  refine e_iret dX6_goingsOf_160 (mret_i _) ?_
  exact hR
set_option maxHeartbeats 1000000 in
theorem k_W_go_2 (l : Launch) (h : mH) (sg : Nat → Int32) (ln : Nat → Nat) (p : Nat) (hp : p < 800) (e : h 13 p = sg p) (S : Nat → Nat) (hS : ∀ i, S i ≤ 2) (he : ∀ i, i < (aOf (sg p).toInt).toNat → pOf ln (aFs sg p) i < 800 ∧ h 26 (pOf ln (aFs sg p) i) = nI (S i) ∧ h 14 (pOf ln (aFs sg p) i) = nI (pOf ln (aFs sg p) (i + 1))) (hx : (sg p).toInt = 43 ∨ (sg p).toInt = 45 ∨ (sg p).toInt = 42 ∨ (sg p).toInt = 109) : mD l Sh0 iX6_goingsOf [.inr 9, .inl (nI p)] h (some (nI (oT (sg p).toInt S))) h := by
  have s0 := hS 0
  have s1 := hS 1
  have s2 := hS 2
  have ho : (aOf (sg p).toInt).toNat = 2 := by rcases hx with z | z | z | z <;> rw [z] <;> decide
  rw [ho] at he
  have e0 := he 0 (by omega)
  have e1 := he 1 (by omega)
  have eT : oT (sg p).toInt S = S 0 + S 1 := by unfold oT; rcases hx with z | z | z | z <;> rw [z] <;> rfl
  rw [eT]
  intro RT hR
  show mE l Sh0 none iX6_goingsOf RT 0 [some (.inr 9), some (.inl (nI p)), none, none] [] h
  refine e_aload_n (i := 0) dX6_goingsOf_0 rfl rfl ?_
  refine e_getR (r := 2) dX6_goingsOf_1 fl_X6_21 sh_9 fj_9_0 ?_
  refine e_iload_n (i := 1) dX6_goingsOf_4 rfl rfl ?_
  refine e_invVi (As := [.inl (nI p)]) (v := nI (pOf ln (aFs sg p) 0)) (h2 := h) dX6_goingsOf_5 lk_X6_53 yv_X0_first rfl rfl rfl (Nat.le_of_ble_eq_true rfl) sh_2 ci_X0 (Nat.le_of_ble_eq_true rfl) ⟨Nat.le_of_ble_eq_true rfl, Nat.le_of_ble_eq_true rfl⟩ (k_B_firstX l h sg p hp e) ?_
  refine e_istore_n (i := 2) (ls2 := [some (.inr 9), some (.inl (nI p)), some (.inl (nI (pOf ln (aFs sg p) 0))), none]) dX6_goingsOf_8 rfl (Nat.le_of_ble_eq_true rfl) rfl ?_
  refine e_aload_n (i := 0) dX6_goingsOf_9 rfl rfl ?_
  refine e_getR (r := 2) dX6_goingsOf_10 fl_X6_21 sh_9 fj_9_0 ?_
  refine e_iload_n (i := 2) dX6_goingsOf_13 rfl rfl ?_
  refine e_invVi (As := [.inl (nI (pOf ln (aFs sg p) 0))]) (v := nI (pOf ln (aFs sg p) 1)) (h2 := h) dX6_goingsOf_14 lk_X6_59 yv_X0_after rfl rfl rfl (Nat.le_of_ble_eq_true rfl) sh_2 ci_X0 (Nat.le_of_ble_eq_true rfl) ⟨Nat.le_of_ble_eq_true rfl, Nat.le_of_ble_eq_true rfl⟩ (k_B_afterX l h (pOf ln (aFs sg p) 0) e0.1 e0.2.2) ?_
  refine e_istore_n (i := 3) (ls2 := [some (.inr 9), some (.inl (nI p)), some (.inl (nI (pOf ln (aFs sg p) 0))), some (.inl (nI (pOf ln (aFs sg p) 1)))]) dX6_goingsOf_17 rfl (Nat.le_of_ble_eq_true rfl) rfl ?_
  refine e_aload_n (i := 0) dX6_goingsOf_18 rfl rfl ?_
  refine e_getR (r := 2) dX6_goingsOf_19 fl_X6_21 sh_9 fj_9_0 ?_
  refine e_iload_n (i := 1) dX6_goingsOf_22 rfl rfl ?_
  refine e_invVi (As := [.inl (nI p)]) (v := sg p) (h2 := h) dX6_goingsOf_23 lk_X6_50 yv_X0_sign rfl rfl rfl (Nat.le_of_ble_eq_true rfl) sh_2 ci_X0 (Nat.le_of_ble_eq_true rfl) ⟨Nat.le_of_ble_eq_true rfl, Nat.le_of_ble_eq_true rfl⟩ (k_B_signX l h p hp e) ?_
  refine e_lookup (off := 90) (tgt := 116) dX6_goingsOf_26 (by decide) (by rcases hx with z | z | z | z <;> rw [z] <;> decide) (by decide) ?_
  refine e_aload_n (i := 0) dX6_goingsOf_116 rfl rfl ?_
  refine e_iload_n (i := 2) dX6_goingsOf_117 rfl rfl ?_
  refine e_invVi (As := [.inl (nI (pOf ln (aFs sg p) 0))]) (v := nI (S 0)) (h2 := h) dX6_goingsOf_118 lk_X6_77 yv_X6_counted rfl rfl rfl (Nat.le_of_ble_eq_true rfl) sh_9 ci_X6 (Nat.le_of_ble_eq_true rfl) ⟨Nat.le_of_ble_eq_true rfl, Nat.le_of_ble_eq_true rfl⟩ (k_W_countedX l h (pOf ln (aFs sg p) 0) e0.1 e0.2.1) ?_
  refine e_aload_n (i := 0) dX6_goingsOf_121 rfl rfl ?_
  refine e_iload_n (i := 3) dX6_goingsOf_122 rfl rfl ?_
  refine e_invVi (As := [.inl (nI (pOf ln (aFs sg p) 1))]) (v := nI (S 1)) (h2 := h) dX6_goingsOf_123 lk_X6_77 yv_X6_counted rfl rfl rfl (Nat.le_of_ble_eq_true rfl) sh_9 ci_X6 (Nat.le_of_ble_eq_true rfl) ⟨Nat.le_of_ble_eq_true rfl, Nat.le_of_ble_eq_true rfl⟩ (k_W_countedX l h (pOf ln (aFs sg p) 1) e1.1 e1.2.1) ?_
  refine z_iadd (z := nI (S 0 + (S 1))) (nI_add _ _) dX6_goingsOf_126 ?_
  refine e_iret dX6_goingsOf_127 (mret_i _) ?_
  exact hR
set_option maxHeartbeats 1000000 in
theorem k_W_go_3 (l : Launch) (h : mH) (sg : Nat → Int32) (ln : Nat → Nat) (p : Nat) (hp : p < 800) (e : h 13 p = sg p) (S : Nat → Nat) (hS : ∀ i, S i ≤ 2) (he : ∀ i, i < (aOf (sg p).toInt).toNat → pOf ln (aFs sg p) i < 800 ∧ h 26 (pOf ln (aFs sg p) i) = nI (S i) ∧ h 14 (pOf ln (aFs sg p) i) = nI (pOf ln (aFs sg p) (i + 1))) (hx : (sg p).toInt = 63) : mD l Sh0 iX6_goingsOf [.inr 9, .inl (nI p)] h (some (nI (oT (sg p).toInt S))) h := by
  have s0 := hS 0
  have s1 := hS 1
  have s2 := hS 2
  have ho : (aOf (sg p).toInt).toNat = 3 := by rw [hx]; decide
  rw [ho] at he
  have e0 := he 0 (by omega)
  have e1 := he 1 (by omega)
  have e2 := he 2 (by omega)
  have eT : oT (sg p).toInt S = S 0 + (if S 1 < S 2 then S 2 else S 1) := by unfold oT; rw [hx]; rfl
  rw [eT]
  intro RT hR
  show mE l Sh0 none iX6_goingsOf RT 0 [some (.inr 9), some (.inl (nI p)), none, none] [] h
  refine e_aload_n (i := 0) dX6_goingsOf_0 rfl rfl ?_
  refine e_getR (r := 2) dX6_goingsOf_1 fl_X6_21 sh_9 fj_9_0 ?_
  refine e_iload_n (i := 1) dX6_goingsOf_4 rfl rfl ?_
  refine e_invVi (As := [.inl (nI p)]) (v := nI (pOf ln (aFs sg p) 0)) (h2 := h) dX6_goingsOf_5 lk_X6_53 yv_X0_first rfl rfl rfl (Nat.le_of_ble_eq_true rfl) sh_2 ci_X0 (Nat.le_of_ble_eq_true rfl) ⟨Nat.le_of_ble_eq_true rfl, Nat.le_of_ble_eq_true rfl⟩ (k_B_firstX l h sg p hp e) ?_
  refine e_istore_n (i := 2) (ls2 := [some (.inr 9), some (.inl (nI p)), some (.inl (nI (pOf ln (aFs sg p) 0))), none]) dX6_goingsOf_8 rfl (Nat.le_of_ble_eq_true rfl) rfl ?_
  refine e_aload_n (i := 0) dX6_goingsOf_9 rfl rfl ?_
  refine e_getR (r := 2) dX6_goingsOf_10 fl_X6_21 sh_9 fj_9_0 ?_
  refine e_iload_n (i := 2) dX6_goingsOf_13 rfl rfl ?_
  refine e_invVi (As := [.inl (nI (pOf ln (aFs sg p) 0))]) (v := nI (pOf ln (aFs sg p) 1)) (h2 := h) dX6_goingsOf_14 lk_X6_59 yv_X0_after rfl rfl rfl (Nat.le_of_ble_eq_true rfl) sh_2 ci_X0 (Nat.le_of_ble_eq_true rfl) ⟨Nat.le_of_ble_eq_true rfl, Nat.le_of_ble_eq_true rfl⟩ (k_B_afterX l h (pOf ln (aFs sg p) 0) e0.1 e0.2.2) ?_
  refine e_istore_n (i := 3) (ls2 := [some (.inr 9), some (.inl (nI p)), some (.inl (nI (pOf ln (aFs sg p) 0))), some (.inl (nI (pOf ln (aFs sg p) 1)))]) dX6_goingsOf_17 rfl (Nat.le_of_ble_eq_true rfl) rfl ?_
  refine e_aload_n (i := 0) dX6_goingsOf_18 rfl rfl ?_
  refine e_getR (r := 2) dX6_goingsOf_19 fl_X6_21 sh_9 fj_9_0 ?_
  refine e_iload_n (i := 1) dX6_goingsOf_22 rfl rfl ?_
  refine e_invVi (As := [.inl (nI p)]) (v := sg p) (h2 := h) dX6_goingsOf_23 lk_X6_50 yv_X0_sign rfl rfl rfl (Nat.le_of_ble_eq_true rfl) sh_2 ci_X0 (Nat.le_of_ble_eq_true rfl) ⟨Nat.le_of_ble_eq_true rfl, Nat.le_of_ble_eq_true rfl⟩ (k_B_signX l h p hp e) ?_
  refine e_lookup (off := 102) (tgt := 128) dX6_goingsOf_26 (by decide) (by rw [hx]; decide) (by decide) ?_
  refine e_aload_n (i := 0) dX6_goingsOf_128 rfl rfl ?_
  refine e_iload_n (i := 2) dX6_goingsOf_129 rfl rfl ?_
  refine e_invVi (As := [.inl (nI (pOf ln (aFs sg p) 0))]) (v := nI (S 0)) (h2 := h) dX6_goingsOf_130 lk_X6_77 yv_X6_counted rfl rfl rfl (Nat.le_of_ble_eq_true rfl) sh_9 ci_X6 (Nat.le_of_ble_eq_true rfl) ⟨Nat.le_of_ble_eq_true rfl, Nat.le_of_ble_eq_true rfl⟩ (k_W_countedX l h (pOf ln (aFs sg p) 0) e0.1 e0.2.1) ?_
  refine e_aload_n (i := 0) dX6_goingsOf_133 rfl rfl ?_
  refine e_iload_n (i := 3) dX6_goingsOf_134 rfl rfl ?_
  refine e_invVi (As := [.inl (nI (pOf ln (aFs sg p) 1))]) (v := nI (S 1)) (h2 := h) dX6_goingsOf_135 lk_X6_77 yv_X6_counted rfl rfl rfl (Nat.le_of_ble_eq_true rfl) sh_9 ci_X6 (Nat.le_of_ble_eq_true rfl) ⟨Nat.le_of_ble_eq_true rfl, Nat.le_of_ble_eq_true rfl⟩ (k_W_countedX l h (pOf ln (aFs sg p) 1) e1.1 e1.2.1) ?_
  refine e_aload_n (i := 0) dX6_goingsOf_138 rfl rfl ?_
  refine e_aload_n (i := 0) dX6_goingsOf_139 rfl rfl ?_
  refine e_getR (r := 2) dX6_goingsOf_140 fl_X6_21 sh_9 fj_9_0 ?_
  refine e_iload_n (i := 3) dX6_goingsOf_143 rfl rfl ?_
  refine e_invVi (As := [.inl (nI (pOf ln (aFs sg p) 1))]) (v := nI (pOf ln (aFs sg p) 2)) (h2 := h) dX6_goingsOf_144 lk_X6_59 yv_X0_after rfl rfl rfl (Nat.le_of_ble_eq_true rfl) sh_2 ci_X0 (Nat.le_of_ble_eq_true rfl) ⟨Nat.le_of_ble_eq_true rfl, Nat.le_of_ble_eq_true rfl⟩ (k_B_afterX l h (pOf ln (aFs sg p) 1) e1.1 e1.2.2) ?_
  refine e_invVi (As := [.inl (nI (pOf ln (aFs sg p) 2))]) (v := nI (S 2)) (h2 := h) dX6_goingsOf_147 lk_X6_77 yv_X6_counted rfl rfl rfl (Nat.le_of_ble_eq_true rfl) sh_9 ci_X6 (Nat.le_of_ble_eq_true rfl) ⟨Nat.le_of_ble_eq_true rfl, Nat.le_of_ble_eq_true rfl⟩ (k_W_countedX l h (pOf ln (aFs sg p) 2) e2.1 e2.2.1) ?_
  refine e_max dX6_goingsOf_150 lk_X6_80 mm_max.1 mm_max.2.1 mm_max.2.2 ⟨Nat.le_of_ble_eq_true rfl, Nat.le_of_ble_eq_true rfl⟩ ?_
  rw [show (if nI (S 1) < nI (S 2) then nI (S 2) else nI (S 1) : Int32) = nI (if S 1 < S 2 then S 2 else S 1) from nI_max (by omega) (by omega)]
  refine z_iadd (z := nI (S 0 + (if S 1 < S 2 then S 2 else S 1))) (nI_add _ _) dX6_goingsOf_153 ?_
  refine e_iret dX6_goingsOf_154 (mret_i _) ?_
  exact hR
set_option maxHeartbeats 1000000 in
theorem k_W_go_0 (l : Launch) (h : mH) (sg : Nat → Int32) (ln : Nat → Nat) (p : Nat) (hp : p < 800) (e : h 13 p = sg p) (S : Nat → Nat) (hS : ∀ i, S i ≤ 2) (he : ∀ i, i < (aOf (sg p).toInt).toNat → pOf ln (aFs sg p) i < 800 ∧ h 26 (pOf ln (aFs sg p) i) = nI (S i) ∧ h 14 (pOf ln (aFs sg p) i) = nI (pOf ln (aFs sg p) (i + 1))) (hx : ((sg p).toInt = 48 ∨ (sg p).toInt = 49 ∨ (sg p).toInt = 50 ∨ (sg p).toInt = 51 ∨ (sg p).toInt = 52 ∨ (sg p).toInt = 53 ∨ (sg p).toInt = 54 ∨ (sg p).toInt = 55) ∨ (sg p).toInt = 120) : mD l Sh0 iX6_goingsOf [.inr 9, .inl (nI p)] h (some (nI (oT (sg p).toInt S))) h := by
  have s0 := hS 0
  have s1 := hS 1
  have s2 := hS 2
  have ho : (aOf (sg p).toInt).toNat = 0 := by rcases hx with (z | z | z | z | z | z | z | z) | z <;> rw [z] <;> decide
  rw [ho] at he
  have eT : oT (sg p).toInt S = 0 := by unfold oT; rcases hx with (z | z | z | z | z | z | z | z) | z <;> rw [z] <;> rfl
  rw [eT]
  intro RT hR
  show mE l Sh0 none iX6_goingsOf RT 0 [some (.inr 9), some (.inl (nI p)), none, none] [] h
  refine e_aload_n (i := 0) dX6_goingsOf_0 rfl rfl ?_
  refine e_getR (r := 2) dX6_goingsOf_1 fl_X6_21 sh_9 fj_9_0 ?_
  refine e_iload_n (i := 1) dX6_goingsOf_4 rfl rfl ?_
  refine e_invVi (As := [.inl (nI p)]) (v := nI (pOf ln (aFs sg p) 0)) (h2 := h) dX6_goingsOf_5 lk_X6_53 yv_X0_first rfl rfl rfl (Nat.le_of_ble_eq_true rfl) sh_2 ci_X0 (Nat.le_of_ble_eq_true rfl) ⟨Nat.le_of_ble_eq_true rfl, Nat.le_of_ble_eq_true rfl⟩ (k_B_firstX l h sg p hp e) ?_
  refine e_istore_n (i := 2) (ls2 := [some (.inr 9), some (.inl (nI p)), some (.inl (nI (pOf ln (aFs sg p) 0))), none]) dX6_goingsOf_8 rfl (Nat.le_of_ble_eq_true rfl) rfl ?_
  refine e_aload_n (i := 0) dX6_goingsOf_9 rfl rfl ?_
  refine e_getR (r := 2) dX6_goingsOf_10 fl_X6_21 sh_9 fj_9_0 ?_
  refine e_iload_n (i := 2) dX6_goingsOf_13 rfl rfl ?_
  refine e_invVi (As := [.inl (nI (pOf ln (aFs sg p) 0))]) (v := gA h 14 800 (-1) (nI (pOf ln (aFs sg p) 0))) (h2 := h) dX6_goingsOf_14 lk_X6_59 yv_X0_after rfl rfl rfl (Nat.le_of_ble_eq_true rfl) sh_2 ci_X0 (Nat.le_of_ble_eq_true rfl) ⟨Nat.le_of_ble_eq_true rfl, Nat.le_of_ble_eq_true rfl⟩ (k_B_after l h (nI (pOf ln (aFs sg p) 0))) ?_
  refine e_istore_n (i := 3) (ls2 := [some (.inr 9), some (.inl (nI p)), some (.inl (nI (pOf ln (aFs sg p) 0))), some (.inl (gA h 14 800 (-1) (nI (pOf ln (aFs sg p) 0))))]) dX6_goingsOf_17 rfl (Nat.le_of_ble_eq_true rfl) rfl ?_
  refine e_aload_n (i := 0) dX6_goingsOf_18 rfl rfl ?_
  refine e_getR (r := 2) dX6_goingsOf_19 fl_X6_21 sh_9 fj_9_0 ?_
  refine e_iload_n (i := 1) dX6_goingsOf_22 rfl rfl ?_
  refine e_invVi (As := [.inl (nI p)]) (v := sg p) (h2 := h) dX6_goingsOf_23 lk_X6_50 yv_X0_sign rfl rfl rfl (Nat.le_of_ble_eq_true rfl) sh_2 ci_X0 (Nat.le_of_ble_eq_true rfl) ⟨Nat.le_of_ble_eq_true rfl, Nat.le_of_ble_eq_true rfl⟩ (k_B_signX l h p hp e) ?_
  refine e_lookup (off := 157) (tgt := 183) dX6_goingsOf_26 (by decide) (by rcases hx with (z | z | z | z | z | z | z | z) | z <;> rw [z] <;> decide) (by decide) ?_
  refine e_iconst (v := 0) dX6_goingsOf_183 (by decide) ?_
  refine e_iret dX6_goingsOf_184 (mret_i _) ?_
  exact hR
theorem k_W_goingsOf (l : Launch) (h : mH) (sg : Nat → Int32) (ln : Nat → Nat) (p : Nat) (hp : p < 800) (e : h 13 p = sg p) (S : Nat → Nat) (hS : ∀ i, S i ≤ 2) (he : ∀ i, i < (aOf (sg p).toInt).toNat → pOf ln (aFs sg p) i < 800 ∧ h 26 (pOf ln (aFs sg p) i) = nI (S i) ∧ h 14 (pOf ln (aFs sg p) i) = nI (pOf ln (aFs sg p) (i + 1))) (ha : 0 ≤ aOf (sg p).toInt) : mD l Sh0 iX6_goingsOf [.inr 9, .inl (nI p)] h (some (nI (oT (sg p).toInt S))) h := by
  rcases aOf_cases (sg p).toInt with z | z | z | z | z
  · refine k_W_go_0 l h sg ln p hp e S hS he ?_
    by_cases q : (sg p).toInt = 120
    · exact Or.inr q
    · have := aOf_0 z q
      left
      omega
  · rcases aOf_1 z with q | q | q | q | q
    · exact k_W_go_q l h sg ln p hp e S hS he (Or.inl q)
    · exact k_W_go_q l h sg ln p hp e S hS he (Or.inr (Or.inl q))
    · exact k_W_go_q l h sg ln p hp e S hS he (Or.inr (Or.inr q))
    · exact k_W_go_k l h sg ln p hp e S hS he q
    · exact k_W_go_a l h sg ln p hp e S hS he q
  · exact k_W_go_2 l h sg ln p hp e S hS he (aOf_2 z)
  · exact k_W_go_3 l h sg ln p hp e S hS he (aOf_3 z)
  · omega
theorem oT_le {x : Int} {s : Nat → Nat} (h : ∀ i, s i ≤ 2) : oT x s ≤ 4 := by
  have s0 := h 0
  have s1 := h 1
  have s2 := h 2
  unfold oT
  repeat' split
  all_goals omega
set_option maxHeartbeats 1000000 in
theorem lp_W_goings (l : Launch) {sg : Nat → Int32} {ln sz : Nat → Nat} (hB : aWB sg ln sz) (h : mH) (hC : CB sg ln sz h) (p : Nat) (hp0 : p < 20) (hz : 0 < sz p) (RT : Option Int32 → mH → Prop) (hR : ∀ f, RT (some (nI (oV sg ln (40 * p)))) (hr h 26 f)) : ∀ (m : Nat) (f : Nat → Int32) (y3 : Option mV), m ≤ sz p → (∀ j, m ≤ j → j < sz p → f (40 * p + j) = nI (oV sg ln (40 * p + j))) → mE l Sh0 none iX6_goings RT 16 [some (.inr 9), some (.inl (nI p)), some (.inl (dn m)), y3] [] (hr h 26 f) := by
  have hz40 := hB.1 p hp0
  intro m
  induction m with
  | zero =>
    intro f y3 hm hj
    rw [dn_0]
    refine e_iload_n (i := 2) dX6_goings_16 rfl rfl ?_
    refine b_if_lt (X := (-1)) (tgt := 59) (by decide) dX6_goings_17 (by decide) ?_ ?_
    · intro c_17_t
      refine e_aload_n (i := 0) dX6_goings_59 rfl rfl ?_
      refine e_iload_n (i := 1) dX6_goings_60 rfl rfl ?_
      refine e_bipush (v := 40) dX6_goings_61 (by decide) ?_
      refine z_imul (z := nI (40 * p)) (by rw [nI_mulc, Nat.mul_comm]) dX6_goings_63 ?_
      refine e_invVi (As := [.inl (nI (40 * p))]) (v := nI (oV sg ln (40 * p))) (h2 := (hr h 26 f)) dX6_goings_64 lk_X6_77 yv_X6_counted rfl rfl rfl (Nat.le_of_ble_eq_true rfl) sh_9 ci_X6 (Nat.le_of_ble_eq_true rfl) ⟨Nat.le_of_ble_eq_true rfl, Nat.le_of_ble_eq_true rfl⟩ (k_W_countedX l (hr h 26 f) (40 * p) (by omega) (by rw [hr_at]; exact hj 0 (Nat.zero_le _) hz)) ?_
      refine e_iret dX6_goings_67 (mret_i _) ?_
      exact hR f
    · intro c_17_f
      exfalso; omega
  | succ m ih =>
    intro f y3 hm hj
    rw [dn_s]
    have e40 : (40 * p + m) / 40 = p := by omega
    have e41 : (40 * p + m) % 40 = m := by omega
    obtain ⟨a1, a2, a3, a4⟩ := aPar hB (pl := 40 * p + m) (by omega) (by rw [e40, e41]; omega)
    have hS : ∀ i, (fun i => oV sg ln (pOf ln (aFs sg (40 * p + m)) i)) i ≤ 2 := fun i => oV_le sg ln _
    have kg := k_W_goingsOf l (hr h 26 f) sg ln (40 * p + m) (by omega) (hC.1 _ (by omega)) (fun i => oV sg ln (pOf ln (aFs sg (40 * p + m)) i)) hS (fun i hi => by
      obtain ⟨b1, b2, b3⟩ := a2 i hi
      have b4 := b1.1
      have b5 := b1.2.1
      rw [e40] at b2
      rw [b2] at b5
      refine ⟨b4, ?_, ?_⟩
      · rw [hr_at]
        have e : pOf ln (aFs sg (40 * p + m)) i = 40 * p + pOf ln (aFs sg (40 * p + m)) i % 40 := by omega
        rw [e]
        exact hj _ (by omega) b5
      · exact hC.2.2 _ b1) a1
    have hle := oT_le (x := (sg (40 * p + m)).toInt) hS
    have hoc := oT_oC a1 hS
    rw [← oV_eq sg ln (by omega)] at hoc
    refine e_iload_n (i := 2) dX6_goings_16 rfl rfl ?_
    refine b_if_lt (X := ((m : Nat) : Int)) (tgt := 59) (nI_toInt (by omega)) dX6_goings_17 (by decide) ?_ ?_
    · intro c_17_t
      exfalso; omega
    · intro c_17_f
      refine e_iload_n (i := 1) dX6_goings_20 rfl rfl ?_
      refine e_bipush (v := 40) dX6_goings_21 (by decide) ?_
      refine z_imul (z := nI (40 * p)) (by rw [nI_mulc, Nat.mul_comm]) dX6_goings_23 ?_
      refine e_iload_n (i := 2) dX6_goings_24 rfl rfl ?_
      refine z_iadd (z := nI (40 * p + m)) (nI_add _ _) dX6_goings_25 ?_
      refine e_istore_n (i := 3) (ls2 := [some (.inr 9), some (.inl (nI p)), some (.inl (nI m)), some (.inl (nI (40 * p + m)))]) dX6_goings_26 rfl (Nat.le_of_ble_eq_true rfl) rfl ?_
      refine e_iload_n (i := 3) dX6_goings_27 rfl rfl ?_
      refine b_if_lt (X := ((40 * p + m : Nat) : Int)) (tgt := 53) (nI_toInt (by omega)) dX6_goings_28 (by decide) ?_ ?_
      · intro c_28_t
        exfalso; omega
      · intro c_28_f
        refine e_iload_n (i := 3) dX6_goings_31 rfl rfl ?_
        refine e_sipush (v := 800) dX6_goings_32 (by decide) ?_
        refine b_icmp_ge (X := ((40 * p + m : Nat) : Int)) (Y := 800) (tgt := 53) (nI_toInt (by omega)) (by decide) dX6_goings_35 (by decide) ?_ ?_
        · intro c_35_t
          exfalso; omega
        · intro c_35_f
          refine e_aload_n (i := 0) dX6_goings_38 rfl rfl ?_
          refine e_getR (r := 26) dX6_goings_39 fl_X6_15 sh_9 fj_9_2 ?_
          refine e_iload_n (i := 3) dX6_goings_42 rfl rfl ?_
          refine e_aload_n (i := 0) dX6_goings_43 rfl rfl ?_
          refine e_iload_n (i := 3) dX6_goings_44 rfl rfl ?_
          refine e_invVi (As := [.inl (nI (40 * p + m))]) (v := nI (oT (sg (40 * p + m)).toInt (fun i => oV sg ln (pOf ln (aFs sg (40 * p + m)) i)))) (h2 := (hr h 26 f)) dX6_goings_45 lk_X6_74 yv_X6_goingsOf rfl rfl rfl (Nat.le_of_ble_eq_true rfl) sh_9 ci_X6 (Nat.le_of_ble_eq_true rfl) ⟨Nat.le_of_ble_eq_true rfl, Nat.le_of_ble_eq_true rfl⟩ kg ?_
          refine e_iconst (v := 2) dX6_goings_48 (by decide) ?_
          refine e_min dX6_goings_49 lk_X6_38 mm_min.1 mm_min.2.1 mm_min.2.2 ⟨Nat.le_of_ble_eq_true rfl, Nat.le_of_ble_eq_true rfl⟩ ?_
          rw [show (if 2 < nI (oT (sg (40 * p + m)).toInt (fun i => oV sg ln (pOf ln (aFs sg (40 * p + m)) i))) then 2 else nI (oT (sg (40 * p + m)).toInt (fun i => oV sg ln (pOf ln (aFs sg (40 * p + m)) i))) : Int32) = nI (oV sg ln (40 * p + m)) from (by rw [← hoc]; exact nI_min (a := 2) (by omega) (by omega))]
          refine e_iast dX6_goings_52 sh_26 (vin_ofX (X := ((40 * p + m : Nat) : Int)) (nI_toInt (by omega)) (by omega) (by omega)) ?_
          rw [nI_clamp (by omega)]
          refine e_iinc (v := dn m) (ls2 := [some (.inr 9), some (.inl (nI p)), some (.inl (dn m)), some (.inl (nI (40 * p + m)))]) dX6_goings_53 rfl (dn_dec _) (Nat.le_of_ble_eq_true rfl) rfl ?_
          refine e_goto (tgt := 16) dX6_goings_56 (by decide) ?_
          rw [hr_hs]
          refine ih _ _ (by omega) (fun j j1 j2 => ?_)
          by_cases ej : j = m
          · subst ej; exact pk_us
          · rw [pk_un (by omega)]; exact hj j (by omega) j2
set_option maxHeartbeats 1000000 in
theorem k_W_goings (l : Launch) {sg : Nat → Int32} {ln sz : Nat → Nat} (hB : aWB sg ln sz) (h : mH) (hC : CB sg ln sz h) (p : Nat) (hp0 : p < 20) (hz : 0 < sz p) : mG l Sh0 iX6_goings [.inr 9, .inl (nI p)] h (fun v h' => v = some (nI (oV sg ln (40 * p))) ∧ ∃ f, h' = hr h 26 f) := by
  have hz40 := hB.1 p hp0
  intro RT hR
  show mE l Sh0 none iX6_goings RT 0 [some (.inr 9), some (.inl (nI p)), none, none] [] h
  refine e_aload_n (i := 0) dX6_goings_0 rfl rfl ?_
  refine e_getR (r := 2) dX6_goings_1 fl_X6_21 sh_9 fj_9_0 ?_
  refine e_iload_n (i := 1) dX6_goings_4 rfl rfl ?_
  refine e_invVi (As := [.inl (nI p)]) (v := nI (sz p)) (h2 := h) dX6_goings_5 lk_X6_33 yv_X0_size rfl rfl rfl (Nat.le_of_ble_eq_true rfl) sh_2 ci_X0 (Nat.le_of_ble_eq_true rfl) ⟨Nat.le_of_ble_eq_true rfl, Nat.le_of_ble_eq_true rfl⟩ (k_B_sizeX l h p hp0 (hC.2.1 p hp0)) ?_
  refine e_bipush (v := 40) dX6_goings_8 (by decide) ?_
  refine e_min dX6_goings_10 lk_X6_38 mm_min.1 mm_min.2.1 mm_min.2.2 ⟨Nat.le_of_ble_eq_true rfl, Nat.le_of_ble_eq_true rfl⟩ ?_
  rw [show (if 40 < nI (sz p) then 40 else nI (sz p) : Int32) = nI (sz p) from (by rw [show (40 : Int32) = nI 40 from by decide, nI_min (a := 40) (by omega) (by omega)]; rw [if_neg (by omega)])]
  refine e_iconst (v := 1) dX6_goings_13 (by decide) ?_
  refine z_isub (z := dn (sz p)) rfl dX6_goings_14 ?_
  refine e_istore_n (i := 2) (ls2 := [some (.inr 9), some (.inl (nI p)), some (.inl (dn (sz p))), none]) dX6_goings_15 rfl (Nat.le_of_ble_eq_true rfl) rfl ?_
  have q := lp_W_goings l hB h hC p hp0 hz RT (fun f => hR _ _ ⟨rfl, f, rfl⟩) (sz p) (h 26) none (Nat.le_refl _) (fun j j1 j2 => absurd j1 (by omega))
  rw [hr_self] at q
  exact q
set_option maxHeartbeats 1000000 in
theorem k_D_isClause1 (l : Launch) (h : mH) (a b z : Nat) (ha : a < 4) (hb9 : b < 4) (hz40 : z ≤ 40) (hz : h 15 (4 + 4 * a + b) = nI z) (hp : 0 < z) : mD l Sh0 iX7_isClause [.inr 0, .inl (nI a), .inl (nI b)] h (some 1) h := by
  intro RT hR
  show mE l Sh0 none iX7_isClause RT 0 [some (.inr 0), some (.inl (nI a)), some (.inl (nI b))] [] h
  refine e_iload_n (i := 1) dX7_isClause_0 rfl rfl ?_
  refine e_iload_n (i := 2) dX7_isClause_1 rfl rfl ?_
  refine e_invSi (As := [.inl (nI a), .inl (nI b)]) (v := 1) (h2 := h) dX7_isClause_2 lk_X7_77 ys_X7_isPart rfl rfl rfl (Nat.le_of_ble_eq_true rfl) (Nat.le_of_ble_eq_true rfl) ⟨Nat.le_of_ble_eq_true rfl, Nat.le_of_ble_eq_true rfl⟩ (k_cPartX l h (nI a) (nI b) (if_pos (by rw [nI_toInt (by omega), nI_toInt (by omega)]; omega))) ?_
  refine b_if_eq (X := 1) (tgt := 27) (by decide) dX7_isClause_5 (by decide) ?_ ?_
  · intro e_5_t c_5_t
    exfalso; omega
  · intro e_5_f c_5_f
    refine e_aload_n (i := 0) dX7_isClause_8 rfl rfl ?_
    refine e_getR (r := 2) dX7_isClause_9 fl_X7_19 sh_0 fj_0_1 ?_
    refine e_iload_n (i := 1) dX7_isClause_12 rfl rfl ?_
    refine e_iload_n (i := 2) dX7_isClause_13 rfl rfl ?_
    refine e_invSi (As := [.inl (nI a), .inl (nI b)]) (v := nI (4 + 4 * a + b)) (h2 := h) dX7_isClause_14 lk_X7_81 ys_X7_pageOf rfl rfl rfl (Nat.le_of_ble_eq_true rfl) (Nat.le_of_ble_eq_true rfl) ⟨Nat.le_of_ble_eq_true rfl, Nat.le_of_ble_eq_true rfl⟩ (k_pageOfX l h a b) ?_
    refine e_invVi (As := [.inl (nI (4 + 4 * a + b))]) (v := nI z) (h2 := h) dX7_isClause_17 lk_X7_85 yv_X0_size rfl rfl rfl (Nat.le_of_ble_eq_true rfl) sh_2 ci_X0 (Nat.le_of_ble_eq_true rfl) ⟨Nat.le_of_ble_eq_true rfl, Nat.le_of_ble_eq_true rfl⟩ (k_B_sizeX l h (4 + 4 * a + b) (by omega) hz) ?_
    refine b_if_le (X := ((z : Nat) : Int)) (tgt := 27) (nI_toInt (by omega)) dX7_isClause_20 (by decide) ?_ ?_
    · intro c_20_t
      exfalso; omega
    · intro c_20_f
      refine e_iconst (v := 1) dX7_isClause_23 (by decide) ?_
      refine e_goto (tgt := 28) dX7_isClause_24 (by decide) ?_
      refine e_iret dX7_isClause_28 (mret_z (by first | decide | (simp only []; split <;> decide))) ?_
      exact hR
set_option maxHeartbeats 1000000 in
theorem k_D_isClause0 (l : Launch) (h : mH) (a b z : Nat) (ha : a < 4) (hb9 : b < 4) (hz40 : z ≤ 40) (hz : h 15 (4 + 4 * a + b) = nI z) (hp : z = 0) : mD l Sh0 iX7_isClause [.inr 0, .inl (nI a), .inl (nI b)] h (some 0) h := by
  intro RT hR
  show mE l Sh0 none iX7_isClause RT 0 [some (.inr 0), some (.inl (nI a)), some (.inl (nI b))] [] h
  refine e_iload_n (i := 1) dX7_isClause_0 rfl rfl ?_
  refine e_iload_n (i := 2) dX7_isClause_1 rfl rfl ?_
  refine e_invSi (As := [.inl (nI a), .inl (nI b)]) (v := 1) (h2 := h) dX7_isClause_2 lk_X7_77 ys_X7_isPart rfl rfl rfl (Nat.le_of_ble_eq_true rfl) (Nat.le_of_ble_eq_true rfl) ⟨Nat.le_of_ble_eq_true rfl, Nat.le_of_ble_eq_true rfl⟩ (k_cPartX l h (nI a) (nI b) (if_pos (by rw [nI_toInt (by omega), nI_toInt (by omega)]; omega))) ?_
  refine b_if_eq (X := 1) (tgt := 27) (by decide) dX7_isClause_5 (by decide) ?_ ?_
  · intro e_5_t c_5_t
    exfalso; omega
  · intro e_5_f c_5_f
    refine e_aload_n (i := 0) dX7_isClause_8 rfl rfl ?_
    refine e_getR (r := 2) dX7_isClause_9 fl_X7_19 sh_0 fj_0_1 ?_
    refine e_iload_n (i := 1) dX7_isClause_12 rfl rfl ?_
    refine e_iload_n (i := 2) dX7_isClause_13 rfl rfl ?_
    refine e_invSi (As := [.inl (nI a), .inl (nI b)]) (v := nI (4 + 4 * a + b)) (h2 := h) dX7_isClause_14 lk_X7_81 ys_X7_pageOf rfl rfl rfl (Nat.le_of_ble_eq_true rfl) (Nat.le_of_ble_eq_true rfl) ⟨Nat.le_of_ble_eq_true rfl, Nat.le_of_ble_eq_true rfl⟩ (k_pageOfX l h a b) ?_
    refine e_invVi (As := [.inl (nI (4 + 4 * a + b))]) (v := nI z) (h2 := h) dX7_isClause_17 lk_X7_85 yv_X0_size rfl rfl rfl (Nat.le_of_ble_eq_true rfl) sh_2 ci_X0 (Nat.le_of_ble_eq_true rfl) ⟨Nat.le_of_ble_eq_true rfl, Nat.le_of_ble_eq_true rfl⟩ (k_B_sizeX l h (4 + 4 * a + b) (by omega) hz) ?_
    refine b_if_le (X := ((z : Nat) : Int)) (tgt := 27) (nI_toInt (by omega)) dX7_isClause_20 (by decide) ?_ ?_
    · intro c_20_t
      refine e_iconst (v := 0) dX7_isClause_27 (by decide) ?_
      refine e_iret dX7_isClause_28 (mret_z (by first | decide | (simp only []; split <;> decide))) ?_
      exact hR
    · intro c_20_f
      exfalso; omega
set_option maxHeartbeats 1000000 in
theorem k_D_isClauseU (l : Launch) (h : mH) (x y : Int32) (hx : ¬ (0 ≤ x.toInt ∧ x.toInt < 4 ∧ 0 ≤ y.toInt ∧ y.toInt < 4)) : mD l Sh0 iX7_isClause [.inr 0, .inl x, .inl y] h (some 0) h := by
  intro RT hR
  show mE l Sh0 none iX7_isClause RT 0 [some (.inr 0), some (.inl x), some (.inl y)] [] h
  refine e_iload_n (i := 1) dX7_isClause_0 rfl rfl ?_
  refine e_iload_n (i := 2) dX7_isClause_1 rfl rfl ?_
  refine e_invSi (As := [.inl x, .inl y]) (v := 0) (h2 := h) dX7_isClause_2 lk_X7_77 ys_X7_isPart rfl rfl rfl (Nat.le_of_ble_eq_true rfl) (Nat.le_of_ble_eq_true rfl) ⟨Nat.le_of_ble_eq_true rfl, Nat.le_of_ble_eq_true rfl⟩ (k_cPartX l h x y (if_neg hx)) ?_
  refine b_if_eq (X := 0) (tgt := 27) (by decide) dX7_isClause_5 (by decide) ?_ ?_
  · intro e_5_t c_5_t
    refine e_iconst (v := 0) dX7_isClause_27 (by decide) ?_
    refine e_iret dX7_isClause_28 (mret_z (by first | decide | (simp only []; split <;> decide))) ?_
    exact hR
  · intro e_5_f c_5_f
    exfalso; omega
set_option maxHeartbeats 1000000 in
theorem k_D_often0 (l : Launch) (h : mH) (x y : Int32) (kc : mD l Sh0 iX7_isClause [.inr 0, .inl x, .inl y] h (some 0) h) : mD l Sh0 iX7_often [.inr 0, .inl x, .inl y] h (some (-1)) h := by
  intro RT hR
  show mE l Sh0 none iX7_often RT 0 [some (.inr 0), some (.inl x), some (.inl y)] [] h
  refine e_aload_n (i := 0) dX7_often_0 rfl rfl ?_
  refine e_iload_n (i := 1) dX7_often_1 rfl rfl ?_
  refine e_iload_n (i := 2) dX7_often_2 rfl rfl ?_
  refine e_invVi (As := [.inl x, .inl y]) (v := 0) (h2 := h) dX7_often_3 lk_X7_117 yv_X7_isClause rfl rfl rfl (Nat.le_of_ble_eq_true rfl) sh_0 ci_X7 (Nat.le_of_ble_eq_true rfl) ⟨Nat.le_of_ble_eq_true rfl, Nat.le_of_ble_eq_true rfl⟩ kc ?_
  refine b_if_eq (X := 0) (tgt := 24) (by decide) dX7_often_6 (by decide) ?_ ?_
  · intro e_6_t c_6_t
    refine e_iconst (v := (-1)) dX7_often_24 (by decide) ?_
    refine e_iret dX7_often_25 (mret_i _) ?_
    exact hR
  · intro e_6_f c_6_f
    exfalso; omega
set_option maxHeartbeats 1000000 in
theorem k_D_often1 (l : Launch) {sg : Nat → Int32} {ln sz : Nat → Nat} (hB : aWB sg ln sz) (h : mH) (hC : CB sg ln sz h) (a b : Nat) (ha : a < 4) (hb9 : b < 4) (hz : 0 < sz (4 + 4 * a + b)) : mG l Sh0 iX7_often [.inr 0, .inl (nI a), .inl (nI b)] h (fun v h' => v = some (nI (oV sg ln (40 * (4 + 4 * a + b)))) ∧ ∃ f, h' = hr h 26 f) := by
  have hz40 := hB.1 (4 + 4 * a + b) (by omega)
  intro RT hR
  show mE l Sh0 none iX7_often RT 0 [some (.inr 0), some (.inl (nI a)), some (.inl (nI b))] [] h
  refine e_aload_n (i := 0) dX7_often_0 rfl rfl ?_
  refine e_iload_n (i := 1) dX7_often_1 rfl rfl ?_
  refine e_iload_n (i := 2) dX7_often_2 rfl rfl ?_
  refine e_invVi (As := [.inl (nI a), .inl (nI b)]) (v := 1) (h2 := h) dX7_often_3 lk_X7_117 yv_X7_isClause rfl rfl rfl (Nat.le_of_ble_eq_true rfl) sh_0 ci_X7 (Nat.le_of_ble_eq_true rfl) ⟨Nat.le_of_ble_eq_true rfl, Nat.le_of_ble_eq_true rfl⟩ (k_D_isClause1 l h a b _ ha hb9 hz40 (hC.2.1 _ (by omega)) hz) ?_
  refine b_if_eq (X := 1) (tgt := 24) (by decide) dX7_often_6 (by decide) ?_ ?_
  · intro e_6_t c_6_t
    exfalso; omega
  · intro e_6_f c_6_f
    refine e_aload_n (i := 0) dX7_often_9 rfl rfl ?_
    refine e_getR (r := 9) dX7_often_10 fl_X7_50 sh_0 fj_0_6 ?_
    refine e_iload_n (i := 1) dX7_often_13 rfl rfl ?_
    refine e_iload_n (i := 2) dX7_often_14 rfl rfl ?_
    refine e_invSi (As := [.inl (nI a), .inl (nI b)]) (v := nI (4 + 4 * a + b)) (h2 := h) dX7_often_15 lk_X7_81 ys_X7_pageOf rfl rfl rfl (Nat.le_of_ble_eq_true rfl) (Nat.le_of_ble_eq_true rfl) ⟨Nat.le_of_ble_eq_true rfl, Nat.le_of_ble_eq_true rfl⟩ (k_pageOfX l h a b) ?_
    refine e_invViG (As := [.inl (nI (4 + 4 * a + b))]) dX7_often_18 lk_X7_120 yv_X6_goings rfl rfl rfl (Nat.le_of_ble_eq_true rfl) sh_9 ci_X6 (Nat.le_of_ble_eq_true rfl) ⟨Nat.le_of_ble_eq_true rfl, Nat.le_of_ble_eq_true rfl⟩ (k_W_goings l hB h hC (4 + 4 * a + b) (by omega) hz) ?_
    intro w' u q
    refine e_goto (tgt := 25) dX7_often_21 (by decide) ?_
    refine e_iret dX7_often_25 (mret_i _) ?_
    exact hR _ _ q
