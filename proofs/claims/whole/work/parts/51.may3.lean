/-! The class gathers MAY ASK. -/
def yH (h : mH) (f25 f27 : Nat → Int32) : mH := hr (hr h 27 f27) 25 f25
theorem yH_25 (h : mH) (f g : Nat → Int32) (j : Nat) (v : Int32) : hs (yH h f g) 25 j v = yH h (upd f j v) g := hr_hs _ _ _ _ _
theorem yH_27 (h : mH) (f g : Nat → Int32) (j : Nat) (v : Int32) : hs (yH h f g) 27 j v = yH h f (upd g j v) := by
  unfold yH
  rw [hr_cm _ _ _ (by decide), hr_hs, hr_cm _ _ _ (by decide)]
def rw9 (f : Nat → Int32) (A : Nat → Nat) (n : Nat) : Prop := ∀ q, q < n → f q = nI (A q)
theorem rw9_ud {f : Nat → Int32} {A : Nat → Nat} {n k x : Nat} (h : rw9 f A n) : rw9 (upd f k (nI x)) (ud A k x) n := fun q hq => by
  by_cases e : q = k
  · subst e; rw [pk_us, ud_s]
  · rw [pk_un e, ud_n e]; exact h q hq
theorem CB_y {sg : Nat → Int32} {ln sz : Nat → Nat} {h : mH} (hC : CB sg ln sz h) (f g : Nat → Int32) : CB sg ln sz (yH h f g) := hC
set_option maxHeartbeats 2000000 in
theorem lp_W_adds (l : Launch) {sg : Nat → Int32} {ln sz : Nat → Nat} (hB : aWB sg ln sz) (h : mH) (hC : CB sg ln sz h) (p : Nat) (hp0 : p < 20) (A0 W0 : Nat → Nat) (RT : Option Int32 → mH → Prop) (hR : ∀ f25 f27 b A W, rw9 f25 A 800 → rw9 f27 W 4 → yJ sg ln sz A0 W0 (fun q => q / 40 = p ∧ wr sz q) b A W → RT (some (bI b)) (yH h f25 f27)) : ∀ (m : Nat) (f25 f27 : Nat → Int32) (b : Bool) (A W : Nat → Nat) (y4 y5 y6 : Option mV), m ≤ sz p → rw9 f25 A 800 → rw9 f27 W 4 → yJ sg ln sz A0 W0 (fun q => q / 40 = p ∧ m ≤ q % 40 ∧ wr sz q) b A W → mE l Sh0 none iX6_addsTo RT 18 [some (.inr 9), some (.inl (nI p)), some (.inl (bI b)), some (.inl (dn m)), y4, y5, y6] [] (yH h f25 f27) := by
  have hz40 := hB.1 p hp0
  intro m
  induction m with
  | zero =>
    intro f25 f27 b A W y4 y5 y6 hm h25 h27 hJ
    rw [dn_0]
    have hz1 : bI b = 0 ∨ bI b = 1 := bI_01 b
    refine e_iload_n (i := 3) dX6_addsTo_18 rfl rfl ?_
    refine b_if_lt (X := (-1)) (tgt := 114) (by decide) dX6_addsTo_19 (by decide) ?_ ?_
    · intro c_19_t
      refine e_iload_n (i := 2) dX6_addsTo_114 rfl rfl ?_
      refine e_iret dX6_addsTo_115 (mret_z hz1) ?_
      exact hR f25 f27 b A W h25 h27 (yJ_D (fun q hq => ⟨hq.1, Nat.zero_le _, hq.2⟩) hJ)
    · intro c_19_f
      exfalso; omega
  | succ m ih =>
    intro f25 f27 b A W y4 y5 y6 hm h25 h27 hJ
    rw [dn_s]
    have e40 : (40 * p + m) / 40 = p := by omega
    have e41 : (40 * p + m) % 40 = m := by omega
    have hw : wr sz (40 * p + m) := ⟨by omega, by rw [e40, e41]; omega⟩
    have hA8 : ∀ q, A q < 8 := hJ.1.2.2.2.1
    have hx8 := yF_lt hB hw hA8 hJ.1.2.2.2.2
    have ka := k_W_asksOf l hB (yH h f25 f27) (CB_y hC f25 f27) A W h25 h27 hA8 (40 * p + m) hw
    have hst := yJ_step hB hw hJ
    have r25 := h25 (40 * p + m) (by omega)
    have hA8p := hA8 (40 * p + m)
    generalize hx : yF sg ln sz A W (40 * p + m) = x at ka hst hx8
    have fin : ∀ (f25' f27' : Nat → Int32) (b' : Bool) (y4 y5 y6 : Option mV), rw9 f25' (ud A (40 * p + m) x) 800 → rw9 f27' (yW sg W (40 * p + m) x) 4 → b' = (if A (40 * p + m) = x then b else true) → mE l Sh0 none iX6_addsTo RT 18 [some (.inr 9), some (.inl (nI p)), some (.inl (bI b')), some (.inl (dn m)), y4, y5, y6] [] (yH h f25' f27') := by
      intro f25' f27' b' y4 y5 y6 g25 g27 hb9
      refine ih f25' f27' b' _ _ y4 y5 y6 (by omega) g25 g27 ?_
      rw [hb9]
      refine yJ_D (fun q hq => ?_) hst
      by_cases ej : q = 40 * p + m
      · exact Or.inr ej
      · exact Or.inl ⟨hq.1, by have := hq.1; have := hq.2.1; omega, hq.2.2⟩
    have u25 : A (40 * p + m) = x → rw9 f25 (ud A (40 * p + m) x) 800 := fun z => by rw [ud_self z]; exact h25
    by_cases h64 : (sg (40 * p + m)).toInt = 64
    · obtain ⟨hV, hh, hp1, hd1, hd2⟩ := wr_hd hB hw h64
      have eW : yW sg W (40 * p + m) x = ud W (aHd sg (40 * p + m)) (W (aHd sg (40 * p + m)) ||| x) := if_pos h64
      have r27 := h27 _ hh
      refine e_iload_n (i := 3) dX6_addsTo_18 rfl rfl ?_
      refine b_if_lt (X := ((m : Nat) : Int)) (tgt := 114) (nI_toInt (by omega)) dX6_addsTo_19 (by decide) ?_ ?_
      · intro c_19_t
        exfalso; omega
      · intro c_19_f
        refine e_iload_n (i := 1) dX6_addsTo_22 rfl rfl ?_
        refine e_bipush (v := 40) dX6_addsTo_23 (by decide) ?_
        refine z_imul (z := nI (40 * p)) (by rw [nI_mulc, Nat.mul_comm]) dX6_addsTo_25 ?_
        refine e_iload_n (i := 3) dX6_addsTo_26 rfl rfl ?_
        refine z_iadd (z := nI (40 * p + m)) (nI_add _ _) dX6_addsTo_27 ?_
        refine e_istore (ls2 := [some (.inr 9), some (.inl (nI p)), some (.inl (bI b)), some (.inl (nI m)), some (.inl (nI (40 * p + m))), y5, y6]) dX6_addsTo_28 (Nat.le_of_ble_eq_true rfl) rfl ?_
        refine e_aload_n (i := 0) dX6_addsTo_30 rfl rfl ?_
        refine e_iload dX6_addsTo_31 rfl ?_
        refine e_invVi (As := [.inl (nI (40 * p + m))]) (v := nI x) (h2 := (yH h f25 f27)) dX6_addsTo_33 lk_X6_44 yv_X6_asksOf rfl rfl rfl (Nat.le_of_ble_eq_true rfl) sh_9 ci_X6 (Nat.le_of_ble_eq_true rfl) ⟨Nat.le_of_ble_eq_true rfl, Nat.le_of_ble_eq_true rfl⟩ ka ?_
        refine e_istore (ls2 := [some (.inr 9), some (.inl (nI p)), some (.inl (bI b)), some (.inl (nI m)), some (.inl (nI (40 * p + m))), some (.inl (nI x)), y6]) dX6_addsTo_36 (Nat.le_of_ble_eq_true rfl) rfl ?_
        refine e_iload dX6_addsTo_38 rfl ?_
        refine b_if_lt (X := ((40 * p + m : Nat) : Int)) (tgt := 74) (nI_toInt (by omega)) dX6_addsTo_40 (by decide) ?_ ?_
        · intro c_40_t
          exfalso; omega
        · intro c_40_f
          refine e_iload dX6_addsTo_43 rfl ?_
          refine e_sipush (v := 800) dX6_addsTo_45 (by decide) ?_
          refine b_icmp_ge (X := ((40 * p + m : Nat) : Int)) (Y := 800) (tgt := 74) (nI_toInt (by omega)) (by decide) dX6_addsTo_48 (by decide) ?_ ?_
          · intro c_48_t
            exfalso; omega
          · intro c_48_f
            refine e_aload_n (i := 0) dX6_addsTo_51 rfl rfl ?_
            refine e_getR (r := 25) dX6_addsTo_52 fl_X6_9 sh_9 fj_9_1 ?_
            refine e_iload dX6_addsTo_55 rfl ?_
            refine e_iald (x := nI (A (40 * p + m))) dX6_addsTo_57 sh_25 (vin_ofX (X := ((40 * p + m : Nat) : Int)) (nI_toInt (by omega)) (by omega) (by omega)) (by rw [nI_clamp (by omega)]; exact r25) ?_
            refine e_iload dX6_addsTo_58 rfl ?_
            refine b_icmp_eq (X := ((A (40 * p + m) : Nat) : Int)) (Y := ((x : Nat) : Int)) (tgt := 74) (nI_toInt (by omega)) (nI_toInt (by omega)) dX6_addsTo_60 (by decide) ?_ ?_
            · intro e_60_t c_60_t
              refine e_aload_n (i := 0) dX6_addsTo_74 rfl rfl ?_
              refine e_getR (r := 2) dX6_addsTo_75 fl_X6_21 sh_9 fj_9_0 ?_
              refine e_iload dX6_addsTo_78 rfl ?_
              refine e_invVi (As := [.inl (nI (40 * p + m))]) (v := nI (aHd sg (40 * p + m))) (h2 := (yH h f25 f27)) dX6_addsTo_80 lk_X6_47 yv_X0_hand rfl rfl rfl (Nat.le_of_ble_eq_true rfl) sh_2 ci_X0 (Nat.le_of_ble_eq_true rfl) ⟨Nat.le_of_ble_eq_true rfl, Nat.le_of_ble_eq_true rfl⟩ (k_B_handX l (yH h f25 f27) sg (40 * p + m) hp1 (hC.1 _ (by omega)) (hC.1 _ hp1) h64 hd1) ?_
              refine e_istore (ls2 := [some (.inr 9), some (.inl (nI p)), some (.inl (bI b)), some (.inl (nI m)), some (.inl (nI (40 * p + m))), some (.inl (nI x)), some (.inl (nI (aHd sg (40 * p + m))))]) dX6_addsTo_83 (Nat.le_of_ble_eq_true rfl) rfl ?_
              refine e_iload dX6_addsTo_85 rfl ?_
              refine b_if_lt (X := ((aHd sg (40 * p + m) : Nat) : Int)) (tgt := 108) (nI_toInt (by omega)) dX6_addsTo_87 (by decide) ?_ ?_
              · intro c_87_t
                exfalso; omega
              · intro c_87_f
                refine e_iload dX6_addsTo_90 rfl ?_
                refine e_iconst (v := 4) dX6_addsTo_92 (by decide) ?_
                refine b_icmp_ge (X := ((aHd sg (40 * p + m) : Nat) : Int)) (Y := 4) (tgt := 108) (nI_toInt (by omega)) (by decide) dX6_addsTo_93 (by decide) ?_ ?_
                · intro c_93_t
                  exfalso; omega
                · intro c_93_f
                  refine e_aload_n (i := 0) dX6_addsTo_96 rfl rfl ?_
                  refine e_getR (r := 27) dX6_addsTo_97 fl_X6_18 sh_9 fj_9_3 ?_
                  refine e_iload dX6_addsTo_100 rfl ?_
                  refine e_dup2 dX6_addsTo_102 ?_
                  refine e_iald (x := nI (W (aHd sg (40 * p + m)))) dX6_addsTo_103 sh_27 (vin_ofX (X := ((aHd sg (40 * p + m) : Nat) : Int)) (nI_toInt (by omega)) (by omega) (by omega)) (by rw [nI_clamp (by omega)]; exact r27) ?_
                  refine e_iload dX6_addsTo_104 rfl ?_
                  refine z_ior (z := nI (W (aHd sg (40 * p + m)) ||| x)) (fa_or _ _) dX6_addsTo_106 ?_
                  refine e_iast dX6_addsTo_107 sh_27 (vin_ofX (X := ((aHd sg (40 * p + m) : Nat) : Int)) (nI_toInt (by omega)) (by omega) (by omega)) ?_
                  rw [nI_clamp (by omega)]
                  refine e_iinc (v := dn m) (ls2 := [some (.inr 9), some (.inl (nI p)), some (.inl (bI b)), some (.inl (dn m)), some (.inl (nI (40 * p + m))), some (.inl (nI x)), some (.inl (nI (aHd sg (40 * p + m))))]) dX6_addsTo_108 rfl (dn_dec _) (Nat.le_of_ble_eq_true rfl) rfl ?_
                  refine e_goto (tgt := 18) dX6_addsTo_111 (by decide) ?_
                  rw [yH_27]
                  have q := fin f25 (upd f27 (aHd sg (40 * p + m)) (nI (W (aHd sg (40 * p + m)) ||| x))) b (some (.inl (nI (40 * p + m)))) (some (.inl (nI x))) (some (.inl (nI (aHd sg (40 * p + m))))) (u25 (by omega)) (by rw [eW]; exact rw9_ud h27) ((if_pos (by omega)).symm)
                  exact q
            · intro e_60_f c_60_f
              refine e_aload_n (i := 0) dX6_addsTo_63 rfl rfl ?_
              refine e_getR (r := 25) dX6_addsTo_64 fl_X6_9 sh_9 fj_9_1 ?_
              refine e_iload dX6_addsTo_67 rfl ?_
              refine e_iload dX6_addsTo_69 rfl ?_
              refine e_iast dX6_addsTo_71 sh_25 (vin_ofX (X := ((40 * p + m : Nat) : Int)) (nI_toInt (by omega)) (by omega) (by omega)) ?_
              rw [nI_clamp (by omega)]
              refine e_iconst (v := 1) dX6_addsTo_72 (by decide) ?_
              refine e_istore_n (i := 2) (ls2 := [some (.inr 9), some (.inl (nI p)), some (.inl 1), some (.inl (nI m)), some (.inl (nI (40 * p + m))), some (.inl (nI x)), y6]) dX6_addsTo_73 rfl (Nat.le_of_ble_eq_true rfl) rfl ?_
              rw [yH_25]
              refine e_aload_n (i := 0) dX6_addsTo_74 rfl rfl ?_
              refine e_getR (r := 2) dX6_addsTo_75 fl_X6_21 sh_9 fj_9_0 ?_
              refine e_iload dX6_addsTo_78 rfl ?_
              refine e_invVi (As := [.inl (nI (40 * p + m))]) (v := nI (aHd sg (40 * p + m))) (h2 := (yH h (upd f25 (40 * p + m) (nI x)) f27)) dX6_addsTo_80 lk_X6_47 yv_X0_hand rfl rfl rfl (Nat.le_of_ble_eq_true rfl) sh_2 ci_X0 (Nat.le_of_ble_eq_true rfl) ⟨Nat.le_of_ble_eq_true rfl, Nat.le_of_ble_eq_true rfl⟩ (k_B_handX l (yH h (upd f25 (40 * p + m) (nI x)) f27) sg (40 * p + m) hp1 (hC.1 _ (by omega)) (hC.1 _ hp1) h64 hd1) ?_
              refine e_istore (ls2 := [some (.inr 9), some (.inl (nI p)), some (.inl 1), some (.inl (nI m)), some (.inl (nI (40 * p + m))), some (.inl (nI x)), some (.inl (nI (aHd sg (40 * p + m))))]) dX6_addsTo_83 (Nat.le_of_ble_eq_true rfl) rfl ?_
              refine e_iload dX6_addsTo_85 rfl ?_
              refine b_if_lt (X := ((aHd sg (40 * p + m) : Nat) : Int)) (tgt := 108) (nI_toInt (by omega)) dX6_addsTo_87 (by decide) ?_ ?_
              · intro c_87_t
                exfalso; omega
              · intro c_87_f
                refine e_iload dX6_addsTo_90 rfl ?_
                refine e_iconst (v := 4) dX6_addsTo_92 (by decide) ?_
                refine b_icmp_ge (X := ((aHd sg (40 * p + m) : Nat) : Int)) (Y := 4) (tgt := 108) (nI_toInt (by omega)) (by decide) dX6_addsTo_93 (by decide) ?_ ?_
                · intro c_93_t
                  exfalso; omega
                · intro c_93_f
                  refine e_aload_n (i := 0) dX6_addsTo_96 rfl rfl ?_
                  refine e_getR (r := 27) dX6_addsTo_97 fl_X6_18 sh_9 fj_9_3 ?_
                  refine e_iload dX6_addsTo_100 rfl ?_
                  refine e_dup2 dX6_addsTo_102 ?_
                  refine e_iald (x := nI (W (aHd sg (40 * p + m)))) dX6_addsTo_103 sh_27 (vin_ofX (X := ((aHd sg (40 * p + m) : Nat) : Int)) (nI_toInt (by omega)) (by omega) (by omega)) (by rw [nI_clamp (by omega)]; exact r27) ?_
                  refine e_iload dX6_addsTo_104 rfl ?_
                  refine z_ior (z := nI (W (aHd sg (40 * p + m)) ||| x)) (fa_or _ _) dX6_addsTo_106 ?_
                  refine e_iast dX6_addsTo_107 sh_27 (vin_ofX (X := ((aHd sg (40 * p + m) : Nat) : Int)) (nI_toInt (by omega)) (by omega) (by omega)) ?_
                  rw [nI_clamp (by omega)]
                  refine e_iinc (v := dn m) (ls2 := [some (.inr 9), some (.inl (nI p)), some (.inl 1), some (.inl (dn m)), some (.inl (nI (40 * p + m))), some (.inl (nI x)), some (.inl (nI (aHd sg (40 * p + m))))]) dX6_addsTo_108 rfl (dn_dec _) (Nat.le_of_ble_eq_true rfl) rfl ?_
                  refine e_goto (tgt := 18) dX6_addsTo_111 (by decide) ?_
                  rw [yH_27]
                  have q := fin (upd f25 (40 * p + m) (nI x)) (upd f27 (aHd sg (40 * p + m)) (nI (W (aHd sg (40 * p + m)) ||| x))) true (some (.inl (nI (40 * p + m)))) (some (.inl (nI x))) (some (.inl (nI (aHd sg (40 * p + m))))) (rw9_ud h25) (by rw [eW]; exact rw9_ud h27) ((if_neg (by omega)).symm)
                  rw [show bI true = 1 from rfl] at q
                  exact q
    · have eW : yW sg W (40 * p + m) x = W := if_neg h64
      refine e_iload_n (i := 3) dX6_addsTo_18 rfl rfl ?_
      refine b_if_lt (X := ((m : Nat) : Int)) (tgt := 114) (nI_toInt (by omega)) dX6_addsTo_19 (by decide) ?_ ?_
      · intro c_19_t
        exfalso; omega
      · intro c_19_f
        refine e_iload_n (i := 1) dX6_addsTo_22 rfl rfl ?_
        refine e_bipush (v := 40) dX6_addsTo_23 (by decide) ?_
        refine z_imul (z := nI (40 * p)) (by rw [nI_mulc, Nat.mul_comm]) dX6_addsTo_25 ?_
        refine e_iload_n (i := 3) dX6_addsTo_26 rfl rfl ?_
        refine z_iadd (z := nI (40 * p + m)) (nI_add _ _) dX6_addsTo_27 ?_
        refine e_istore (ls2 := [some (.inr 9), some (.inl (nI p)), some (.inl (bI b)), some (.inl (nI m)), some (.inl (nI (40 * p + m))), y5, y6]) dX6_addsTo_28 (Nat.le_of_ble_eq_true rfl) rfl ?_
        refine e_aload_n (i := 0) dX6_addsTo_30 rfl rfl ?_
        refine e_iload dX6_addsTo_31 rfl ?_
        refine e_invVi (As := [.inl (nI (40 * p + m))]) (v := nI x) (h2 := (yH h f25 f27)) dX6_addsTo_33 lk_X6_44 yv_X6_asksOf rfl rfl rfl (Nat.le_of_ble_eq_true rfl) sh_9 ci_X6 (Nat.le_of_ble_eq_true rfl) ⟨Nat.le_of_ble_eq_true rfl, Nat.le_of_ble_eq_true rfl⟩ ka ?_
        refine e_istore (ls2 := [some (.inr 9), some (.inl (nI p)), some (.inl (bI b)), some (.inl (nI m)), some (.inl (nI (40 * p + m))), some (.inl (nI x)), y6]) dX6_addsTo_36 (Nat.le_of_ble_eq_true rfl) rfl ?_
        refine e_iload dX6_addsTo_38 rfl ?_
        refine b_if_lt (X := ((40 * p + m : Nat) : Int)) (tgt := 74) (nI_toInt (by omega)) dX6_addsTo_40 (by decide) ?_ ?_
        · intro c_40_t
          exfalso; omega
        · intro c_40_f
          refine e_iload dX6_addsTo_43 rfl ?_
          refine e_sipush (v := 800) dX6_addsTo_45 (by decide) ?_
          refine b_icmp_ge (X := ((40 * p + m : Nat) : Int)) (Y := 800) (tgt := 74) (nI_toInt (by omega)) (by decide) dX6_addsTo_48 (by decide) ?_ ?_
          · intro c_48_t
            exfalso; omega
          · intro c_48_f
            refine e_aload_n (i := 0) dX6_addsTo_51 rfl rfl ?_
            refine e_getR (r := 25) dX6_addsTo_52 fl_X6_9 sh_9 fj_9_1 ?_
            refine e_iload dX6_addsTo_55 rfl ?_
            refine e_iald (x := nI (A (40 * p + m))) dX6_addsTo_57 sh_25 (vin_ofX (X := ((40 * p + m : Nat) : Int)) (nI_toInt (by omega)) (by omega) (by omega)) (by rw [nI_clamp (by omega)]; exact r25) ?_
            refine e_iload dX6_addsTo_58 rfl ?_
            refine b_icmp_eq (X := ((A (40 * p + m) : Nat) : Int)) (Y := ((x : Nat) : Int)) (tgt := 74) (nI_toInt (by omega)) (nI_toInt (by omega)) dX6_addsTo_60 (by decide) ?_ ?_
            · intro e_60_t c_60_t
              refine e_aload_n (i := 0) dX6_addsTo_74 rfl rfl ?_
              refine e_getR (r := 2) dX6_addsTo_75 fl_X6_21 sh_9 fj_9_0 ?_
              refine e_iload dX6_addsTo_78 rfl ?_
              refine e_invVi (As := [.inl (nI (40 * p + m))]) (v := (-1)) (h2 := (yH h f25 f27)) dX6_addsTo_80 lk_X6_47 yv_X0_hand rfl rfl rfl (Nat.le_of_ble_eq_true rfl) sh_2 ci_X0 (Nat.le_of_ble_eq_true rfl) ⟨Nat.le_of_ble_eq_true rfl, Nat.le_of_ble_eq_true rfl⟩ (k_B_handN l (yH h f25 f27) sg (40 * p + m) (by omega) (hC.1 _ (by omega)) h64) ?_
              refine e_istore (ls2 := [some (.inr 9), some (.inl (nI p)), some (.inl (bI b)), some (.inl (nI m)), some (.inl (nI (40 * p + m))), some (.inl (nI x)), some (.inl (-1))]) dX6_addsTo_83 (Nat.le_of_ble_eq_true rfl) rfl ?_
              refine e_iload dX6_addsTo_85 rfl ?_
              refine b_if_lt (X := (-1)) (tgt := 108) (by decide) dX6_addsTo_87 (by decide) ?_ ?_
              · intro c_87_t
                refine e_iinc (v := dn m) (ls2 := [some (.inr 9), some (.inl (nI p)), some (.inl (bI b)), some (.inl (dn m)), some (.inl (nI (40 * p + m))), some (.inl (nI x)), some (.inl (-1))]) dX6_addsTo_108 rfl (dn_dec _) (Nat.le_of_ble_eq_true rfl) rfl ?_
                refine e_goto (tgt := 18) dX6_addsTo_111 (by decide) ?_
                have q := fin f25 f27 b (some (.inl (nI (40 * p + m)))) (some (.inl (nI x))) (some (.inl (-1))) (u25 (by omega)) (by rw [eW]; exact h27) ((if_pos (by omega)).symm)
                exact q
              · intro c_87_f
                exfalso; omega
            · intro e_60_f c_60_f
              refine e_aload_n (i := 0) dX6_addsTo_63 rfl rfl ?_
              refine e_getR (r := 25) dX6_addsTo_64 fl_X6_9 sh_9 fj_9_1 ?_
              refine e_iload dX6_addsTo_67 rfl ?_
              refine e_iload dX6_addsTo_69 rfl ?_
              refine e_iast dX6_addsTo_71 sh_25 (vin_ofX (X := ((40 * p + m : Nat) : Int)) (nI_toInt (by omega)) (by omega) (by omega)) ?_
              rw [nI_clamp (by omega)]
              refine e_iconst (v := 1) dX6_addsTo_72 (by decide) ?_
              refine e_istore_n (i := 2) (ls2 := [some (.inr 9), some (.inl (nI p)), some (.inl 1), some (.inl (nI m)), some (.inl (nI (40 * p + m))), some (.inl (nI x)), y6]) dX6_addsTo_73 rfl (Nat.le_of_ble_eq_true rfl) rfl ?_
              rw [yH_25]
              refine e_aload_n (i := 0) dX6_addsTo_74 rfl rfl ?_
              refine e_getR (r := 2) dX6_addsTo_75 fl_X6_21 sh_9 fj_9_0 ?_
              refine e_iload dX6_addsTo_78 rfl ?_
              refine e_invVi (As := [.inl (nI (40 * p + m))]) (v := (-1)) (h2 := (yH h (upd f25 (40 * p + m) (nI x)) f27)) dX6_addsTo_80 lk_X6_47 yv_X0_hand rfl rfl rfl (Nat.le_of_ble_eq_true rfl) sh_2 ci_X0 (Nat.le_of_ble_eq_true rfl) ⟨Nat.le_of_ble_eq_true rfl, Nat.le_of_ble_eq_true rfl⟩ (k_B_handN l (yH h (upd f25 (40 * p + m) (nI x)) f27) sg (40 * p + m) (by omega) (hC.1 _ (by omega)) h64) ?_
              refine e_istore (ls2 := [some (.inr 9), some (.inl (nI p)), some (.inl 1), some (.inl (nI m)), some (.inl (nI (40 * p + m))), some (.inl (nI x)), some (.inl (-1))]) dX6_addsTo_83 (Nat.le_of_ble_eq_true rfl) rfl ?_
              refine e_iload dX6_addsTo_85 rfl ?_
              refine b_if_lt (X := (-1)) (tgt := 108) (by decide) dX6_addsTo_87 (by decide) ?_ ?_
              · intro c_87_t
                refine e_iinc (v := dn m) (ls2 := [some (.inr 9), some (.inl (nI p)), some (.inl 1), some (.inl (dn m)), some (.inl (nI (40 * p + m))), some (.inl (nI x)), some (.inl (-1))]) dX6_addsTo_108 rfl (dn_dec _) (Nat.le_of_ble_eq_true rfl) rfl ?_
                refine e_goto (tgt := 18) dX6_addsTo_111 (by decide) ?_
                have q := fin (upd f25 (40 * p + m) (nI x)) f27 true (some (.inl (nI (40 * p + m)))) (some (.inl (nI x))) (some (.inl (-1))) (rw9_ud h25) (by rw [eW]; exact h27) ((if_neg (by omega)).symm)
                rw [show bI true = 1 from rfl] at q
                exact q
              · intro c_87_f
                exfalso; omega
theorem yJ_0 {sg : Nat → Int32} {ln sz : Nat → Nat} {A W : Nat → Nat} {D : Nat → Prop} (hD : ∀ q, ¬ D q) (h : yI sg ln sz A W) : yJ sg ln sz A W D false A W := ⟨h, fun q => sb_refl _, fun _ => ⟨rfl, rfl, fun q hq => absurd hq (hD q)⟩, fun z => by cases z⟩
theorem yJ_join {sg : Nat → Int32} {ln sz : Nat → Nat} {A0 W0 A1 W1 A W : Nat → Nat} {D D' D2 : Nat → Prop} {b b' : Bool} (hD : ∀ q, D2 q → D q ∨ D' q) (h1 : yJ sg ln sz A0 W0 D b A1 W1) (h2 : yJ sg ln sz A1 W1 D' b' A W) : yJ sg ln sz A0 W0 D2 (b || b') A W := by
  refine ⟨h2.1, fun q => sb_trans (h1.2.1 q) (h2.2.1 q), fun z => ?_, fun z => ?_⟩
  · have z1 : b = false := by cases b <;> simp_all
    have z2 : b' = false := by cases b' <;> simp_all
    obtain ⟨r1, r2, r3⟩ := h1.2.2.1 z1
    obtain ⟨s1, s2, s3⟩ := h2.2.2.1 z2
    refine ⟨s1.trans r1, s2.trans r2, fun q hq => ?_⟩
    rcases hD q hq with hq | hq
    · rw [s1, s2]; exact r3 q hq
    · exact s3 q hq
  · by_cases z1 : b = true
    · obtain ⟨q, q1, q2⟩ := h1.2.2.2 z1
      refine ⟨q, q1, fun e => q2 (sb_anti (h1.2.1 q) (by rw [e]; exact h2.2.1 q))⟩
    · have z2 : b' = true := by cases b' <;> simp_all
      obtain ⟨q, q1, q2⟩ := h2.2.2.2 z2
      exact ⟨q, q1, fun e => q2 (sb_anti (h2.2.1 q) (by rw [← e]; exact h1.2.1 q))⟩
set_option maxHeartbeats 1000000 in
theorem k_W_adds (l : Launch) {sg : Nat → Int32} {ln sz : Nat → Nat} (hB : aWB sg ln sz) (h : mH) (hC : CB sg ln sz h) (p : Nat) (hp0 : p < 20) (A W : Nat → Nat) (f25 f27 : Nat → Int32) (h25 : rw9 f25 A 800) (h27 : rw9 f27 W 4) (hI9 : yI sg ln sz A W) : mG l Sh0 iX6_addsTo [.inr 9, .inl (nI p)] (yH h f25 f27) (fun v h' => ∃ g25 g27 b A' W', v = some (bI b) ∧ h' = yH h g25 g27 ∧ rw9 g25 A' 800 ∧ rw9 g27 W' 4 ∧ yJ sg ln sz A W (fun q => q / 40 = p ∧ wr sz q) b A' W') := by
  have hz40 := hB.1 p hp0
  intro RT hR
  show mE l Sh0 none iX6_addsTo RT 0 [some (.inr 9), some (.inl (nI p)), none, none, none, none, none] [] (yH h f25 f27)
  refine e_iconst (v := 0) dX6_addsTo_0 (by decide) ?_
  refine e_istore_n (i := 2) (ls2 := [some (.inr 9), some (.inl (nI p)), some (.inl 0), none, none, none, none]) dX6_addsTo_1 rfl (Nat.le_of_ble_eq_true rfl) rfl ?_
  refine e_aload_n (i := 0) dX6_addsTo_2 rfl rfl ?_
  refine e_getR (r := 2) dX6_addsTo_3 fl_X6_21 sh_9 fj_9_0 ?_
  refine e_iload_n (i := 1) dX6_addsTo_6 rfl rfl ?_
  refine e_invVi (As := [.inl (nI p)]) (v := nI (sz p)) (h2 := (yH h f25 f27)) dX6_addsTo_7 lk_X6_33 yv_X0_size rfl rfl rfl (Nat.le_of_ble_eq_true rfl) sh_2 ci_X0 (Nat.le_of_ble_eq_true rfl) ⟨Nat.le_of_ble_eq_true rfl, Nat.le_of_ble_eq_true rfl⟩ (k_B_sizeX l (yH h f25 f27) p hp0 (hC.2.1 p hp0)) ?_
  refine e_bipush (v := 40) dX6_addsTo_10 (by decide) ?_
  refine e_min dX6_addsTo_12 lk_X6_38 mm_min.1 mm_min.2.1 mm_min.2.2 ⟨Nat.le_of_ble_eq_true rfl, Nat.le_of_ble_eq_true rfl⟩ ?_
  rw [show (if 40 < nI (sz p) then 40 else nI (sz p) : Int32) = nI (sz p) from (by rw [show (40 : Int32) = nI 40 from by decide, nI_min (a := 40) (by omega) (by omega)]; rw [if_neg (by omega)])]
  refine e_iconst (v := 1) dX6_addsTo_15 (by decide) ?_
  refine z_isub (z := dn (sz p)) rfl dX6_addsTo_16 ?_
  refine e_istore_n (i := 3) (ls2 := [some (.inr 9), some (.inl (nI p)), some (.inl 0), some (.inl (dn (sz p))), none, none, none]) dX6_addsTo_17 rfl (Nat.le_of_ble_eq_true rfl) rfl ?_
  exact lp_W_adds l hB h hC p hp0 A W RT (fun g25 g27 b A' W' a1 a2 a3 => hR _ _ ⟨g25, g27, b, A', W', rfl, rfl, a1, a2, a3⟩) (sz p) f25 f27 false A W _ _ _ (Nat.le_refl _) h25 h27 (yJ_0 (fun q hq => by
    obtain ⟨h1, h2, h3⟩ := hq
    have h4 := h3.2
    rw [h1] at h4
    omega) hI9)
set_option maxHeartbeats 2000000 in
theorem lp_W_pages (l : Launch) {sg : Nat → Int32} {ln sz : Nat → Nat} (hB : aWB sg ln sz) (h : mH) (hC : CB sg ln sz h) (A0 W0 : Nat → Nat) (y1 y3 : Option mV) (RT : Option Int32 → mH → Prop) (hk : ∀ f25 f27 b A W y4, rw9 f25 A 800 → rw9 f27 W 4 → yJ sg ln sz A0 W0 (fun q => wr sz q) b A W → mE l Sh0 none iX6_beyond RT 86 [some (.inr 9), y1, some (.inl (bI b)), y3, y4] [] (yH h f25 f27)) : ∀ (d i : Nat) (f25 f27 : Nat → Int32) (b : Bool) (A W : Nat → Nat), i + d = 20 → rw9 f25 A 800 → rw9 f27 W 4 → yJ sg ln sz A0 W0 (fun q => q / 40 < i ∧ wr sz q) b A W → mE l Sh0 none iX6_beyond RT 62 [some (.inr 9), y1, some (.inl (bI b)), y3, some (.inl (nI i))] [] (yH h f25 f27) := by
  intro d
  induction d with
  | zero =>
    intro i f25 f27 b A W hd h25 h27 hJ
    refine e_iload dX6_beyond_62 rfl ?_
    refine e_bipush (v := 20) dX6_beyond_64 (by decide) ?_
    refine b_icmp_ge (X := ((i : Nat) : Int)) (Y := 20) (tgt := 86) (nI_toInt (by omega)) (by decide) dX6_beyond_66 (by decide) ?_ ?_
    · intro c_66_t
      exact hk f25 f27 b A W _ h25 h27 (yJ_D (fun q hq => ⟨by have := hq.1; omega, hq⟩) hJ)
    · intro c_66_f
      exfalso; omega
  | succ d ih =>
    intro i f25 f27 b A W hd h25 h27 hJ
    have ka := k_W_adds l hB h hC i (by omega) A W f25 f27 h25 h27 hJ.1
    refine e_iload dX6_beyond_62 rfl ?_
    refine e_bipush (v := 20) dX6_beyond_64 (by decide) ?_
    refine b_icmp_ge (X := ((i : Nat) : Int)) (Y := 20) (tgt := 86) (nI_toInt (by omega)) (by decide) dX6_beyond_66 (by decide) ?_ ?_
    · intro c_66_t
      exfalso; omega
    · intro c_66_f
      refine e_aload_n (i := 0) dX6_beyond_69 rfl rfl ?_
      refine e_iload dX6_beyond_70 rfl ?_
      refine e_invViG (As := [.inl (nI i)]) dX6_beyond_72 lk_X6_25 yv_X6_addsTo rfl rfl rfl (Nat.le_of_ble_eq_true rfl) sh_9 ci_X6 (Nat.le_of_ble_eq_true rfl) ⟨Nat.le_of_ble_eq_true rfl, Nat.le_of_ble_eq_true rfl⟩ ka ?_
      rintro w' u ⟨g25, g27, b', A', W', hv, rfl, a1, a2, a3⟩
      obtain rfl := Option.some.inj hv
      refine b_if_eq (X := (bI b').toInt) (tgt := 80) rfl dX6_beyond_75 (by decide) ?_ ?_
      · intro e_75_t c_75_t
        refine e_iinc (v := nI (i + 1)) (ls2 := [some (.inr 9), y1, some (.inl (bI b)), y3, some (.inl (nI (i + 1)))]) dX6_beyond_80 rfl (nI_inc1 _) (Nat.le_of_ble_eq_true rfl) rfl ?_
        refine e_goto (tgt := 62) dX6_beyond_83 (by decide) ?_
        have hb9 : b' = false := by cases b' <;> first | rfl | (exfalso; revert e_75_t; decide)
        have q := ih (i + 1) g25 g27 (b || b') A' W' (by omega) a1 a2 (yJ_join (fun q hq => by
          by_cases e : q / 40 = i
          · exact Or.inr ⟨e, hq.2⟩
          · exact Or.inl ⟨by have := hq.1; omega, hq.2⟩) hJ a3)
        rw [hb9, Bool.or_false] at q
        exact q
      · intro e_75_f c_75_f
        refine e_iconst (v := 1) dX6_beyond_78 (by decide) ?_
        refine e_istore_n (i := 2) (ls2 := [some (.inr 9), y1, some (.inl 1), y3, some (.inl (nI i))]) dX6_beyond_79 rfl (Nat.le_of_ble_eq_true rfl) rfl ?_
        refine e_iinc (v := nI (i + 1)) (ls2 := [some (.inr 9), y1, some (.inl 1), y3, some (.inl (nI (i + 1)))]) dX6_beyond_80 rfl (nI_inc1 _) (Nat.le_of_ble_eq_true rfl) rfl ?_
        refine e_goto (tgt := 62) dX6_beyond_83 (by decide) ?_
        have hb9 : b' = true := by cases b' <;> first | rfl | (exfalso; revert e_75_f; decide)
        have q := ih (i + 1) g25 g27 (b || b') A' W' (by omega) a1 a2 (yJ_join (fun q hq => by
          by_cases e : q / 40 = i
          · exact Or.inr ⟨e, hq.2⟩
          · exact Or.inl ⟨by have := hq.1; omega, hq.2⟩) hJ a3)
        rw [hb9, Bool.or_true, show bI true = 1 from rfl] at q
        exact q
set_option maxHeartbeats 2000000 in
theorem lp_W_passes (l : Launch) {sg : Nat → Int32} {ln sz : Nat → Nat} (hB : aWB sg ln sz) (h : mH) (hC : CB sg ln sz h) (p : Nat) (hp : p < 20) (RT : Option Int32 → mH → Prop) (hR : ∀ f25 f27 A W, rw9 f25 A 800 → rw9 f27 W 4 → yI sg ln sz A W → yCl sg ln sz A W → RT (some (nI (A (40 * p)))) (yH h f25 f27)) : ∀ (d t : Nat) (f25 f27 : Nat → Int32) (A W : Nat → Nat) (y4 : Option mV), 2400 < pcs 800 A + d → t ≤ pcs 800 A → rw9 f25 A 800 → rw9 f27 W 4 → yI sg ln sz A W → mE l Sh0 none iX6_beyond RT 46 [some (.inr 9), some (.inl (nI p)), some (.inl 1), some (.inl (nI t)), y4] [] (yH h f25 f27) := by
  have fin : ∀ (t : Nat) (f25 f27 : Nat → Int32) (A W : Nat → Nat) (y4 : Option mV), t ≤ 2401 → rw9 f25 A 800 → rw9 f27 W 4 → yI sg ln sz A W → yCl sg ln sz A W → mE l Sh0 none iX6_beyond RT 46 [some (.inr 9), some (.inl (nI p)), some (.inl 0), some (.inl (nI t)), y4] [] (yH h f25 f27) := by
    intro t f25 f27 A W y4 ht h25 h27 hI9 hcl
    have r0 := h25 (40 * p) (by omega)
    refine e_iload_n (i := 3) dX6_beyond_46 rfl rfl ?_
    refine e_sipush (v := 2401) dX6_beyond_47 (by decide) ?_
    refine b_icmp_ge (X := ((t : Nat) : Int)) (Y := 2401) (tgt := 92) (nI_toInt (by omega)) (by decide) dX6_beyond_50 (by decide) ?_ ?_
    · intro c_50_t
      refine e_aload_n (i := 0) dX6_beyond_92 rfl rfl ?_
      refine e_iload_n (i := 1) dX6_beyond_93 rfl rfl ?_
      refine e_bipush (v := 40) dX6_beyond_94 (by decide) ?_
      refine z_imul (z := nI (40 * p)) (by rw [nI_mulc, Nat.mul_comm]) dX6_beyond_96 ?_
      refine e_invVi (As := [.inl (nI (40 * p))]) (v := nI (A (40 * p))) (h2 := (yH h f25 f27)) dX6_beyond_97 lk_X6_29 yv_X6_asked rfl rfl rfl (Nat.le_of_ble_eq_true rfl) sh_9 ci_X6 (Nat.le_of_ble_eq_true rfl) ⟨Nat.le_of_ble_eq_true rfl, Nat.le_of_ble_eq_true rfl⟩ (k_W_askedX l (yH h f25 f27) (40 * p) (by omega) r0) ?_
      refine e_iret dX6_beyond_100 (mret_i _) ?_
      exact hR f25 f27 A W h25 h27 hI9 hcl
    · intro c_50_f
      refine e_iload_n (i := 2) dX6_beyond_53 rfl rfl ?_
      refine b_if_eq (X := 0) (tgt := 92) (by decide) dX6_beyond_54 (by decide) ?_ ?_
      · intro e_54_t c_54_t
        refine e_aload_n (i := 0) dX6_beyond_92 rfl rfl ?_
        refine e_iload_n (i := 1) dX6_beyond_93 rfl rfl ?_
        refine e_bipush (v := 40) dX6_beyond_94 (by decide) ?_
        refine z_imul (z := nI (40 * p)) (by rw [nI_mulc, Nat.mul_comm]) dX6_beyond_96 ?_
        refine e_invVi (As := [.inl (nI (40 * p))]) (v := nI (A (40 * p))) (h2 := (yH h f25 f27)) dX6_beyond_97 lk_X6_29 yv_X6_asked rfl rfl rfl (Nat.le_of_ble_eq_true rfl) sh_9 ci_X6 (Nat.le_of_ble_eq_true rfl) ⟨Nat.le_of_ble_eq_true rfl, Nat.le_of_ble_eq_true rfl⟩ (k_W_askedX l (yH h f25 f27) (40 * p) (by omega) r0) ?_
        refine e_iret dX6_beyond_100 (mret_i _) ?_
        exact hR f25 f27 A W h25 h27 hI9 hcl
      · intro e_54_f c_54_f
        exfalso; omega
  intro d
  induction d with
  | zero =>
    intro t f25 f27 A W y4 hd
    have := pcs_le 800 A
    omega
  | succ d ih =>
    intro t f25 f27 A W y4 hd ht h25 h27 hI9
    have hle := pcs_le 800 A
    have k86 : ∀ g25 g27 b A' W' y4, rw9 g25 A' 800 → rw9 g27 W' 4 → yJ sg ln sz A W (fun q => wr sz q) b A' W' → mE l Sh0 none iX6_beyond RT 86 [some (.inr 9), some (.inl (nI p)), some (.inl (bI b)), some (.inl (nI t)), y4] [] (yH h g25 g27) := by
      intro g25 g27 b A' W' y4 a1 a2 a3
      refine e_iinc (v := nI (t + 1)) (ls2 := [some (.inr 9), some (.inl (nI p)), some (.inl (bI b)), some (.inl (nI (t + 1))), y4]) dX6_beyond_86 rfl (nI_inc1 _) (Nat.le_of_ble_eq_true rfl) rfl ?_
      refine e_goto (tgt := 46) dX6_beyond_89 (by decide) ?_
      cases b with
      | false => exact fin (t + 1) g25 g27 A' W' _ (by omega) a1 a2 a3.1 (yJ_end (fun q hq => hq) a3)
      | true =>
        have hlt := pcs_lt (n := 800) (fun q _ => hI9.2.2.2.1 q) (fun q _ => a3.1.2.2.2.1 q) (fun q _ => a3.2.1 q) (a3.2.2.2 rfl)
        exact ih (t + 1) g25 g27 A' W' _ (by omega) (by omega) a1 a2 a3.1
    refine e_iload_n (i := 3) dX6_beyond_46 rfl rfl ?_
    refine e_sipush (v := 2401) dX6_beyond_47 (by decide) ?_
    refine b_icmp_ge (X := ((t : Nat) : Int)) (Y := 2401) (tgt := 92) (nI_toInt (by omega)) (by decide) dX6_beyond_50 (by decide) ?_ ?_
    · intro c_50_t
      exfalso; omega
    · intro c_50_f
      refine e_iload_n (i := 2) dX6_beyond_53 rfl rfl ?_
      refine b_if_eq (X := 1) (tgt := 92) (by decide) dX6_beyond_54 (by decide) ?_ ?_
      · intro e_54_t c_54_t
        exfalso; omega
      · intro e_54_f c_54_f
        refine e_iconst (v := 0) dX6_beyond_57 (by decide) ?_
        refine e_istore_n (i := 2) (ls2 := [some (.inr 9), some (.inl (nI p)), some (.inl 0), some (.inl (nI t)), y4]) dX6_beyond_58 rfl (Nat.le_of_ble_eq_true rfl) rfl ?_
        refine e_iconst (v := 0) dX6_beyond_59 (by decide) ?_
        refine e_istore (ls2 := [some (.inr 9), some (.inl (nI p)), some (.inl 0), some (.inl (nI t)), some (.inl 0)]) dX6_beyond_60 (Nat.le_of_ble_eq_true rfl) rfl ?_
        exact lp_W_pages l hB h hC A W _ _ RT k86 20 0 f25 f27 false A W rfl h25 h27 (yJ_0 (fun q hq => absurd hq.1 (Nat.not_lt_zero _)) hI9)
set_option maxHeartbeats 1000000 in
theorem lp_W_zero1 (l : Launch) (h : mH) (f : Nat → Int32) (y1 y3 y4 : Option mV) (RT : Option Int32 → mH → Prop) (hk : ∀ y2, mE l Sh0 none iX6_beyond RT 22 [some (.inr 9), y1, y2, y3, y4] [] (hr h 25 (zf f 800))) : ∀ (d i : Nat), i + d = 800 → mE l Sh0 none iX6_beyond RT 2 [some (.inr 9), y1, some (.inl (nI i)), y3, y4] [] (hr h 25 (zf f i)) := by
  intro d
  induction d with
  | zero =>
    intro i hd
    refine e_iload_n (i := 2) dX6_beyond_2 rfl rfl ?_
    refine e_sipush (v := 800) dX6_beyond_3 (by decide) ?_
    refine b_icmp_ge (X := ((i : Nat) : Int)) (Y := 800) (tgt := 22) (nI_toInt (by omega)) (by decide) dX6_beyond_6 (by decide) ?_ ?_
    · intro c_6_t
      have e : i = 800 := by omega
      subst e
      exact hk _
    · intro c_6_f
      exfalso; omega
  | succ d ih =>
    intro i hd
    refine e_iload_n (i := 2) dX6_beyond_2 rfl rfl ?_
    refine e_sipush (v := 800) dX6_beyond_3 (by decide) ?_
    refine b_icmp_ge (X := ((i : Nat) : Int)) (Y := 800) (tgt := 22) (nI_toInt (by omega)) (by decide) dX6_beyond_6 (by decide) ?_ ?_
    · intro c_6_t
      exfalso; omega
    · intro c_6_f
      refine e_aload_n (i := 0) dX6_beyond_9 rfl rfl ?_
      refine e_getR (r := 25) dX6_beyond_10 fl_X6_9 sh_9 fj_9_1 ?_
      refine e_iload_n (i := 2) dX6_beyond_13 rfl rfl ?_
      refine e_iconst (v := 0) dX6_beyond_14 (by decide) ?_
      refine e_iast dX6_beyond_15 sh_25 (vin_ofX (X := ((i : Nat) : Int)) (nI_toInt (by omega)) (by omega) (by omega)) ?_
      rw [nI_clamp (by omega)]
      refine e_iinc (v := nI (i + 1)) (ls2 := [some (.inr 9), y1, some (.inl (nI (i + 1))), y3, y4]) dX6_beyond_16 rfl (nI_inc1 _) (Nat.le_of_ble_eq_true rfl) rfl ?_
      refine e_goto (tgt := 2) dX6_beyond_19 (by decide) ?_
      rw [hr_hs, zf_s]
      exact ih (i + 1) (by omega)
set_option maxHeartbeats 1000000 in
theorem lp_W_zero2 (l : Launch) (h : mH) (f : Nat → Int32) (y1 y3 y4 : Option mV) (RT : Option Int32 → mH → Prop) (hk : ∀ y2, mE l Sh0 none iX6_beyond RT 42 [some (.inr 9), y1, y2, y3, y4] [] (hr h 27 (zf f 4))) : ∀ (d i : Nat), i + d = 4 → mE l Sh0 none iX6_beyond RT 24 [some (.inr 9), y1, some (.inl (nI i)), y3, y4] [] (hr h 27 (zf f i)) := by
  intro d
  induction d with
  | zero =>
    intro i hd
    refine e_iload_n (i := 2) dX6_beyond_24 rfl rfl ?_
    refine e_iconst (v := 4) dX6_beyond_25 (by decide) ?_
    refine b_icmp_ge (X := ((i : Nat) : Int)) (Y := 4) (tgt := 42) (nI_toInt (by omega)) (by decide) dX6_beyond_26 (by decide) ?_ ?_
    · intro c_26_t
      have e : i = 4 := by omega
      subst e
      exact hk _
    · intro c_26_f
      exfalso; omega
  | succ d ih =>
    intro i hd
    refine e_iload_n (i := 2) dX6_beyond_24 rfl rfl ?_
    refine e_iconst (v := 4) dX6_beyond_25 (by decide) ?_
    refine b_icmp_ge (X := ((i : Nat) : Int)) (Y := 4) (tgt := 42) (nI_toInt (by omega)) (by decide) dX6_beyond_26 (by decide) ?_ ?_
    · intro c_26_t
      exfalso; omega
    · intro c_26_f
      refine e_aload_n (i := 0) dX6_beyond_29 rfl rfl ?_
      refine e_getR (r := 27) dX6_beyond_30 fl_X6_18 sh_9 fj_9_3 ?_
      refine e_iload_n (i := 2) dX6_beyond_33 rfl rfl ?_
      refine e_iconst (v := 0) dX6_beyond_34 (by decide) ?_
      refine e_iast dX6_beyond_35 sh_27 (vin_ofX (X := ((i : Nat) : Int)) (nI_toInt (by omega)) (by omega) (by omega)) ?_
      rw [nI_clamp (by omega)]
      refine e_iinc (v := nI (i + 1)) (ls2 := [some (.inr 9), y1, some (.inl (nI (i + 1))), y3, y4]) dX6_beyond_36 rfl (nI_inc1 _) (Nat.le_of_ble_eq_true rfl) rfl ?_
      refine e_goto (tgt := 24) dX6_beyond_39 (by decide) ?_
      rw [hr_hs, zf_s]
      exact ih (i + 1) (by omega)
theorem yI_0 (sg : Nat → Int32) (ln sz : Nat → Nat) : yI sg ln sz (fun _ => 0) (fun _ => 0) := ⟨fun pl _ => sb_0 _, fun A' W' _ => ⟨fun pl _ => sb_0 _, fun d _ => sb_0 _⟩, fun pl _ _ => sb_0 _, fun _ => (by decide : 0 < 8), fun _ => (by decide : 0 < 8)⟩
set_option maxHeartbeats 1000000 in
theorem k_W_beyond (l : Launch) {sg : Nat → Int32} {ln sz : Nat → Nat} (hB : aWB sg ln sz) (h : mH) (hC : CB sg ln sz h) (p : Nat) (hp : p < 20) : mG l Sh0 iX6_beyond [.inr 9, .inl (nI p)] h (fun v h' => ∃ f25 f27 A W, v = some (nI (A (40 * p))) ∧ h' = yH h f25 f27 ∧ yI sg ln sz A W ∧ yCl sg ln sz A W) := by
  intro RT hR
  have k42 : ∀ y2, mE l Sh0 none iX6_beyond RT 42 [some (.inr 9), some (.inl (nI p)), y2, none, none] [] (hr (hr h 25 (zf (h 25) 800)) 27 (zf (h 27) 4)) := by
    intro y2
    refine e_iconst (v := 1) dX6_beyond_42 (by decide) ?_
    refine e_istore_n (i := 2) (ls2 := [some (.inr 9), some (.inl (nI p)), some (.inl 1), none, none]) dX6_beyond_43 rfl (Nat.le_of_ble_eq_true rfl) rfl ?_
    refine e_iconst (v := 0) dX6_beyond_44 (by decide) ?_
    refine e_istore_n (i := 3) (ls2 := [some (.inr 9), some (.inl (nI p)), some (.inl 1), some (.inl 0), none]) dX6_beyond_45 rfl (Nat.le_of_ble_eq_true rfl) rfl ?_
    rw [hr_cm _ _ _ (by decide)]
    exact lp_W_passes l hB h hC p hp RT (fun f25 f27 A W a1 a2 a3 a4 => hR _ _ ⟨f25, f27, A, W, rfl, rfl, a3, a4⟩) 2401 0 (zf (h 25) 800) (zf (h 27) 4) (fun _ => 0) (fun _ => 0) _ (by omega) (Nat.zero_le _) (fun q hq => zf_in hq) (fun q hq => zf_in hq) (yI_0 sg ln sz)
  have k22 : ∀ y2, mE l Sh0 none iX6_beyond RT 22 [some (.inr 9), some (.inl (nI p)), y2, none, none] [] (hr h 25 (zf (h 25) 800)) := by
    intro y2
    refine e_iconst (v := 0) dX6_beyond_22 (by decide) ?_
    refine e_istore_n (i := 2) (ls2 := [some (.inr 9), some (.inl (nI p)), some (.inl 0), none, none]) dX6_beyond_23 rfl (Nat.le_of_ble_eq_true rfl) rfl ?_
    have q := lp_W_zero2 l (hr h 25 (zf (h 25) 800)) (h 27) (some (.inl (nI p))) none none RT k42 4 0 rfl
    rw [zf_0, show hr (hr h 25 (zf (h 25) 800)) 27 (h 27) = hr h 25 (zf (h 25) 800) from hr_self (hr h 25 (zf (h 25) 800)) 27] at q
    exact q
  show mE l Sh0 none iX6_beyond RT 0 [some (.inr 9), some (.inl (nI p)), none, none, none] [] h
  refine e_iconst (v := 0) dX6_beyond_0 (by decide) ?_
  refine e_istore_n (i := 2) (ls2 := [some (.inr 9), some (.inl (nI p)), some (.inl 0), none, none]) dX6_beyond_1 rfl (Nat.le_of_ble_eq_true rfl) rfl ?_
  have q := lp_W_zero1 l h (h 25) (some (.inl (nI p))) none none RT k22 800 0 rfl
  rw [zf_0, hr_self] at q
  exact q
