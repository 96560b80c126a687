/-! apart: the class. -/
/-- by that row the two do alike -/
def alk (sg : Nat → Int32) (ln sz : Nat → Nat) (p x p2 x2 c n k : Nat) : Prop := (rnC sg ln sz p2 x2 (c + 1) n k).1 = (rnC sg ln sz p x (c + 1) n k).1 ∧ (rnC sg ln sz p2 x2 (c + 1) n k).2.1 = (rnC sg ln sz p x (c + 1) n k).2.1 ∧ (rnC sg ln sz p2 x2 (c + 1) n k).2.2.1 = (rnC sg ln sz p x (c + 1) n k).2.2.1
/-- all rows of that length do not tell them apart -/
def alN (sg : Nat → Int32) (ln sz : Nat → Nat) (p x p2 x2 c n : Nat) : Prop := ∀ k, k < (c + 1) ^ n → alk sg ln sz p x p2 x2 c n k
def aP (sg : Nat → Int32) (ln sz : Nat → Nat) (p x p2 x2 c len : Nat) (o : Option (Nat × Nat)) : Prop := (o = none ∧ ∀ n, n ≤ len → alN sg ln sz p x p2 x2 c n) ∨ ∃ n k, o = some (n, k) ∧ n ≤ len ∧ k < (c + 1) ^ n ∧ ¬ alk sg ln sz p x p2 x2 c n k ∧ (∀ j, j < k → alk sg ln sz p x p2 x2 c n j) ∧ ∀ m, m < n → alN sg ln sz p x p2 x2 c m
theorem aP_un {sg : Nat → Int32} {ln sz : Nat → Nat} {p x p2 x2 c len : Nat} {o o' : Option (Nat × Nat)} (h1 : aP sg ln sz p x p2 x2 c len o) (h2 : aP sg ln sz p x p2 x2 c len o') : o = o' := by
  rcases h1 with ⟨rfl, a⟩ | ⟨n, k, rfl, a1, a2, a3, a4, a5⟩
  · rcases h2 with ⟨rfl, b⟩ | ⟨n, k, rfl, b1, b2, b3, b4, b5⟩
    · rfl
    · exact absurd (a n b1 k b2) b3
  · rcases h2 with ⟨rfl, b⟩ | ⟨n', k', rfl, b1, b2, b3, b4, b5⟩
    · exact absurd (b n a1 k a2) a3
    · have hn : n = n' := by
        rcases Nat.lt_trichotomy n n' with z | z | z
        · exact absurd (b5 n z k a2) a3
        · exact z
        · exact absurd (a5 n' z k' b2) b3
      subst hn
      have hk : k = k' := by
        rcases Nat.lt_trichotomy k k' with z | z | z
        · exact absurd (b4 k z) a3
        · exact z
        · exact absurd (a4 k' z) b3
      rw [hk]
def pAns (c : Nat) (o : Option (Nat × Nat)) (i : Int32) : Int32 := o.elim (-6) (fun q => if i.toInt = -1 then nI q.1 else if 0 ≤ i.toInt ∧ i.toInt < q.1 then nI ((dg (c + 1) q.1 q.2).getD i.toInt.toNat 0) else -6)
/-- one number for what a run has come to -/
def dI (e : aE) : Int := if e.1 = 8 then (e.2.1 + 1) * 100 + e.2.2.1 else e.1
theorem dI_al {e1 e2 : aE} (h1 : eOk e1) (h2 : eOk e2) : dI e2 = dI e1 ↔ (e2.1 = e1.1 ∧ e2.2.1 = e1.2.1 ∧ e2.2.2.1 = e1.2.2.1) := by
  obtain ⟨a1, a2, a3, a4⟩ := h1
  obtain ⟨b1, b2, b3, b4⟩ := h2
  unfold dI
  by_cases z1 : e1.1 = 8
  · have a3 := a3 z1
    by_cases z2 : e2.1 = 8
    · have b3 := b3 z2
      rw [if_pos z1, if_pos z2]
      omega
    · have b4 := b4 z2
      rw [if_pos z1, if_neg z2]
      omega
  · have a4 := a4 z1
    by_cases z2 : e2.1 = 8
    · have b3 := b3 z2
      rw [if_neg z1, if_pos z2]
      omega
    · have b4 := b4 z2
      rw [if_neg z1, if_neg z2]
      omega
theorem do100 {d v : Nat} (hd : d ≤ 2) (hv : v ≤ 7) : ((nI d + 1) * 100 + nI v).toInt = ((d : Int) + 1) * 100 + (v : Int) := by
  rw [nI_1, show nI (d + 1) * 100 = nI ((d + 1) * 100) from nI_mulc (d + 1) 100, nI_add, nI_toInt (by omega)]
  omega
theorem dI_c {h : mH} {e : aE} (hr9 : RE h e) (ho : eOk e) : (cDoing h).toInt = dI e := by
  obtain ⟨e9, e12, e13, -⟩ := RE_p hr9
  obtain ⟨a1, a2, a3, a4⟩ := ho
  unfold cDoing dI
  rw [e9]
  by_cases z : e.1 = 8
  · have a3 := a3 z
    rw [if_pos z, if_pos z, nI_of9 e12 a3.1, nI_of9 e13 a3.2.2.1, do100 (by omega) (by omega)]
    omega
  · rw [if_neg z, if_neg z, e9]
section APART
variable {sg : Nat → Int32} {ln sz : Nat → Nat}
/-- where no shorter row tells them apart, a block does alike if its first row does -/
theorem al_blk (hB : aWB sg ln sz) {p x p2 x2 c n : Nat} (hp : p < 4) (hz : 0 < sz p) (hx : x < 8) (hp2 : p2 < 4) (hz2 : 0 < sz p2) (hx2 : x2 < 8) (hc : c ≤ 2) {g : Nat → Nat} (hg : ∀ j, j < n → g j ≤ c) (hZ : tZ sg ln sz p x c n g) (hs9 : ∀ m, m < n → alN sg ln sz p x p2 x2 c m) (ha : alk sg ln sz p x p2 x2 c n (vl (c + 1) g n)) {code : Nat} (h1 : vl (c + 1) g n ≤ code) (h2 : code < vl (c + 1) g n + (c + 1) ^ (n - eU (rnC sg ln sz p x (c + 1) n (vl (c + 1) g n)))) : alk sg ln sz p x p2 x2 c n code := by
  have e1 := rnC_blk hB hp hz hx hc hg hZ h1 h2
  have hle := rnC_le hB hp hz hx hc (n := n) (vl (c + 1) g n)
  obtain ⟨p1, q2, q3⟩ := rnR_pre hB hp hz hx (dg8 (n := n) (code := vl (c + 1) g n) hc)
  rw [dg_len] at p1 q2
  unfold tZ at hZ
  generalize hu : eU (rnC sg ln sz p x (c + 1) n (vl (c + 1) g n)) = u at *
  have hu' : eU (rnR sg ln sz p x (dg (c + 1) n (vl (c + 1) g n))) = u := hu
  rw [hu'] at p1 q2 q3
  by_cases hun : u = n
  · rw [hun, Nat.sub_self, Nat.pow_zero] at h2
    rw [show code = vl (c + 1) g n from by omega]
    exact ha
  · have h8 : (rnR sg ln sz p x (dg (c + 1) n (vl (c + 1) g n))).1 ≠ 8 := fun z => hun (q2 z)
    have hgb : ∀ j, j < u → g j < c + 1 := fun j hj => by have := hg j (by omega); omega
    have hpre : rnC sg ln sz p x (c + 1) u (vl (c + 1) g u) = rnC sg ln sz p x (c + 1) n (vl (c + 1) g n) := q3 (dg (c + 1) u (vl (c + 1) g u)) h8 (fun i hi => by rw [dg_vl hgb i hi, dg_vl (fun j hj => by have := hg j hj; omega) i (by omega)]) (by rw [dg_len]; exact Nat.le_refl _)
    have hsh := hs9 u (by omega) (vl (c + 1) g u) (vl_lt hgb)
    have h82 : (rnC sg ln sz p2 x2 (c + 1) u (vl (c + 1) g u)).1 ≠ 8 := by rw [hsh.1, hpre]; exact h8
    obtain ⟨r1, r2, r3⟩ := rnR_pre hB hp2 hz2 hx2 (dg8 (n := u) (code := vl (c + 1) g u) hc)
    rw [dg_len] at r1
    obtain ⟨t, rfl⟩ : ∃ t, n = u + t := ⟨n - u, by omega⟩
    rw [show u + t - u = t from by omega] at h2
    have hv := vl_tail (b := c + 1) (g := g) (u := u) t (fun j j1 j2 => hZ j j1 j2)
    have e2 : ∀ code', vl (c + 1) g (u + t) ≤ code' → code' < vl (c + 1) g (u + t) + (c + 1) ^ t → rnC sg ln sz p2 x2 (c + 1) (u + t) code' = rnC sg ln sz p2 x2 (c + 1) u (vl (c + 1) g u) := by
      intro code' c1 c2
      refine r3 (dg (c + 1) (u + t) code') h82 (fun i hi => ?_) (by rw [dg_len]; omega)
      rw [dg_vl hgb i (by omega)]
      exact dg_blk hgb (by rw [← hv]; exact c1) (by rw [← hv]; exact c2) (by omega)
    have hp9 : 0 < (c + 1) ^ t := Nat.pow_pos (by omega)
    have f1 := e2 code h1 h2
    have f2 := e2 (vl (c + 1) g (u + t)) (Nat.le_refl _) (by omega)
    unfold alk at ha ⊢
    rw [e1, f1, ← f2]
    exact ha
end APART
theorem k_X_doingX (l : Launch) (h : mH) {v : Int32} (e : cDoing h = v) : mD l Sh0 iX4_doing [.inr 6] h (some v) h := by
  have q := k_X_doing l h
  rw [e] at q
  exact q
set_option maxHeartbeats 4000000 in
theorem lp_D_differ (l : Launch) {sg : Nat → Int32} {ln sz : Nat → Nat} (hB : aWB sg ln sz) (h0 : mH) (hC0 : CB sg ln sz h0) (p x p2 x2 c n : Nat) (hp : p < 4) (hz : 0 < sz p) (hx : x < 8) (hp2 : p2 < 4) (hz2 : 0 < sz p2) (hx2 : x2 < 8) (hc : c ≤ 2) (hn : n ≤ 4) (hs9 : ∀ m, m < n → alN sg ln sz p x p2 x2 c m) (RT : Option Int32 → mH → Prop) (hR0 : ∀ h', KQ h0 h' → alN sg ln sz p x p2 x2 c n → RT (some 0) h') (hR1 : ∀ h' k, KQ h0 h' → h' 4 1 = nI n → k < (c + 1) ^ n → (∀ j, j < n → h' 17 j = nI ((dg (c + 1) n k).getD j 0)) → (∀ j, j < k → alk sg ln sz p x p2 x2 c n j) → ¬ alk sg ln sz p x p2 x2 c n k → RT (some 1) h') : ∀ (d : Nat) (g : Nat → Nat) (h : mH) (t : Nat) (y8 y9 : Option mV), (c + 1) ^ n ≤ vl (c + 1) g n + d → t ≤ vl (c + 1) g n → (∀ j, j < n → g j ≤ c) → tZ sg ln sz p x c n g → KQ h0 h → h 4 1 = nI n → (∀ j, j < n → h 17 j = nI (g j)) → (∀ j, j < vl (c + 1) g n → alk sg ln sz p x p2 x2 c n j) → mE l Sh0 none iX7_differ RT 6 [some (.inr 0), some (.inl (nI p)), some (.inl (nI x)), some (.inl (nI p2)), some (.inl (nI x2)), some (.inl (nI c)), some (.inl 1), some (.inl (nI t)), y8, y9] [] h := by
  have h81 := pow81 hc hn
  have fin : ∀ (h : mH) (t : Nat) (y8 y9 : Option mV), t ≤ 82 → KQ h0 h → alN sg ln sz p x p2 x2 c n → mE l Sh0 none iX7_differ RT 6 [some (.inr 0), some (.inl (nI p)), some (.inl (nI x)), some (.inl (nI p2)), some (.inl (nI x2)), some (.inl (nI c)), some (.inl 0), some (.inl (nI t)), y8, y9] [] h := by
    intro h t y8 y9 ht kq al
    refine e_iload dX7_differ_6 rfl ?_
    refine e_bipush (v := 81) dX7_differ_8 (by decide) ?_
    refine b_icmp_ge (X := ((t : Nat) : Int)) (Y := 81) (tgt := 96) (nI_toInt (by omega)) (by decide) dX7_differ_10 (by decide) ?_ ?_
    · intro c_10_t
      refine e_iconst (v := 0) dX7_differ_96 (by decide) ?_
      refine e_iret dX7_differ_97 (mret_z (by first | decide | (simp only []; split <;> decide))) ?_
      exact hR0 h kq al
    · intro c_10_f
      refine e_iload dX7_differ_13 rfl ?_
      refine b_if_eq (X := 0) (tgt := 96) (by decide) dX7_differ_15 (by decide) ?_ ?_
      · intro e_15_t c_15_t
        refine e_iconst (v := 0) dX7_differ_96 (by decide) ?_
        refine e_iret dX7_differ_97 (mret_z (by first | decide | (simp only []; split <;> decide))) ?_
        exact hR0 h kq al
      · intro e_15_f c_15_f
        exfalso; omega
  intro d
  induction d with
  | zero =>
    intro g h t y8 y9 hd ht hg
    have := vl_lt (b := c + 1) (g := g) (n := n) (fun j hj => by have := hg j hj; omega)
    omega
  | succ d ih =>
    intro g h t y8 y9 hd ht hg hZ kq h4 h17 hal
    have hlt := vl_lt (b := c + 1) (g := g) (n := n) (fun j hj => by have := hg j hj; omega)
    have hC := CB.kq kq hC0
    have hdig : ∀ j, j < n → (dg (c + 1) n (vl (c + 1) g n)).getD j 0 = g j := dg_vl (fun j hj => by have := hg j hj; omega)
    have hCR : CR 4 17 (dg (c + 1) n (vl (c + 1) g n)) h := by
      refine ⟨by rw [dg_len]; exact h4, by rw [dg_len]; omega, fun i hi => ?_⟩
      rw [dg_len] at hi
      rw [hdig i hi]
      exact h17 i hi
    have hUn : eU (rnC sg ln sz p x (c + 1) n (vl (c + 1) g n)) ≤ n := rnC_le hB hp hz hx hc _
    have hblk : alk sg ln sz p x p2 x2 c n (vl (c + 1) g n) → ∀ code, vl (c + 1) g n ≤ code → code < vl (c + 1) g n + (c + 1) ^ (n - eU (rnC sg ln sz p x (c + 1) n (vl (c + 1) g n))) → alk sg ln sz p x p2 x2 c n code := fun ha code c1 c2 => al_blk hB hp hz hx hp2 hz2 hx2 hc hg hZ hs9 ha c1 c2
    have hZ0 := hZ
    unfold tZ at hZ
    have ok1 : eOk (rnC sg ln sz p x (c + 1) n (vl (c + 1) g n)) := rnR_ok hB hp hz hx (dg8 hc)
    have ok2 : eOk (rnC sg ln sz p2 x2 (c + 1) n (vl (c + 1) g n)) := rnR_ok hB hp2 hz2 hx2 (dg8 hc)
    have kw := k_X_work l hB (dg8 hc) (Or.inr ⟨rfl, rfl⟩) h hC hCR hp hz hx
    generalize hk : vl (c + 1) g n = k at *
    have hU0 : ∃ U, U = eU (rnC sg ln sz p x (c + 1) n k) := ⟨_, rfl⟩
    obtain ⟨U, hU⟩ := hU0
    rw [← hU] at hUn hblk hZ
    refine e_iload dX7_differ_6 rfl ?_
    refine e_bipush (v := 81) dX7_differ_8 (by decide) ?_
    refine b_icmp_ge (X := ((t : Nat) : Int)) (Y := 81) (tgt := 96) (nI_toInt (by omega)) (by decide) dX7_differ_10 (by decide) ?_ ?_
    · intro c_10_t
      exfalso; omega
    · intro c_10_f
      refine e_iload dX7_differ_13 rfl ?_
      refine b_if_eq (X := 1) (tgt := 96) (by decide) dX7_differ_15 (by decide) ?_ ?_
      · intro e_15_t c_15_t
        exfalso; omega
      · intro e_15_f c_15_f
        refine e_aload_n (i := 0) dX7_differ_18 rfl rfl ?_
        refine e_getR (r := 6) dX7_differ_19 fl_X7_41 sh_0 fj_0_5 ?_
        refine e_iload_n (i := 1) dX7_differ_22 rfl rfl ?_
        refine e_iload_n (i := 2) dX7_differ_23 rfl rfl ?_
        refine e_aload_n (i := 0) dX7_differ_24 rfl rfl ?_
        refine e_getR (r := 4) dX7_differ_25 fl_X7_30 sh_0 fj_0_3 ?_
        refine e_invVvG (As := [.inl (nI p), .inl (nI x), .inr 4]) (ty := .int) dX7_differ_28 lk_X7_104 yv_X4_work rfl rfl rfl (Nat.le_of_ble_eq_true rfl) sh_6 ci_X4 (Nat.le_of_ble_eq_true rfl) ⟨Nat.le_of_ble_eq_true rfl, Nat.le_of_ble_eq_true rfl⟩ kw ?_
        rintro u ⟨-, kp, re⟩
        obtain ⟨e9, e12, e13, e11⟩ := RE_p re
        have u11 : u 6 11 = nI U := by rw [hU]; exact e11
        have d1 := dI_c re ok1
        have ku := kq.kp kp
        have hCu := CB.kp kp hC
        have hCRu := CR.kp (Or.inr ⟨rfl, rfl⟩) kp hCR
        generalize hD1 : cDoing u = D1 at d1
        refine e_aload_n (i := 0) dX7_differ_31 rfl rfl ?_
        refine e_getR (r := 6) dX7_differ_32 fl_X7_41 sh_0 fj_0_5 ?_
        refine e_invVi (As := []) (v := D1) (h2 := u) dX7_differ_35 lk_X7_156 yv_X4_doing rfl rfl rfl (Nat.le_of_ble_eq_true rfl) sh_6 ci_X4 (Nat.le_of_ble_eq_true rfl) ⟨Nat.le_of_ble_eq_true rfl, Nat.le_of_ble_eq_true rfl⟩ (k_X_doingX l u hD1) ?_
        refine e_istore (ls2 := [some (.inr 0), some (.inl (nI p)), some (.inl (nI x)), some (.inl (nI p2)), some (.inl (nI x2)), some (.inl (nI c)), some (.inl 1), some (.inl (nI t)), some (.inl D1), y9]) dX7_differ_38 (Nat.le_of_ble_eq_true rfl) rfl ?_
        refine e_aload_n (i := 0) dX7_differ_40 rfl rfl ?_
        refine e_getR (r := 6) dX7_differ_41 fl_X7_41 sh_0 fj_0_5 ?_
        refine e_getI (x := nI U) dX7_differ_44 fl_X7_146 sh_6 fj_6_11 u11 ?_
        refine e_istore (ls2 := [some (.inr 0), some (.inl (nI p)), some (.inl (nI x)), some (.inl (nI p2)), some (.inl (nI x2)), some (.inl (nI c)), some (.inl 1), some (.inl (nI t)), some (.inl D1), some (.inl (nI U))]) dX7_differ_47 (Nat.le_of_ble_eq_true rfl) rfl ?_
        refine e_aload_n (i := 0) dX7_differ_49 rfl rfl ?_
        refine e_getR (r := 6) dX7_differ_50 fl_X7_41 sh_0 fj_0_5 ?_
        refine e_iload_n (i := 3) dX7_differ_53 rfl rfl ?_
        refine e_iload dX7_differ_54 rfl ?_
        refine e_aload_n (i := 0) dX7_differ_56 rfl rfl ?_
        refine e_getR (r := 4) dX7_differ_57 fl_X7_30 sh_0 fj_0_3 ?_
        refine e_invVvG (As := [.inl (nI p2), .inl (nI x2), .inr 4]) (ty := .int) dX7_differ_60 lk_X7_104 yv_X4_work rfl rfl rfl (Nat.le_of_ble_eq_true rfl) sh_6 ci_X4 (Nat.le_of_ble_eq_true rfl) ⟨Nat.le_of_ble_eq_true rfl, Nat.le_of_ble_eq_true rfl⟩ (k_X_work l hB (dg8 hc) (Or.inr ⟨rfl, rfl⟩) u hCu hCRu hp2 hz2 hx2) ?_
        rintro v ⟨-, kp2, re2⟩
        have d2 := dI_c re2 ok2
        have kv := ku.kp kp2
        have v4 : v 4 1 = nI n := by rw [kp2 4 (by omega), kp 4 (by omega)]; exact h4
        have v17 : ∀ j, j < n → v 17 j = nI (g j) := fun j hj => by rw [kp2 17 (by omega), kp 17 (by omega)]; exact h17 j hj
        have kn := k_R_next l sh_4 sh_17 v n U (by omega) hUn v4 (nI c)
        generalize hD2 : cDoing v = D2 at d2
        refine e_aload_n (i := 0) dX7_differ_63 rfl rfl ?_
        refine e_getR (r := 6) dX7_differ_64 fl_X7_41 sh_0 fj_0_5 ?_
        refine e_invVi (As := []) (v := D2) (h2 := v) dX7_differ_67 lk_X7_156 yv_X4_doing rfl rfl rfl (Nat.le_of_ble_eq_true rfl) sh_6 ci_X4 (Nat.le_of_ble_eq_true rfl) ⟨Nat.le_of_ble_eq_true rfl, Nat.le_of_ble_eq_true rfl⟩ (k_X_doingX l v hD2) ?_
        refine e_iload dX7_differ_70 rfl ?_
        refine b_icmp_eq (X := D2.toInt) (Y := D1.toInt) (tgt := 77) rfl rfl dX7_differ_72 (by decide) ?_ ?_
        · intro e_72_t c_72_t
          refine e_aload_n (i := 0) dX7_differ_77 rfl rfl ?_
          refine e_getR (r := 4) dX7_differ_78 fl_X7_30 sh_0 fj_0_3 ?_
          refine e_iload dX7_differ_81 rfl ?_
          refine e_iload dX7_differ_83 rfl ?_
          refine e_invVi (As := [.inl (nI U), .inl (nI c)]) (v := bI (rN (nI c) U (v 17)).1) (h2 := (hr v 17 (rN (nI c) U (v 17)).2)) dX7_differ_85 lk_X7_153 yv_X3_next rfl rfl rfl (Nat.le_of_ble_eq_true rfl) sh_4 ci_X3 (Nat.le_of_ble_eq_true rfl) ⟨Nat.le_of_ble_eq_true rfl, Nat.le_of_ble_eq_true rfl⟩ kn ?_
          refine e_istore (ls2 := [some (.inr 0), some (.inl (nI p)), some (.inl (nI x)), some (.inl (nI p2)), some (.inl (nI x2)), some (.inl (nI c)), some (.inl (bI (rN (nI c) U (v 17)).1)), some (.inl (nI t)), some (.inl D1), some (.inl (nI U))]) dX7_differ_88 (Nat.le_of_ble_eq_true rfl) rfl ?_
          refine e_iinc (v := nI (t + 1)) (ls2 := [some (.inr 0), some (.inl (nI p)), some (.inl (nI x)), some (.inl (nI p2)), some (.inl (nI x2)), some (.inl (nI c)), some (.inl (bI (rN (nI c) U (v 17)).1)), some (.inl (nI (t + 1))), some (.inl D1), some (.inl (nI U))]) dX7_differ_90 rfl (nI_inc1 _) (Nat.le_of_ble_eq_true rfl) rfl ?_
          refine e_goto (tgt := 6) dX7_differ_93 (by decide) ?_
          have hak : alk sg ln sz p x p2 x2 c n k := (dI_al ok1 ok2).mp (d2.symm.trans (c_72_t.trans d1))
          obtain ⟨m, hm⟩ : ∃ m, (c + 1) ^ (n - U) = m + 1 := ⟨(c + 1) ^ (n - U) - 1, by have : 0 < (c + 1) ^ (n - U) := Nat.pow_pos (by omega); omega⟩
          have hal2 : ∀ j, j < k + m + 1 → alk sg ln sz p x p2 x2 c n j := fun j hj => by
            by_cases z : j < k
            · exact hal j z
            · exact hblk hak j (by omega) (by omega)
          have hvt : vl (c + 1) g n = vl (c + 1) g U * (c + 1) ^ (n - U) := by
            have q := vl_tail (b := c + 1) (g := g) (u := U) (n - U) (fun j j1 j2 => hZ j j1 (by omega))
            rw [show U + (n - U) = n from by omega] at q
            exact q
          rw [hm] at hvt
          rcases rN_ok (show c ≤ 7 by omega) U (v 17) g (fun j hj => ⟨v17 j (by omega), hg j (by omega)⟩) with ⟨r1, g', r2, r3, r4, i, r5, r6, r7⟩ | ⟨r1, r2, r3⟩
          · have hg2 : ∀ j, j < n → (fun j => if j < U then g' j else g j) j ≤ c := fun j hj => by
              dsimp only
              split
              · rename_i z; exact (r2 j z).2
              · exact hg j hj
            have e1 : vl (c + 1) (fun j => if j < U then g' j else g j) U = vl (c + 1) g' U := vl_congr (fun j hj => if_pos hj)
            have hv2 : vl (c + 1) (fun j => if j < U then g' j else g j) n = k + m + 1 := by
              have q := vl_tail (b := c + 1) (g := fun j => if j < U then g' j else g j) (u := U) (n - U) (fun j j1 j2 => by
                show (if j < U then g' j else g j) = 0
                rw [if_neg (by omega)]
                exact hZ j j1 (by omega))
              rw [show U + (n - U) = n from by omega, e1, r4, hm, Nat.add_mul, ← hvt, hk] at q
              omega
            have q := ih (fun j => if j < U then g' j else g j) (hr v 17 (rN (nI c) U (v 17)).2) (t + 1) (some (.inl D1)) (some (.inl (nI U))) (by rw [hv2]; omega) (by rw [hv2]; omega) hg2 (tZ_next hB hp hz hx hc hg hg2 hZ0 (i := i) (by rw [hk, ← hU]; exact r5) (fun j hj => by show (if j < U then g' j else g j) = g j; rw [if_pos (by omega)]; exact r6 j hj) (fun j j1 j2 => by rw [hk, ← hU] at j2; show (if j < U then g' j else g j) = 0; rw [if_pos j2]; exact r7 j j1 j2) (fun j j1 j2 => by rw [hk, ← hU] at j1; exact if_neg (by omega))) (kv.nx _) v4 (fun j hj => by
              show (rN (nI c) U (v 17)).2 j = nI (if j < U then g' j else g j)
              by_cases z : j < U
              · rw [if_pos z]; exact (r2 j z).1
              · rw [if_neg z, r3 j (by omega)]; exact v17 j hj) (by rw [hv2]; exact hal2)
            rw [r1]
            exact q
          · have hN : (c + 1) ^ n = k + m + 1 := by
              have q : (c + 1) ^ n = (c + 1) ^ U * (c + 1) ^ (n - U) := by rw [← Nat.pow_add, show U + (n - U) = n from by omega]
              rw [q, ← r3, hm, Nat.add_mul, ← hvt, hk]
              omega
            have q := fin (hr v 17 (rN (nI c) U (v 17)).2) (t + 1) (some (.inl D1)) (some (.inl (nI U))) (by omega) (kv.nx _) (fun j hj => hal2 j (by omega))
            rw [r1]
            exact q
        · intro e_72_f c_72_f
          refine e_iconst (v := 1) dX7_differ_75 (by decide) ?_
          refine e_iret dX7_differ_76 (mret_z (by first | decide | (simp only []; split <;> decide))) ?_
          exact hR1 v k kv v4 hlt (fun j hj => by rw [hdig j hj]; exact v17 j hj) hal (fun z => c_72_f (d2.trans (((dI_al ok1 ok2).mpr z).trans d1.symm)))
