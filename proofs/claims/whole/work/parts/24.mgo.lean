/-! The reference goes on. -/
def mSD (sg : Nat → Int32) (h : mH) (fr la : Nat) : List aF → Nat → List Nat → Prop
  | [], _, _ => False
  | F :: L, t, D => ((sg F.1).toInt = 64 ∧ t = 0 ∧ ∃ (a : Nat) (D' : List Nat), D = a :: D' ∧ h 40 a = nI (aHd sg F.1) ∧ ((L = [] ∧ D' = []) ∨ (D' ≠ [] ∧ ∃ t', h 41 a = nI t' ∧ mSD sg h fr la L t' D'))) ∨ ((sg F.1).toInt ≠ 64 ∧ 1 ≤ t ∧ t ≤ fr ∧ mFr h t F ∧ ∃ t', h 39 t = nI t' ∧ mSD sg h fr la L t' D)
def lkD (h : mH) (y : Nat) : List Nat → Prop
  | [] => False
  | [a] => a = y
  | a :: b :: D => a ≠ y ∧ h 42 a = nI b ∧ lkD h y (b :: D)
theorem mSg_D {sg : Nat → Int32} {h : mH} {fr la : Nat} : ∀ {L : List aF} {t d y : Nat}, mSg sg h fr la L t d y → ∃ D', mSD sg h fr la L t (d :: D') ∧ lkD h y (d :: D') ∧ (d :: D').length ≤ L.length ∧ ∀ a ∈ d :: D', 1 ≤ a ∧ a ≤ la
  | [], _, _, _, q => q.elim
  | F :: L, t, d, y, q => by
    rcases q with ⟨q1, q2, q3, q4, q5, q6⟩ | ⟨q1, q2, q3, q4, t', q5, q6⟩
    · rcases q6 with ⟨rfl, rfl⟩ | ⟨t', d', q6, q7, q8, q9⟩
      · exact ⟨[], Or.inl ⟨q1, q2, d, [], rfl, q5, Or.inl ⟨rfl, rfl⟩⟩, rfl, by simp, fun a ha => by rw [List.mem_singleton] at ha; subst ha; exact ⟨q3, q4⟩⟩
      · obtain ⟨D', e1, e2, e3, e4⟩ := mSg_D q9
        have hle := mSg_le q9
        refine ⟨d' :: D', Or.inl ⟨q1, q2, d, d' :: D', rfl, q5, Or.inr ⟨by simp, t', q6, e1⟩⟩, ⟨by omega, q7, e2⟩, by simp only [List.length_cons] at e3 ⊢; omega, fun a ha => ?_⟩
        rcases List.mem_cons.mp ha with rfl | ha
        · exact ⟨q3, q4⟩
        · exact e4 a ha
    · obtain ⟨D', e1, e2, e3, e4⟩ := mSg_D q6
      exact ⟨D', Or.inr ⟨q1, q2, q3, q4, t', q5, e1⟩, e2, by simp only [List.length_cons] at e3 ⊢; omega, e4⟩
def rep (H h : mH) (t0 d0 la' : Nat) : List Nat → Nat → Prop
  | [], _ => False
  | [a], e => H 40 e = h 40 a ∧ H 41 e = nI t0 ∧ H 42 e = nI d0 ∧ d0 < e ∧ e ≤ la'
  | a :: b :: D, e => H 40 e = h 40 a ∧ H 41 e = h 41 a ∧ H 42 e = nI (e - 1) ∧ 2 ≤ e ∧ e ≤ la' ∧ rep H h t0 d0 la' (b :: D) (e - 1)
theorem rep_ch {sg : Nat → Int32} {H h : mH} {fr la la' t0 d0 : Nat} (ho : mOld h H fr la) {P : List aF} (hP : mCh sg H fr la' P t0 d0) : ∀ {L : List aF} {t e : Nat} {D : List Nat}, mSD sg h fr la L t D → rep H h t0 d0 la' D e → mCh sg H fr la' (L ++ P) t e
  | [], _, _, _, q, _ => q.elim
  | F :: L, t, e, D, q, hr => by
    rcases q with ⟨q1, q2, a, D', rfl, q4, q5⟩ | ⟨q1, q2, q3, q4, t', q5, q6⟩
    · rcases q5 with ⟨rfl, rfl⟩ | ⟨q5, t', q6, q7⟩
      · obtain ⟨r1, r2, r3, r4, r5⟩ := hr
        exact Or.inl ⟨q1, q2, by omega, r5, r1.trans q4, t0, d0, r2, r3, r4, hP⟩
      · cases D' with
        | nil => exact absurd rfl q5
        | cons b D =>
          obtain ⟨r1, r2, r3, r4, r5, r6⟩ := hr
          exact Or.inl ⟨q1, q2, by omega, r5, r1.trans q4, t', e - 1, r2.trans q6, r3, by omega, rep_ch ho hP q7 r6⟩
    · obtain ⟨-, -, -, -, -, e6⟩ := ho.1 t q3
      exact Or.inr ⟨q1, q2, q3, mFr_ext ho q3 q4, t', by rw [e6]; exact q5, rep_ch ho hP q6 hr⟩
/-- the hands down to the last one, laid into the pile -/
def plF (f : Nat → Int32) : Nat → List Nat → (Nat → Int32)
  | _, [] => f
  | _, [_] => f
  | m, a :: b :: D => plF (upd f m (nI a)) (m + 1) (b :: D)
theorem plF_lo {D : List Nat} : ∀ {f : Nat → Int32} {m j : Nat}, j < m → plF f m D j = f j := by
  induction D with
  | nil => intro f m j hj; rfl
  | cons a D ih =>
    intro f m j hj
    cases D with
    | nil => rfl
    | cons b D =>
      show plF (upd f m (nI a)) (m + 1) (b :: D) j = f j
      rw [ih (by omega), pk_un (by omega)]
theorem plF_at {D : List Nat} : ∀ {f : Nat → Int32} {m j : Nat}, j + 1 < D.length → plF f m D (m + j) = nI (D.getD j 0) := by
  induction D with
  | nil => intro f m j hj; simp at hj
  | cons a D ih =>
    intro f m j hj
    cases D with
    | nil => simp at hj
    | cons b D =>
      show plF (upd f m (nI a)) (m + 1) (b :: D) (m + j) = _
      cases j with
      | zero =>
        show plF (upd f m (nI a)) (m + 1) (b :: D) m = nI a
        rw [plF_lo (by omega), pk_us]
      | succ j =>
        have := ih (f := upd f m (nI a)) (m := m + 1) (j := j) (by simp only [List.length_cons] at hj ⊢; omega)
        rw [show m + (j + 1) = m + 1 + j by omega, this]
        rfl
set_option maxHeartbeats 2000000 in
theorem lp_M_go1 (l : Launch) (h : mH) (kk y la : Nat) (hkk : kk < 256) (hy : y < 12000) (e45 : h 45 kk = nI y) (hla : la < 12000) (RT : Option Int32 → mH → Prop) : ∀ (D : List Nat) (f : Nat → Int32) (m : Nat), lkD h y D → (∀ a ∈ D, a ≤ la) → m + D.length ≤ 12000 → mE l Sh0 none iX8_goOn RT 39 [some (.inr 10), some (.inl (nI kk)), some (.inl (nI (m + (D.length - 1)))), some (.inl (nI y))] [] (hr h 48 (plF f m D)) → mE l Sh0 none iX8_goOn RT 9 [some (.inr 10), some (.inl (nI kk)), some (.inl (nI m)), some (.inl (nI (D.headD 0)))] [] (hr h 48 f) := by
  intro D
  induction D with
  | nil => intro f m hD; exact absurd hD (fun q => q)
  | cons a D ih =>
   intro f m hD hl hm hk
   cases D with
   | nil =>
    have ha : a = y := hD
    have e9 : m + ([a].length - 1) = m := rfl
    rw [e9, ← ha] at hk
    rw [← ha] at e45
    show mE l Sh0 none iX8_goOn RT 9 [some (.inr 10), some (.inl (nI kk)), some (.inl (nI m)), some (.inl (nI a))] [] (hr h 48 f)
    refine e_iload_n (i := 3) dX8_goOn_9 rfl rfl ?_
    refine e_aload_n (i := 0) dX8_goOn_10 rfl rfl ?_
    refine e_getR (r := 45) dX8_goOn_11 fl_X8_61 sh_10 fj_10_22 ?_
    refine e_iload_n (i := 1) dX8_goOn_14 rfl rfl ?_
    refine e_iald (x := nI a) dX8_goOn_15 sh_45 (vin_ofX (X := ((kk : Nat) : Int)) (nI_toInt (by omega)) (by omega) (by omega)) (by rw [nI_clamp (by omega)]; exact e45) ?_
    refine b_icmp_eq (X := ((a : Nat) : Int)) (Y := ((a : Nat) : Int)) (tgt := 39) (nI_toInt (by omega)) (nI_toInt (by omega)) dX8_goOn_16 (by decide) ?_ ?_
    · intro e_16_t c_16_t
      exact hk
    · intro e_16_f c_16_f
      exfalso; omega
   | cons b D =>
    obtain ⟨d1, d2, d3⟩ := hD
    have ha : a ≤ la := hl a List.mem_cons_self
    have hm : m + (D.length + 1 + 1) ≤ 12000 := hm
    show mE l Sh0 none iX8_goOn RT 9 [some (.inr 10), some (.inl (nI kk)), some (.inl (nI m)), some (.inl (nI a))] [] (hr h 48 f)
    refine e_iload_n (i := 3) dX8_goOn_9 rfl rfl ?_
    refine e_aload_n (i := 0) dX8_goOn_10 rfl rfl ?_
    refine e_getR (r := 45) dX8_goOn_11 fl_X8_61 sh_10 fj_10_22 ?_
    refine e_iload_n (i := 1) dX8_goOn_14 rfl rfl ?_
    refine e_iald (x := nI y) dX8_goOn_15 sh_45 (vin_ofX (X := ((kk : Nat) : Int)) (nI_toInt (by omega)) (by omega) (by omega)) (by rw [nI_clamp (by omega)]; exact e45) ?_
    refine b_icmp_eq (X := ((a : Nat) : Int)) (Y := ((y : Nat) : Int)) (tgt := 39) (nI_toInt (by omega)) (nI_toInt (by omega)) dX8_goOn_16 (by decide) ?_ ?_
    · intro e_16_t c_16_t
      exfalso; omega
    · intro e_16_f c_16_f
      refine e_aload_n (i := 0) dX8_goOn_19 rfl rfl ?_
      refine e_getR (r := 48) dX8_goOn_20 fl_X8_70 sh_10 fj_10_34 ?_
      refine e_iload_n (i := 2) dX8_goOn_23 rfl rfl ?_
      refine e_iload_n (i := 3) dX8_goOn_24 rfl rfl ?_
      refine e_iast dX8_goOn_25 sh_48 (vin_ofX (X := ((m : Nat) : Int)) (nI_toInt (by omega)) (by omega) (by omega)) ?_
      rw [nI_clamp (by omega)]
      refine e_iinc (v := nI (m + 1)) (ls2 := [some (.inr 10), some (.inl (nI kk)), some (.inl (nI (m + 1))), some (.inl (nI a))]) dX8_goOn_26 rfl (nI_inc1 _) (Nat.le_of_ble_eq_true rfl) rfl ?_
      refine e_aload_n (i := 0) dX8_goOn_29 rfl rfl ?_
      refine e_getR (r := 42) dX8_goOn_30 fl_X8_52 sh_10 fj_10_18 ?_
      refine e_iload_n (i := 3) dX8_goOn_33 rfl rfl ?_
      refine e_iald (x := nI b) dX8_goOn_34 sh_42 (vin_ofX (X := ((a : Nat) : Int)) (nI_toInt (by omega)) (by omega) (by omega)) (by rw [nI_clamp (by omega)]; exact d2) ?_
      refine e_istore_n (i := 3) (ls2 := [some (.inr 10), some (.inl (nI kk)), some (.inl (nI (m + 1))), some (.inl (nI b))]) dX8_goOn_35 rfl (Nat.le_of_ble_eq_true rfl) rfl ?_
      refine e_goto (tgt := 9) dX8_goOn_36 (by decide) ?_
      rw [hr_hs]
      refine ih (upd f m (nI a)) (m + 1) d3 (fun z hz => hl z (List.mem_cons_of_mem _ hz)) (by simp only [List.length_cons]; omega) ?_
      rw [show m + 1 + ((b :: D).length - 1) = m + ((a :: b :: D).length - 1) from by simp only [List.length_cons]; omega]
      exact hk
/-- the pile's hands laid down again, the last one first -/
def lyP (p : Nat → Nat) : mH → Nat → Nat → mH
  | h, _, 0 => h
  | h, la, m + 1 => lyP p (lyH h la (h 40 (p m)) (h 41 (p m))) (la + 1) m
theorem lyH_o (h : mH) (la : Nat) (a b : Int32) {k : Nat} (h1 : k ≠ 10) (h2 : k ≠ 40) (h3 : k ≠ 41) (h4 : k ≠ 42) : lyH h la a b k = h k := by
  unfold lyH
  rw [hs_rown _ _ _ h1, hs_rown _ _ _ h4, hs_rown _ _ _ h3, hs_rown _ _ _ h2, hs_rown _ _ _ h1]
theorem lyP_o {p : Nat → Nat} {k : Nat} (h1 : k ≠ 10) (h2 : k ≠ 40) (h3 : k ≠ 41) (h4 : k ≠ 42) : ∀ (m : Nat) (h : mH) (la : Nat), lyP p h la m k = h k
  | 0, _, _ => rfl
  | m + 1, h, la => (lyP_o h1 h2 h3 h4 m _ _).trans (lyH_o h la _ _ h1 h2 h3 h4)
theorem lyP_10 {p : Nat → Nat} {j : Nat} (h1 : j ≠ 15) (h2 : j ≠ 33) : ∀ (m : Nat) (h : mH) (la : Nat), lyP p h la m 10 j = h 10 j
  | 0, _, _ => rfl
  | m + 1, h, la => (lyP_10 h1 h2 m _ _).trans (by unfold lyH; rw [hs_ne _ _ (by omega), hs_ne _ _ (by omega), hs_ne _ _ (by omega), hs_ne _ _ (by omega), hs_ne _ _ (by omega)])
theorem lyP_n {p : Nat → Nat} : ∀ (m : Nat) (h : mH) (la : Nat), h 10 15 = nI la → h 10 33 = nI la → lyP p h la m 10 15 = nI (la + m) ∧ lyP p h la m 10 33 = nI (la + m)
  | 0, _, _, e1, e2 => ⟨e1, e2⟩
  | m + 1, h, la, e1, e2 => by
    have := lyP_n (p := p) m (lyH h la (h 40 (p m)) (h 41 (p m))) (la + 1) rfl rfl
    rw [show la + (m + 1) = la + 1 + m by omega]
    exact this
theorem lyP_old {p : Nat → Nat} : ∀ (m : Nat) (h : mH) (la fr : Nat), mOld h (lyP p h la m) fr la
  | 0, h, la, fr => mOld.refl h fr la
  | m + 1, h, la, fr => by
    have q1 := mOld_ly h fr la (h 40 (p m)) (h 41 (p m))
    have q2 := lyP_old (p := p) m (lyH h la (h 40 (p m)) (h 41 (p m))) (la + 1) fr
    refine ⟨fun i hi => ?_, fun i hi => ?_⟩
    · obtain ⟨a1, a2, a3, a4, a5, a6⟩ := q1.1 i hi
      obtain ⟨b1, b2, b3, b4, b5, b6⟩ := q2.1 i hi
      exact ⟨b1.trans a1, b2.trans a2, b3.trans a3, b4.trans a4, b5.trans a5, b6.trans a6⟩
    · obtain ⟨a1, a2, a3⟩ := q1.2 i hi
      obtain ⟨b1, b2, b3⟩ := q2.2 i (by omega)
      exact ⟨b1.trans a1, b2.trans a2, b3.trans a3⟩
/-- what the laid hands are, from the first one down -/
theorem lyP_rep {p : Nat → Nat} {h0 : mH} {t0 d0 la' : Nat} : ∀ (m : Nat) (h : mH) (la : Nat) (D0 : List Nat), h 10 33 = nI la → (∀ j, j < m → p j ≤ la ∧ h 40 (p j) = h0 40 (p j) ∧ h 41 (p j) = h0 41 (p j)) → 1 ≤ la → la + m ≤ la' → D0 ≠ [] → (∀ H : mH, (∀ i, i ≤ la → H 40 i = h 40 i ∧ H 41 i = h 41 i ∧ H 42 i = h 42 i) → rep H h0 t0 d0 la' D0 la) → rep (lyP p h la m) h0 t0 d0 la' ((List.range m).map p ++ D0) (la + m)
  | 0, h, la, D0, e1, hp, h1, hl, hD, hr => hr h (fun i _ => ⟨rfl, rfl, rfl⟩)
  | m + 1, h, la, D0, e1, hp, h1, hl, hD, hr => by
    obtain ⟨p1, p2, p3⟩ := hp m (by omega)
    obtain ⟨a1, a2, a3⟩ := ly_at h la (h 40 (p m)) (h 41 (p m))
    have ho := mOld_ly h 0 la (h 40 (p m)) (h 41 (p m))
    have ih := lyP_rep (p := p) (h0 := h0) (t0 := t0) (d0 := d0) (la' := la') m (lyH h la (h 40 (p m)) (h 41 (p m))) (la + 1) (p m :: D0) rfl (fun j hj => by
      obtain ⟨b1, b2, b3⟩ := hp j (by omega)
      obtain ⟨c1, c2, -⟩ := ho.2 (p j) b1
      exact ⟨by omega, c1.trans b2, c2.trans b3⟩) (by omega) (by omega) (by simp) (fun H hH => by
      obtain ⟨x1, x2, x3⟩ := hH (la + 1) (Nat.le_refl _)
      cases D0 with
      | nil => exact absurd rfl hD
      | cons b D =>
        refine ⟨x1.trans (a1.trans p2), x2.trans (a2.trans p3), ?_, by omega, by omega, ?_⟩
        · rw [x3, a3, e1]; rfl
        · exact hr H (fun i hi => by
            obtain ⟨y1, y2, y3⟩ := hH i (by omega)
            obtain ⟨z1, z2, z3⟩ := ho.2 i hi
            exact ⟨y1.trans z1, y2.trans z2, y3.trans z3⟩))
    rw [List.range_succ, List.map_append, List.append_assoc, show la + (m + 1) = la + 1 + m by omega]
    exact ih
set_option maxHeartbeats 2000000 in
theorem lp_M_go2 (l : Launch) (kk n9 : Nat) (p : Nat → Nat) (la0 : Nat) (RT : Option Int32 → mH → Prop) : ∀ (m : Nat) (h : mH) (la : Nat), h 10 15 = nI la → la0 ≤ la → la + m < 11999 → (∀ j, j < m → h 48 j = nI (p j) ∧ p j ≤ la0) → m ≤ 12000 → mE l Sh0 none iX8_goOn RT 98 [some (.inr 10), some (.inl (nI kk)), some (.inl (nI n9)), some (.inl (-1))] [] (lyP p h la m) → mE l Sh0 none iX8_goOn RT 62 [some (.inr 10), some (.inl (nI kk)), some (.inl (nI n9)), some (.inl (dn m))] [] h := by
  intro m
  induction m with
  | zero =>
    intro h la e1 hla hm hp hm2 hk
    rw [dn_0]
    refine e_iload_n (i := 3) dX8_goOn_62 rfl rfl ?_
    refine b_if_lt (X := (-1)) (tgt := 98) (by decide) dX8_goOn_63 (by decide) ?_ ?_
    · intro c_63_t
      exact hk
    · intro c_63_f
      exfalso; omega
  | succ m ih =>
    intro h la e1 hla hm hp hm2 hk
    rw [dn_s]
    obtain ⟨p1, p2⟩ := hp m (by omega)
    refine e_iload_n (i := 3) dX8_goOn_62 rfl rfl ?_
    refine b_if_lt (X := ((m : Nat) : Int)) (tgt := 98) (nI_toInt (by omega)) dX8_goOn_63 (by decide) ?_ ?_
    · intro c_63_t
      exfalso; omega
    · intro c_63_f
      refine e_aload_n (i := 0) dX8_goOn_66 rfl rfl ?_
      refine e_aload_n (i := 0) dX8_goOn_67 rfl rfl ?_
      refine e_getR (r := 40) dX8_goOn_68 fl_X8_46 sh_10 fj_10_16 ?_
      refine e_aload_n (i := 0) dX8_goOn_71 rfl rfl ?_
      refine e_getR (r := 48) dX8_goOn_72 fl_X8_70 sh_10 fj_10_34 ?_
      refine e_iload_n (i := 3) dX8_goOn_75 rfl rfl ?_
      refine e_iald (x := nI (p m)) dX8_goOn_76 sh_48 (vin_ofX (X := ((m : Nat) : Int)) (nI_toInt (by omega)) (by omega) (by omega)) (by rw [nI_clamp (by omega)]; exact p1) ?_
      refine e_iald (x := h 40 (p m)) dX8_goOn_77 sh_40 (vin_ofX (X := ((p m : Nat) : Int)) (nI_toInt (by omega)) (by omega) (by omega)) (by rw [nI_clamp (by omega)]) ?_
      refine e_aload_n (i := 0) dX8_goOn_78 rfl rfl ?_
      refine e_getR (r := 41) dX8_goOn_79 fl_X8_49 sh_10 fj_10_17 ?_
      refine e_aload_n (i := 0) dX8_goOn_82 rfl rfl ?_
      refine e_getR (r := 48) dX8_goOn_83 fl_X8_70 sh_10 fj_10_34 ?_
      refine e_iload_n (i := 3) dX8_goOn_86 rfl rfl ?_
      refine e_iald (x := nI (p m)) dX8_goOn_87 sh_48 (vin_ofX (X := ((m : Nat) : Int)) (nI_toInt (by omega)) (by omega) (by omega)) (by rw [nI_clamp (by omega)]; exact p1) ?_
      refine e_iald (x := h 41 (p m)) dX8_goOn_88 sh_41 (vin_ofX (X := ((p m : Nat) : Int)) (nI_toInt (by omega)) (by omega) (by omega)) (by rw [nI_clamp (by omega)]) ?_
      refine e_invVv (As := [.inl (h 40 (p m)), .inl (h 41 (p m))]) (h2 := (lyH h la (h 40 (p m)) (h 41 (p m)))) (ty := .int) (v := 0) dX8_goOn_89 lk_X8_177 yv_X8_lay rfl rfl rfl (Nat.le_of_ble_eq_true rfl) sh_10 ci_X8 (Nat.le_of_ble_eq_true rfl) ⟨Nat.le_of_ble_eq_true rfl, Nat.le_of_ble_eq_true rfl⟩ (k_M_lay l h la e1 (by omega) (h 40 (p m)) (h 41 (p m))) ?_
      refine e_iinc (v := dn m) (ls2 := [some (.inr 10), some (.inl (nI kk)), some (.inl (nI n9)), some (.inl (dn m))]) dX8_goOn_92 rfl (dn_dec _) (Nat.le_of_ble_eq_true rfl) rfl ?_
      refine e_goto (tgt := 62) dX8_goOn_95 (by decide) ?_
      exact ih (lyH h la (h 40 (p m)) (h 41 (p m))) (la + 1) rfl (by omega) (by omega) (fun j hj => by obtain ⟨b1, b2⟩ := hp j (by omega); exact ⟨by rw [lyH_o _ _ _ _ (by decide) (by decide) (by decide) (by decide)]; exact b1, b2⟩) (by omega) hk
def goH (h : mH) (la y t : Nat) (D : List Nat) : mH := lyP (fun j => D.getD j 0) (lyH (hr h 48 (plF (h 48) 0 D)) la (h 40 y) (nI t)) (la + 1) (D.length - 1)
set_option maxHeartbeats 2000000 in
theorem k_M_goOn (l : Launch) (h : mH) (kk y la t tk : Nat) (D : List Nat) (hkk : kk < 256) (hy : y ≤ la) (e43 : h 43 kk = nI tk) (e44 : h 44 kk = nI (D.headD 0)) (e45 : h 45 kk = nI y) (hD : lkD h y D) (hl : ∀ a ∈ D, a ≤ la) (m15 : h 10 15 = nI la) (m32 : h 10 32 = nI t) (hb : la + D.length < 11999) : mD l Sh0 iX8_goOn [.inr 10, .inl (nI kk)] h none (hs (goH h la y t D) 10 32 (nI tk)) := by
  have hDl : 1 ≤ D.length := by cases D with | nil => exact hD.elim | cons a D => simp
  have hr40 : hr h 48 (plF (h 48) 0 D) 40 y = h 40 y := rfl
  intro RT hR
  show mE l Sh0 none iX8_goOn RT 0 [some (.inr 10), some (.inl (nI kk)), none, none] [] h
  refine e_iconst (v := 0) dX8_goOn_0 (by decide) ?_
  refine e_istore_n (i := 2) (ls2 := [some (.inr 10), some (.inl (nI kk)), some (.inl 0), none]) dX8_goOn_1 rfl (Nat.le_of_ble_eq_true rfl) rfl ?_
  refine e_aload_n (i := 0) dX8_goOn_2 rfl rfl ?_
  refine e_getR (r := 44) dX8_goOn_3 fl_X8_58 sh_10 fj_10_21 ?_
  refine e_iload_n (i := 1) dX8_goOn_6 rfl rfl ?_
  refine e_iald (x := nI (D.headD 0)) dX8_goOn_7 sh_44 (vin_ofX (X := ((kk : Nat) : Int)) (nI_toInt (by omega)) (by omega) (by omega)) (by rw [nI_clamp (by omega)]; exact e44) ?_
  refine e_istore_n (i := 3) (ls2 := [some (.inr 10), some (.inl (nI kk)), some (.inl 0), some (.inl (nI (D.headD 0)))]) dX8_goOn_8 rfl (Nat.le_of_ble_eq_true rfl) rfl ?_
  have e0 : h = hr h 48 (h 48) := (hr_self h 48).symm
  rw [e0]
  refine lp_M_go1 l h kk y la hkk (by omega) e45 (by omega) RT D (h 48) 0 hD hl (by omega) ?_
  rw [Nat.zero_add]
  refine e_aload_n (i := 0) dX8_goOn_39 rfl rfl ?_
  refine e_aload_n (i := 0) dX8_goOn_40 rfl rfl ?_
  refine e_getR (r := 40) dX8_goOn_41 fl_X8_46 sh_10 fj_10_16 ?_
  refine e_aload_n (i := 0) dX8_goOn_44 rfl rfl ?_
  refine e_getR (r := 45) dX8_goOn_45 fl_X8_61 sh_10 fj_10_22 ?_
  refine e_iload_n (i := 1) dX8_goOn_48 rfl rfl ?_
  refine e_iald (x := nI y) dX8_goOn_49 sh_45 (vin_ofX (X := ((kk : Nat) : Int)) (nI_toInt (by omega)) (by omega) (by omega)) (by rw [nI_clamp (by omega)]; exact e45) ?_
  refine e_iald (x := h 40 y) dX8_goOn_50 sh_40 (vin_ofX (X := ((y : Nat) : Int)) (nI_toInt (by omega)) (by omega) (by omega)) (by rw [nI_clamp (by omega)]; exact hr40) ?_
  refine e_aload_n (i := 0) dX8_goOn_51 rfl rfl ?_
  refine e_getI (x := nI t) dX8_goOn_52 fl_X8_123 sh_10 fj_10_32 m32 ?_
  refine e_invVv (As := [.inl (h 40 y), .inl (nI t)]) (h2 := (lyH (hr h 48 (plF (h 48) 0 D)) la (h 40 y) (nI t))) (ty := .int) (v := 0) dX8_goOn_55 lk_X8_177 yv_X8_lay rfl rfl rfl (Nat.le_of_ble_eq_true rfl) sh_10 ci_X8 (Nat.le_of_ble_eq_true rfl) ⟨Nat.le_of_ble_eq_true rfl, Nat.le_of_ble_eq_true rfl⟩ (k_M_lay l (hr h 48 (plF (h 48) 0 D)) la m15 (by omega) (h 40 y) (nI t)) ?_
  refine e_iload_n (i := 2) dX8_goOn_58 rfl rfl ?_
  refine e_iconst (v := 1) dX8_goOn_59 (by decide) ?_
  refine z_isub (z := dn (D.length - 1)) rfl dX8_goOn_60 ?_
  refine e_istore_n (i := 3) (ls2 := [some (.inr 10), some (.inl (nI kk)), some (.inl (nI (D.length - 1))), some (.inl (dn (D.length - 1)))]) dX8_goOn_61 rfl (Nat.le_of_ble_eq_true rfl) rfl ?_
  refine lp_M_go2 l kk (D.length - 1) (fun j => D.getD j 0) la RT (D.length - 1) (lyH (hr h 48 (plF (h 48) 0 D)) la (h 40 y) (nI t)) (la + 1) rfl (by omega) (by omega) (fun j hj => ?_) (by omega) ?_
  · refine ⟨?_, ?_⟩
    · rw [lyH_o _ _ _ _ (by decide) (by decide) (by decide) (by decide), hr_at]
      have := plF_at (D := D) (f := h 48) (m := 0) (j := j) (by omega)
      rw [Nat.zero_add] at this
      exact this
    · have hjl : j < D.length := by omega
      show D.getD j 0 ≤ la
      rw [List.getD_eq_getElem?_getD, List.getElem?_eq_getElem hjl]
      exact hl _ (List.getElem_mem hjl)
  have e43b : goH h la y t D 43 kk = nI tk := by
    unfold goH
    rw [lyP_o (by decide) (by decide) (by decide) (by decide), lyH_o _ _ _ _ (by decide) (by decide) (by decide) (by decide)]
    exact e43
  show mE l Sh0 none iX8_goOn RT 98 [some (.inr 10), some (.inl (nI kk)), some (.inl (nI (D.length - 1))), some (.inl (-1))] [] (goH h la y t D)
  refine e_aload_n (i := 0) dX8_goOn_98 rfl rfl ?_
  refine e_aload_n (i := 0) dX8_goOn_99 rfl rfl ?_
  refine e_getR (r := 43) dX8_goOn_100 fl_X8_55 sh_10 fj_10_20 ?_
  refine e_iload_n (i := 1) dX8_goOn_103 rfl rfl ?_
  refine e_iald (x := nI tk) dX8_goOn_104 sh_43 (vin_ofX (X := ((kk : Nat) : Int)) (nI_toInt (by omega)) (by omega) (by omega)) (by rw [nI_clamp (by omega)]; exact e43b) ?_
  refine e_putI dX8_goOn_105 fl_X8_123 fp_X8_32 sh_10 fj_10_32 ?_
  refine e_ret dX8_goOn_108 rfl ?_
  exact hR
