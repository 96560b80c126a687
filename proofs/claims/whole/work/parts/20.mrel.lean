/-! The reference's run: its cells, read as the machine's state. -/
def mFr (h : mH) (t : Nat) (F : aF) : Prop := h 34 t = nI F.1 ∧ h 35 t = nI (if F.2.2.2 = 0 then 0 else 1) ∧ h 36 t = nI F.2.1 ∧ h 37 t = nI F.2.2.1 ∧ (F.2.2.2 ≠ 0 → h 38 t = nI (F.2.2.2 - 1))
def mCh (sg : Nat → Int32) (h : mH) (fr la : Nat) : List aF → Nat → Nat → Prop
  | [], t, d => t = 0 ∧ d = 0
  | F :: P, t, d => ((sg F.1).toInt = 64 ∧ t = 0 ∧ 1 ≤ d ∧ d ≤ la ∧ h 40 d = nI (aHd sg F.1) ∧ ∃ t' d', h 41 d = nI t' ∧ h 42 d = nI d' ∧ d' < d ∧ mCh sg h fr la P t' d') ∨ ((sg F.1).toInt ≠ 64 ∧ 1 ≤ t ∧ t ≤ fr ∧ mFr h t F ∧ ∃ t', h 39 t = nI t' ∧ mCh sg h fr la P t' d)
def mSg (sg : Nat → Int32) (h : mH) (fr la : Nat) : List aF → Nat → Nat → Nat → Prop
  | [], _, _, _ => False
  | F :: L, t, d, y => ((sg F.1).toInt = 64 ∧ t = 0 ∧ 1 ≤ d ∧ d ≤ la ∧ h 40 d = nI (aHd sg F.1) ∧ ((L = [] ∧ d = y) ∨ ∃ t' d', h 41 d = nI t' ∧ h 42 d = nI d' ∧ d' < d ∧ mSg sg h fr la L t' d' y)) ∨ ((sg F.1).toInt ≠ 64 ∧ 1 ≤ t ∧ t ≤ fr ∧ mFr h t F ∧ ∃ t', h 39 t = nI t' ∧ mSg sg h fr la L t' d y)
/-- the old frames and hands are as they were -/
def mOld (h h' : mH) (fr la : Nat) : Prop := (∀ i, i ≤ fr → h' 34 i = h 34 i ∧ h' 35 i = h 35 i ∧ h' 36 i = h 36 i ∧ h' 37 i = h 37 i ∧ h' 38 i = h 38 i ∧ h' 39 i = h 39 i) ∧ ∀ i, i ≤ la → h' 40 i = h 40 i ∧ h' 41 i = h 41 i ∧ h' 42 i = h 42 i
theorem mFr_ext {h h' : mH} {fr la t : Nat} (ho : mOld h h' fr la) (ht : t ≤ fr) {F : aF} (q : mFr h t F) : mFr h' t F := by
  obtain ⟨e1, e2, e3, e4, e5, -⟩ := ho.1 t ht
  obtain ⟨q1, q2, q3, q4, q5⟩ := q
  exact ⟨by rw [e1]; exact q1, by rw [e2]; exact q2, by rw [e3]; exact q3, by rw [e4]; exact q4, fun z => by rw [e5]; exact q5 z⟩
theorem mCh_ext {sg : Nat → Int32} {h h' : mH} {fr la fr' la' : Nat} (ho : mOld h h' fr la) (hf : fr ≤ fr') (hl : la ≤ la') : ∀ {P : List aF} {t d : Nat}, mCh sg h fr la P t d → mCh sg h' fr' la' P t d
  | [], _, _, q => q
  | F :: P, t, d, q => by
    rcases q with ⟨q1, q2, q3, q4, q5, t', d', q6, q7, q8, q9⟩ | ⟨q1, q2, q3, q4, t', q5, q6⟩
    · obtain ⟨e1, e2, e3⟩ := ho.2 d q4
      exact Or.inl ⟨q1, q2, q3, Nat.le_trans q4 hl, by rw [e1]; exact q5, t', d', by rw [e2]; exact q6, by rw [e3]; exact q7, q8, mCh_ext ho hf hl q9⟩
    · obtain ⟨-, -, -, -, -, e6⟩ := ho.1 t q3
      exact Or.inr ⟨q1, q2, Nat.le_trans q3 hf, mFr_ext ho q3 q4, t', by rw [e6]; exact q5, mCh_ext ho hf hl q6⟩
theorem mSg_ext {sg : Nat → Int32} {h h' : mH} {fr la fr' la' : Nat} (ho : mOld h h' fr la) (hf : fr ≤ fr') (hl : la ≤ la') : ∀ {P : List aF} {t d y : Nat}, mSg sg h fr la P t d y → mSg sg h' fr' la' P t d y
  | [], _, _, _, q => q
  | F :: P, t, d, y, q => by
    rcases q with ⟨q1, q2, q3, q4, q5, q6⟩ | ⟨q1, q2, q3, q4, t', q5, q6⟩
    · obtain ⟨e1, e2, e3⟩ := ho.2 d q4
      refine Or.inl ⟨q1, q2, q3, Nat.le_trans q4 hl, by rw [e1]; exact q5, ?_⟩
      rcases q6 with q6 | ⟨t', d', q6, q7, q8, q9⟩
      · exact Or.inl q6
      · exact Or.inr ⟨t', d', by rw [e2]; exact q6, by rw [e3]; exact q7, q8, mSg_ext ho hf hl q9⟩
    · obtain ⟨-, -, -, -, -, e6⟩ := ho.1 t q3
      exact Or.inr ⟨q1, q2, Nat.le_trans q3 hf, mFr_ext ho q3 q4, t', by rw [e6]; exact q5, mSg_ext ho hf hl q6⟩
theorem mCh_le {sg : Nat → Int32} {h : mH} {fr la : Nat} : ∀ {P : List aF} {t d : Nat}, mCh sg h fr la P t d → t ≤ fr ∧ d ≤ la
  | [], _, _, q => by rw [q.1, q.2]; exact ⟨Nat.zero_le _, Nat.zero_le _⟩
  | F :: P, t, d, q => by
    rcases q with ⟨q1, q2, q3, q4, -⟩ | ⟨q1, q2, q3, q4, t', q5, q6⟩
    · exact ⟨by omega, q4⟩
    · exact ⟨q3, (mCh_le q6).2⟩
theorem mSg_le {sg : Nat → Int32} {h : mH} {fr la : Nat} : ∀ {P : List aF} {t d y : Nat}, mSg sg h fr la P t d y → t ≤ fr ∧ d ≤ la ∧ 1 ≤ y ∧ y ≤ d
  | [], _, _, _, q => q.elim
  | F :: P, t, d, y, q => by
    rcases q with ⟨q1, q2, q3, q4, q5, q6⟩ | ⟨q1, q2, q3, q4, t', q5, q6⟩
    · rcases q6 with q6 | ⟨t', d', q6, q7, q8, q9⟩
      · exact ⟨by omega, q4, by omega, by omega⟩
      · have := mSg_le q9
        exact ⟨by omega, q4, by omega, by omega⟩
    · have := mSg_le q6
      exact ⟨q3, by omega, by omega, by omega⟩
def KM (h h' : mH) : Prop := (∀ a, a ≠ 10 → ¬ (34 ≤ a ∧ a ≤ 46 ∨ a = 48) → h' a = h a) ∧ h' 10 0 = h 10 0 ∧ h' 10 5 = h 10 5 ∧ h' 10 30 = h 10 30
theorem KM.refl (h : mH) : KM h h := ⟨fun _ _ _ => rfl, rfl, rfl, rfl⟩
theorem KM.trans {a b c : mH} (h1 : KM a b) (h2 : KM b c) : KM a c := ⟨fun k k1 k2 => (h2.1 k k1 k2).trans (h1.1 k k1 k2), h2.2.1.trans h1.2.1, h2.2.2.1.trans h1.2.2.1, h2.2.2.2.trans h1.2.2.2⟩
theorem KM.hs {h h' : mH} (q : KM h h') {k j : Nat} {v : Int32} (hk : (34 ≤ k ∧ k ≤ 46 ∨ k = 48) ∨ (k = 10 ∧ j ≠ 0 ∧ j ≠ 5 ∧ j ≠ 30)) : KM h (hs h' k j v) :=
  ⟨fun a h1 h2 => (hs_rown _ _ _ (fun z => by omega)).trans (q.1 a h1 h2), (hs_ne _ _ (by omega)).trans q.2.1, (hs_ne _ _ (by omega)).trans q.2.2.1, (hs_ne _ _ (by omega)).trans q.2.2.2⟩
theorem KM.wt {h h' : mH} (q : KM h h') {fr : Nat} {a b c d e : Int32} : KM h (wtH h' fr a b c d e) := (((((((q.hs (by omega)).hs (by omega)).hs (by omega)).hs (by omega)).hs (by omega)).hs (by omega)).hs (by omega)).hs (by omega)
theorem KM.ly {h h' : mH} (q : KM h h') {la : Nat} {a b : Int32} : KM h (lyH h' la a b) := ((((q.hs (by omega)).hs (by omega)).hs (by omega)).hs (by omega)).hs (by omega)
theorem KM.wk {h h' : mH} (q : KM h h') {a b c : Int32} : KM h (wkH h' a b c) := (((q.hs (by omega)).hs (by omega)).hs (by omega)).hs (by omega)
def MG (h : mH) (n g u : Nat) (q : List Nat) : Prop := h 10 23 = nI n ∧ h 10 24 = nI g ∧ h 10 25 = nI u ∧ h 10 26 = nI q.length ∧ ∀ i, i < q.length → h 46 i = nI (q.getD i 0)
def RM (sg : Nat → Int32) (h : mH) : aS → Prop
  | (b, pl, x, k, P, K, n, g, u, q) => ∃ fr la t d : Nat, h 10 8 = nI fr ∧ h 10 15 = nI la ∧ h 10 19 = nI K.length ∧ h 10 32 = nI t ∧ h 10 33 = nI d ∧ mCh sg h fr la P t d ∧ (b = true → h 10 38 = -6 ∧ h 10 35 = nI pl ∧ h 10 36 = nI x ∧ h 10 37 = nI k) ∧ (b = false → h 10 38 = nI x) ∧ h 10 39 = -6 ∧ h 10 27 = -6 ∧ h 10 28 = -6 ∧ MG h n g u q ∧ (∀ (j : Nat) (L : List aF), K[j]? = some L → ∃ t d y, h 43 (j + 1) = nI t ∧ h 44 (j + 1) = nI d ∧ h 45 (j + 1) = nI y ∧ mSg sg h fr la L t d y) ∧ fr ≤ 2 * n + (if b then 1 else 0) ∧ la ≤ n + 200 * g
def ME (h : mH) : aE → Prop
  | (e, d, v, n, g, u, q) => (h 10 39).toInt = e ∧ (h 10 27).toInt = d ∧ (h 10 28).toInt = v ∧ MG h n g u q
def MO (sg : Nat → Int32) (h : mH) : aS ⊕ aE → Prop
  | .inl s => RM sg h s
  | .inr e => ME h e
def MB (sg : Nat → Int32) (ln sz : Nat → Nat) (h : mH) : Prop := (∀ pl, pl < 800 → h 30 pl = sg pl) ∧ (∀ p, p < 20 → h 29 p = nI (sz p)) ∧ ∀ pl, aV sg sz pl → h 31 pl = nI (ln pl)
def MR (r : List Nat) (h : mH) : Prop := h 10 30 = nI r.length ∧ r.length ≤ 8 ∧ ∀ i, i < r.length → h 47 i = nI (r.getD i 0)
theorem mOld.refl (h : mH) (fr la : Nat) : mOld h h fr la := ⟨fun _ _ => ⟨rfl, rfl, rfl, rfl, rfl, rfl⟩, fun _ _ => ⟨rfl, rfl, rfl⟩⟩
theorem mOld_wt (h : mH) (fr la : Nat) (a b c d e : Int32) : mOld h (wtH h fr a b c d e) fr la := by
  refine ⟨fun i hi => ⟨?_, ?_, ?_, ?_, ?_, ?_⟩, fun i hi => ⟨rfl, rfl, rfl⟩⟩
  all_goals (unfold wtH; simp only [hs]; repeat rw [if_neg (by omega)])
theorem mOld_ly (h : mH) (fr la : Nat) (a b : Int32) : mOld h (lyH h la a b) fr la := by
  refine ⟨fun i hi => ⟨rfl, rfl, rfl, rfl, rfl, rfl⟩, fun i hi => ⟨?_, ?_, ?_⟩⟩
  all_goals (unfold lyH; simp only [hs]; repeat rw [if_neg (by omega)])
theorem wt_at (h : mH) (fr : Nat) (a b c d e : Int32) : wtH h fr a b c d e 34 (fr + 1) = a ∧ wtH h fr a b c d e 35 (fr + 1) = b ∧ wtH h fr a b c d e 36 (fr + 1) = c ∧ wtH h fr a b c d e 37 (fr + 1) = d ∧ wtH h fr a b c d e 38 (fr + 1) = e ∧ wtH h fr a b c d e 39 (fr + 1) = h 10 32 := by
  refine ⟨?_, ?_, ?_, ?_, ?_, ?_⟩
  all_goals (unfold wtH; simp [hs])
theorem ly_at (h : mH) (la : Nat) (a b : Int32) : lyH h la a b 40 (la + 1) = a ∧ lyH h la a b 41 (la + 1) = b ∧ lyH h la a b 42 (la + 1) = h 10 33 := by
  refine ⟨?_, ?_, ?_⟩
  all_goals (unfold lyH; simp [hs])
/-- nothing that a chain reads has changed -/
theorem mOld_s {h h' : mH} (e34 : h' 34 = h 34) (e35 : h' 35 = h 35) (e36 : h' 36 = h 36) (e37 : h' 37 = h 37) (e38 : h' 38 = h 38) (e39 : h' 39 = h 39) (e40 : h' 40 = h 40) (e41 : h' 41 = h 41) (e42 : h' 42 = h 42) (fr la : Nat) : mOld h h' fr la := ⟨fun i _ => ⟨by rw [e34], by rw [e35], by rw [e36], by rw [e37], by rw [e38], by rw [e39]⟩, fun i _ => ⟨by rw [e40], by rw [e41], by rw [e42]⟩⟩
theorem k_M_in (l : Launch) (h : mH) (x y z : Int32) {X Y Z : Int} (hx : x.toInt = X) (hy : y.toInt = Y) (hz : z.toInt = Z) {v : Int32} (hv : (if Y ≤ X ∧ X ≤ Z then (1 : Int32) else 0) = v) : mD l Sh0 iX8_in [.inl x, .inl y, .inl z] h (some v) h := by
  have q := k_mIn l h x y z
  unfold mIn at q
  rw [hx, hy, hz, hv] at q
  exact q
set_option maxHeartbeats 4000000 in
theorem m_begin_spent (l : Launch) {sg : Nat → Int32} {ln sz : Nat → Nat} {r : List Nat} (hB : aWB sg ln sz) (h : mH) (hM : MB sg ln sz h) {pl x k : Nat} {P : List aF} {K : List (List aF)} {n g u : Nat} {q : List Nat} (hJ : aJ sg sz r (true, pl, x, k, P, K, n, g, u, q)) (hRM : RM sg h (true, pl, x, k, P, K, n, g, u, q)) (hn : 200 ≤ n) : mG l Sh0 iX8_begin [.inr 10] h (fun v h' => v = none ∧ KM h h' ∧ MO sg h' (aBeg sg pl x k P K n g u q)) := by
  obtain ⟨fr, la, t, d, m8, m15, m19, m32, m33, hch, hb, hb2, m39, m27, m28, ⟨m23, m24, m25, m26, m46⟩, hkp, hfr, hla⟩ := hRM
  obtain ⟨jx, jb, jP, jK, jn, jg, ju, jq, jc, gs, g1, g2, g3, g4⟩ := hJ
  obtain ⟨m38, m35, m36, m37⟩ := hb rfl
  obtain ⟨jV, jk, jd⟩ := jb rfl
  have hp8 : pl < 800 := jV.1
  have hsg : h 30 pl = sg pl := hM.1 pl hp8
  have hdot := (hB.2 pl jV).1
  have hfr : fr ≤ 2 * n + 1 := hfr
  obtain ⟨ht, hd9⟩ := mCh_le hch

  intro RT hR
  show mE l Sh0 none iX8_begin RT 0 [some (.inr 10), none] [] h
  refine e_aload_n (i := 0) dX8_begin_0 rfl rfl ?_
  refine e_getI (x := nI n) dX8_begin_1 fl_X8_135 sh_10 fj_10_23 m23 ?_
  refine e_sipush (v := 200) dX8_begin_4 (by decide) ?_
  refine b_icmp_ne (X := ((n : Nat) : Int)) (Y := 200) (tgt := 17) (nI_toInt (by omega)) (by decide) dX8_begin_7 (by decide) ?_ ?_
  · intro e_7_t c_7_t
    exfalso; omega
  · intro e_7_f c_7_f
    refine e_aload_n (i := 0) dX8_begin_10 rfl rfl ?_
    refine e_bipush (v := 9) dX8_begin_11 (by decide) ?_
    refine e_putI dX8_begin_13 fl_X8_165 fp_X8_39 sh_10 fj_10_39 ?_
    refine e_ret dX8_begin_16 rfl ?_
    have e : aBeg sg pl x k P K n g u q = .inr (9, -6, -6, n, g, u, q) := if_pos hn
    rw [e] at hR
    exact hR _ _ ⟨rfl, (KM.refl h).hs (by omega), (by show (9 : Int32).toInt = 9; decide), toI_m6 m27, toI_m6 m28, m23, m24, m25, m26, m46⟩
set_option maxHeartbeats 4000000 in
theorem m_begin_digit (l : Launch) {sg : Nat → Int32} {ln sz : Nat → Nat} {r : List Nat} (hB : aWB sg ln sz) (h : mH) (hM : MB sg ln sz h) {pl x k : Nat} {P : List aF} {K : List (List aF)} {n g u : Nat} {q : List Nat} (hJ : aJ sg sz r (true, pl, x, k, P, K, n, g, u, q)) (hRM : RM sg h (true, pl, x, k, P, K, n, g, u, q)) (hn : ¬ 200 ≤ n) (hd0 : 48 ≤ (sg pl).toInt ∧ (sg pl).toInt ≤ 55) : mG l Sh0 iX8_begin [.inr 10] h (fun v h' => v = none ∧ KM h h' ∧ MO sg h' (aBeg sg pl x k P K n g u q)) := by
  obtain ⟨fr, la, t, d, m8, m15, m19, m32, m33, hch, hb, hb2, m39, m27, m28, ⟨m23, m24, m25, m26, m46⟩, hkp, hfr, hla⟩ := hRM
  obtain ⟨jx, jb, jP, jK, jn, jg, ju, jq, jc, gs, g1, g2, g3, g4⟩ := hJ
  obtain ⟨m38, m35, m36, m37⟩ := hb rfl
  obtain ⟨jV, jk, jd⟩ := jb rfl
  have hp8 : pl < 800 := jV.1
  have hsg : h 30 pl = sg pl := hM.1 pl hp8
  have hdot := (hB.2 pl jV).1
  have hfr : fr ≤ 2 * n + 1 := hfr
  obtain ⟨ht, hd9⟩ := mCh_le hch
  have h0 : aOf (sg pl).toInt = 0 := by unfold aOf; rw [if_pos (Or.inl hd0)]
  intro RT hR
  show mE l Sh0 none iX8_begin RT 0 [some (.inr 10), none] [] h
  refine e_aload_n (i := 0) dX8_begin_0 rfl rfl ?_
  refine e_getI (x := nI n) dX8_begin_1 fl_X8_135 sh_10 fj_10_23 m23 ?_
  refine e_sipush (v := 200) dX8_begin_4 (by decide) ?_
  refine b_icmp_ne (X := ((n : Nat) : Int)) (Y := 200) (tgt := 17) (nI_toInt (by omega)) (by decide) dX8_begin_7 (by decide) ?_ ?_
  · intro e_7_t c_7_t
    refine e_aload_n (i := 0) dX8_begin_17 rfl rfl ?_
    refine e_dup dX8_begin_18 ?_
    refine e_getI (x := nI n) dX8_begin_19 fl_X8_135 sh_10 fj_10_23 m23 ?_
    refine e_iconst (v := 1) dX8_begin_22 (by decide) ?_
    refine z_iadd (z := nI (n + 1)) (nI_addc _ 1) dX8_begin_23 ?_
    refine e_putI dX8_begin_24 fl_X8_135 fp_X8_23 sh_10 fj_10_23 ?_
    refine e_aload_n (i := 0) dX8_begin_27 rfl rfl ?_
    refine e_getR (r := 30) dX8_begin_28 fl_X8_16 sh_10 fj_10_3 ?_
    refine e_aload_n (i := 0) dX8_begin_31 rfl rfl ?_
    refine e_getI (x := nI pl) dX8_begin_32 fl_X8_153 sh_10 fj_10_35 m35 ?_
    refine e_iald (x := sg pl) dX8_begin_35 sh_30 (vin_ofX (X := ((pl : Nat) : Int)) (nI_toInt (by omega)) (by omega) (by omega)) (by rw [nI_clamp (by omega)]; exact hsg) ?_
    refine e_istore_n (i := 1) (ls2 := [some (.inr 10), some (.inl (sg pl))]) dX8_begin_36 rfl (Nat.le_of_ble_eq_true rfl) rfl ?_
    refine e_iload_n (i := 1) dX8_begin_37 rfl rfl ?_
    refine e_bipush (v := 48) dX8_begin_38 (by decide) ?_
    refine e_bipush (v := 55) dX8_begin_40 (by decide) ?_
    refine e_invSi (As := [.inl (sg pl), .inl 48, .inl 55]) (v := 1) (h2 := (hs h 10 23 (nI (n + 1)))) dX8_begin_42 lk_X8_85 ys_X8_in rfl rfl rfl (Nat.le_of_ble_eq_true rfl) (Nat.le_of_ble_eq_true rfl) ⟨Nat.le_of_ble_eq_true rfl, Nat.le_of_ble_eq_true rfl⟩ (k_M_in (Y := 48) (Z := 55) l (hs h 10 23 (nI (n + 1))) (sg pl) 48 55 rfl (by decide) (by decide) (if_pos hd0)) ?_
    refine b_if_eq (X := 1) (tgt := 59) (by decide) dX8_begin_45 (by decide) ?_ ?_
    · intro e_45_t c_45_t
      exfalso; omega
    · intro e_45_f c_45_f
      refine e_aload_n (i := 0) dX8_begin_48 rfl rfl ?_
      refine e_iload_n (i := 1) dX8_begin_49 rfl rfl ?_
      refine e_bipush (v := 48) dX8_begin_50 (by decide) ?_
      refine z_isub (z := nI (((sg pl).toInt - 48).toNat)) (sub48 (by omega)) dX8_begin_52 ?_
      refine e_putI dX8_begin_53 fl_X8_162 fp_X8_38 sh_10 fj_10_38 ?_
      refine e_goto (tgt := 150) dX8_begin_56 (by decide) ?_
      refine e_ret dX8_begin_150 rfl ?_
      have e : aBeg sg pl x k P K n g u q = .inl (false, 0, ((sg pl).toInt - 48).toNat, 0, P, K, n + 1, g, u, q) := by unfold aBeg; rw [if_neg hn, if_neg (by omega), if_pos h0]
      rw [e] at hR
      exact hR _ _ ⟨rfl, ((KM.refl h).hs (by omega)).hs (by omega), fr, la, t, d, m8, m15, m19, m32, m33, mCh_ext (mOld_s (h := h) (h' := (hs (hs h 10 23 (nI (n + 1))) 10 38 (nI (((sg pl).toInt - 48).toNat)))) rfl rfl rfl rfl rfl rfl rfl rfl rfl fr la) (Nat.le_refl _) (Nat.le_refl _) hch, fun z => (by cases z), fun _ => rfl, m39, m27, m28, ⟨rfl, m24, m25, m26, m46⟩, (fun j L z => (hkp j L z).imp (fun _ z => z.imp (fun _ z => z.imp (fun _ z => ⟨z.1, z.2.1, z.2.2.1, mSg_ext (mOld_s (h := h) (h' := (hs (hs h 10 23 (nI (n + 1))) 10 38 (nI (((sg pl).toInt - 48).toNat)))) rfl rfl rfl rfl rfl rfl rfl rfl rfl fr la) (Nat.le_refl _) (Nat.le_refl _) z.2.2.2⟩)))), by show fr ≤ 2 * (n + 1) + 0; omega, by omega⟩
  · intro e_7_f c_7_f
    exfalso; omega
set_option maxHeartbeats 4000000 in
theorem m_begin_x (l : Launch) {sg : Nat → Int32} {ln sz : Nat → Nat} {r : List Nat} (hB : aWB sg ln sz) (h : mH) (hM : MB sg ln sz h) {pl x k : Nat} {P : List aF} {K : List (List aF)} {n g u : Nat} {q : List Nat} (hJ : aJ sg sz r (true, pl, x, k, P, K, n, g, u, q)) (hRM : RM sg h (true, pl, x, k, P, K, n, g, u, q)) (hn : ¬ 200 ≤ n) (hx0 : (sg pl).toInt = 120) : mG l Sh0 iX8_begin [.inr 10] h (fun v h' => v = none ∧ KM h h' ∧ MO sg h' (aBeg sg pl x k P K n g u q)) := by
  obtain ⟨fr, la, t, d, m8, m15, m19, m32, m33, hch, hb, hb2, m39, m27, m28, ⟨m23, m24, m25, m26, m46⟩, hkp, hfr, hla⟩ := hRM
  obtain ⟨jx, jb, jP, jK, jn, jg, ju, jq, jc, gs, g1, g2, g3, g4⟩ := hJ
  obtain ⟨m38, m35, m36, m37⟩ := hb rfl
  obtain ⟨jV, jk, jd⟩ := jb rfl
  have hp8 : pl < 800 := jV.1
  have hsg : h 30 pl = sg pl := hM.1 pl hp8
  have hdot := (hB.2 pl jV).1
  have hfr : fr ≤ 2 * n + 1 := hfr
  obtain ⟨ht, hd9⟩ := mCh_le hch

  intro RT hR
  show mE l Sh0 none iX8_begin RT 0 [some (.inr 10), none] [] h
  refine e_aload_n (i := 0) dX8_begin_0 rfl rfl ?_
  refine e_getI (x := nI n) dX8_begin_1 fl_X8_135 sh_10 fj_10_23 m23 ?_
  refine e_sipush (v := 200) dX8_begin_4 (by decide) ?_
  refine b_icmp_ne (X := ((n : Nat) : Int)) (Y := 200) (tgt := 17) (nI_toInt (by omega)) (by decide) dX8_begin_7 (by decide) ?_ ?_
  · intro e_7_t c_7_t
    refine e_aload_n (i := 0) dX8_begin_17 rfl rfl ?_
    refine e_dup dX8_begin_18 ?_
    refine e_getI (x := nI n) dX8_begin_19 fl_X8_135 sh_10 fj_10_23 m23 ?_
    refine e_iconst (v := 1) dX8_begin_22 (by decide) ?_
    refine z_iadd (z := nI (n + 1)) (nI_addc _ 1) dX8_begin_23 ?_
    refine e_putI dX8_begin_24 fl_X8_135 fp_X8_23 sh_10 fj_10_23 ?_
    refine e_aload_n (i := 0) dX8_begin_27 rfl rfl ?_
    refine e_getR (r := 30) dX8_begin_28 fl_X8_16 sh_10 fj_10_3 ?_
    refine e_aload_n (i := 0) dX8_begin_31 rfl rfl ?_
    refine e_getI (x := nI pl) dX8_begin_32 fl_X8_153 sh_10 fj_10_35 m35 ?_
    refine e_iald (x := sg pl) dX8_begin_35 sh_30 (vin_ofX (X := ((pl : Nat) : Int)) (nI_toInt (by omega)) (by omega) (by omega)) (by rw [nI_clamp (by omega)]; exact hsg) ?_
    refine e_istore_n (i := 1) (ls2 := [some (.inr 10), some (.inl (sg pl))]) dX8_begin_36 rfl (Nat.le_of_ble_eq_true rfl) rfl ?_
    refine e_iload_n (i := 1) dX8_begin_37 rfl rfl ?_
    refine e_bipush (v := 48) dX8_begin_38 (by decide) ?_
    refine e_bipush (v := 55) dX8_begin_40 (by decide) ?_
    refine e_invSi (As := [.inl (sg pl), .inl 48, .inl 55]) (v := 0) (h2 := (hs h 10 23 (nI (n + 1)))) dX8_begin_42 lk_X8_85 ys_X8_in rfl rfl rfl (Nat.le_of_ble_eq_true rfl) (Nat.le_of_ble_eq_true rfl) ⟨Nat.le_of_ble_eq_true rfl, Nat.le_of_ble_eq_true rfl⟩ (k_M_in (Y := 48) (Z := 55) l (hs h 10 23 (nI (n + 1))) (sg pl) 48 55 rfl (by decide) (by decide) (if_neg (by omega))) ?_
    refine b_if_eq (X := 0) (tgt := 59) (by decide) dX8_begin_45 (by decide) ?_ ?_
    · intro e_45_t c_45_t
      refine e_iload_n (i := 1) dX8_begin_59 rfl rfl ?_
      refine e_bipush (v := 120) dX8_begin_60 (by decide) ?_
      refine b_icmp_ne (X := (sg pl).toInt) (Y := 120) (tgt := 76) rfl (by decide) dX8_begin_62 (by decide) ?_ ?_
      · intro e_62_t c_62_t
        exfalso; omega
      · intro e_62_f c_62_f
        refine e_aload_n (i := 0) dX8_begin_65 rfl rfl ?_
        refine e_aload_n (i := 0) dX8_begin_66 rfl rfl ?_
        refine e_getI (x := nI x) dX8_begin_67 fl_X8_156 sh_10 fj_10_36 m36 ?_
        refine e_putI dX8_begin_70 fl_X8_162 fp_X8_38 sh_10 fj_10_38 ?_
        refine e_goto (tgt := 150) dX8_begin_73 (by decide) ?_
        refine e_ret dX8_begin_150 rfl ?_
        have e : aBeg sg pl x k P K n g u q = .inl (false, 0, x, 0, P, K, n + 1, g, u, q) := by unfold aBeg; rw [if_neg hn, if_pos hx0]
        rw [e] at hR
        exact hR _ _ ⟨rfl, ((KM.refl h).hs (by omega)).hs (by omega), fr, la, t, d, m8, m15, m19, m32, m33, mCh_ext (mOld_s (h := h) (h' := (hs (hs h 10 23 (nI (n + 1))) 10 38 (nI x))) rfl rfl rfl rfl rfl rfl rfl rfl rfl fr la) (Nat.le_refl _) (Nat.le_refl _) hch, fun z => (by cases z), fun _ => rfl, m39, m27, m28, ⟨rfl, m24, m25, m26, m46⟩, (fun j L z => (hkp j L z).imp (fun _ z => z.imp (fun _ z => z.imp (fun _ z => ⟨z.1, z.2.1, z.2.2.1, mSg_ext (mOld_s (h := h) (h' := (hs (hs h 10 23 (nI (n + 1))) 10 38 (nI x))) rfl rfl rfl rfl rfl rfl rfl rfl rfl fr la) (Nat.le_refl _) (Nat.le_refl _) z.2.2.2⟩)))), by show fr ≤ 2 * (n + 1) + 0; omega, by omega⟩
    · intro e_45_f c_45_f
      exfalso; omega
  · intro e_7_f c_7_f
    exfalso; omega
set_option maxHeartbeats 4000000 in
theorem m_begin_at (l : Launch) {sg : Nat → Int32} {ln sz : Nat → Nat} {r : List Nat} (hB : aWB sg ln sz) (h : mH) (hM : MB sg ln sz h) {pl x k : Nat} {P : List aF} {K : List (List aF)} {n g u : Nat} {q : List Nat} (hJ : aJ sg sz r (true, pl, x, k, P, K, n, g, u, q)) (hRM : RM sg h (true, pl, x, k, P, K, n, g, u, q)) (hn : ¬ 200 ≤ n) (h0 : aOf (sg pl).toInt ≠ 0) (h64 : (sg pl).toInt = 64) : mG l Sh0 iX8_begin [.inr 10] h (fun v h' => v = none ∧ KM h h' ∧ MO sg h' (aBeg sg pl x k P K n g u q)) := by
  obtain ⟨fr, la, t, d, m8, m15, m19, m32, m33, hch, hb, hb2, m39, m27, m28, ⟨m23, m24, m25, m26, m46⟩, hkp, hfr, hla⟩ := hRM
  obtain ⟨jx, jb, jP, jK, jn, jg, ju, jq, jc, gs, g1, g2, g3, g4⟩ := hJ
  obtain ⟨m38, m35, m36, m37⟩ := hb rfl
  obtain ⟨jV, jk, jd⟩ := jb rfl
  have hp8 : pl < 800 := jV.1
  have hsg : h 30 pl = sg pl := hM.1 pl hp8
  have hdot := (hB.2 pl jV).1
  have hfr : fr ≤ 2 * n + 1 := hfr
  obtain ⟨ht, hd9⟩ := mCh_le hch
  have h1 : 1 ≤ aOf (sg pl).toInt := by omega
  have hx0 : ¬ (sg pl).toInt = 120 := fun z => h0 (by rw [z]; decide)
  have hd0 : ¬ (48 ≤ (sg pl).toInt ∧ (sg pl).toInt ≤ 55) := fun z => h0 (by unfold aOf; rw [if_pos (Or.inl z)])
  have h9 := (hB.2 pl jV).2.2.2.2.2.2.2.2.1 h64
  have hsg1 : h 30 (pl + 1) = sg (pl + 1) := hM.1 _ h9.2.2
  have eF : aFs sg pl = pl + 2 := if_pos h64
  intro RT hR
  show mE l Sh0 none iX8_begin RT 0 [some (.inr 10), none] [] h
  refine e_aload_n (i := 0) dX8_begin_0 rfl rfl ?_
  refine e_getI (x := nI n) dX8_begin_1 fl_X8_135 sh_10 fj_10_23 m23 ?_
  refine e_sipush (v := 200) dX8_begin_4 (by decide) ?_
  refine b_icmp_ne (X := ((n : Nat) : Int)) (Y := 200) (tgt := 17) (nI_toInt (by omega)) (by decide) dX8_begin_7 (by decide) ?_ ?_
  · intro e_7_t c_7_t
    refine e_aload_n (i := 0) dX8_begin_17 rfl rfl ?_
    refine e_dup dX8_begin_18 ?_
    refine e_getI (x := nI n) dX8_begin_19 fl_X8_135 sh_10 fj_10_23 m23 ?_
    refine e_iconst (v := 1) dX8_begin_22 (by decide) ?_
    refine z_iadd (z := nI (n + 1)) (nI_addc _ 1) dX8_begin_23 ?_
    refine e_putI dX8_begin_24 fl_X8_135 fp_X8_23 sh_10 fj_10_23 ?_
    refine e_aload_n (i := 0) dX8_begin_27 rfl rfl ?_
    refine e_getR (r := 30) dX8_begin_28 fl_X8_16 sh_10 fj_10_3 ?_
    refine e_aload_n (i := 0) dX8_begin_31 rfl rfl ?_
    refine e_getI (x := nI pl) dX8_begin_32 fl_X8_153 sh_10 fj_10_35 m35 ?_
    refine e_iald (x := sg pl) dX8_begin_35 sh_30 (vin_ofX (X := ((pl : Nat) : Int)) (nI_toInt (by omega)) (by omega) (by omega)) (by rw [nI_clamp (by omega)]; exact hsg) ?_
    refine e_istore_n (i := 1) (ls2 := [some (.inr 10), some (.inl (sg pl))]) dX8_begin_36 rfl (Nat.le_of_ble_eq_true rfl) rfl ?_
    refine e_iload_n (i := 1) dX8_begin_37 rfl rfl ?_
    refine e_bipush (v := 48) dX8_begin_38 (by decide) ?_
    refine e_bipush (v := 55) dX8_begin_40 (by decide) ?_
    refine e_invSi (As := [.inl (sg pl), .inl 48, .inl 55]) (v := 0) (h2 := (hs h 10 23 (nI (n + 1)))) dX8_begin_42 lk_X8_85 ys_X8_in rfl rfl rfl (Nat.le_of_ble_eq_true rfl) (Nat.le_of_ble_eq_true rfl) ⟨Nat.le_of_ble_eq_true rfl, Nat.le_of_ble_eq_true rfl⟩ (k_M_in (Y := 48) (Z := 55) l (hs h 10 23 (nI (n + 1))) (sg pl) 48 55 rfl (by decide) (by decide) (if_neg hd0)) ?_
    refine b_if_eq (X := 0) (tgt := 59) (by decide) dX8_begin_45 (by decide) ?_ ?_
    · intro e_45_t c_45_t
      refine e_iload_n (i := 1) dX8_begin_59 rfl rfl ?_
      refine e_bipush (v := 120) dX8_begin_60 (by decide) ?_
      refine b_icmp_ne (X := (sg pl).toInt) (Y := 120) (tgt := 76) rfl (by decide) dX8_begin_62 (by decide) ?_ ?_
      · intro e_62_t c_62_t
        refine e_iload_n (i := 1) dX8_begin_76 rfl rfl ?_
        refine e_bipush (v := 64) dX8_begin_77 (by decide) ?_
        refine b_icmp_ne (X := (sg pl).toInt) (Y := 64) (tgt := 122) rfl (by decide) dX8_begin_79 (by decide) ?_ ?_
        · intro e_79_t c_79_t
          exfalso; omega
        · intro e_79_f c_79_f
          refine e_aload_n (i := 0) dX8_begin_82 rfl rfl ?_
          refine e_aload_n (i := 0) dX8_begin_83 rfl rfl ?_
          refine e_getR (r := 30) dX8_begin_84 fl_X8_16 sh_10 fj_10_3 ?_
          refine e_aload_n (i := 0) dX8_begin_87 rfl rfl ?_
          refine e_getI (x := nI pl) dX8_begin_88 fl_X8_153 sh_10 fj_10_35 m35 ?_
          refine e_iconst (v := 1) dX8_begin_91 (by decide) ?_
          refine z_iadd (z := nI (pl + 1)) (nI_addc _ 1) dX8_begin_92 ?_
          refine e_iald (x := sg (pl + 1)) dX8_begin_93 sh_30 (vin_ofX (X := ((pl + 1 : Nat) : Int)) (nI_toInt (by omega)) (by omega) (by omega)) (by rw [nI_clamp (by omega)]; exact hsg1) ?_
          refine e_bipush (v := 48) dX8_begin_94 (by decide) ?_
          refine z_isub (z := nI (aHd sg pl)) (sub48 (by omega)) dX8_begin_96 ?_
          refine e_aload_n (i := 0) dX8_begin_97 rfl rfl ?_
          refine e_getI (x := nI t) dX8_begin_98 fl_X8_123 sh_10 fj_10_32 m32 ?_
          refine e_invVv (As := [.inl (nI (aHd sg pl)), .inl (nI t)]) (h2 := (lyH (hs h 10 23 (nI (n + 1))) la (nI (aHd sg pl)) (nI t))) (ty := .int) (v := 0) dX8_begin_101 lk_X8_177 yv_X8_lay rfl rfl rfl (Nat.le_of_ble_eq_true rfl) sh_10 ci_X8 (Nat.le_of_ble_eq_true rfl) ⟨Nat.le_of_ble_eq_true rfl, Nat.le_of_ble_eq_true rfl⟩ (k_M_lay l (hs h 10 23 (nI (n + 1))) la m15 (by omega) (nI (aHd sg pl)) (nI t)) ?_
          refine e_aload_n (i := 0) dX8_begin_104 rfl rfl ?_
          refine e_iconst (v := 0) dX8_begin_105 (by decide) ?_
          refine e_putI dX8_begin_106 fl_X8_123 fp_X8_32 sh_10 fj_10_32 ?_
          refine e_aload_n (i := 0) dX8_begin_109 rfl rfl ?_
          refine e_dup dX8_begin_110 ?_
          refine e_getI (x := nI pl) dX8_begin_111 fl_X8_153 sh_10 fj_10_35 m35 ?_
          refine e_iconst (v := 2) dX8_begin_114 (by decide) ?_
          refine z_iadd (z := nI (pl + 2)) (nI_addc _ 2) dX8_begin_115 ?_
          refine e_putI dX8_begin_116 fl_X8_153 fp_X8_35 sh_10 fj_10_35 ?_
          refine e_goto (tgt := 150) dX8_begin_119 (by decide) ?_
          refine e_ret dX8_begin_150 rfl ?_
          have e : aBeg sg pl x k P K n g u q = .inl (true, pl + 2, x, k, (pl, x, k, 0) :: P, K, n + 1, g, u, q) := by unfold aBeg; rw [if_neg hn, if_neg hx0, if_neg h0, eF]
          rw [e] at hR
          have ho : mOld h (hs (hs (lyH (hs h 10 23 (nI (n + 1))) la (nI (aHd sg pl)) (nI t)) 10 32 0) 10 35 (nI (pl + 2))) fr la := mOld_ly (hs h 10 23 (nI (n + 1))) fr la (nI (aHd sg pl)) (nI t)
          obtain ⟨a1, a2, a3⟩ := ly_at (hs h 10 23 (nI (n + 1))) la (nI (aHd sg pl)) (nI t)
          exact hR _ _ ⟨rfl, ((((KM.refl h).hs (by omega)).ly).hs (by omega)).hs (by omega), fr, la + 1, 0, la + 1, m8, rfl, m19, rfl, rfl, Or.inl ⟨h64, rfl, by omega, Nat.le_refl _, a1, t, d, a2, a3.trans m33, by omega, mCh_ext ho (Nat.le_refl _) (Nat.le_succ _) hch⟩, fun _ => ⟨m38, rfl, m36, m37⟩, fun z => (by cases z), m39, m27, m28, ⟨rfl, m24, m25, m26, m46⟩, (fun j L z => (hkp j L z).imp (fun _ z => z.imp (fun _ z => z.imp (fun _ z => ⟨z.1, z.2.1, z.2.2.1, mSg_ext ho (Nat.le_refl _) (Nat.le_succ _) z.2.2.2⟩)))), by show fr ≤ 2 * (n + 1) + 1; omega, by omega⟩
      · intro e_62_f c_62_f
        exfalso; omega
    · intro e_45_f c_45_f
      exfalso; omega
  · intro e_7_f c_7_f
    exfalso; omega
set_option maxHeartbeats 4000000 in
theorem m_begin_push (l : Launch) {sg : Nat → Int32} {ln sz : Nat → Nat} {r : List Nat} (hB : aWB sg ln sz) (h : mH) (hM : MB sg ln sz h) {pl x k : Nat} {P : List aF} {K : List (List aF)} {n g u : Nat} {q : List Nat} (hJ : aJ sg sz r (true, pl, x, k, P, K, n, g, u, q)) (hRM : RM sg h (true, pl, x, k, P, K, n, g, u, q)) (hn : ¬ 200 ≤ n) (h0 : aOf (sg pl).toInt ≠ 0) (h64 : (sg pl).toInt ≠ 64) : mG l Sh0 iX8_begin [.inr 10] h (fun v h' => v = none ∧ KM h h' ∧ MO sg h' (aBeg sg pl x k P K n g u q)) := by
  obtain ⟨fr, la, t, d, m8, m15, m19, m32, m33, hch, hb, hb2, m39, m27, m28, ⟨m23, m24, m25, m26, m46⟩, hkp, hfr, hla⟩ := hRM
  obtain ⟨jx, jb, jP, jK, jn, jg, ju, jq, jc, gs, g1, g2, g3, g4⟩ := hJ
  obtain ⟨m38, m35, m36, m37⟩ := hb rfl
  obtain ⟨jV, jk, jd⟩ := jb rfl
  have hp8 : pl < 800 := jV.1
  have hsg : h 30 pl = sg pl := hM.1 pl hp8
  have hdot := (hB.2 pl jV).1
  have hfr : fr ≤ 2 * n + 1 := hfr
  obtain ⟨ht, hd9⟩ := mCh_le hch
  have h1 : 1 ≤ aOf (sg pl).toInt := by omega
  have hx0 : ¬ (sg pl).toInt = 120 := fun z => h0 (by rw [z]; decide)
  have hd0 : ¬ (48 ≤ (sg pl).toInt ∧ (sg pl).toInt ≤ 55) := fun z => h0 (by unfold aOf; rw [if_pos (Or.inl z)])
  have eF : aFs sg pl = pl + 1 := if_neg h64
  intro RT hR
  show mE l Sh0 none iX8_begin RT 0 [some (.inr 10), none] [] h
  refine e_aload_n (i := 0) dX8_begin_0 rfl rfl ?_
  refine e_getI (x := nI n) dX8_begin_1 fl_X8_135 sh_10 fj_10_23 m23 ?_
  refine e_sipush (v := 200) dX8_begin_4 (by decide) ?_
  refine b_icmp_ne (X := ((n : Nat) : Int)) (Y := 200) (tgt := 17) (nI_toInt (by omega)) (by decide) dX8_begin_7 (by decide) ?_ ?_
  · intro e_7_t c_7_t
    refine e_aload_n (i := 0) dX8_begin_17 rfl rfl ?_
    refine e_dup dX8_begin_18 ?_
    refine e_getI (x := nI n) dX8_begin_19 fl_X8_135 sh_10 fj_10_23 m23 ?_
    refine e_iconst (v := 1) dX8_begin_22 (by decide) ?_
    refine z_iadd (z := nI (n + 1)) (nI_addc _ 1) dX8_begin_23 ?_
    refine e_putI dX8_begin_24 fl_X8_135 fp_X8_23 sh_10 fj_10_23 ?_
    refine e_aload_n (i := 0) dX8_begin_27 rfl rfl ?_
    refine e_getR (r := 30) dX8_begin_28 fl_X8_16 sh_10 fj_10_3 ?_
    refine e_aload_n (i := 0) dX8_begin_31 rfl rfl ?_
    refine e_getI (x := nI pl) dX8_begin_32 fl_X8_153 sh_10 fj_10_35 m35 ?_
    refine e_iald (x := sg pl) dX8_begin_35 sh_30 (vin_ofX (X := ((pl : Nat) : Int)) (nI_toInt (by omega)) (by omega) (by omega)) (by rw [nI_clamp (by omega)]; exact hsg) ?_
    refine e_istore_n (i := 1) (ls2 := [some (.inr 10), some (.inl (sg pl))]) dX8_begin_36 rfl (Nat.le_of_ble_eq_true rfl) rfl ?_
    refine e_iload_n (i := 1) dX8_begin_37 rfl rfl ?_
    refine e_bipush (v := 48) dX8_begin_38 (by decide) ?_
    refine e_bipush (v := 55) dX8_begin_40 (by decide) ?_
    refine e_invSi (As := [.inl (sg pl), .inl 48, .inl 55]) (v := 0) (h2 := (hs h 10 23 (nI (n + 1)))) dX8_begin_42 lk_X8_85 ys_X8_in rfl rfl rfl (Nat.le_of_ble_eq_true rfl) (Nat.le_of_ble_eq_true rfl) ⟨Nat.le_of_ble_eq_true rfl, Nat.le_of_ble_eq_true rfl⟩ (k_M_in (Y := 48) (Z := 55) l (hs h 10 23 (nI (n + 1))) (sg pl) 48 55 rfl (by decide) (by decide) (if_neg hd0)) ?_
    refine b_if_eq (X := 0) (tgt := 59) (by decide) dX8_begin_45 (by decide) ?_ ?_
    · intro e_45_t c_45_t
      refine e_iload_n (i := 1) dX8_begin_59 rfl rfl ?_
      refine e_bipush (v := 120) dX8_begin_60 (by decide) ?_
      refine b_icmp_ne (X := (sg pl).toInt) (Y := 120) (tgt := 76) rfl (by decide) dX8_begin_62 (by decide) ?_ ?_
      · intro e_62_t c_62_t
        refine e_iload_n (i := 1) dX8_begin_76 rfl rfl ?_
        refine e_bipush (v := 64) dX8_begin_77 (by decide) ?_
        refine b_icmp_ne (X := (sg pl).toInt) (Y := 64) (tgt := 122) rfl (by decide) dX8_begin_79 (by decide) ?_ ?_
        · intro e_79_t c_79_t
          refine e_aload_n (i := 0) dX8_begin_122 rfl rfl ?_
          refine e_aload_n (i := 0) dX8_begin_123 rfl rfl ?_
          refine e_getI (x := nI pl) dX8_begin_124 fl_X8_153 sh_10 fj_10_35 m35 ?_
          refine e_iconst (v := 0) dX8_begin_127 (by decide) ?_
          refine e_aload_n (i := 0) dX8_begin_128 rfl rfl ?_
          refine e_getI (x := nI x) dX8_begin_129 fl_X8_156 sh_10 fj_10_36 m36 ?_
          refine e_aload_n (i := 0) dX8_begin_132 rfl rfl ?_
          refine e_getI (x := nI k) dX8_begin_133 fl_X8_159 sh_10 fj_10_37 m37 ?_
          refine e_iconst (v := 0) dX8_begin_136 (by decide) ?_
          refine e_invVv (As := [.inl (nI pl), .inl 0, .inl (nI x), .inl (nI k), .inl 0]) (h2 := (wtH (hs h 10 23 (nI (n + 1))) fr (nI pl) 0 (nI x) (nI k) 0)) (ty := .int) (v := 0) dX8_begin_137 lk_X8_181 yv_X8_wait rfl rfl rfl (Nat.le_of_ble_eq_true rfl) sh_10 ci_X8 (Nat.le_of_ble_eq_true rfl) ⟨Nat.le_of_ble_eq_true rfl, Nat.le_of_ble_eq_true rfl⟩ (k_M_wait l (hs h 10 23 (nI (n + 1))) fr m8 (by omega) (nI pl) 0 (nI x) (nI k) 0) ?_
          refine e_aload_n (i := 0) dX8_begin_140 rfl rfl ?_
          refine e_dup dX8_begin_141 ?_
          refine e_getI (x := nI pl) dX8_begin_142 fl_X8_153 sh_10 fj_10_35 m35 ?_
          refine e_iconst (v := 1) dX8_begin_145 (by decide) ?_
          refine z_iadd (z := nI (pl + 1)) (nI_addc _ 1) dX8_begin_146 ?_
          refine e_putI dX8_begin_147 fl_X8_153 fp_X8_35 sh_10 fj_10_35 ?_
          refine e_ret dX8_begin_150 rfl ?_
          have e : aBeg sg pl x k P K n g u q = .inl (true, pl + 1, x, k, (pl, x, k, 0) :: P, K, n + 1, g, u, q) := by unfold aBeg; rw [if_neg hn, if_neg hx0, if_neg h0, eF]
          rw [e] at hR
          have ho : mOld h (hs (wtH (hs h 10 23 (nI (n + 1))) fr (nI pl) 0 (nI x) (nI k) 0) 10 35 (nI (pl + 1))) fr la := mOld_wt (hs h 10 23 (nI (n + 1))) fr la (nI pl) 0 (nI x) (nI k) 0
          obtain ⟨a1, a2, a3, a4, a5, a6⟩ := wt_at (hs h 10 23 (nI (n + 1))) fr (nI pl) 0 (nI x) (nI k) 0
          exact hR _ _ ⟨rfl, (((KM.refl h).hs (by omega)).wt).hs (by omega), fr + 1, la, fr + 1, d, rfl, m15, m19, rfl, m33, Or.inr ⟨h64, by omega, Nat.le_refl _, ⟨a1, a2, a3, a4, fun z => absurd rfl z⟩, t, a6.trans m32, mCh_ext ho (Nat.le_succ _) (Nat.le_refl _) hch⟩, fun _ => ⟨m38, rfl, m36, m37⟩, fun z => (by cases z), m39, m27, m28, ⟨rfl, m24, m25, m26, m46⟩, (fun j L z => (hkp j L z).imp (fun _ z => z.imp (fun _ z => z.imp (fun _ z => ⟨z.1, z.2.1, z.2.2.1, mSg_ext ho (Nat.le_succ _) (Nat.le_refl _) z.2.2.2⟩)))), by show fr + 1 ≤ 2 * (n + 1) + 1; omega, by omega⟩
        · intro e_79_f c_79_f
          exfalso; omega
      · intro e_62_f c_62_f
        exfalso; omega
    · intro e_45_f c_45_f
      exfalso; omega
  · intro e_7_f c_7_f
    exfalso; omega
theorem m_begin (l : Launch) {sg : Nat → Int32} {ln sz : Nat → Nat} {r : List Nat} (hB : aWB sg ln sz) (h : mH) (hM : MB sg ln sz h) {pl x k : Nat} {P : List aF} {K : List (List aF)} {n g u : Nat} {q : List Nat} (hJ : aJ sg sz r (true, pl, x, k, P, K, n, g, u, q)) (hRM : RM sg h (true, pl, x, k, P, K, n, g, u, q)) : mG l Sh0 iX8_begin [.inr 10] h (fun v h' => v = none ∧ KM h h' ∧ MO sg h' (aBeg sg pl x k P K n g u q)) := by
  by_cases hn : 200 ≤ n
  · exact m_begin_spent l hB h hM hJ hRM hn
  · by_cases h0 : aOf (sg pl).toInt = 0
    · by_cases hx0 : (sg pl).toInt = 120
      · exact m_begin_x l hB h hM hJ hRM hn hx0
      · exact m_begin_digit l hB h hM hJ hRM hn (aOf_0 h0 hx0)
    · by_cases h64 : (sg pl).toInt = 64
      · exact m_begin_at l hB h hM hJ hRM hn h0 h64
      · exact m_begin_push l hB h hM hJ hRM hn h0 h64
