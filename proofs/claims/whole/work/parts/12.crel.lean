/-! The class's run: its cells, read as the machine's state. -/
theorem fa_and (a b : Nat) : nI a &&& nI b = nI (a &&& b) := by
  apply Int32.toBitVec_inj.1
  show BitVec.ofNat 32 a &&& BitVec.ofNat 32 b = BitVec.ofNat 32 (a &&& b)
  apply BitVec.eq_of_getLsbD_eq
  intro i hi
  simp [hi]
theorem fa_or (a b : Nat) : nI a ||| nI b = nI (a ||| b) := by
  apply Int32.toBitVec_inj.1
  show BitVec.ofNat 32 a ||| BitVec.ofNat 32 b = BitVec.ofNat 32 (a ||| b)
  apply BitVec.eq_of_getLsbD_eq
  intro i hi
  simp [hi]
theorem mark_place {pl w c : Nat} (hp : pl < 800) (hw : w < 16) (hc : c < 65536) : nI (pl + 1024 * w + 16384 * c) &&& 1023 = nI pl := by
  rw [pk_andN (by omega) 10 (by decide)]
  congr 1
  omega
theorem mark_call {pl w c : Nat} (hp : pl < 800) (hw : w < 16) (hc : c < 65536) : nI (pl + 1024 * w + 16384 * c) >>> (14 &&& 31) = nI c := by
  rw [pk_shrN (by omega) _ 14 (by decide)]
  congr 1
  omega
theorem mark_held {pl w c : Nat} (hp : pl < 800) (hw : w < 16) (hc : c < 65536) : ((nI (pl + 1024 * w + 16384 * c) >>> (10 &&& 31)) &&& 15) - 1 = dn w := by
  rw [pk_shrN (by omega) _ 10 (by decide), pk_andN (by omega) 4 (by decide)]
  unfold dn
  congr 2
  omega
theorem mark_push {pl c : Nat} (hp : pl < 800) (hc : c < 65536) : nI pl ||| (nI c <<< (14 &&& 31)) = nI (pl + 1024 * 0 + 16384 * c) := by
  rw [pk_shlN _ 14 (by decide) (by omega), fa_or]
  congr 1
  have h := Nat.two_pow_add_eq_or_of_lt (i := 14) (b := pl) (by omega) c
  rw [Nat.or_comm, Nat.mul_comm c, ← h]
  omega
theorem mark_hold {pl c v : Nat} (hp : pl < 800) (hc : c < 65536) (hv : v < 8) : nI (pl + 1024 * 0 + 16384 * c) ||| ((nI v + 1) <<< (10 &&& 31)) = nI (pl + 1024 * (v + 1) + 16384 * c) := by
  rw [nI_1, pk_shlN _ 10 (by decide) (by omega), fa_or]
  congr 1
  have e1 : pl + 1024 * 0 + 16384 * c = 16384 * c + pl := by omega
  have e2 : (v + 1) * 2 ^ 10 = 1024 * (v + 1) := by rw [show (2 : Nat) ^ 10 = 1024 from by decide]; omega
  have e3 : pl + 1024 * (v + 1) + 16384 * c = 16384 * c + (1024 * (v + 1) + pl) := by omega
  have h1 : 16384 * c + pl = 16384 * c ||| pl := Nat.two_pow_add_eq_or_of_lt (i := 14) (b := pl) (by omega) c
  have h2 : 1024 * (v + 1) + pl = 1024 * (v + 1) ||| pl := Nat.two_pow_add_eq_or_of_lt (i := 10) (b := pl) (by omega) (v + 1)
  have h3 : 16384 * c + (1024 * (v + 1) + pl) = 16384 * c ||| (1024 * (v + 1) + pl) := Nat.two_pow_add_eq_or_of_lt (i := 14) (b := 1024 * (v + 1) + pl) (by omega) c
  rw [e1, e2, e3, h1, h3, Nat.or_assoc, Nat.or_comm pl, ← h2]
/-! contracts with a named answer -/
theorem k_B_signX (l : Launch) (h : mH) (p : Nat) (hp : p < 800) {s : Int32} (e : h 13 p = s) : mD l Sh0 iX0_sign [.inr 2, .inl (nI p)] h (some s) h := by
  have q := k_B_sign l h (nI p)
  rw [gA_in hp (by omega), e] at q
  exact q
theorem k_B_afterX (l : Launch) (h : mH) (p : Nat) (hp : p < 800) {s : Int32} (e : h 14 p = s) : mD l Sh0 iX0_after [.inr 2, .inl (nI p)] h (some s) h := by
  have q := k_B_after l h (nI p)
  rw [gA_in hp (by omega), e] at q
  exact q
theorem k_B_sizeX (l : Launch) (h : mH) (p : Nat) (hp : p < 20) {s : Int32} (e : h 15 p = s) : mD l Sh0 iX0_size [.inr 2, .inl (nI p)] h (some s) h := by
  have q := k_B_size l h (nI p)
  rw [gA_in hp (by omega), e] at q
  exact q
theorem k_B_firstX (l : Launch) (h : mH) (sg : Nat → Int32) (p : Nat) (hp : p < 800) (e : h 13 p = sg p) : mD l Sh0 iX0_first [.inr 2, .inl (nI p)] h (some (nI (aFs sg p))) h := by
  have q := k_B_first l h (nI p)
  unfold cFirst at q
  rw [gA_in hp (by omega), e] at q
  unfold aFs
  by_cases z : (sg p).toInt = 64
  · rw [if_pos z, nI_addc] at q
    rw [if_pos z]
    exact q
  · rw [if_neg z, nI_addc] at q
    rw [if_neg z]
    exact q
theorem k_B_handX (l : Launch) (h : mH) (sg : Nat → Int32) (p : Nat) (hp : p + 1 < 800) (e : h 13 p = sg p) (e2 : h 13 (p + 1) = sg (p + 1)) (h64 : (sg p).toInt = 64) (hd : 48 ≤ (sg (p + 1)).toInt) : mD l Sh0 iX0_hand [.inr 2, .inl (nI p)] h (some (nI (aHd sg p))) h := by
  have q := k_B_hand l h (nI p)
  unfold cHand at q
  have e3 : (nI p).toInt = (p : Int) := nI_toInt (by omega)
  have e4 : h 13 (nI p).toInt.toNat = sg p := by rw [e3]; exact e
  have e5 : h 13 (nI p + 1).toInt.toNat = sg (p + 1) := by rw [nI_1, nI_toInt (by omega)]; exact e2
  rw [if_pos ⟨by omega, by omega, by rw [e4]; exact h64⟩, e5] at q
  have e6 : sg (p + 1) - 48 = nI (aHd sg p) := by
    have e7 : sg (p + 1) = nI (sg (p + 1)).toInt.toNat := nI_ofInt (by omega)
    have hhi := i32_hi (sg (p + 1))
    unfold aHd
    rw [e7, nI_subc 48 (by omega), nI_toInt (by omega)]
    congr 1
    omega
  rw [e6] at q
  exact q
theorem k_B_handN (l : Launch) (h : mH) (sg : Nat → Int32) (p : Nat) (hp : p < 800) (e : h 13 p = sg p) (h64 : (sg p).toInt ≠ 64) : mD l Sh0 iX0_hand [.inr 2, .inl (nI p)] h (some (-1)) h := by
  have q := k_B_hand l h (nI p)
  unfold cHand at q
  have e3 : (nI p).toInt = (p : Int) := nI_toInt (by omega)
  have e4 : h 13 (nI p).toInt.toNat = sg p := by rw [e3]; exact e
  rw [if_neg (fun z => h64 (by rw [← e4]; exact z.2.2))] at q
  exact q
theorem k_T_placeX (l : Launch) (h : mH) (i m : Nat) (hm : h 7 2 = nI m) (hi : i < m) (hM : m ≤ 8200) {pl w c : Nat} (e : h 20 i = nI (pl + 1024 * w + 16384 * c)) (hp : pl < 800) (hw : w < 16) (hc : c < 65536) : mD l Sh0 iX5_place [.inr 7, .inl (nI i)] h (some (nI pl)) h := by
  have q := k_T_place l h i m hm hi hM
  rw [e, mark_place hp hw hc] at q
  exact q
theorem k_T_callX (l : Launch) (h : mH) (i m : Nat) (hm : h 7 2 = nI m) (hi : i < m) (hM : m ≤ 8200) {pl w c : Nat} (e : h 20 i = nI (pl + 1024 * w + 16384 * c)) (hp : pl < 800) (hw : w < 16) (hc : c < 65536) : mD l Sh0 iX5_call [.inr 7, .inl (nI i)] h (some (nI c)) h := by
  have q := k_T_call l h i m hm hi hM
  rw [e, mark_call hp hw hc] at q
  exact q
theorem k_T_heldX (l : Launch) (h : mH) (i m : Nat) (hm : h 7 2 = nI m) (hi : i < m) (hM : m ≤ 8200) {pl w c : Nat} (e : h 20 i = nI (pl + 1024 * w + 16384 * c)) (hp : pl < 800) (hw : w < 16) (hc : c < 65536) : mD l Sh0 iX5_held [.inr 7, .inl (nI i)] h (some (dn w)) h := by
  have q := k_T_held l h i m hm hi hM
  rw [e, mark_held hp hw hc] at q
  exact q
theorem k_T_belowX (l : Launch) (h : mH) (i m : Nat) (hm : h 7 2 = nI m) (hi : i < m) (hM : m ≤ 8200) {s : Int32} (e : h 21 i = s) : mD l Sh0 iX5_below [.inr 7, .inl (nI i)] h (some s) h := by
  have q := k_T_below l h i m hm hi hM
  rw [e] at q
  exact q
theorem k_T_holdX (l : Launch) (h : mH) (i m : Nat) (hm : h 7 2 = nI m) (hi : i < m) (hM : m ≤ 8200) {pl c v : Nat} (e : h 20 i = nI (pl + 1024 * 0 + 16384 * c)) (hp : pl < 800) (hc : c < 65536) (hv : v < 8) : mD l Sh0 iX5_hold [.inr 7, .inl (nI i), .inl (nI v)] h none (hs h 20 i (nI (pl + 1024 * (v + 1) + 16384 * c))) := by
  have q := k_T_hold l h i m hm hi hM (nI v)
  rw [e, mark_hold hp hc hv] at q
  exact q
theorem k_T_pushX (l : Launch) (h : mH) (m : Nat) (hm : h 7 2 = nI m) (hM : m < 8200) {pl c : Nat} (hp : pl < 800) (hc : c < 65536) : mD l Sh0 iX5_push [.inr 7, .inl (nI pl), .inl (nI c)] h (some 1) (mkH (hs h 7 3 (nI m)) m (nI (pl + 1024 * 0 + 16384 * c)) (h 7 3)) := by
  have q := k_T_push l h m hm hM (nI pl) (nI c)
  rw [mark_push hp hc] at q
  exact q
theorem k_C_argumentX (l : Launch) (h : mH) (i m : Nat) (hm : h 8 3 = nI m) (hi : i < m) (hM : m ≤ 201) {s : Int32} (e : h 22 i = s) : mD l Sh0 iX1_argument [.inr 8, .inl (nI i)] h (some s) h := by
  have q := k_C_argument l h i m hm hi hM
  rw [e] at q
  exact q
theorem k_C_keptTopX (l : Launch) (h : mH) (i m : Nat) (hm : h 8 3 = nI m) (hi : i < m) (hM : m ≤ 201) {s : Int32} (e : h 23 i = s) : mD l Sh0 iX1_keptTop [.inr 8, .inl (nI i)] h (some s) h := by
  have q := k_C_keptTop l h i m hm hi hM
  rw [e] at q
  exact q
theorem k_C_keptHandX (l : Launch) (h : mH) (i m : Nat) (hm : h 8 3 = nI m) (hi : i < m) (hM : m ≤ 201) {s : Int32} (e : h 24 i = s) : mD l Sh0 iX1_keptHand [.inr 8, .inl (nI i)] h (some s) h := by
  have q := k_C_keptHand l h i m hm hi hM
  rw [e] at q
  exact q
theorem k_pageOfX (l : Launch) (h : mH) (a b : Nat) : mD l Sh0 iX7_pageOf [.inl (nI a), .inl (nI b)] h (some (nI (4 + 4 * a + b))) h := by
  have q := k_pageOf l h (nI a) (nI b)
  unfold cPage at q
  rw [nI_mulc, nI_addcl, nI_add, Nat.mul_comm a] at q
  exact q
/-! chains -/
def cK (h : mH) (KS : List (List Nat)) (c k : Nat) : Prop := k = 0 ∨ ∃ (nd : List Nat) (a b : Nat), KS[k - 1]? = some nd ∧ nd.head? = some a ∧ nd.getLast? = some b ∧ h 23 c = nI a ∧ h 24 c = nI b
def cFr (h : mH) (KS : List (List Nat)) (cm i : Nat) (F : aF) : Prop := ∃ c, c < cm ∧ h 20 i = nI (F.1 + 1024 * F.2.2.2 + 16384 * c) ∧ h 22 c = nI F.2.1 ∧ cK h KS c F.2.2.1
def chn (h : mH) (KS : List (List Nat)) (cm : Nat) : List Nat → List aF → Int32 → Int32 → Prop
  | [], [], t, e => t = e
  | i :: nd, F :: P, t, e => t = nI i ∧ cFr h KS cm i F ∧ chn h KS cm nd P (h 21 i) e
  | _, _, _, _ => False
theorem cK_ext {h h' : mH} {KS Z : List (List Nat)} {c k : Nat} (h3 : h' 23 c = h 23 c) (h4 : h' 24 c = h 24 c) (q : cK h KS c k) : cK h' (KS ++ Z) c k := by
  rcases q with q | ⟨nd, a, b, q1, q2, q3, q4, q5⟩
  · exact Or.inl q
  · refine Or.inr ⟨nd, a, b, ?_, q2, q3, by rw [h3]; exact q4, by rw [h4]; exact q5⟩
    rw [List.getElem?_append_left (List.getElem?_eq_some_iff.mp q1).1]
    exact q1
theorem cFr_ext {h h' : mH} {KS Z : List (List Nat)} {cm cm' i : Nat} (hcm : cm ≤ cm') (hc : ∀ c, c < cm → h' 22 c = h 22 c ∧ h' 23 c = h 23 c ∧ h' 24 c = h 24 c) (hi : h' 20 i = h 20 i) {F : aF} (q : cFr h KS cm i F) : cFr h' (KS ++ Z) cm' i F := by
  obtain ⟨c, q1, q2, q3, q4⟩ := q
  obtain ⟨c1, c2, c3⟩ := hc c q1
  exact ⟨c, Nat.lt_of_lt_of_le q1 hcm, by rw [hi]; exact q2, by rw [c1]; exact q3, cK_ext c2 c3 q4⟩
theorem chn_ext {h h' : mH} {KS Z : List (List Nat)} {cm cm' : Nat} (hcm : cm ≤ cm') (hc : ∀ c, c < cm → h' 22 c = h 22 c ∧ h' 23 c = h 23 c ∧ h' 24 c = h 24 c) : ∀ {nd : List Nat} {P : List aF} {t e : Int32}, (∀ i ∈ nd, h' 20 i = h 20 i ∧ h' 21 i = h 21 i) → chn h KS cm nd P t e → chn h' (KS ++ Z) cm' nd P t e
  | [], [], _, _, _, q => q
  | [], _ :: _, _, _, _, q => q.elim
  | _ :: _, [], _, _, _, q => q.elim
  | i :: nd, F :: P, t, e, hn, q => ⟨q.1, cFr_ext hcm hc (hn i List.mem_cons_self).1 q.2.1, by rw [(hn i List.mem_cons_self).2]; exact chn_ext hcm hc (fun j hj => hn j (List.mem_cons_of_mem _ hj)) q.2.2⟩
/-- only cells that a chain doesn't read have changed -/
theorem chn_same {h h' : mH} {KS : List (List Nat)} {cm : Nat} (h0 : h' 20 = h 20) (h1 : h' 21 = h 21) (h2 : h' 22 = h 22) (h3 : h' 23 = h 23) (h4 : h' 24 = h 24) {nd : List Nat} {P : List aF} {t e : Int32} (q : chn h KS cm nd P t e) : chn h' KS cm nd P t e := by
  have := chn_ext (h := h) (h' := h') (KS := KS) (Z := []) (Nat.le_refl cm) (fun c _ => ⟨by rw [h2], by rw [h3], by rw [h4]⟩) (fun i _ => ⟨by rw [h0], by rw [h1]⟩) q
  rwa [List.append_nil] at this
theorem chn_len {h : mH} {KS : List (List Nat)} {cm : Nat} : ∀ {nd : List Nat} {P : List aF} {t e : Int32}, chn h KS cm nd P t e → nd.length = P.length
  | [], [], _, _, _ => rfl
  | [], _ :: _, _, _, q => q.elim
  | _ :: _, [], _, _, q => q.elim
  | i :: nd, F :: P, t, e, q => by simp only [List.length_cons, chn_len q.2.2]
theorem chn_split {h : mH} {KS : List (List Nat)} {cm : Nat} : ∀ {A : List aF} {nd : List Nat} {G : aF} {C : List aF} {t e : Int32}, chn h KS cm nd (A ++ G :: C) t e → ∃ (nA : List Nat) (i : Nat) (nC : List Nat), nd = nA ++ i :: nC ∧ chn h KS cm nA A t (nI i) ∧ cFr h KS cm i G ∧ chn h KS cm nC C (h 21 i) e
  | [], [], _, _, _, _, q => q.elim
  | [], i :: nd, G, C, t, e, q => ⟨[], i, nd, rfl, q.1, q.2.1, q.2.2⟩
  | F :: A, [], _, _, _, _, q => q.elim
  | F :: A, i :: nd, G, C, t, e, q => by
    obtain ⟨nA, j, nC, e1, q1, q2, q3⟩ := chn_split (A := A) q.2.2
    exact ⟨i :: nA, j, nC, by rw [e1]; rfl, ⟨q.1, q.2.1, q1⟩, q2, q3⟩
theorem chn_join {h : mH} {KS : List (List Nat)} {cm : Nat} : ∀ {A : List aF} {nA nC : List Nat} {C : List aF} {t m e : Int32}, chn h KS cm nA A t m → chn h KS cm nC C m e → chn h KS cm (nA ++ nC) (A ++ C) t e
  | [], [], nC, C, t, m, e, q, q2 => by cases (show t = m from q); exact q2
  | [], _ :: _, _, _, _, _, _, q, _ => q.elim
  | _ :: _, [], _, _, _, _, _, q, _ => q.elim
  | F :: A, i :: nA, nC, C, t, m, e, q, q2 => ⟨q.1, q.2.1, chn_join q.2.2 q2⟩
/-- what the run leaves as it was -/
def KP (h h' : mH) : Prop := ∀ a, ¬ (6 ≤ a ∧ a ≤ 8 ∨ 19 ≤ a ∧ a ≤ 24) → h' a = h a
theorem KP.refl (h : mH) : KP h h := fun _ _ => rfl
theorem KP.trans {a b c : mH} (h1 : KP a b) (h2 : KP b c) : KP a c := fun k hk => (h2 k hk).trans (h1 k hk)
theorem KP.hs {h h' : mH} (q : KP h h') {k j : Nat} {v : Int32} (hk : 6 ≤ k ∧ k ≤ 8 ∨ 19 ≤ k ∧ k ≤ 24) : KP h (hs h' k j v) := fun a ha => by
  rw [hs_rown _ _ _ (fun z => ha (by rw [z]; exact hk))]
  exact q a ha
def RG (h : mH) (n g u : Nat) (q : List Nat) : Prop := h 6 10 = nI n ∧ h 6 11 = nI u ∧ h 6 14 = nI g ∧ h 6 15 = nI q.length ∧ ∀ i, i < q.length → i < 200 → h 19 i = nI (q.getD i 0)
/-- the class's cells hold the machine's state -/
def RC (rc : Nat) (h : mH) : aS → Prop
  | (b, pl, x, k, P, K, n, g, u, q) => ∃ (made cm : Nat) (nd : List Nat) (KS : List (List Nat)), h 6 4 = nI rc ∧ h 6 5 = (if b then 1 else 0) ∧ (b = true → h 6 6 = nI pl ∧ ∃ c, h 6 7 = nI c ∧ c < cm ∧ h 22 c = nI x ∧ cK h KS c k) ∧ (b = false → h 6 8 = nI x) ∧ h 6 9 = -1 ∧ h 6 12 = -6 ∧ h 6 13 = -6 ∧ RG h n g u q ∧ h 7 2 = nI made ∧ h 8 3 = nI cm ∧ chn h KS cm nd P (h 7 3) (-1) ∧ KS.length = K.length ∧ (∀ (j : Nat) (nj : List Nat) (L : List aF), KS[j]? = some nj → K[j]? = some L → ∃ t e, chn h KS cm nj L t e) ∧ (nd ++ KS.flatten).Nodup ∧ (∀ i ∈ nd ++ KS.flatten, i < made) ∧ made ≤ n + 200 * g ∧ cm + (if b then 0 else 1) ≤ n + 1
def RE (h : mH) : aE → Prop
  | (e, d, v, n, g, u, q) => (h 6 9).toInt = e ∧ (h 6 12).toInt = d ∧ (h 6 13).toInt = v ∧ RG h n g u q
def RO (rc : Nat) (h : mH) : aS ⊕ aE → Prop
  | .inl s => RC rc h s
  | .inr e => RE h e
def CB (sg : Nat → Int32) (ln sz : Nat → Nat) (h : mH) : Prop := (∀ pl, pl < 800 → h 13 pl = sg pl) ∧ (∀ p, p < 20 → h 15 p = nI (sz p)) ∧ ∀ pl, aV sg sz pl → h 14 pl = nI (pl + ln pl)
def CR (rc rr : Nat) (r : List Nat) (h : mH) : Prop := h rc 1 = nI r.length ∧ r.length ≤ 8 ∧ ∀ i, i < r.length → h rr i = nI (r.getD i 0)
