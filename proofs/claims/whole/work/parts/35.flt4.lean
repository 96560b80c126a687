/-! The class's fault finder. -/
def cDu (c : Nat → Int32) : Bool → List Nat → Prop
  | tp, [] => c 0 = nI (if tp then 1 else 0)
  | tp, d :: st => c (st.length + 1) = nI (if tp then d else d - 1) ∧ cDu c false st
def tv : List Nat → Nat
  | [] => 1
  | d :: _ => d
theorem cDu_tv {c : Nat → Int32} : ∀ {st : List Nat}, cDu c true st → c st.length = nI (tv st)
  | [], q => q
  | d :: st, q => q.1
theorem cDu_hi {c : Nat → Int32} {x : Int32} : ∀ {st : List Nat} {tp : Bool} {j : Nat}, st.length < j → cDu c tp st → cDu (upd c j x) tp st
  | [], tp, j, hj, q => by
    show upd c j x 0 = _
    rw [pk_un (by omega)]
    exact q
  | d :: st, tp, j, hj, q => by
    have hj : st.length + 1 < j := hj
    exact ⟨by rw [pk_un (by omega)]; exact q.1, cDu_hi (by omega) q.2⟩
theorem cDu_dec {c : Nat → Int32} : ∀ {st : List Nat}, cDu c true st → cDu (upd c st.length (nI (tv st - 1))) false st
  | [], q => by
    show upd c 0 (nI (1 - 1)) 0 = nI 0
    rw [pk_us]
  | d :: st, q => ⟨by show upd c (st.length + 1) (nI (d - 1)) (st.length + 1) = nI (d - 1); rw [pk_us], cDu_hi (by simp) q.2⟩
theorem dNx_pop {c : Nat → Int32} : ∀ {st : List Nat}, dOk st → cDu c false st → (popd st = [] → dNx c (st.length + 1) = -1) ∧ (popd st ≠ [] → dNx c (st.length + 1) = nI (popd st).length ∧ cDu c true (popd st))
  | [], _, q => by
    have q : c 0 = nI 0 := q
    refine ⟨fun _ => ?_, fun z => absurd rfl z⟩
    show (if 0 < (c 0).toInt then nI 0 else dNx c 0) = -1
    rw [q, if_neg (by decide)]
    rfl
  | d :: st, hok, q => by
    have hd := hok d List.mem_cons_self
    have hok2 : dOk st := fun z hz => hok z (List.mem_cons_of_mem _ hz)
    have q1 : c (st.length + 1) = nI (d - 1) := q.1
    have ih := dNx_pop hok2 q.2
    have e0 : dNx c ((d :: st).length + 1) = if 0 < (c (st.length + 1)).toInt then nI (st.length + 1) else dNx c (st.length + 1) := rfl
    rw [e0, q1, nI_toInt (by omega)]
    by_cases h1 : d = 1
    · have e1 : popd (d :: st) = popd st := by
        show (if d = 1 then popd st else (d - 1) :: st) = _
        rw [if_pos h1]
      rw [e1, if_neg (by omega)]
      exact ih
    · have e1 : popd (d :: st) = (d - 1) :: st := by
        show (if d = 1 then popd st else (d - 1) :: st) = _
        rw [if_neg h1]
      rw [e1, if_pos (by omega)]
      exact ⟨fun z => absurd z (by simp), fun _ => ⟨rfl, q1, q.2⟩⟩
theorem mP_aOf {x g : Int} (h : 0 ≤ (mP x g).toInt) : aOf x = (mP x g).toInt := by
  unfold mP at h ⊢
  unfold aOf
  by_cases c1 : x = 43 ∨ x = 45 ∨ x = 42 ∨ x = 109
  · rw [if_neg (by omega), if_neg (by omega), if_pos c1, if_pos c1]; rfl
  · rw [if_neg c1] at h ⊢
    by_cases c2 : x = 63
    · rw [if_neg (by omega), if_neg (by omega), if_neg c1, if_pos c2, if_pos c2]; rfl
    · rw [if_neg c2] at h ⊢
      by_cases c3 : x = 112 ∨ x = 113 ∨ x = 114 ∨ x = 64 ∨ (x = 107 ∧ g ≠ 0)
      · rw [if_pos c3, if_neg (by omega), if_pos (by omega), if_neg c1, if_neg c2]; rfl
      · rw [if_neg c3] at h ⊢
        by_cases c4 : (48 ≤ x ∧ x ≤ 55) ∨ x = 120
        · rw [if_pos c4, if_pos c4, if_neg c1, if_neg c2]; rfl
        · rw [if_neg c4] at h
          exact absurd h (by decide)
theorem cCan_0 {x d g : Int} (hd : d ≤ 9) (h : (mP x g).toInt < 0 ∨ (0 < (mP x g).toInt ∧ d = 9)) : cCan x d g = 0 := by
  unfold cCan
  refine if_neg (fun z => ?_)
  rcases h with h | h
  · have h2 : aOf x = 0 ∨ (0 < aOf x ∧ (g ≠ 0 ∨ x ≠ 107)) := by omega
    have h3 : 0 ≤ (mP x g).toInt := by
      unfold aOf at h2
      unfold mP
      by_cases c1 : x = 43 ∨ x = 45 ∨ x = 42 ∨ x = 109
      · rw [if_pos c1]; decide
      · rw [if_neg c1]
        by_cases c2 : x = 63
        · rw [if_pos c2]; decide
        · rw [if_neg c2]
          by_cases c3 : x = 112 ∨ x = 113 ∨ x = 114 ∨ x = 64 ∨ (x = 107 ∧ g ≠ 0)
          · rw [if_pos c3]; decide
          · rw [if_neg c3]
            by_cases c4 : (48 ≤ x ∧ x ≤ 55) ∨ x = 120
            · rw [if_pos c4]; decide
            · exfalso
              rw [if_neg c4] at h2
              by_cases c5 : x = 112 ∨ x = 113 ∨ x = 114 ∨ x = 107 ∨ x = 64
              · omega
              · rw [if_neg c5, if_neg c1, if_neg c2] at h2
                omega
    omega
  · have h4 := mP_aOf (x := x) (g := g) (by omega)
    omega
theorem cCan_1 {x d g : Int} (hd : d ≤ 9) (h : ¬ ((mP x g).toInt < 0 ∨ (0 < (mP x g).toInt ∧ d = 9))) : cCan x d g = 1 := by
  have h4 := mP_aOf (x := x) (g := g) (by omega)
  unfold cCan
  refine if_pos ?_
  by_cases hz : aOf x = 0
  · exact Or.inl hz
  · refine Or.inr ⟨by omega, by omega, ?_⟩
    by_cases h107 : x = 107
    · refine Or.inl (fun hg => ?_)
      rw [h107, hg] at h4
      exact absurd h4 (by decide)
    · exact Or.inr h107
set_option maxHeartbeats 1000000 in
theorem k_P_depth (l : Launch) (h : mH) (d : Nat) (hd : d ≤ 9) : mD l Sh0 iX2_depthOfNext [.inr 1, .inl (nI d)] h (some (dNx (h 12) (d + 1))) h := by
  intro RT hR
  show mE l Sh0 none iX2_depthOfNext RT 0 [some (.inr 1), some (.inl (nI d)), none] [] h
  refine e_iload_n (i := 1) dX2_depthOfNext_0 rfl rfl ?_
  refine e_istore_n (i := 2) (ls2 := [some (.inr 1), some (.inl (nI d)), some (.inl (nI d))]) dX2_depthOfNext_1 rfl (Nat.le_of_ble_eq_true rfl) rfl ?_
  rw [← dn_s]
  exact lp_P_depth l h _ RT (d + 1) (by omega) hR
theorem k_cHandSignX (l : Launch) (h : mH) (x : Int32) {v : Int32} (e : cHandSign x = v) : mD l Sh0 iX2_isHandSign [.inl x] h (some v) h := by
  have q := k_cHandSign l h x
  rw [e] at q
  exact q
