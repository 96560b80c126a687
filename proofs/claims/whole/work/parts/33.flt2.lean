/-! The first fault, over a list of what is still to come. -/
def popd : List Nat → List Nat
  | [] => []
  | d :: st => if d = 1 then popd st else (d - 1) :: st
/-- g: whether going on may be written; the list: of each open text how many of its own are not whole yet -/
def ff (pd : Nat → Int32) (n : Nat) (g : Int) : Nat → Nat → List Nat → Int
  | 0, _, _ => n
  | f + 1, k, st => if n ≤ k then n
    else if (mP (pd k).toInt g).toInt < 0 ∨ (0 < (mP (pd k).toInt g).toInt ∧ st.length = 9) then k
    else if (pd k).toInt = 64 then (if k + 1 < n ∧ ¬ (48 ≤ (pd (k + 1)).toInt ∧ (pd (k + 1)).toInt ≤ 51) then ((k + 1 : Nat) : Int) else ff pd n g f (k + 2) (1 :: st))
    else if 0 < (mP (pd k).toInt g).toInt then ff pd n g f (k + 1) ((mP (pd k).toInt g).toInt.toNat :: st)
    else if popd st = [] then (if k + 1 = n then -6 else ((k + 1 : Nat) : Int)) else ff pd n g f (k + 1) (popd st)
theorem mP_cases (x g : Int) : mP x g = 2 ∨ mP x g = 3 ∨ mP x g = 1 ∨ mP x g = 0 ∨ mP x g = -6 := by
  unfold mP
  repeat' split
  all_goals simp
theorem mP_64 (g : Int) : mP 64 g = 1 := by
  unfold mP
  rw [if_neg (by omega), if_neg (by omega), if_pos (by omega)]
def mDu (f : Nat → Int32) : List Nat → Prop
  | [] => True
  | d :: st => f st.length = nI d ∧ mDu f st
theorem mDu_up {f : Nat → Int32} {x : Int32} : ∀ {st : List Nat} {j : Nat}, st.length ≤ j → mDu f st → mDu (upd f j x) st
  | [], _, _, _ => trivial
  | d :: st, j, hj, q => ⟨by rw [pk_un (by simp only [List.length_cons] at hj; omega)]; exact q.1, mDu_up (by simp only [List.length_cons] at hj; omega) q.2⟩
def dOk (st : List Nat) : Prop := ∀ d ∈ st, 1 ≤ d ∧ d ≤ 3
theorem popd_ok : ∀ {st : List Nat}, dOk st → dOk (popd st) ∧ (popd st).length ≤ st.length
  | [], q => ⟨q, Nat.le_refl _⟩
  | d :: st, q => by
    have q2 : dOk st := fun z hz => q z (List.mem_cons_of_mem _ hz)
    have qd := q d List.mem_cons_self
    unfold popd
    split
    · obtain ⟨a, b⟩ := popd_ok q2
      exact ⟨a, by simp only [List.length_cons]; omega⟩
    · refine ⟨fun z hz => ?_, by simp⟩
      rcases List.mem_cons.mp hz with rfl | hz
      · omega
      · exact q2 z hz
theorem nI_sub0 (n : Nat) : nI n - 0 = nI n := Int32.sub_zero _
theorem lp_M_popx (l : Launch) (h : mH) (y1 y0 y2 y3 y4 : Option mV) (RT : Option Int32 → mH → Prop) (hk : mE l Sh0 none iX8_faultOf RT 182 [some (.inr 10), y1, y0, y2, y3, y4, some (.inl 0)] [] h) : mE l Sh0 none iX8_faultOf RT 115 [some (.inr 10), y1, y0, y2, y3, y4, some (.inl 0)] [] h := by
  refine e_iload dX8_faultOf_115 rfl ?_
  refine b_if_eq (X := 0) (tgt := 182) (by decide) dX8_faultOf_117 (by decide) ?_ ?_
  · intro _ _
    exact hk
  · intro e c
    exact absurd rfl e
set_option maxHeartbeats 2000000 in
theorem lp_M_pop (l : Launch) (h : mH) (y1 y2 y3 y4 : Option mV) (RT : Option Int32 → mH → Prop) : ∀ (st : List Nat) (f : Nat → Int32), st ≠ [] → dOk st → st.length ≤ 9 → mDu f st → (∀ f', mDu f' (popd st) → mE l Sh0 none iX8_faultOf RT 182 [some (.inr 10), y1, some (.inl (nI (popd st).length)), y2, y3, y4, some (.inl 0)] [] (hr h 33 f')) → mE l Sh0 none iX8_faultOf RT 115 [some (.inr 10), y1, some (.inl (nI st.length)), y2, y3, y4, some (.inl 1)] [] (hr h 33 f) := by
  intro st
  induction st with
  | nil => intro f hne; exact absurd rfl hne
  | cons d st ih =>
    intro f hne hok hlen hdu hk
    obtain ⟨u1, u2⟩ := hdu
    have hd := hok d List.mem_cons_self
    have hok2 : dOk st := fun z hz => hok z (List.mem_cons_of_mem _ hz)
    have hlen : st.length + 1 ≤ 9 := hlen
    obtain ⟨d, rfl⟩ : ∃ e, d = e + 1 := ⟨d - 1, by omega⟩
    have r1 : hr h 33 f 33 st.length = nI (d + 1) := by rw [hr_at]; exact u1
    have r2 : hs (hr h 33 f) 33 st.length (nI d) 33 st.length = nI d := hs_at _ _ _ _
    show mE l Sh0 none iX8_faultOf RT 115 [some (.inr 10), y1, some (.inl (nI (st.length + 1))), y2, y3, y4, some (.inl 1)] [] (hr h 33 f)
    refine e_iload dX8_faultOf_115 rfl ?_
    refine b_if_eq (X := 1) (tgt := 182) (by decide) dX8_faultOf_117 (by decide) ?_ ?_
    · intro e_117_t c_117_t
      exfalso; omega
    · intro e_117_f c_117_f
      refine e_aload_n (i := 0) dX8_faultOf_120 rfl rfl ?_
      refine e_getR (r := 33) dX8_faultOf_121 fl_X8_25 sh_10 fj_10_7 ?_
      refine e_iload_n (i := 2) dX8_faultOf_124 rfl rfl ?_
      refine e_iconst (v := 1) dX8_faultOf_125 (by decide) ?_
      refine z_isub (z := nI st.length) (nI_pred _) dX8_faultOf_126 ?_
      refine e_dup2 dX8_faultOf_127 ?_
      refine e_iald (x := nI (d + 1)) dX8_faultOf_128 sh_33 (vin_ofX (X := ((st.length : Nat) : Int)) (nI_toInt (by omega)) (by omega) (by omega)) (by rw [nI_clamp (by omega)]; exact r1) ?_
      refine e_iconst (v := 1) dX8_faultOf_129 (by decide) ?_
      refine z_isub (z := nI d) (nI_pred _) dX8_faultOf_130 ?_
      refine e_iast dX8_faultOf_131 sh_33 (vin_ofX (X := ((st.length : Nat) : Int)) (nI_toInt (by omega)) (by omega) (by omega)) ?_
      rw [nI_clamp (by omega)]
      refine e_aload_n (i := 0) dX8_faultOf_132 rfl rfl ?_
      refine e_getR (r := 33) dX8_faultOf_133 fl_X8_25 sh_10 fj_10_7 ?_
      refine e_iload_n (i := 2) dX8_faultOf_136 rfl rfl ?_
      refine e_iconst (v := 1) dX8_faultOf_137 (by decide) ?_
      refine z_isub (z := nI st.length) (nI_pred _) dX8_faultOf_138 ?_
      refine e_iald (x := nI d) dX8_faultOf_139 sh_33 (vin_ofX (X := ((st.length : Nat) : Int)) (nI_toInt (by omega)) (by omega) (by omega)) (by rw [nI_clamp (by omega)]; exact r2) ?_
      refine b_if_ne (X := ((d : Nat) : Int)) (tgt := 147) (nI_toInt (by omega)) dX8_faultOf_140 (by decide) ?_ ?_
      · intro e_140_t c_140_t
        refine e_iconst (v := 0) dX8_faultOf_147 (by decide) ?_
        refine e_istore (ls2 := [some (.inr 10), y1, some (.inl (nI (st.length + 1))), y2, y3, y4, some (.inl 0)]) dX8_faultOf_148 (Nat.le_of_ble_eq_true rfl) rfl ?_
        refine e_iload_n (i := 2) dX8_faultOf_150 rfl rfl ?_
        refine e_iload dX8_faultOf_151 rfl ?_
        refine b_if_eq (X := 0) (tgt := 160) (by decide) dX8_faultOf_153 (by decide) ?_ ?_
        · intro e_153_t c_153_t
          refine e_iconst (v := 0) dX8_faultOf_160 (by decide) ?_
          refine z_isub (z := nI (st.length + 1)) (nI_sub0 _) dX8_faultOf_161 ?_
          refine e_istore_n (i := 2) (ls2 := [some (.inr 10), y1, some (.inl (nI (st.length + 1))), y2, y3, y4, some (.inl 0)]) dX8_faultOf_162 rfl (Nat.le_of_ble_eq_true rfl) rfl ?_
          refine e_iload dX8_faultOf_163 rfl ?_
          refine b_if_eq (X := 0) (tgt := 176) (by decide) dX8_faultOf_165 (by decide) ?_ ?_
          · intro e_165_t c_165_t
            refine e_iconst (v := 0) dX8_faultOf_176 (by decide) ?_
            refine e_istore (ls2 := [some (.inr 10), y1, some (.inl (nI (st.length + 1))), y2, y3, y4, some (.inl 0)]) dX8_faultOf_177 (Nat.le_of_ble_eq_true rfl) rfl ?_
            refine e_goto (tgt := 115) dX8_faultOf_179 (by decide) ?_
            have e : popd ((d + 1) :: st) = d :: st := by
              show (if d + 1 = 1 then popd st else (d + 1 - 1) :: st) = _
              rw [if_neg (by omega)]
              rfl
            rw [hr_hs]
            refine lp_M_popx l _ y1 _ y2 y3 y4 RT ?_
            have q := hk (upd f st.length (nI d)) (by rw [e]; exact ⟨pk_us, mDu_up (Nat.le_refl _) u2⟩)
            rw [e, List.length_cons] at q
            exact q
          · intro e_165_f c_165_f
            exfalso; omega
        · intro e_153_f c_153_f
          exfalso; omega
      · intro e_140_f c_140_f
        refine e_iconst (v := 1) dX8_faultOf_143 (by decide) ?_
        refine e_goto (tgt := 148) dX8_faultOf_144 (by decide) ?_
        refine e_istore (ls2 := [some (.inr 10), y1, some (.inl (nI (st.length + 1))), y2, y3, y4, some (.inl 1)]) dX8_faultOf_148 (Nat.le_of_ble_eq_true rfl) rfl ?_
        refine e_iload_n (i := 2) dX8_faultOf_150 rfl rfl ?_
        refine e_iload dX8_faultOf_151 rfl ?_
        refine b_if_eq (X := 1) (tgt := 160) (by decide) dX8_faultOf_153 (by decide) ?_ ?_
        · intro e_153_t c_153_t
          exfalso; omega
        · intro e_153_f c_153_f
          refine e_iconst (v := 1) dX8_faultOf_156 (by decide) ?_
          refine e_goto (tgt := 161) dX8_faultOf_157 (by decide) ?_
          refine z_isub (z := nI st.length) (nI_pred _) dX8_faultOf_161 ?_
          refine e_istore_n (i := 2) (ls2 := [some (.inr 10), y1, some (.inl (nI st.length)), y2, y3, y4, some (.inl 1)]) dX8_faultOf_162 rfl (Nat.le_of_ble_eq_true rfl) rfl ?_
          refine e_iload dX8_faultOf_163 rfl ?_
          refine b_if_eq (X := 1) (tgt := 176) (by decide) dX8_faultOf_165 (by decide) ?_ ?_
          · intro e_165_t c_165_t
            exfalso; omega
          · intro e_165_f c_165_f
            refine e_iload_n (i := 2) dX8_faultOf_168 rfl rfl ?_
            refine b_if_le (X := ((st.length : Nat) : Int)) (tgt := 176) (nI_toInt (by omega)) dX8_faultOf_169 (by decide) ?_ ?_
            · intro c_169_t
              refine e_iconst (v := 0) dX8_faultOf_176 (by decide) ?_
              refine e_istore (ls2 := [some (.inr 10), y1, some (.inl (nI st.length)), y2, y3, y4, some (.inl 0)]) dX8_faultOf_177 (Nat.le_of_ble_eq_true rfl) rfl ?_
              refine e_goto (tgt := 115) dX8_faultOf_179 (by decide) ?_
              have hd0 : d = 0 := by omega
              have hst : st = [] := List.eq_nil_of_length_eq_zero (by omega)
              have e : popd ((d + 1) :: st) = st := by
                show (if d + 1 = 1 then popd st else (d + 1 - 1) :: st) = _
                rw [if_pos (by omega), hst]
                rfl
              rw [hr_hs]
              refine lp_M_popx l _ y1 _ y2 y3 y4 RT ?_
              have q := hk (upd f st.length (nI d)) (by rw [e, hst]; trivial)
              rw [e] at q
              exact q
            · intro c_169_f
              refine e_iconst (v := 1) dX8_faultOf_172 (by decide) ?_
              refine e_goto (tgt := 177) dX8_faultOf_173 (by decide) ?_
              refine e_istore (ls2 := [some (.inr 10), y1, some (.inl (nI st.length)), y2, y3, y4, some (.inl 1)]) dX8_faultOf_177 (Nat.le_of_ble_eq_true rfl) rfl ?_
              refine e_goto (tgt := 115) dX8_faultOf_179 (by decide) ?_
              have hd0 : d = 0 := by omega
              have e : popd ((d + 1) :: st) = popd st := by
                show (if d + 1 = 1 then popd st else (d + 1 - 1) :: st) = _
                rw [if_pos (by omega)]
              rw [hr_hs]
              exact ih (upd f st.length (nI d)) (fun z => by rw [z] at c_169_f; exact absurd c_169_f (by decide)) hok2 (by omega) (mDu_up (Nat.le_refl _) u2) (fun f' hf => by
                have q := hk f' (by rw [e]; exact hf)
                rw [e] at q
                exact q)
