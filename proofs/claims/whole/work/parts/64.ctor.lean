/-! Constructors of the inner classes. -/
theorem lk_X4_11 : mLk RX4 11 yX5_init := Or.inr ⟨"DeedHands", List.mem_of_getElem? (i := 119) (by decide +kernel)⟩
theorem lk_X4_20 : mLk RX4 20 yX1_init := Or.inr ⟨"DeedHands", List.mem_of_getElem? (i := 139) (by decide +kernel)⟩
theorem lk_X7_11 : mLk RX7 11 yX2_init := Or.inr ⟨"DeedHands", List.mem_of_getElem? (i := 63) (by decide +kernel)⟩
theorem lk_X7_18 : mLk RX7 18 yX0_init := Or.inr ⟨"DeedHands", List.mem_of_getElem? (i := 82) (by decide +kernel)⟩
theorem lk_X7_25 : mLk RX7 25 yX3_init := Or.inr ⟨"DeedHands", List.mem_of_getElem? (i := 98) (by decide +kernel)⟩
theorem lk_X7_38 : mLk RX7 38 yX4_init := Or.inl (wG_at 113 (by decide +kernel) rfl)
theorem lk_X7_47 : mLk RX7 47 yX6_init := Or.inl (wG_at 210 (by decide +kernel) rfl)
theorem lk_L_12 : mLk RL 12 yX8_init := Or.inl (wG_at 621 (by decide +kernel) rfl)
theorem lk_L_9 : mLk RL 9 yX7_init := Or.inl (wG_at 55 (by decide +kernel) rfl)
abbrev jX3_init : mI := (RX3, cX3_init, 1, none, { frames := 1, cells := 1, slots := 8, locals := 12 })
theorem nY_X3 : nY yX3_init jX3_init 0 := ⟨by decide +kernel, rfl, ⟨by decide +kernel, by decide +kernel, by decide +kernel⟩, wG_at 100 (by decide +kernel) rfl, wG_at 46 (by decide +kernel) rfl, rfl, wG_at 99 (by decide +kernel) rfl, rfl⟩
def wX3 (cI : ClassId) (h0 : Nat) (u : Nat → Nat) : va_W := [(h0, .inr (3, [.ref (u 0), .int 0])), ((u 0), .inl (cI, 8, .inl (fun _ => 0)))]
set_option maxHeartbeats 4000000 in
set_option maxRecDepth 100000 in
theorem c_X3_init (l : Launch) (D : va_G) (cI : ClassId) (h0 : Nat) : nMet l yX3_init jX3_init [.ref h0] D cI [(h0, .inr (3, [.null, .int 0]))] (wX3 cI h0) := by
  refine n_met (by decide +kernel) rfl rfl rfl (Nat.le_of_ble_eq_true rfl) ?_
  intro p e s m args below meth c Q A lr C hin Wd hl fin
  have hx := C.1
  have hb := C.2.1
  have hml := C.2.2.1
  have hown := C.2.2.2.2.2.1
  have hts := C.2.2.2.2.2.2.1
  have hK := C.2.2.2.2.2.2.2.2.1
  have hA := C.2.2.2.2.2.2.2.2.2.1
  obtain ⟨hP, hD, hS⟩ := Wd
  have hP : va_P D vwCl [(h0, .inr (3, [.null, .int 0]))] s.heap := hP
  have hD : va_D A [(h0, .inr (3, [.null, .int 0]))] := hD
  have hl : lv_has lr 1 [(0, .ref h0)] := hl
  refine lv_aload_n hx hb dX3_init_0 rfl (lv_at hl 0 rfl) ?_
  refine W.objInit hx hb hown (hts (.methodLink RX3 3 Lib.objectInit) (wG_at 101 (by decide +kernel) rfl)) (hts (.instanceMethod Lib.objectInit) (wG_at 59 (by decide +kernel) rfl)) (hts (.code Lib.objectInit ⟨#[0xb1]⟩ 1 none) (wG_at 60 (by decide +kernel) rfl)) rfl (by rw [hml]; exact hl.1) rfl dX3_init_1 (Nat.le_of_ble_eq_true rfl) (Nat.le_of_ble_eq_true rfl) ?_
  refine W.eq (g2 := F0 m 4 lr []) rfl ?_
  refine lv_aload_n hx hb dX3_init_4 rfl (lv_at hl 0 rfl) ?_
  refine lv_bipush (v := 8) hx hb dX3_init_5 (by decide) ?_
  refine n_newa (N := 8) C ⟨hP, hD, hS⟩ (by decide) (by decide) (Nat.le_of_ble_eq_true rfl) (Nat.le_of_ble_eq_true rfl) dX3_init_7 (fun q7 H Wd => ?_)
  obtain ⟨hP, hD, hS⟩ := Wd
  have hP : va_P D vwCl [(h0, .inr (3, [.null, .int 0])), (q7, .inl (cI, 8, .inl (fun _ => 0)))] H := hP
  have hD : va_D A [(h0, .inr (3, [.null, .int 0])), (q7, .inl (cI, 8, .inl (fun _ => 0)))] := hD
  refine W.widen (k := 1) (n := 8) (Nat.le_of_ble_eq_true rfl) (Nat.le_of_ble_eq_true rfl) ?_
  refine va_putF (D := D) (ci := 3) (v := .ref q7) (ty := .array .int) (C := RX3) (T := TX3) (N := 2) hx hb hts inX3 tyX3 tyX3_ok nmX3 hown hK hP hD hS 0 rfl rfl 0 (by decide) (hts (.fieldLink RX3 9 "DeedHands$Row" "values" "[I") (wG_at 102 (by decide +kernel) rfl)) (fun _ h9 => h9) rfl hin rfl (by decide +kernel) rfl rfl (Nat.le_of_ble_eq_true rfl) dX3_init_9 (fun H locs hP hD hS => ?_)
  have hP : va_P D vwCl [(h0, .inr (3, [.ref q7, .int 0])), (q7, .inl (cI, 8, .inl (fun _ => 0)))] H := hP
  have hD : va_D A [(h0, .inr (3, [.ref q7, .int 0])), (q7, .inl (cI, 8, .inl (fun _ => 0)))] := hD
  exact fin (fun k => [q7].getD k 0) H locs _ lr ⟨hP, hD, hS⟩ dX3_init_12
abbrev jX2_init : mI := (RX2, cX2_init, 1, none, { frames := 1, cells := 2, slots := 50, locals := 12 })
theorem nY_X2 : nY yX2_init jX2_init 0 := ⟨by decide +kernel, rfl, ⟨by decide +kernel, by decide +kernel, by decide +kernel⟩, wG_at 65 (by decide +kernel) rfl, wG_at 44 (by decide +kernel) rfl, rfl, wG_at 64 (by decide +kernel) rfl, rfl⟩
def wX2 (cI : ClassId) (h0 : Nat) (u : Nat → Nat) : va_W := [(h0, .inr (2, [.ref (u 0), .ref (u 1), .int 0])), ((u 0), .inl (cI, 40, .inl (fun _ => 0))), ((u 1), .inl (cI, 10, .inl (fun _ => 0)))]
set_option maxHeartbeats 4000000 in
set_option maxRecDepth 100000 in
theorem c_X2_init (l : Launch) (D : va_G) (cI : ClassId) (h0 : Nat) : nMet l yX2_init jX2_init [.ref h0] D cI [(h0, .inr (2, [.null, .null, .int 0]))] (wX2 cI h0) := by
  refine n_met (by decide +kernel) rfl rfl rfl (Nat.le_of_ble_eq_true rfl) ?_
  intro p e s m args below meth c Q A lr C hin Wd hl fin
  have hx := C.1
  have hb := C.2.1
  have hml := C.2.2.1
  have hown := C.2.2.2.2.2.1
  have hts := C.2.2.2.2.2.2.1
  have hK := C.2.2.2.2.2.2.2.2.1
  have hA := C.2.2.2.2.2.2.2.2.2.1
  obtain ⟨hP, hD, hS⟩ := Wd
  have hP : va_P D vwCl [(h0, .inr (2, [.null, .null, .int 0]))] s.heap := hP
  have hD : va_D A [(h0, .inr (2, [.null, .null, .int 0]))] := hD
  have hl : lv_has lr 1 [(0, .ref h0)] := hl
  refine lv_aload_n hx hb dX2_init_0 rfl (lv_at hl 0 rfl) ?_
  refine W.objInit hx hb hown (hts (.methodLink RX2 3 Lib.objectInit) (wG_at 66 (by decide +kernel) rfl)) (hts (.instanceMethod Lib.objectInit) (wG_at 59 (by decide +kernel) rfl)) (hts (.code Lib.objectInit ⟨#[0xb1]⟩ 1 none) (wG_at 60 (by decide +kernel) rfl)) rfl (by rw [hml]; exact hl.1) rfl dX2_init_1 (Nat.le_of_ble_eq_true rfl) (Nat.le_of_ble_eq_true rfl) ?_
  refine W.eq (g2 := F0 m 4 lr []) rfl ?_
  refine lv_aload_n hx hb dX2_init_4 rfl (lv_at hl 0 rfl) ?_
  refine lv_bipush (v := 40) hx hb dX2_init_5 (by decide) ?_
  refine n_newa (N := 40) C ⟨hP, hD, hS⟩ (by decide) (by decide) (Nat.le_of_ble_eq_true rfl) (Nat.le_of_ble_eq_true rfl) dX2_init_7 (fun q7 H Wd => ?_)
  obtain ⟨hP, hD, hS⟩ := Wd
  have hP : va_P D vwCl [(h0, .inr (2, [.null, .null, .int 0])), (q7, .inl (cI, 40, .inl (fun _ => 0)))] H := hP
  have hD : va_D A [(h0, .inr (2, [.null, .null, .int 0])), (q7, .inl (cI, 40, .inl (fun _ => 0)))] := hD
  refine W.widen (k := 1) (n := 40) (Nat.le_of_ble_eq_true rfl) (Nat.le_of_ble_eq_true rfl) ?_
  refine va_putF (D := D) (ci := 2) (v := .ref q7) (ty := .array .int) (C := RX2) (T := TX2) (N := 3) hx hb hts inX2 tyX2 tyX2_ok nmX2 hown hK hP hD hS 0 rfl rfl 0 (by decide) (hts (.fieldLink RX2 9 "DeedHands$Pad" "signs" "[I") (wG_at 67 (by decide +kernel) rfl)) (fun _ h9 => h9) rfl hin rfl (by decide +kernel) rfl rfl (Nat.le_of_ble_eq_true rfl) dX2_init_9 (fun H locs hP hD hS => ?_)
  have hP : va_P D vwCl [(h0, .inr (2, [.ref q7, .null, .int 0])), (q7, .inl (cI, 40, .inl (fun _ => 0)))] H := hP
  have hD : va_D A [(h0, .inr (2, [.ref q7, .null, .int 0])), (q7, .inl (cI, 40, .inl (fun _ => 0)))] := hD
  refine lv_aload_n hx hb dX2_init_12 rfl (lv_at hl 0 rfl) ?_
  refine lv_bipush (v := 10) hx hb dX2_init_13 (by decide) ?_
  refine n_newa (N := 10) C ⟨hP, hD, hS⟩ (by decide) (by decide) (Nat.le_of_ble_eq_true rfl) (Nat.le_of_ble_eq_true rfl) dX2_init_15 (fun q15 H Wd => ?_)
  obtain ⟨hP, hD, hS⟩ := Wd
  have hP : va_P D vwCl [(h0, .inr (2, [.ref q7, .null, .int 0])), (q7, .inl (cI, 40, .inl (fun _ => 0))), (q15, .inl (cI, 10, .inl (fun _ => 0)))] H := hP
  have hD : va_D A [(h0, .inr (2, [.ref q7, .null, .int 0])), (q7, .inl (cI, 40, .inl (fun _ => 0))), (q15, .inl (cI, 10, .inl (fun _ => 0)))] := hD
  refine W.widen (k := 2) (n := 50) (Nat.le_of_ble_eq_true rfl) (Nat.le_of_ble_eq_true rfl) ?_
  refine va_putF (D := D) (ci := 2) (v := .ref q15) (ty := .array .int) (C := RX2) (T := TX2) (N := 3) hx hb hts inX2 tyX2 tyX2_ok nmX2 hown hK hP hD hS 0 rfl rfl 1 (by decide) (hts (.fieldLink RX2 15 "DeedHands$Pad" "due" "[I") (wG_at 68 (by decide +kernel) rfl)) (fun _ h9 => h9) rfl hin rfl (by decide +kernel) rfl rfl (Nat.le_of_ble_eq_true rfl) dX2_init_17 (fun H locs hP hD hS => ?_)
  have hP : va_P D vwCl [(h0, .inr (2, [.ref q7, .ref q15, .int 0])), (q7, .inl (cI, 40, .inl (fun _ => 0))), (q15, .inl (cI, 10, .inl (fun _ => 0)))] H := hP
  have hD : va_D A [(h0, .inr (2, [.ref q7, .ref q15, .int 0])), (q7, .inl (cI, 40, .inl (fun _ => 0))), (q15, .inl (cI, 10, .inl (fun _ => 0)))] := hD
  exact fin (fun k => [q7, q15].getD k 0) H locs _ lr ⟨hP, hD, hS⟩ dX2_init_20
abbrev jX0_init : mI := (RX0, cX0_init, 1, none, { frames := 1, cells := 3, slots := 1620, locals := 12 })
theorem nY_X0 : nY yX0_init jX0_init 0 := ⟨by decide +kernel, rfl, ⟨by decide +kernel, by decide +kernel, by decide +kernel⟩, wG_at 84 (by decide +kernel) rfl, wG_at 45 (by decide +kernel) rfl, rfl, wG_at 83 (by decide +kernel) rfl, rfl⟩
def wX0 (cI : ClassId) (h0 : Nat) (u : Nat → Nat) : va_W := [(h0, .inr (0, [.ref (u 0), .ref (u 1), .ref (u 2)])), ((u 0), .inl (cI, 800, .inl (fun _ => 0))), ((u 1), .inl (cI, 800, .inl (fun _ => 0))), ((u 2), .inl (cI, 20, .inl (fun _ => 0)))]
set_option maxHeartbeats 4000000 in
set_option maxRecDepth 100000 in
theorem c_X0_init (l : Launch) (D : va_G) (cI : ClassId) (h0 : Nat) : nMet l yX0_init jX0_init [.ref h0] D cI [(h0, .inr (0, [.null, .null, .null]))] (wX0 cI h0) := by
  refine n_met (by decide +kernel) rfl rfl rfl (Nat.le_of_ble_eq_true rfl) ?_
  intro p e s m args below meth c Q A lr C hin Wd hl fin
  have hx := C.1
  have hb := C.2.1
  have hml := C.2.2.1
  have hown := C.2.2.2.2.2.1
  have hts := C.2.2.2.2.2.2.1
  have hK := C.2.2.2.2.2.2.2.2.1
  have hA := C.2.2.2.2.2.2.2.2.2.1
  obtain ⟨hP, hD, hS⟩ := Wd
  have hP : va_P D vwCl [(h0, .inr (0, [.null, .null, .null]))] s.heap := hP
  have hD : va_D A [(h0, .inr (0, [.null, .null, .null]))] := hD
  have hl : lv_has lr 1 [(0, .ref h0)] := hl
  refine lv_aload_n hx hb dX0_init_0 rfl (lv_at hl 0 rfl) ?_
  refine W.objInit hx hb hown (hts (.methodLink RX0 3 Lib.objectInit) (wG_at 85 (by decide +kernel) rfl)) (hts (.instanceMethod Lib.objectInit) (wG_at 59 (by decide +kernel) rfl)) (hts (.code Lib.objectInit ⟨#[0xb1]⟩ 1 none) (wG_at 60 (by decide +kernel) rfl)) rfl (by rw [hml]; exact hl.1) rfl dX0_init_1 (Nat.le_of_ble_eq_true rfl) (Nat.le_of_ble_eq_true rfl) ?_
  refine W.eq (g2 := F0 m 4 lr []) rfl ?_
  refine lv_aload_n hx hb dX0_init_4 rfl (lv_at hl 0 rfl) ?_
  refine lv_sipush (v := 800) hx hb dX0_init_5 (by decide) ?_
  refine n_newa (N := 800) C ⟨hP, hD, hS⟩ (by decide) (by decide) (Nat.le_of_ble_eq_true rfl) (Nat.le_of_ble_eq_true rfl) dX0_init_8 (fun q8 H Wd => ?_)
  obtain ⟨hP, hD, hS⟩ := Wd
  have hP : va_P D vwCl [(h0, .inr (0, [.null, .null, .null])), (q8, .inl (cI, 800, .inl (fun _ => 0)))] H := hP
  have hD : va_D A [(h0, .inr (0, [.null, .null, .null])), (q8, .inl (cI, 800, .inl (fun _ => 0)))] := hD
  refine W.widen (k := 1) (n := 800) (Nat.le_of_ble_eq_true rfl) (Nat.le_of_ble_eq_true rfl) ?_
  refine va_putF (D := D) (ci := 0) (v := .ref q8) (ty := .array .int) (C := RX0) (T := TX0) (N := 3) hx hb hts inX0 tyX0 tyX0_ok nmX0 hown hK hP hD hS 0 rfl rfl 0 (by decide) (hts (.fieldLink RX0 9 "DeedHands$Book" "signs" "[I") (wG_at 86 (by decide +kernel) rfl)) (fun _ h9 => h9) rfl hin rfl (by decide +kernel) rfl rfl (Nat.le_of_ble_eq_true rfl) dX0_init_10 (fun H locs hP hD hS => ?_)
  have hP : va_P D vwCl [(h0, .inr (0, [.ref q8, .null, .null])), (q8, .inl (cI, 800, .inl (fun _ => 0)))] H := hP
  have hD : va_D A [(h0, .inr (0, [.ref q8, .null, .null])), (q8, .inl (cI, 800, .inl (fun _ => 0)))] := hD
  refine lv_aload_n hx hb dX0_init_13 rfl (lv_at hl 0 rfl) ?_
  refine lv_sipush (v := 800) hx hb dX0_init_14 (by decide) ?_
  refine n_newa (N := 800) C ⟨hP, hD, hS⟩ (by decide) (by decide) (Nat.le_of_ble_eq_true rfl) (Nat.le_of_ble_eq_true rfl) dX0_init_17 (fun q17 H Wd => ?_)
  obtain ⟨hP, hD, hS⟩ := Wd
  have hP : va_P D vwCl [(h0, .inr (0, [.ref q8, .null, .null])), (q8, .inl (cI, 800, .inl (fun _ => 0))), (q17, .inl (cI, 800, .inl (fun _ => 0)))] H := hP
  have hD : va_D A [(h0, .inr (0, [.ref q8, .null, .null])), (q8, .inl (cI, 800, .inl (fun _ => 0))), (q17, .inl (cI, 800, .inl (fun _ => 0)))] := hD
  refine W.widen (k := 2) (n := 1600) (Nat.le_of_ble_eq_true rfl) (Nat.le_of_ble_eq_true rfl) ?_
  refine va_putF (D := D) (ci := 0) (v := .ref q17) (ty := .array .int) (C := RX0) (T := TX0) (N := 3) hx hb hts inX0 tyX0 tyX0_ok nmX0 hown hK hP hD hS 0 rfl rfl 1 (by decide) (hts (.fieldLink RX0 15 "DeedHands$Book" "afters" "[I") (wG_at 87 (by decide +kernel) rfl)) (fun _ h9 => h9) rfl hin rfl (by decide +kernel) rfl rfl (Nat.le_of_ble_eq_true rfl) dX0_init_19 (fun H locs hP hD hS => ?_)
  have hP : va_P D vwCl [(h0, .inr (0, [.ref q8, .ref q17, .null])), (q8, .inl (cI, 800, .inl (fun _ => 0))), (q17, .inl (cI, 800, .inl (fun _ => 0)))] H := hP
  have hD : va_D A [(h0, .inr (0, [.ref q8, .ref q17, .null])), (q8, .inl (cI, 800, .inl (fun _ => 0))), (q17, .inl (cI, 800, .inl (fun _ => 0)))] := hD
  refine lv_aload_n hx hb dX0_init_22 rfl (lv_at hl 0 rfl) ?_
  refine lv_bipush (v := 20) hx hb dX0_init_23 (by decide) ?_
  refine n_newa (N := 20) C ⟨hP, hD, hS⟩ (by decide) (by decide) (Nat.le_of_ble_eq_true rfl) (Nat.le_of_ble_eq_true rfl) dX0_init_25 (fun q25 H Wd => ?_)
  obtain ⟨hP, hD, hS⟩ := Wd
  have hP : va_P D vwCl [(h0, .inr (0, [.ref q8, .ref q17, .null])), (q8, .inl (cI, 800, .inl (fun _ => 0))), (q17, .inl (cI, 800, .inl (fun _ => 0))), (q25, .inl (cI, 20, .inl (fun _ => 0)))] H := hP
  have hD : va_D A [(h0, .inr (0, [.ref q8, .ref q17, .null])), (q8, .inl (cI, 800, .inl (fun _ => 0))), (q17, .inl (cI, 800, .inl (fun _ => 0))), (q25, .inl (cI, 20, .inl (fun _ => 0)))] := hD
  refine W.widen (k := 3) (n := 1620) (Nat.le_of_ble_eq_true rfl) (Nat.le_of_ble_eq_true rfl) ?_
  refine va_putF (D := D) (ci := 0) (v := .ref q25) (ty := .array .int) (C := RX0) (T := TX0) (N := 3) hx hb hts inX0 tyX0 tyX0_ok nmX0 hown hK hP hD hS 0 rfl rfl 2 (by decide) (hts (.fieldLink RX0 18 "DeedHands$Book" "sizes" "[I") (wG_at 88 (by decide +kernel) rfl)) (fun _ h9 => h9) rfl hin rfl (by decide +kernel) rfl rfl (Nat.le_of_ble_eq_true rfl) dX0_init_27 (fun H locs hP hD hS => ?_)
  have hP : va_P D vwCl [(h0, .inr (0, [.ref q8, .ref q17, .ref q25])), (q8, .inl (cI, 800, .inl (fun _ => 0))), (q17, .inl (cI, 800, .inl (fun _ => 0))), (q25, .inl (cI, 20, .inl (fun _ => 0)))] H := hP
  have hD : va_D A [(h0, .inr (0, [.ref q8, .ref q17, .ref q25])), (q8, .inl (cI, 800, .inl (fun _ => 0))), (q17, .inl (cI, 800, .inl (fun _ => 0))), (q25, .inl (cI, 20, .inl (fun _ => 0)))] := hD
  exact fin (fun k => [q8, q17, q25].getD k 0) H locs _ lr ⟨hP, hD, hS⟩ dX0_init_30
abbrev jX5_init : mI := (RX5, cX5_init, 1, none, { frames := 1, cells := 2, slots := 16400, locals := 12 })
theorem nY_X5 : nY yX5_init jX5_init 0 := ⟨by decide +kernel, rfl, ⟨by decide +kernel, by decide +kernel, by decide +kernel⟩, wG_at 121 (by decide +kernel) rfl, wG_at 48 (by decide +kernel) rfl, rfl, wG_at 120 (by decide +kernel) rfl, rfl⟩
def wX5 (cI : ClassId) (h0 : Nat) (u : Nat → Nat) : va_W := [(h0, .inr (5, [.ref (u 0), .ref (u 1), .int 0, .int 0])), ((u 0), .inl (cI, 8200, .inl (fun _ => 0))), ((u 1), .inl (cI, 8200, .inl (fun _ => 0)))]
set_option maxHeartbeats 4000000 in
set_option maxRecDepth 100000 in
theorem c_X5_init (l : Launch) (D : va_G) (cI : ClassId) (h0 : Nat) : nMet l yX5_init jX5_init [.ref h0] D cI [(h0, .inr (5, [.null, .null, .int 0, .int 0]))] (wX5 cI h0) := by
  refine n_met (by decide +kernel) rfl rfl rfl (Nat.le_of_ble_eq_true rfl) ?_
  intro p e s m args below meth c Q A lr C hin Wd hl fin
  have hx := C.1
  have hb := C.2.1
  have hml := C.2.2.1
  have hown := C.2.2.2.2.2.1
  have hts := C.2.2.2.2.2.2.1
  have hK := C.2.2.2.2.2.2.2.2.1
  have hA := C.2.2.2.2.2.2.2.2.2.1
  obtain ⟨hP, hD, hS⟩ := Wd
  have hP : va_P D vwCl [(h0, .inr (5, [.null, .null, .int 0, .int 0]))] s.heap := hP
  have hD : va_D A [(h0, .inr (5, [.null, .null, .int 0, .int 0]))] := hD
  have hl : lv_has lr 1 [(0, .ref h0)] := hl
  refine lv_aload_n hx hb dX5_init_0 rfl (lv_at hl 0 rfl) ?_
  refine W.objInit hx hb hown (hts (.methodLink RX5 3 Lib.objectInit) (wG_at 122 (by decide +kernel) rfl)) (hts (.instanceMethod Lib.objectInit) (wG_at 59 (by decide +kernel) rfl)) (hts (.code Lib.objectInit ⟨#[0xb1]⟩ 1 none) (wG_at 60 (by decide +kernel) rfl)) rfl (by rw [hml]; exact hl.1) rfl dX5_init_1 (Nat.le_of_ble_eq_true rfl) (Nat.le_of_ble_eq_true rfl) ?_
  refine W.eq (g2 := F0 m 4 lr []) rfl ?_
  refine lv_aload_n hx hb dX5_init_4 rfl (lv_at hl 0 rfl) ?_
  refine lv_sipush (v := 8200) hx hb dX5_init_5 (by decide) ?_
  refine n_newa (N := 8200) C ⟨hP, hD, hS⟩ (by decide) (by decide) (Nat.le_of_ble_eq_true rfl) (Nat.le_of_ble_eq_true rfl) dX5_init_8 (fun q8 H Wd => ?_)
  obtain ⟨hP, hD, hS⟩ := Wd
  have hP : va_P D vwCl [(h0, .inr (5, [.null, .null, .int 0, .int 0])), (q8, .inl (cI, 8200, .inl (fun _ => 0)))] H := hP
  have hD : va_D A [(h0, .inr (5, [.null, .null, .int 0, .int 0])), (q8, .inl (cI, 8200, .inl (fun _ => 0)))] := hD
  refine W.widen (k := 1) (n := 8200) (Nat.le_of_ble_eq_true rfl) (Nat.le_of_ble_eq_true rfl) ?_
  refine va_putF (D := D) (ci := 5) (v := .ref q8) (ty := .array .int) (C := RX5) (T := TX5) (N := 4) hx hb hts inX5 tyX5 tyX5_ok nmX5 hown hK hP hD hS 0 rfl rfl 0 (by decide) (hts (.fieldLink RX5 11 "DeedHands$Waiting" "marks" "[I") (wG_at 123 (by decide +kernel) rfl)) (fun _ h9 => h9) rfl hin rfl (by decide +kernel) rfl rfl (Nat.le_of_ble_eq_true rfl) dX5_init_10 (fun H locs hP hD hS => ?_)
  have hP : va_P D vwCl [(h0, .inr (5, [.ref q8, .null, .int 0, .int 0])), (q8, .inl (cI, 8200, .inl (fun _ => 0)))] H := hP
  have hD : va_D A [(h0, .inr (5, [.ref q8, .null, .int 0, .int 0])), (q8, .inl (cI, 8200, .inl (fun _ => 0)))] := hD
  refine lv_aload_n hx hb dX5_init_13 rfl (lv_at hl 0 rfl) ?_
  refine lv_sipush (v := 8200) hx hb dX5_init_14 (by decide) ?_
  refine n_newa (N := 8200) C ⟨hP, hD, hS⟩ (by decide) (by decide) (Nat.le_of_ble_eq_true rfl) (Nat.le_of_ble_eq_true rfl) dX5_init_17 (fun q17 H Wd => ?_)
  obtain ⟨hP, hD, hS⟩ := Wd
  have hP : va_P D vwCl [(h0, .inr (5, [.ref q8, .null, .int 0, .int 0])), (q8, .inl (cI, 8200, .inl (fun _ => 0))), (q17, .inl (cI, 8200, .inl (fun _ => 0)))] H := hP
  have hD : va_D A [(h0, .inr (5, [.ref q8, .null, .int 0, .int 0])), (q8, .inl (cI, 8200, .inl (fun _ => 0))), (q17, .inl (cI, 8200, .inl (fun _ => 0)))] := hD
  refine W.widen (k := 2) (n := 16400) (Nat.le_of_ble_eq_true rfl) (Nat.le_of_ble_eq_true rfl) ?_
  refine va_putF (D := D) (ci := 5) (v := .ref q17) (ty := .array .int) (C := RX5) (T := TX5) (N := 4) hx hb hts inX5 tyX5 tyX5_ok nmX5 hown hK hP hD hS 0 rfl rfl 1 (by decide) (hts (.fieldLink RX5 15 "DeedHands$Waiting" "belows" "[I") (wG_at 124 (by decide +kernel) rfl)) (fun _ h9 => h9) rfl hin rfl (by decide +kernel) rfl rfl (Nat.le_of_ble_eq_true rfl) dX5_init_19 (fun H locs hP hD hS => ?_)
  have hP : va_P D vwCl [(h0, .inr (5, [.ref q8, .ref q17, .int 0, .int 0])), (q8, .inl (cI, 8200, .inl (fun _ => 0))), (q17, .inl (cI, 8200, .inl (fun _ => 0)))] H := hP
  have hD : va_D A [(h0, .inr (5, [.ref q8, .ref q17, .int 0, .int 0])), (q8, .inl (cI, 8200, .inl (fun _ => 0))), (q17, .inl (cI, 8200, .inl (fun _ => 0)))] := hD
  exact fin (fun k => [q8, q17].getD k 0) H locs _ lr ⟨hP, hD, hS⟩ dX5_init_22
abbrev jX1_init : mI := (RX1, cX1_init, 1, none, { frames := 1, cells := 3, slots := 603, locals := 12 })
theorem nY_X1 : nY yX1_init jX1_init 0 := ⟨by decide +kernel, rfl, ⟨by decide +kernel, by decide +kernel, by decide +kernel⟩, wG_at 141 (by decide +kernel) rfl, wG_at 49 (by decide +kernel) rfl, rfl, wG_at 140 (by decide +kernel) rfl, rfl⟩
def wX1 (cI : ClassId) (h0 : Nat) (u : Nat → Nat) : va_W := [(h0, .inr (1, [.ref (u 0), .ref (u 1), .ref (u 2), .int 0])), ((u 0), .inl (cI, 201, .inl (fun _ => 0))), ((u 1), .inl (cI, 201, .inl (fun _ => 0))), ((u 2), .inl (cI, 201, .inl (fun _ => 0)))]
set_option maxHeartbeats 4000000 in
set_option maxRecDepth 100000 in
theorem c_X1_init (l : Launch) (D : va_G) (cI : ClassId) (h0 : Nat) : nMet l yX1_init jX1_init [.ref h0] D cI [(h0, .inr (1, [.null, .null, .null, .int 0]))] (wX1 cI h0) := by
  refine n_met (by decide +kernel) rfl rfl rfl (Nat.le_of_ble_eq_true rfl) ?_
  intro p e s m args below meth c Q A lr C hin Wd hl fin
  have hx := C.1
  have hb := C.2.1
  have hml := C.2.2.1
  have hown := C.2.2.2.2.2.1
  have hts := C.2.2.2.2.2.2.1
  have hK := C.2.2.2.2.2.2.2.2.1
  have hA := C.2.2.2.2.2.2.2.2.2.1
  obtain ⟨hP, hD, hS⟩ := Wd
  have hP : va_P D vwCl [(h0, .inr (1, [.null, .null, .null, .int 0]))] s.heap := hP
  have hD : va_D A [(h0, .inr (1, [.null, .null, .null, .int 0]))] := hD
  have hl : lv_has lr 1 [(0, .ref h0)] := hl
  refine lv_aload_n hx hb dX1_init_0 rfl (lv_at hl 0 rfl) ?_
  refine W.objInit hx hb hown (hts (.methodLink RX1 3 Lib.objectInit) (wG_at 142 (by decide +kernel) rfl)) (hts (.instanceMethod Lib.objectInit) (wG_at 59 (by decide +kernel) rfl)) (hts (.code Lib.objectInit ⟨#[0xb1]⟩ 1 none) (wG_at 60 (by decide +kernel) rfl)) rfl (by rw [hml]; exact hl.1) rfl dX1_init_1 (Nat.le_of_ble_eq_true rfl) (Nat.le_of_ble_eq_true rfl) ?_
  refine W.eq (g2 := F0 m 4 lr []) rfl ?_
  refine lv_aload_n hx hb dX1_init_4 rfl (lv_at hl 0 rfl) ?_
  refine lv_sipush (v := 201) hx hb dX1_init_5 (by decide) ?_
  refine n_newa (N := 201) C ⟨hP, hD, hS⟩ (by decide) (by decide) (Nat.le_of_ble_eq_true rfl) (Nat.le_of_ble_eq_true rfl) dX1_init_8 (fun q8 H Wd => ?_)
  obtain ⟨hP, hD, hS⟩ := Wd
  have hP : va_P D vwCl [(h0, .inr (1, [.null, .null, .null, .int 0])), (q8, .inl (cI, 201, .inl (fun _ => 0)))] H := hP
  have hD : va_D A [(h0, .inr (1, [.null, .null, .null, .int 0])), (q8, .inl (cI, 201, .inl (fun _ => 0)))] := hD
  refine W.widen (k := 1) (n := 201) (Nat.le_of_ble_eq_true rfl) (Nat.le_of_ble_eq_true rfl) ?_
  refine va_putF (D := D) (ci := 1) (v := .ref q8) (ty := .array .int) (C := RX1) (T := TX1) (N := 4) hx hb hts inX1 tyX1 tyX1_ok nmX1 hown hK hP hD hS 0 rfl rfl 0 (by decide) (hts (.fieldLink RX1 11 "DeedHands$Calls" "arguments" "[I") (wG_at 143 (by decide +kernel) rfl)) (fun _ h9 => h9) rfl hin rfl (by decide +kernel) rfl rfl (Nat.le_of_ble_eq_true rfl) dX1_init_10 (fun H locs hP hD hS => ?_)
  have hP : va_P D vwCl [(h0, .inr (1, [.ref q8, .null, .null, .int 0])), (q8, .inl (cI, 201, .inl (fun _ => 0)))] H := hP
  have hD : va_D A [(h0, .inr (1, [.ref q8, .null, .null, .int 0])), (q8, .inl (cI, 201, .inl (fun _ => 0)))] := hD
  refine lv_aload_n hx hb dX1_init_13 rfl (lv_at hl 0 rfl) ?_
  refine lv_sipush (v := 201) hx hb dX1_init_14 (by decide) ?_
  refine n_newa (N := 201) C ⟨hP, hD, hS⟩ (by decide) (by decide) (Nat.le_of_ble_eq_true rfl) (Nat.le_of_ble_eq_true rfl) dX1_init_17 (fun q17 H Wd => ?_)
  obtain ⟨hP, hD, hS⟩ := Wd
  have hP : va_P D vwCl [(h0, .inr (1, [.ref q8, .null, .null, .int 0])), (q8, .inl (cI, 201, .inl (fun _ => 0))), (q17, .inl (cI, 201, .inl (fun _ => 0)))] H := hP
  have hD : va_D A [(h0, .inr (1, [.ref q8, .null, .null, .int 0])), (q8, .inl (cI, 201, .inl (fun _ => 0))), (q17, .inl (cI, 201, .inl (fun _ => 0)))] := hD
  refine W.widen (k := 2) (n := 402) (Nat.le_of_ble_eq_true rfl) (Nat.le_of_ble_eq_true rfl) ?_
  refine va_putF (D := D) (ci := 1) (v := .ref q17) (ty := .array .int) (C := RX1) (T := TX1) (N := 4) hx hb hts inX1 tyX1 tyX1_ok nmX1 hown hK hP hD hS 0 rfl rfl 1 (by decide) (hts (.fieldLink RX1 15 "DeedHands$Calls" "keptTops" "[I") (wG_at 144 (by decide +kernel) rfl)) (fun _ h9 => h9) rfl hin rfl (by decide +kernel) rfl rfl (Nat.le_of_ble_eq_true rfl) dX1_init_19 (fun H locs hP hD hS => ?_)
  have hP : va_P D vwCl [(h0, .inr (1, [.ref q8, .ref q17, .null, .int 0])), (q8, .inl (cI, 201, .inl (fun _ => 0))), (q17, .inl (cI, 201, .inl (fun _ => 0)))] H := hP
  have hD : va_D A [(h0, .inr (1, [.ref q8, .ref q17, .null, .int 0])), (q8, .inl (cI, 201, .inl (fun _ => 0))), (q17, .inl (cI, 201, .inl (fun _ => 0)))] := hD
  refine lv_aload_n hx hb dX1_init_22 rfl (lv_at hl 0 rfl) ?_
  refine lv_sipush (v := 201) hx hb dX1_init_23 (by decide) ?_
  refine n_newa (N := 201) C ⟨hP, hD, hS⟩ (by decide) (by decide) (Nat.le_of_ble_eq_true rfl) (Nat.le_of_ble_eq_true rfl) dX1_init_26 (fun q26 H Wd => ?_)
  obtain ⟨hP, hD, hS⟩ := Wd
  have hP : va_P D vwCl [(h0, .inr (1, [.ref q8, .ref q17, .null, .int 0])), (q8, .inl (cI, 201, .inl (fun _ => 0))), (q17, .inl (cI, 201, .inl (fun _ => 0))), (q26, .inl (cI, 201, .inl (fun _ => 0)))] H := hP
  have hD : va_D A [(h0, .inr (1, [.ref q8, .ref q17, .null, .int 0])), (q8, .inl (cI, 201, .inl (fun _ => 0))), (q17, .inl (cI, 201, .inl (fun _ => 0))), (q26, .inl (cI, 201, .inl (fun _ => 0)))] := hD
  refine W.widen (k := 3) (n := 603) (Nat.le_of_ble_eq_true rfl) (Nat.le_of_ble_eq_true rfl) ?_
  refine va_putF (D := D) (ci := 1) (v := .ref q26) (ty := .array .int) (C := RX1) (T := TX1) (N := 4) hx hb hts inX1 tyX1 tyX1_ok nmX1 hown hK hP hD hS 0 rfl rfl 2 (by decide) (hts (.fieldLink RX1 18 "DeedHands$Calls" "keptHands" "[I") (wG_at 145 (by decide +kernel) rfl)) (fun _ h9 => h9) rfl hin rfl (by decide +kernel) rfl rfl (Nat.le_of_ble_eq_true rfl) dX1_init_28 (fun H locs hP hD hS => ?_)
  have hP : va_P D vwCl [(h0, .inr (1, [.ref q8, .ref q17, .ref q26, .int 0])), (q8, .inl (cI, 201, .inl (fun _ => 0))), (q17, .inl (cI, 201, .inl (fun _ => 0))), (q26, .inl (cI, 201, .inl (fun _ => 0)))] H := hP
  have hD : va_D A [(h0, .inr (1, [.ref q8, .ref q17, .ref q26, .int 0])), (q8, .inl (cI, 201, .inl (fun _ => 0))), (q17, .inl (cI, 201, .inl (fun _ => 0))), (q26, .inl (cI, 201, .inl (fun _ => 0)))] := hD
  exact fin (fun k => [q8, q17, q26].getD k 0) H locs _ lr ⟨hP, hD, hS⟩ dX1_init_31
abbrev jX6_init : mI := (RX6, cX6_init, 2, none, { frames := 1, cells := 3, slots := 1604, locals := 12 })
theorem nY_X6 : nY yX6_init jX6_init 1 := ⟨by decide +kernel, rfl, ⟨by decide +kernel, by decide +kernel, by decide +kernel⟩, wG_at 212 (by decide +kernel) rfl, wG_at 50 (by decide +kernel) rfl, rfl, wG_at 211 (by decide +kernel) rfl, rfl⟩
def wX6 (cI : ClassId) (h0 b1 : Nat) (u : Nat → Nat) : va_W := [(h0, .inr (6, [.ref b1, .ref (u 0), .ref (u 1), .ref (u 2)])), ((u 0), .inl (cI, 800, .inl (fun _ => 0))), ((u 1), .inl (cI, 800, .inl (fun _ => 0))), ((u 2), .inl (cI, 4, .inl (fun _ => 0)))]
set_option maxHeartbeats 4000000 in
set_option maxRecDepth 100000 in
theorem c_X6_init (l : Launch) (D : va_G) (cI : ClassId) (h0 b1 : Nat) : nMet l yX6_init jX6_init [.ref h0, .ref b1] D cI [(h0, .inr (6, [.null, .null, .null, .null]))] (wX6 cI h0 b1) := by
  refine n_met (by decide +kernel) rfl rfl rfl (Nat.le_of_ble_eq_true rfl) ?_
  intro p e s m args below meth c Q A lr C hin Wd hl fin
  have hx := C.1
  have hb := C.2.1
  have hml := C.2.2.1
  have hown := C.2.2.2.2.2.1
  have hts := C.2.2.2.2.2.2.1
  have hK := C.2.2.2.2.2.2.2.2.1
  have hA := C.2.2.2.2.2.2.2.2.2.1
  obtain ⟨hP, hD, hS⟩ := Wd
  have hP : va_P D vwCl [(h0, .inr (6, [.null, .null, .null, .null]))] s.heap := hP
  have hD : va_D A [(h0, .inr (6, [.null, .null, .null, .null]))] := hD
  have hl : lv_has lr 2 [(0, .ref h0), (1, .ref b1)] := hl
  refine lv_aload_n hx hb dX6_init_0 rfl (lv_at hl 0 rfl) ?_
  refine W.objInit hx hb hown (hts (.methodLink RX6 3 Lib.objectInit) (wG_at 213 (by decide +kernel) rfl)) (hts (.instanceMethod Lib.objectInit) (wG_at 59 (by decide +kernel) rfl)) (hts (.code Lib.objectInit ⟨#[0xb1]⟩ 1 none) (wG_at 60 (by decide +kernel) rfl)) rfl (by rw [hml]; exact hl.1) rfl dX6_init_1 (Nat.le_of_ble_eq_true rfl) (Nat.le_of_ble_eq_true rfl) ?_
  refine W.eq (g2 := F0 m 4 lr []) rfl ?_
  refine lv_aload_n hx hb dX6_init_4 rfl (lv_at hl 0 rfl) ?_
  refine lv_sipush (v := 800) hx hb dX6_init_5 (by decide) ?_
  refine n_newa (N := 800) C ⟨hP, hD, hS⟩ (by decide) (by decide) (Nat.le_of_ble_eq_true rfl) (Nat.le_of_ble_eq_true rfl) dX6_init_8 (fun q8 H Wd => ?_)
  obtain ⟨hP, hD, hS⟩ := Wd
  have hP : va_P D vwCl [(h0, .inr (6, [.null, .null, .null, .null])), (q8, .inl (cI, 800, .inl (fun _ => 0)))] H := hP
  have hD : va_D A [(h0, .inr (6, [.null, .null, .null, .null])), (q8, .inl (cI, 800, .inl (fun _ => 0)))] := hD
  refine W.widen (k := 1) (n := 800) (Nat.le_of_ble_eq_true rfl) (Nat.le_of_ble_eq_true rfl) ?_
  refine va_putF (D := D) (ci := 6) (v := .ref q8) (ty := .array .int) (C := RX6) (T := TX6) (N := 4) hx hb hts inX6 tyX6 tyX6_ok nmX6 hown hK hP hD hS 0 rfl rfl 1 (by decide) (hts (.fieldLink RX6 9 "DeedHands$Written" "asks" "[I") (wG_at 215 (by decide +kernel) rfl)) (fun _ h9 => h9) rfl hin rfl (by decide +kernel) rfl rfl (Nat.le_of_ble_eq_true rfl) dX6_init_10 (fun H locs hP hD hS => ?_)
  have hP : va_P D vwCl [(h0, .inr (6, [.null, .ref q8, .null, .null])), (q8, .inl (cI, 800, .inl (fun _ => 0)))] H := hP
  have hD : va_D A [(h0, .inr (6, [.null, .ref q8, .null, .null])), (q8, .inl (cI, 800, .inl (fun _ => 0)))] := hD
  refine lv_aload_n hx hb dX6_init_13 rfl (lv_at hl 0 rfl) ?_
  refine lv_sipush (v := 800) hx hb dX6_init_14 (by decide) ?_
  refine n_newa (N := 800) C ⟨hP, hD, hS⟩ (by decide) (by decide) (Nat.le_of_ble_eq_true rfl) (Nat.le_of_ble_eq_true rfl) dX6_init_17 (fun q17 H Wd => ?_)
  obtain ⟨hP, hD, hS⟩ := Wd
  have hP : va_P D vwCl [(h0, .inr (6, [.null, .ref q8, .null, .null])), (q8, .inl (cI, 800, .inl (fun _ => 0))), (q17, .inl (cI, 800, .inl (fun _ => 0)))] H := hP
  have hD : va_D A [(h0, .inr (6, [.null, .ref q8, .null, .null])), (q8, .inl (cI, 800, .inl (fun _ => 0))), (q17, .inl (cI, 800, .inl (fun _ => 0)))] := hD
  refine W.widen (k := 2) (n := 1600) (Nat.le_of_ble_eq_true rfl) (Nat.le_of_ble_eq_true rfl) ?_
  refine va_putF (D := D) (ci := 6) (v := .ref q17) (ty := .array .int) (C := RX6) (T := TX6) (N := 4) hx hb hts inX6 tyX6 tyX6_ok nmX6 hown hK hP hD hS 0 rfl rfl 2 (by decide) (hts (.fieldLink RX6 15 "DeedHands$Written" "counts" "[I") (wG_at 216 (by decide +kernel) rfl)) (fun _ h9 => h9) rfl hin rfl (by decide +kernel) rfl rfl (Nat.le_of_ble_eq_true rfl) dX6_init_19 (fun H locs hP hD hS => ?_)
  have hP : va_P D vwCl [(h0, .inr (6, [.null, .ref q8, .ref q17, .null])), (q8, .inl (cI, 800, .inl (fun _ => 0))), (q17, .inl (cI, 800, .inl (fun _ => 0)))] H := hP
  have hD : va_D A [(h0, .inr (6, [.null, .ref q8, .ref q17, .null])), (q8, .inl (cI, 800, .inl (fun _ => 0))), (q17, .inl (cI, 800, .inl (fun _ => 0)))] := hD
  refine lv_aload_n hx hb dX6_init_22 rfl (lv_at hl 0 rfl) ?_
  refine lv_iconst (v := 4) hx hb dX6_init_23 (by decide) ?_
  refine n_newa (N := 4) C ⟨hP, hD, hS⟩ (by decide) (by decide) (Nat.le_of_ble_eq_true rfl) (Nat.le_of_ble_eq_true rfl) dX6_init_24 (fun q24 H Wd => ?_)
  obtain ⟨hP, hD, hS⟩ := Wd
  have hP : va_P D vwCl [(h0, .inr (6, [.null, .ref q8, .ref q17, .null])), (q8, .inl (cI, 800, .inl (fun _ => 0))), (q17, .inl (cI, 800, .inl (fun _ => 0))), (q24, .inl (cI, 4, .inl (fun _ => 0)))] H := hP
  have hD : va_D A [(h0, .inr (6, [.null, .ref q8, .ref q17, .null])), (q8, .inl (cI, 800, .inl (fun _ => 0))), (q17, .inl (cI, 800, .inl (fun _ => 0))), (q24, .inl (cI, 4, .inl (fun _ => 0)))] := hD
  refine W.widen (k := 3) (n := 1604) (Nat.le_of_ble_eq_true rfl) (Nat.le_of_ble_eq_true rfl) ?_
  refine va_putF (D := D) (ci := 6) (v := .ref q24) (ty := .array .int) (C := RX6) (T := TX6) (N := 4) hx hb hts inX6 tyX6 tyX6_ok nmX6 hown hK hP hD hS 0 rfl rfl 3 (by decide) (hts (.fieldLink RX6 18 "DeedHands$Written" "within" "[I") (wG_at 217 (by decide +kernel) rfl)) (fun _ h9 => h9) rfl hin rfl (by decide +kernel) rfl rfl (Nat.le_of_ble_eq_true rfl) dX6_init_26 (fun H locs hP hD hS => ?_)
  have hP : va_P D vwCl [(h0, .inr (6, [.null, .ref q8, .ref q17, .ref q24])), (q8, .inl (cI, 800, .inl (fun _ => 0))), (q17, .inl (cI, 800, .inl (fun _ => 0))), (q24, .inl (cI, 4, .inl (fun _ => 0)))] H := hP
  have hD : va_D A [(h0, .inr (6, [.null, .ref q8, .ref q17, .ref q24])), (q8, .inl (cI, 800, .inl (fun _ => 0))), (q17, .inl (cI, 800, .inl (fun _ => 0))), (q24, .inl (cI, 4, .inl (fun _ => 0)))] := hD
  refine lv_aload_n hx hb dX6_init_29 rfl (lv_at hl 0 rfl) ?_
  refine lv_aload_n hx hb dX6_init_30 rfl (lv_at hl 1 rfl) ?_
  refine va_putF (D := D) (ci := 6) (v := .ref b1) (ty := .object "DeedHands$Book") (C := RX6) (T := TX6) (N := 4) hx hb hts inX6 tyX6 tyX6_ok nmX6 hown hK hP hD hS 0 rfl rfl 0 (by decide) (hts (.fieldLink RX6 21 "DeedHands$Written" "book" "LDeedHands$Book;") (wG_at 214 (by decide +kernel) rfl)) (fun _ h9 => h9) rfl hin rfl (by decide +kernel) rfl rfl (Nat.le_of_ble_eq_true rfl) dX6_init_31 (fun H locs hP hD hS => ?_)
  have hP : va_P D vwCl [(h0, .inr (6, [.ref b1, .ref q8, .ref q17, .ref q24])), (q8, .inl (cI, 800, .inl (fun _ => 0))), (q17, .inl (cI, 800, .inl (fun _ => 0))), (q24, .inl (cI, 4, .inl (fun _ => 0)))] H := hP
  have hD : va_D A [(h0, .inr (6, [.ref b1, .ref q8, .ref q17, .ref q24])), (q8, .inl (cI, 800, .inl (fun _ => 0))), (q17, .inl (cI, 800, .inl (fun _ => 0))), (q24, .inl (cI, 4, .inl (fun _ => 0)))] := hD
  exact fin (fun k => [q8, q17, q24].getD k 0) H locs _ lr ⟨hP, hD, hS⟩ dX6_init_34
abbrev jX4_init : mI := (RX4, cX4_init, 3, none, { frames := 2, cells := 8, slots := 17211, locals := 32 })
theorem nY_X4 : nY yX4_init jX4_init 2 := ⟨by decide +kernel, rfl, ⟨by decide +kernel, by decide +kernel, by decide +kernel⟩, wG_at 115 (by decide +kernel) rfl, wG_at 47 (by decide +kernel) rfl, rfl, wG_at 114 (by decide +kernel) rfl, rfl⟩
def wX4 (cI : ClassId) (h0 b1 b2 : Nat) (u : Nat → Nat) : va_W := [(h0, .inr (4, [.ref b1, .ref (u 0), .ref (u 3), .ref (u 7), .ref b2, .int 0, .int 0, .int 0, .int 0, .int 0, .int 0, .int 0, .int 0, .int 0, .int 0, .int 0])), ((u 0), .inr (5, [.ref (u 1), .ref (u 2), .int 0, .int 0])), ((u 1), .inl (cI, 8200, .inl (fun _ => 0))), ((u 2), .inl (cI, 8200, .inl (fun _ => 0))), ((u 3), .inr (1, [.ref (u 4), .ref (u 5), .ref (u 6), .int 0])), ((u 4), .inl (cI, 201, .inl (fun _ => 0))), ((u 5), .inl (cI, 201, .inl (fun _ => 0))), ((u 6), .inl (cI, 201, .inl (fun _ => 0))), ((u 7), .inl (cI, 200, .inl (fun _ => 0)))]
set_option maxHeartbeats 4000000 in
set_option maxRecDepth 100000 in
theorem c_X4_init (l : Launch) (D : va_G) (cI : ClassId) (h0 b1 b2 : Nat) : nMet l yX4_init jX4_init [.ref h0, .ref b1, .ref b2] D cI [(h0, .inr (4, [.null, .null, .null, .null, .null, .int 0, .int 0, .int 0, .int 0, .int 0, .int 0, .int 0, .int 0, .int 0, .int 0, .int 0]))] (wX4 cI h0 b1 b2) := by
  refine n_met (by decide +kernel) rfl rfl rfl (Nat.le_of_ble_eq_true rfl) ?_
  intro p e s m args below meth c Q A lr C hin Wd hl fin
  have hx := C.1
  have hb := C.2.1
  have hml := C.2.2.1
  have hown := C.2.2.2.2.2.1
  have hts := C.2.2.2.2.2.2.1
  have hK := C.2.2.2.2.2.2.2.2.1
  have hA := C.2.2.2.2.2.2.2.2.2.1
  obtain ⟨hP, hD, hS⟩ := Wd
  have hP : va_P D vwCl [(h0, .inr (4, [.null, .null, .null, .null, .null, .int 0, .int 0, .int 0, .int 0, .int 0, .int 0, .int 0, .int 0, .int 0, .int 0, .int 0]))] s.heap := hP
  have hD : va_D A [(h0, .inr (4, [.null, .null, .null, .null, .null, .int 0, .int 0, .int 0, .int 0, .int 0, .int 0, .int 0, .int 0, .int 0, .int 0, .int 0]))] := hD
  have hl : lv_has lr 3 [(0, .ref h0), (1, .ref b1), (2, .ref b2)] := hl
  refine lv_aload_n hx hb dX4_init_0 rfl (lv_at hl 0 rfl) ?_
  refine W.objInit hx hb hown (hts (.methodLink RX4 3 Lib.objectInit) (wG_at 116 (by decide +kernel) rfl)) (hts (.instanceMethod Lib.objectInit) (wG_at 59 (by decide +kernel) rfl)) (hts (.code Lib.objectInit ⟨#[0xb1]⟩ 1 none) (wG_at 60 (by decide +kernel) rfl)) rfl (by rw [hml]; exact hl.1) rfl dX4_init_1 (Nat.le_of_ble_eq_true rfl) (Nat.le_of_ble_eq_true rfl) ?_
  refine W.eq (g2 := F0 m 4 lr []) rfl ?_
  refine lv_aload_n hx hb dX4_init_4 rfl (lv_at hl 0 rfl) ?_
  refine va_new (ci := 5) (fs := [.null, .null, .int 0, .int 0]) (C := RX5) (T := TX5) (N := 4) hx hb hts inX5 tyX5 tyX5_ok hown (hts (.classLink RX4 9 RX5) (wG_at 117 (by decide +kernel) rfl)) (hts (.instantiable RX5 4) (wG_at 118 (by decide +kernel) rfl)) (hts (.initialized RX5) (wG_at 48 (by decide +kernel) rfl)) hK hP hD hS hA rfl (fun j hj => by rcases (show j = 0 ∨ j = 1 ∨ j = 2 ∨ j = 3 by omega) with rfl | rfl | rfl | rfl <;> rfl) (Nat.le_of_ble_eq_true rfl) (Nat.le_of_ble_eq_true rfl) dX4_init_5 (fun q5 H hP hD hS => ?_)
  have hP : va_P D vwCl [(h0, .inr (4, [.null, .null, .null, .null, .null, .int 0, .int 0, .int 0, .int 0, .int 0, .int 0, .int 0, .int 0, .int 0, .int 0, .int 0])), (q5, .inr (5, [.null, .null, .int 0, .int 0]))] H := hP
  have hD : va_D A [(h0, .inr (4, [.null, .null, .null, .null, .null, .int 0, .int 0, .int 0, .int 0, .int 0, .int 0, .int 0, .int 0, .int 0, .int 0, .int 0])), (q5, .inr (5, [.null, .null, .int 0, .int 0]))] := hD
  refine W.widen (k := 1) (n := 4) (Nat.le_of_ble_eq_true rfl) (Nat.le_of_ble_eq_true rfl) ?_
  refine lv_dup hx hb dX4_init_8 rfl ?_
  refine n_call (As := []) (w0 := [(q5, .inr (5, [.null, .null, .int 0, .int 0]))]) (wr := [(h0, .inr (4, [.null, .null, .null, .null, .null, .int 0, .int 0, .int 0, .int 0, .int 0, .int 0, .int 0, .int 0, .int 0, .int 0, .int 0]))]) (wf := wX5 cI q5) (rest := [.ref q5, .ref h0]) C ⟨hP, hD, hS⟩ (c_X5_init l D cI q5) dX4_init_9 lk_X4_11 nY_X5 rfl [1] [0] rfl rfl rfl rfl (by decide) hl.1 rfl (Nat.le_of_ble_eq_true rfl) ⟨(Nat.le_of_ble_eq_true rfl), (Nat.le_of_ble_eq_true rfl)⟩ ⟨(Nat.le_of_ble_eq_true rfl), (Nat.le_of_ble_eq_true rfl)⟩ (fun u9 H locs Wd => ?_)
  obtain ⟨hP, hD, hS⟩ := Wd
  have hP : va_P D vwCl [(h0, .inr (4, [.null, .null, .null, .null, .null, .int 0, .int 0, .int 0, .int 0, .int 0, .int 0, .int 0, .int 0, .int 0, .int 0, .int 0])), (q5, .inr (5, [.ref (u9 0), .ref (u9 1), .int 0, .int 0])), ((u9 0), .inl (cI, 8200, .inl (fun _ => 0))), ((u9 1), .inl (cI, 8200, .inl (fun _ => 0)))] H := hP
  have hD : va_D A [(h0, .inr (4, [.null, .null, .null, .null, .null, .int 0, .int 0, .int 0, .int 0, .int 0, .int 0, .int 0, .int 0, .int 0, .int 0, .int 0])), (q5, .inr (5, [.ref (u9 0), .ref (u9 1), .int 0, .int 0])), ((u9 0), .inl (cI, 8200, .inl (fun _ => 0))), ((u9 1), .inl (cI, 8200, .inl (fun _ => 0)))] := hD
  refine W.widen (k := 3) (n := 16404) (Nat.le_of_ble_eq_true rfl) (Nat.le_of_ble_eq_true rfl) ?_
  refine va_putF (D := D) (ci := 4) (v := .ref q5) (ty := .object "DeedHands$Waiting") (C := RX4) (T := TX4) (N := 16) hx hb hts inX4 tyX4 tyX4_ok nmX4 hown hK hP hD hS 0 rfl rfl 1 (by decide) (hts (.fieldLink RX4 12 "DeedHands$Run" "waiting" "LDeedHands$Waiting;") (wG_at 158 (by decide +kernel) rfl)) (fun _ h9 => h9) rfl hin rfl (by decide +kernel) rfl rfl (Nat.le_of_ble_eq_true rfl) dX4_init_12 (fun H locs hP hD hS => ?_)
  have hP : va_P D vwCl [(h0, .inr (4, [.null, .ref q5, .null, .null, .null, .int 0, .int 0, .int 0, .int 0, .int 0, .int 0, .int 0, .int 0, .int 0, .int 0, .int 0])), (q5, .inr (5, [.ref (u9 0), .ref (u9 1), .int 0, .int 0])), ((u9 0), .inl (cI, 8200, .inl (fun _ => 0))), ((u9 1), .inl (cI, 8200, .inl (fun _ => 0)))] H := hP
  have hD : va_D A [(h0, .inr (4, [.null, .ref q5, .null, .null, .null, .int 0, .int 0, .int 0, .int 0, .int 0, .int 0, .int 0, .int 0, .int 0, .int 0, .int 0])), (q5, .inr (5, [.ref (u9 0), .ref (u9 1), .int 0, .int 0])), ((u9 0), .inl (cI, 8200, .inl (fun _ => 0))), ((u9 1), .inl (cI, 8200, .inl (fun _ => 0)))] := hD
  refine lv_aload_n hx hb dX4_init_15 rfl (lv_at hl 0 rfl) ?_
  refine va_new (ci := 1) (fs := [.null, .null, .null, .int 0]) (C := RX1) (T := TX1) (N := 4) hx hb hts inX1 tyX1 tyX1_ok hown (hts (.classLink RX4 18 RX1) (wG_at 137 (by decide +kernel) rfl)) (hts (.instantiable RX1 4) (wG_at 138 (by decide +kernel) rfl)) (hts (.initialized RX1) (wG_at 49 (by decide +kernel) rfl)) hK hP hD hS hA rfl (fun j hj => by rcases (show j = 0 ∨ j = 1 ∨ j = 2 ∨ j = 3 by omega) with rfl | rfl | rfl | rfl <;> rfl) (Nat.le_of_ble_eq_true rfl) (Nat.le_of_ble_eq_true rfl) dX4_init_16 (fun q16 H hP hD hS => ?_)
  have hP : va_P D vwCl [(h0, .inr (4, [.null, .ref q5, .null, .null, .null, .int 0, .int 0, .int 0, .int 0, .int 0, .int 0, .int 0, .int 0, .int 0, .int 0, .int 0])), (q5, .inr (5, [.ref (u9 0), .ref (u9 1), .int 0, .int 0])), ((u9 0), .inl (cI, 8200, .inl (fun _ => 0))), ((u9 1), .inl (cI, 8200, .inl (fun _ => 0))), (q16, .inr (1, [.null, .null, .null, .int 0]))] H := hP
  have hD : va_D A [(h0, .inr (4, [.null, .ref q5, .null, .null, .null, .int 0, .int 0, .int 0, .int 0, .int 0, .int 0, .int 0, .int 0, .int 0, .int 0, .int 0])), (q5, .inr (5, [.ref (u9 0), .ref (u9 1), .int 0, .int 0])), ((u9 0), .inl (cI, 8200, .inl (fun _ => 0))), ((u9 1), .inl (cI, 8200, .inl (fun _ => 0))), (q16, .inr (1, [.null, .null, .null, .int 0]))] := hD
  refine W.widen (k := 4) (n := 16408) (Nat.le_of_ble_eq_true rfl) (Nat.le_of_ble_eq_true rfl) ?_
  refine lv_dup hx hb dX4_init_19 rfl ?_
  refine n_call (As := []) (w0 := [(q16, .inr (1, [.null, .null, .null, .int 0]))]) (wr := [(h0, .inr (4, [.null, .ref q5, .null, .null, .null, .int 0, .int 0, .int 0, .int 0, .int 0, .int 0, .int 0, .int 0, .int 0, .int 0, .int 0])), (q5, .inr (5, [.ref (u9 0), .ref (u9 1), .int 0, .int 0])), ((u9 0), .inl (cI, 8200, .inl (fun _ => 0))), ((u9 1), .inl (cI, 8200, .inl (fun _ => 0)))]) (wf := wX1 cI q16) (rest := [.ref q16, .ref h0]) C ⟨hP, hD, hS⟩ (c_X1_init l D cI q16) dX4_init_20 lk_X4_20 nY_X1 rfl [4] [0, 1, 2, 3] rfl rfl rfl rfl (by decide) hl.1 rfl (Nat.le_of_ble_eq_true rfl) ⟨(Nat.le_of_ble_eq_true rfl), (Nat.le_of_ble_eq_true rfl)⟩ ⟨(Nat.le_of_ble_eq_true rfl), (Nat.le_of_ble_eq_true rfl)⟩ (fun u20 H locs Wd => ?_)
  obtain ⟨hP, hD, hS⟩ := Wd
  have hP : va_P D vwCl [(h0, .inr (4, [.null, .ref q5, .null, .null, .null, .int 0, .int 0, .int 0, .int 0, .int 0, .int 0, .int 0, .int 0, .int 0, .int 0, .int 0])), (q5, .inr (5, [.ref (u9 0), .ref (u9 1), .int 0, .int 0])), ((u9 0), .inl (cI, 8200, .inl (fun _ => 0))), ((u9 1), .inl (cI, 8200, .inl (fun _ => 0))), (q16, .inr (1, [.ref (u20 0), .ref (u20 1), .ref (u20 2), .int 0])), ((u20 0), .inl (cI, 201, .inl (fun _ => 0))), ((u20 1), .inl (cI, 201, .inl (fun _ => 0))), ((u20 2), .inl (cI, 201, .inl (fun _ => 0)))] H := hP
  have hD : va_D A [(h0, .inr (4, [.null, .ref q5, .null, .null, .null, .int 0, .int 0, .int 0, .int 0, .int 0, .int 0, .int 0, .int 0, .int 0, .int 0, .int 0])), (q5, .inr (5, [.ref (u9 0), .ref (u9 1), .int 0, .int 0])), ((u9 0), .inl (cI, 8200, .inl (fun _ => 0))), ((u9 1), .inl (cI, 8200, .inl (fun _ => 0))), (q16, .inr (1, [.ref (u20 0), .ref (u20 1), .ref (u20 2), .int 0])), ((u20 0), .inl (cI, 201, .inl (fun _ => 0))), ((u20 1), .inl (cI, 201, .inl (fun _ => 0))), ((u20 2), .inl (cI, 201, .inl (fun _ => 0)))] := hD
  refine W.widen (k := 7) (n := 17011) (Nat.le_of_ble_eq_true rfl) (Nat.le_of_ble_eq_true rfl) ?_
  refine va_putF (D := D) (ci := 4) (v := .ref q16) (ty := .object "DeedHands$Calls") (C := RX4) (T := TX4) (N := 16) hx hb hts inX4 tyX4 tyX4_ok nmX4 hown hK hP hD hS 0 rfl rfl 2 (by decide) (hts (.fieldLink RX4 21 "DeedHands$Run" "calls" "LDeedHands$Calls;") (wG_at 159 (by decide +kernel) rfl)) (fun _ h9 => h9) rfl hin rfl (by decide +kernel) rfl rfl (Nat.le_of_ble_eq_true rfl) dX4_init_23 (fun H locs hP hD hS => ?_)
  have hP : va_P D vwCl [(h0, .inr (4, [.null, .ref q5, .ref q16, .null, .null, .int 0, .int 0, .int 0, .int 0, .int 0, .int 0, .int 0, .int 0, .int 0, .int 0, .int 0])), (q5, .inr (5, [.ref (u9 0), .ref (u9 1), .int 0, .int 0])), ((u9 0), .inl (cI, 8200, .inl (fun _ => 0))), ((u9 1), .inl (cI, 8200, .inl (fun _ => 0))), (q16, .inr (1, [.ref (u20 0), .ref (u20 1), .ref (u20 2), .int 0])), ((u20 0), .inl (cI, 201, .inl (fun _ => 0))), ((u20 1), .inl (cI, 201, .inl (fun _ => 0))), ((u20 2), .inl (cI, 201, .inl (fun _ => 0)))] H := hP
  have hD : va_D A [(h0, .inr (4, [.null, .ref q5, .ref q16, .null, .null, .int 0, .int 0, .int 0, .int 0, .int 0, .int 0, .int 0, .int 0, .int 0, .int 0, .int 0])), (q5, .inr (5, [.ref (u9 0), .ref (u9 1), .int 0, .int 0])), ((u9 0), .inl (cI, 8200, .inl (fun _ => 0))), ((u9 1), .inl (cI, 8200, .inl (fun _ => 0))), (q16, .inr (1, [.ref (u20 0), .ref (u20 1), .ref (u20 2), .int 0])), ((u20 0), .inl (cI, 201, .inl (fun _ => 0))), ((u20 1), .inl (cI, 201, .inl (fun _ => 0))), ((u20 2), .inl (cI, 201, .inl (fun _ => 0)))] := hD
  refine lv_aload_n hx hb dX4_init_26 rfl (lv_at hl 0 rfl) ?_
  refine lv_sipush (v := 200) hx hb dX4_init_27 (by decide) ?_
  refine n_newa (N := 200) C ⟨hP, hD, hS⟩ (by decide) (by decide) (Nat.le_of_ble_eq_true rfl) (Nat.le_of_ble_eq_true rfl) dX4_init_30 (fun q30 H Wd => ?_)
  obtain ⟨hP, hD, hS⟩ := Wd
  have hP : va_P D vwCl [(h0, .inr (4, [.null, .ref q5, .ref q16, .null, .null, .int 0, .int 0, .int 0, .int 0, .int 0, .int 0, .int 0, .int 0, .int 0, .int 0, .int 0])), (q5, .inr (5, [.ref (u9 0), .ref (u9 1), .int 0, .int 0])), ((u9 0), .inl (cI, 8200, .inl (fun _ => 0))), ((u9 1), .inl (cI, 8200, .inl (fun _ => 0))), (q16, .inr (1, [.ref (u20 0), .ref (u20 1), .ref (u20 2), .int 0])), ((u20 0), .inl (cI, 201, .inl (fun _ => 0))), ((u20 1), .inl (cI, 201, .inl (fun _ => 0))), ((u20 2), .inl (cI, 201, .inl (fun _ => 0))), (q30, .inl (cI, 200, .inl (fun _ => 0)))] H := hP
  have hD : va_D A [(h0, .inr (4, [.null, .ref q5, .ref q16, .null, .null, .int 0, .int 0, .int 0, .int 0, .int 0, .int 0, .int 0, .int 0, .int 0, .int 0, .int 0])), (q5, .inr (5, [.ref (u9 0), .ref (u9 1), .int 0, .int 0])), ((u9 0), .inl (cI, 8200, .inl (fun _ => 0))), ((u9 1), .inl (cI, 8200, .inl (fun _ => 0))), (q16, .inr (1, [.ref (u20 0), .ref (u20 1), .ref (u20 2), .int 0])), ((u20 0), .inl (cI, 201, .inl (fun _ => 0))), ((u20 1), .inl (cI, 201, .inl (fun _ => 0))), ((u20 2), .inl (cI, 201, .inl (fun _ => 0))), (q30, .inl (cI, 200, .inl (fun _ => 0)))] := hD
  refine W.widen (k := 8) (n := 17211) (Nat.le_of_ble_eq_true rfl) (Nat.le_of_ble_eq_true rfl) ?_
  refine va_putF (D := D) (ci := 4) (v := .ref q30) (ty := .array .int) (C := RX4) (T := TX4) (N := 16) hx hb hts inX4 tyX4 tyX4_ok nmX4 hown hK hP hD hS 0 rfl rfl 3 (by decide) (hts (.fieldLink RX4 25 "DeedHands$Run" "answers" "[I") (wG_at 160 (by decide +kernel) rfl)) (fun _ h9 => h9) rfl hin rfl (by decide +kernel) rfl rfl (Nat.le_of_ble_eq_true rfl) dX4_init_32 (fun H locs hP hD hS => ?_)
  have hP : va_P D vwCl [(h0, .inr (4, [.null, .ref q5, .ref q16, .ref q30, .null, .int 0, .int 0, .int 0, .int 0, .int 0, .int 0, .int 0, .int 0, .int 0, .int 0, .int 0])), (q5, .inr (5, [.ref (u9 0), .ref (u9 1), .int 0, .int 0])), ((u9 0), .inl (cI, 8200, .inl (fun _ => 0))), ((u9 1), .inl (cI, 8200, .inl (fun _ => 0))), (q16, .inr (1, [.ref (u20 0), .ref (u20 1), .ref (u20 2), .int 0])), ((u20 0), .inl (cI, 201, .inl (fun _ => 0))), ((u20 1), .inl (cI, 201, .inl (fun _ => 0))), ((u20 2), .inl (cI, 201, .inl (fun _ => 0))), (q30, .inl (cI, 200, .inl (fun _ => 0)))] H := hP
  have hD : va_D A [(h0, .inr (4, [.null, .ref q5, .ref q16, .ref q30, .null, .int 0, .int 0, .int 0, .int 0, .int 0, .int 0, .int 0, .int 0, .int 0, .int 0, .int 0])), (q5, .inr (5, [.ref (u9 0), .ref (u9 1), .int 0, .int 0])), ((u9 0), .inl (cI, 8200, .inl (fun _ => 0))), ((u9 1), .inl (cI, 8200, .inl (fun _ => 0))), (q16, .inr (1, [.ref (u20 0), .ref (u20 1), .ref (u20 2), .int 0])), ((u20 0), .inl (cI, 201, .inl (fun _ => 0))), ((u20 1), .inl (cI, 201, .inl (fun _ => 0))), ((u20 2), .inl (cI, 201, .inl (fun _ => 0))), (q30, .inl (cI, 200, .inl (fun _ => 0)))] := hD
  refine lv_aload_n hx hb dX4_init_35 rfl (lv_at hl 0 rfl) ?_
  refine lv_aload_n hx hb dX4_init_36 rfl (lv_at hl 1 rfl) ?_
  refine va_putF (D := D) (ci := 4) (v := .ref b1) (ty := .object "DeedHands$Book") (C := RX4) (T := TX4) (N := 16) hx hb hts inX4 tyX4 tyX4_ok nmX4 hown hK hP hD hS 0 rfl rfl 0 (by decide) (hts (.fieldLink RX4 29 "DeedHands$Run" "book" "LDeedHands$Book;") (wG_at 157 (by decide +kernel) rfl)) (fun _ h9 => h9) rfl hin rfl (by decide +kernel) rfl rfl (Nat.le_of_ble_eq_true rfl) dX4_init_37 (fun H locs hP hD hS => ?_)
  have hP : va_P D vwCl [(h0, .inr (4, [.ref b1, .ref q5, .ref q16, .ref q30, .null, .int 0, .int 0, .int 0, .int 0, .int 0, .int 0, .int 0, .int 0, .int 0, .int 0, .int 0])), (q5, .inr (5, [.ref (u9 0), .ref (u9 1), .int 0, .int 0])), ((u9 0), .inl (cI, 8200, .inl (fun _ => 0))), ((u9 1), .inl (cI, 8200, .inl (fun _ => 0))), (q16, .inr (1, [.ref (u20 0), .ref (u20 1), .ref (u20 2), .int 0])), ((u20 0), .inl (cI, 201, .inl (fun _ => 0))), ((u20 1), .inl (cI, 201, .inl (fun _ => 0))), ((u20 2), .inl (cI, 201, .inl (fun _ => 0))), (q30, .inl (cI, 200, .inl (fun _ => 0)))] H := hP
  have hD : va_D A [(h0, .inr (4, [.ref b1, .ref q5, .ref q16, .ref q30, .null, .int 0, .int 0, .int 0, .int 0, .int 0, .int 0, .int 0, .int 0, .int 0, .int 0, .int 0])), (q5, .inr (5, [.ref (u9 0), .ref (u9 1), .int 0, .int 0])), ((u9 0), .inl (cI, 8200, .inl (fun _ => 0))), ((u9 1), .inl (cI, 8200, .inl (fun _ => 0))), (q16, .inr (1, [.ref (u20 0), .ref (u20 1), .ref (u20 2), .int 0])), ((u20 0), .inl (cI, 201, .inl (fun _ => 0))), ((u20 1), .inl (cI, 201, .inl (fun _ => 0))), ((u20 2), .inl (cI, 201, .inl (fun _ => 0))), (q30, .inl (cI, 200, .inl (fun _ => 0)))] := hD
  refine lv_aload_n hx hb dX4_init_40 rfl (lv_at hl 0 rfl) ?_
  refine lv_aload_n hx hb dX4_init_41 rfl (lv_at hl 2 rfl) ?_
  refine va_put (D := D) (ci := 4) (v := .ref b2) (ty := .object "DeedHands$Row") (C := RX4) (T := TX4) (N := 16) hx hb hts inX4 tyX4 tyX4_ok nmX4 hown hK hP hD hS 0 rfl rfl 4 (by decide) (hts (.fieldLink RX4 33 "DeedHands$Run" "replies" "LDeedHands$Row;") (wG_at 161 (by decide +kernel) rfl)) (fun _ h9 => h9) rfl (by decide +kernel) rfl rfl (Nat.le_of_ble_eq_true rfl) dX4_init_42 (fun H locs hP hD hS => ?_)
  have hP : va_P D vwCl [(h0, .inr (4, [.ref b1, .ref q5, .ref q16, .ref q30, .ref b2, .int 0, .int 0, .int 0, .int 0, .int 0, .int 0, .int 0, .int 0, .int 0, .int 0, .int 0])), (q5, .inr (5, [.ref (u9 0), .ref (u9 1), .int 0, .int 0])), ((u9 0), .inl (cI, 8200, .inl (fun _ => 0))), ((u9 1), .inl (cI, 8200, .inl (fun _ => 0))), (q16, .inr (1, [.ref (u20 0), .ref (u20 1), .ref (u20 2), .int 0])), ((u20 0), .inl (cI, 201, .inl (fun _ => 0))), ((u20 1), .inl (cI, 201, .inl (fun _ => 0))), ((u20 2), .inl (cI, 201, .inl (fun _ => 0))), (q30, .inl (cI, 200, .inl (fun _ => 0)))] H := hP
  have hD : va_D A [(h0, .inr (4, [.ref b1, .ref q5, .ref q16, .ref q30, .ref b2, .int 0, .int 0, .int 0, .int 0, .int 0, .int 0, .int 0, .int 0, .int 0, .int 0, .int 0])), (q5, .inr (5, [.ref (u9 0), .ref (u9 1), .int 0, .int 0])), ((u9 0), .inl (cI, 8200, .inl (fun _ => 0))), ((u9 1), .inl (cI, 8200, .inl (fun _ => 0))), (q16, .inr (1, [.ref (u20 0), .ref (u20 1), .ref (u20 2), .int 0])), ((u20 0), .inl (cI, 201, .inl (fun _ => 0))), ((u20 1), .inl (cI, 201, .inl (fun _ => 0))), ((u20 2), .inl (cI, 201, .inl (fun _ => 0))), (q30, .inl (cI, 200, .inl (fun _ => 0)))] := hD
  exact fin (fun k => [q5, (u9 0), (u9 1), q16, (u20 0), (u20 1), (u20 2), q30].getD k 0) H locs _ lr ⟨hP, hD, hS⟩ dX4_init_45
