/-! The constructor of the reference. -/
set_option maxHeartbeats 8000000 in
set_option maxRecDepth 100000 in
theorem c_X8_init (l : Launch) (D : va_G) (cI : ClassId) (h0 : Nat) : nMet l yX8_init jX8_init [.ref h0] D cI [(h0, .inr (8, [.int 0, .null, .null, .null, .null, .int 0, .null, .null, .int 0, .null, .null, .null, .null, .null, .null, .int 0, .null, .null, .null, .int 0, .null, .null, .null, .int 0, .int 0, .int 0, .int 0, .int 0, .int 0, .null, .int 0, .null, .int 0, .int 0, .null, .int 0, .int 0, .int 0, .int 0, .int 0, .null, .null, .null, .null]))] (wX8 cI h0) := by
  refine n_met (by decide +kernel) rfl rfl rfl (Nat.le_of_ble_eq_true rfl) ?_
  intro p e s m args below meth c Q A lr C hin Wd hl fin
  have hx := C.1
  have hb := C.2.1
  have hml := C.2.2.1
  have hown := C.2.2.2.2.2.1
  have hts := C.2.2.2.2.2.2.1
  have hK := C.2.2.2.2.2.2.2.2.1
  have hA := C.2.2.2.2.2.2.2.2.2.1
  obtain ⟨hP, hD, hS⟩ := Wd
  have hP : va_P D vwCl [(h0, .inr (8, [.int 0, .null, .null, .null, .null, .int 0, .null, .null, .int 0, .null, .null, .null, .null, .null, .null, .int 0, .null, .null, .null, .int 0, .null, .null, .null, .int 0, .int 0, .int 0, .int 0, .int 0, .int 0, .null, .int 0, .null, .int 0, .int 0, .null, .int 0, .int 0, .int 0, .int 0, .int 0, .null, .null, .null, .null]))] s.heap := hP
  have hD : va_D A [(h0, .inr (8, [.int 0, .null, .null, .null, .null, .int 0, .null, .null, .int 0, .null, .null, .null, .null, .null, .null, .int 0, .null, .null, .null, .int 0, .null, .null, .null, .int 0, .int 0, .int 0, .int 0, .int 0, .int 0, .null, .int 0, .null, .int 0, .int 0, .null, .int 0, .int 0, .int 0, .int 0, .int 0, .null, .null, .null, .null]))] := hD
  have hl : lv_has lr 2 [(0, .ref h0)] := hl
  have Wd : nW D A s.heap s.heap [] [(h0, .inr (8, [.int 0, .null, .null, .null, .null, .int 0, .null, .null, .int 0, .null, .null, .null, .null, .null, .null, .int 0, .null, .null, .null, .int 0, .null, .null, .null, .int 0, .int 0, .int 0, .int 0, .int 0, .int 0, .null, .int 0, .null, .int 0, .int 0, .null, .int 0, .int 0, .int 0, .int 0, .int 0, .null, .null, .null, .null]))] := ⟨hP, hD, hS⟩
  have hL : ([.int 0, .null, .null, .null, .null, .int 0, .null, .null, .int 0, .null, .null, .null, .null, .null, .null, .int 0, .null, .null, .null, .int 0, .null, .null, .null, .int 0, .int 0, .int 0, .int 0, .int 0, .int 0, .null, .int 0, .null, .int 0, .int 0, .null, .int 0, .int 0, .int 0, .int 0, .int 0, .null, .null, .null, .null] : List Value).length = 44 := rfl
  refine lv_aload_n hx hb dX8_init_0 rfl (lv_at hl 0 rfl) ?_
  refine W.objInit hx hb hown (hts (.methodLink RX8 1 Lib.objectInit) (wG_at 624 (by decide +kernel) rfl)) (hts (.instanceMethod Lib.objectInit) (wG_at 59 (by decide +kernel) rfl)) (hts (.code Lib.objectInit ⟨#[0xb1]⟩ 1 none) (wG_at 60 (by decide +kernel) rfl)) rfl (by rw [hml]; exact hl.1) rfl dX8_init_1 (Nat.le_of_ble_eq_true rfl) (Nat.le_of_ble_eq_true rfl) ?_
  refine W.eq (g2 := F0 m 4 lr []) rfl ?_
  refine lv_aload_n hx hb dX8_init_4 rfl (lv_at hl 0 rfl) ?_
  refine lv_bipush (v := 40) hx hb dX8_init_5 (by decide) ?_
  refine n_pair (ci := 8) (j := 1) (N := 40) (NN := 44) (Cn := RX8) (T := TX8) C hin Wd hL rfl inX8 tyX8 tyX8_ok nmX8 (by decide) (wG_at 626 (by decide +kernel) rfl) rfl rfl (by decide +kernel) (by decide) (by decide) (Nat.le_of_ble_eq_true rfl) (Nat.le_of_ble_eq_true rfl) dX8_init_7 dX8_init_9 (fun q7 H locs Wd hL => ?_)
  refine W.widen (k := 1) (n := 40) (Nat.le_of_ble_eq_true rfl) (Nat.le_of_ble_eq_true rfl) ?_
  refine lv_aload_n hx hb dX8_init_12 rfl (lv_at hl 0 rfl) ?_
  refine lv_bipush (v := 20) hx hb dX8_init_13 (by decide) ?_
  refine n_pair (ci := 8) (j := 2) (N := 20) (NN := 44) (Cn := RX8) (T := TX8) C hin Wd hL rfl inX8 tyX8 tyX8_ok nmX8 (by decide) (wG_at 627 (by decide +kernel) rfl) rfl rfl (by decide +kernel) (by decide) (by decide) (Nat.le_of_ble_eq_true rfl) (Nat.le_of_ble_eq_true rfl) dX8_init_15 dX8_init_17 (fun q15 H locs Wd hL => ?_)
  refine W.widen (k := 2) (n := 60) (Nat.le_of_ble_eq_true rfl) (Nat.le_of_ble_eq_true rfl) ?_
  refine lv_aload_n hx hb dX8_init_20 rfl (lv_at hl 0 rfl) ?_
  refine lv_sipush (v := 800) hx hb dX8_init_21 (by decide) ?_
  refine n_pair (ci := 8) (j := 3) (N := 800) (NN := 44) (Cn := RX8) (T := TX8) C hin Wd hL rfl inX8 tyX8 tyX8_ok nmX8 (by decide) (wG_at 628 (by decide +kernel) rfl) rfl rfl (by decide +kernel) (by decide) (by decide) (Nat.le_of_ble_eq_true rfl) (Nat.le_of_ble_eq_true rfl) dX8_init_24 dX8_init_26 (fun q24 H locs Wd hL => ?_)
  refine W.widen (k := 3) (n := 860) (Nat.le_of_ble_eq_true rfl) (Nat.le_of_ble_eq_true rfl) ?_
  refine lv_aload_n hx hb dX8_init_29 rfl (lv_at hl 0 rfl) ?_
  refine lv_sipush (v := 800) hx hb dX8_init_30 (by decide) ?_
  refine n_pair (ci := 8) (j := 4) (N := 800) (NN := 44) (Cn := RX8) (T := TX8) C hin Wd hL rfl inX8 tyX8 tyX8_ok nmX8 (by decide) (wG_at 629 (by decide +kernel) rfl) rfl rfl (by decide +kernel) (by decide) (by decide) (Nat.le_of_ble_eq_true rfl) (Nat.le_of_ble_eq_true rfl) dX8_init_33 dX8_init_35 (fun q33 H locs Wd hL => ?_)
  refine W.widen (k := 4) (n := 1660) (Nat.le_of_ble_eq_true rfl) (Nat.le_of_ble_eq_true rfl) ?_
  refine lv_aload_n hx hb dX8_init_38 rfl (lv_at hl 0 rfl) ?_
  refine lv_bipush (v := 8) hx hb dX8_init_39 (by decide) ?_
  refine n_pair (ci := 8) (j := 6) (N := 8) (NN := 44) (Cn := RX8) (T := TX8) C hin Wd hL rfl inX8 tyX8 tyX8_ok nmX8 (by decide) (wG_at 631 (by decide +kernel) rfl) rfl rfl (by decide +kernel) (by decide) (by decide) (Nat.le_of_ble_eq_true rfl) (Nat.le_of_ble_eq_true rfl) dX8_init_41 dX8_init_43 (fun q41 H locs Wd hL => ?_)
  refine W.widen (k := 5) (n := 1668) (Nat.le_of_ble_eq_true rfl) (Nat.le_of_ble_eq_true rfl) ?_
  refine lv_aload_n hx hb dX8_init_46 rfl (lv_at hl 0 rfl) ?_
  refine lv_bipush (v := 41) hx hb dX8_init_47 (by decide) ?_
  refine n_pair (ci := 8) (j := 7) (N := 41) (NN := 44) (Cn := RX8) (T := TX8) C hin Wd hL rfl inX8 tyX8 tyX8_ok nmX8 (by decide) (wG_at 632 (by decide +kernel) rfl) rfl rfl (by decide +kernel) (by decide) (by decide) (Nat.le_of_ble_eq_true rfl) (Nat.le_of_ble_eq_true rfl) dX8_init_49 dX8_init_51 (fun q49 H locs Wd hL => ?_)
  refine W.widen (k := 6) (n := 1709) (Nat.le_of_ble_eq_true rfl) (Nat.le_of_ble_eq_true rfl) ?_
  refine lv_aload_n hx hb dX8_init_54 rfl (lv_at hl 0 rfl) ?_
  refine lv_sipush (v := 512) hx hb dX8_init_55 (by decide) ?_
  refine n_pair (ci := 8) (j := 9) (N := 512) (NN := 44) (Cn := RX8) (T := TX8) C hin Wd hL rfl inX8 tyX8 tyX8_ok nmX8 (by decide) (wG_at 634 (by decide +kernel) rfl) rfl rfl (by decide +kernel) (by decide) (by decide) (Nat.le_of_ble_eq_true rfl) (Nat.le_of_ble_eq_true rfl) dX8_init_58 dX8_init_60 (fun q58 H locs Wd hL => ?_)
  refine W.widen (k := 7) (n := 2221) (Nat.le_of_ble_eq_true rfl) (Nat.le_of_ble_eq_true rfl) ?_
  refine lv_aload_n hx hb dX8_init_63 rfl (lv_at hl 0 rfl) ?_
  refine lv_sipush (v := 512) hx hb dX8_init_64 (by decide) ?_
  refine n_pair (ci := 8) (j := 10) (N := 512) (NN := 44) (Cn := RX8) (T := TX8) C hin Wd hL rfl inX8 tyX8 tyX8_ok nmX8 (by decide) (wG_at 635 (by decide +kernel) rfl) rfl rfl (by decide +kernel) (by decide) (by decide) (Nat.le_of_ble_eq_true rfl) (Nat.le_of_ble_eq_true rfl) dX8_init_67 dX8_init_69 (fun q67 H locs Wd hL => ?_)
  refine W.widen (k := 8) (n := 2733) (Nat.le_of_ble_eq_true rfl) (Nat.le_of_ble_eq_true rfl) ?_
  refine lv_aload_n hx hb dX8_init_72 rfl (lv_at hl 0 rfl) ?_
  refine lv_sipush (v := 512) hx hb dX8_init_73 (by decide) ?_
  refine n_pair (ci := 8) (j := 11) (N := 512) (NN := 44) (Cn := RX8) (T := TX8) C hin Wd hL rfl inX8 tyX8 tyX8_ok nmX8 (by decide) (wG_at 636 (by decide +kernel) rfl) rfl rfl (by decide +kernel) (by decide) (by decide) (Nat.le_of_ble_eq_true rfl) (Nat.le_of_ble_eq_true rfl) dX8_init_76 dX8_init_78 (fun q76 H locs Wd hL => ?_)
  refine W.widen (k := 9) (n := 3245) (Nat.le_of_ble_eq_true rfl) (Nat.le_of_ble_eq_true rfl) ?_
  refine lv_aload_n hx hb dX8_init_81 rfl (lv_at hl 0 rfl) ?_
  refine lv_sipush (v := 512) hx hb dX8_init_82 (by decide) ?_
  refine n_pair (ci := 8) (j := 12) (N := 512) (NN := 44) (Cn := RX8) (T := TX8) C hin Wd hL rfl inX8 tyX8 tyX8_ok nmX8 (by decide) (wG_at 637 (by decide +kernel) rfl) rfl rfl (by decide +kernel) (by decide) (by decide) (Nat.le_of_ble_eq_true rfl) (Nat.le_of_ble_eq_true rfl) dX8_init_85 dX8_init_87 (fun q85 H locs Wd hL => ?_)
  refine W.widen (k := 10) (n := 3757) (Nat.le_of_ble_eq_true rfl) (Nat.le_of_ble_eq_true rfl) ?_
  refine lv_aload_n hx hb dX8_init_90 rfl (lv_at hl 0 rfl) ?_
  refine lv_sipush (v := 512) hx hb dX8_init_91 (by decide) ?_
  refine n_pair (ci := 8) (j := 13) (N := 512) (NN := 44) (Cn := RX8) (T := TX8) C hin Wd hL rfl inX8 tyX8 tyX8_ok nmX8 (by decide) (wG_at 638 (by decide +kernel) rfl) rfl rfl (by decide +kernel) (by decide) (by decide) (Nat.le_of_ble_eq_true rfl) (Nat.le_of_ble_eq_true rfl) dX8_init_94 dX8_init_96 (fun q94 H locs Wd hL => ?_)
  refine W.widen (k := 11) (n := 4269) (Nat.le_of_ble_eq_true rfl) (Nat.le_of_ble_eq_true rfl) ?_
  refine lv_aload_n hx hb dX8_init_99 rfl (lv_at hl 0 rfl) ?_
  refine lv_sipush (v := 512) hx hb dX8_init_100 (by decide) ?_
  refine n_pair (ci := 8) (j := 14) (N := 512) (NN := 44) (Cn := RX8) (T := TX8) C hin Wd hL rfl inX8 tyX8 tyX8_ok nmX8 (by decide) (wG_at 639 (by decide +kernel) rfl) rfl rfl (by decide +kernel) (by decide) (by decide) (Nat.le_of_ble_eq_true rfl) (Nat.le_of_ble_eq_true rfl) dX8_init_103 dX8_init_105 (fun q103 H locs Wd hL => ?_)
  refine W.widen (k := 12) (n := 4781) (Nat.le_of_ble_eq_true rfl) (Nat.le_of_ble_eq_true rfl) ?_
  refine lv_aload_n hx hb dX8_init_108 rfl (lv_at hl 0 rfl) ?_
  refine lv_sipush (v := 12000) hx hb dX8_init_109 (by decide) ?_
  refine n_pair (ci := 8) (j := 16) (N := 12000) (NN := 44) (Cn := RX8) (T := TX8) C hin Wd hL rfl inX8 tyX8 tyX8_ok nmX8 (by decide) (wG_at 641 (by decide +kernel) rfl) rfl rfl (by decide +kernel) (by decide) (by decide) (Nat.le_of_ble_eq_true rfl) (Nat.le_of_ble_eq_true rfl) dX8_init_112 dX8_init_114 (fun q112 H locs Wd hL => ?_)
  refine W.widen (k := 13) (n := 16781) (Nat.le_of_ble_eq_true rfl) (Nat.le_of_ble_eq_true rfl) ?_
  refine lv_aload_n hx hb dX8_init_117 rfl (lv_at hl 0 rfl) ?_
  refine lv_sipush (v := 12000) hx hb dX8_init_118 (by decide) ?_
  refine n_pair (ci := 8) (j := 17) (N := 12000) (NN := 44) (Cn := RX8) (T := TX8) C hin Wd hL rfl inX8 tyX8 tyX8_ok nmX8 (by decide) (wG_at 642 (by decide +kernel) rfl) rfl rfl (by decide +kernel) (by decide) (by decide) (Nat.le_of_ble_eq_true rfl) (Nat.le_of_ble_eq_true rfl) dX8_init_121 dX8_init_123 (fun q121 H locs Wd hL => ?_)
  refine W.widen (k := 14) (n := 28781) (Nat.le_of_ble_eq_true rfl) (Nat.le_of_ble_eq_true rfl) ?_
  refine lv_aload_n hx hb dX8_init_126 rfl (lv_at hl 0 rfl) ?_
  refine lv_sipush (v := 12000) hx hb dX8_init_127 (by decide) ?_
  refine n_pair (ci := 8) (j := 18) (N := 12000) (NN := 44) (Cn := RX8) (T := TX8) C hin Wd hL rfl inX8 tyX8 tyX8_ok nmX8 (by decide) (wG_at 643 (by decide +kernel) rfl) rfl rfl (by decide +kernel) (by decide) (by decide) (Nat.le_of_ble_eq_true rfl) (Nat.le_of_ble_eq_true rfl) dX8_init_130 dX8_init_132 (fun q130 H locs Wd hL => ?_)
  refine W.widen (k := 15) (n := 40781) (Nat.le_of_ble_eq_true rfl) (Nat.le_of_ble_eq_true rfl) ?_
  refine lv_aload_n hx hb dX8_init_135 rfl (lv_at hl 0 rfl) ?_
  refine lv_sipush (v := 256) hx hb dX8_init_136 (by decide) ?_
  refine n_pair (ci := 8) (j := 20) (N := 256) (NN := 44) (Cn := RX8) (T := TX8) C hin Wd hL rfl inX8 tyX8 tyX8_ok nmX8 (by decide) (wG_at 645 (by decide +kernel) rfl) rfl rfl (by decide +kernel) (by decide) (by decide) (Nat.le_of_ble_eq_true rfl) (Nat.le_of_ble_eq_true rfl) dX8_init_139 dX8_init_141 (fun q139 H locs Wd hL => ?_)
  refine W.widen (k := 16) (n := 41037) (Nat.le_of_ble_eq_true rfl) (Nat.le_of_ble_eq_true rfl) ?_
  refine lv_aload_n hx hb dX8_init_144 rfl (lv_at hl 0 rfl) ?_
  refine lv_sipush (v := 256) hx hb dX8_init_145 (by decide) ?_
  refine n_pair (ci := 8) (j := 21) (N := 256) (NN := 44) (Cn := RX8) (T := TX8) C hin Wd hL rfl inX8 tyX8 tyX8_ok nmX8 (by decide) (wG_at 646 (by decide +kernel) rfl) rfl rfl (by decide +kernel) (by decide) (by decide) (Nat.le_of_ble_eq_true rfl) (Nat.le_of_ble_eq_true rfl) dX8_init_148 dX8_init_150 (fun q148 H locs Wd hL => ?_)
  refine W.widen (k := 17) (n := 41293) (Nat.le_of_ble_eq_true rfl) (Nat.le_of_ble_eq_true rfl) ?_
  refine lv_aload_n hx hb dX8_init_153 rfl (lv_at hl 0 rfl) ?_
  refine lv_sipush (v := 256) hx hb dX8_init_154 (by decide) ?_
  refine n_pair (ci := 8) (j := 22) (N := 256) (NN := 44) (Cn := RX8) (T := TX8) C hin Wd hL rfl inX8 tyX8 tyX8_ok nmX8 (by decide) (wG_at 647 (by decide +kernel) rfl) rfl rfl (by decide +kernel) (by decide) (by decide) (Nat.le_of_ble_eq_true rfl) (Nat.le_of_ble_eq_true rfl) dX8_init_157 dX8_init_159 (fun q157 H locs Wd hL => ?_)
  refine W.widen (k := 18) (n := 41549) (Nat.le_of_ble_eq_true rfl) (Nat.le_of_ble_eq_true rfl) ?_
  refine lv_aload_n hx hb dX8_init_162 rfl (lv_at hl 0 rfl) ?_
  refine lv_sipush (v := 256) hx hb dX8_init_163 (by decide) ?_
  refine n_pair (ci := 8) (j := 29) (N := 256) (NN := 44) (Cn := RX8) (T := TX8) C hin Wd hL rfl inX8 tyX8 tyX8_ok nmX8 (by decide) (wG_at 654 (by decide +kernel) rfl) rfl rfl (by decide +kernel) (by decide) (by decide) (Nat.le_of_ble_eq_true rfl) (Nat.le_of_ble_eq_true rfl) dX8_init_166 dX8_init_168 (fun q166 H locs Wd hL => ?_)
  refine W.widen (k := 19) (n := 41805) (Nat.le_of_ble_eq_true rfl) (Nat.le_of_ble_eq_true rfl) ?_
  refine lv_aload_n hx hb dX8_init_171 rfl (lv_at hl 0 rfl) ?_
  refine lv_bipush (v := 8) hx hb dX8_init_172 (by decide) ?_
  refine n_pair (ci := 8) (j := 31) (N := 8) (NN := 44) (Cn := RX8) (T := TX8) C hin Wd hL rfl inX8 tyX8 tyX8_ok nmX8 (by decide) (wG_at 656 (by decide +kernel) rfl) rfl rfl (by decide +kernel) (by decide) (by decide) (Nat.le_of_ble_eq_true rfl) (Nat.le_of_ble_eq_true rfl) dX8_init_174 dX8_init_176 (fun q174 H locs Wd hL => ?_)
  refine W.widen (k := 20) (n := 41813) (Nat.le_of_ble_eq_true rfl) (Nat.le_of_ble_eq_true rfl) ?_
  refine lv_aload_n hx hb dX8_init_179 rfl (lv_at hl 0 rfl) ?_
  refine lv_sipush (v := 12000) hx hb dX8_init_180 (by decide) ?_
  refine n_pair (ci := 8) (j := 34) (N := 12000) (NN := 44) (Cn := RX8) (T := TX8) C hin Wd hL rfl inX8 tyX8 tyX8_ok nmX8 (by decide) (wG_at 659 (by decide +kernel) rfl) rfl rfl (by decide +kernel) (by decide) (by decide) (Nat.le_of_ble_eq_true rfl) (Nat.le_of_ble_eq_true rfl) dX8_init_183 dX8_init_185 (fun q183 H locs Wd hL => ?_)
  refine W.widen (k := 21) (n := 53813) (Nat.le_of_ble_eq_true rfl) (Nat.le_of_ble_eq_true rfl) ?_
  refine lv_aload_n hx hb dX8_init_188 rfl (lv_at hl 0 rfl) ?_
  refine lv_bipush (v := 20) hx hb dX8_init_189 (by decide) ?_
  refine n_pair (ci := 8) (j := 40) (N := 20) (NN := 44) (Cn := RX8) (T := TX8) C hin Wd hL rfl inX8 tyX8 tyX8_ok nmX8 (by decide) (wG_at 665 (by decide +kernel) rfl) rfl rfl (by decide +kernel) (by decide) (by decide) (Nat.le_of_ble_eq_true rfl) (Nat.le_of_ble_eq_true rfl) dX8_init_191 dX8_init_193 (fun q191 H locs Wd hL => ?_)
  refine W.widen (k := 22) (n := 53833) (Nat.le_of_ble_eq_true rfl) (Nat.le_of_ble_eq_true rfl) ?_
  refine lv_aload_n hx hb dX8_init_196 rfl (lv_at hl 0 rfl) ?_
  refine lv_iconst (v := 4) hx hb dX8_init_197 (by decide) ?_
  refine n_pair (ci := 8) (j := 41) (N := 4) (NN := 44) (Cn := RX8) (T := TX8) C hin Wd hL rfl inX8 tyX8 tyX8_ok nmX8 (by decide) (wG_at 666 (by decide +kernel) rfl) rfl rfl (by decide +kernel) (by decide) (by decide) (Nat.le_of_ble_eq_true rfl) (Nat.le_of_ble_eq_true rfl) dX8_init_198 dX8_init_200 (fun q198 H locs Wd hL => ?_)
  refine W.widen (k := 23) (n := 53837) (Nat.le_of_ble_eq_true rfl) (Nat.le_of_ble_eq_true rfl) ?_
  refine lv_aload_n hx hb dX8_init_203 rfl (lv_at hl 0 rfl) ?_
  refine lv_bipush (v := 41) hx hb dX8_init_204 (by decide) ?_
  refine n_pair (ci := 8) (j := 42) (N := 41) (NN := 44) (Cn := RX8) (T := TX8) C hin Wd hL rfl inX8 tyX8 tyX8_ok nmX8 (by decide) (wG_at 667 (by decide +kernel) rfl) rfl rfl (by decide +kernel) (by decide) (by decide) (Nat.le_of_ble_eq_true rfl) (Nat.le_of_ble_eq_true rfl) dX8_init_206 dX8_init_208 (fun q206 H locs Wd hL => ?_)
  refine W.widen (k := 24) (n := 53878) (Nat.le_of_ble_eq_true rfl) (Nat.le_of_ble_eq_true rfl) ?_
  refine lv_aload_n hx hb dX8_init_211 rfl (lv_at hl 0 rfl) ?_
  refine lv_iconst (v := 4) hx hb dX8_init_212 (by decide) ?_
  refine n_pair (ci := 8) (j := 43) (N := 4) (NN := 44) (Cn := RX8) (T := TX8) C hin Wd hL rfl inX8 tyX8 tyX8_ok nmX8 (by decide) (wG_at 668 (by decide +kernel) rfl) rfl rfl (by decide +kernel) (by decide) (by decide) (Nat.le_of_ble_eq_true rfl) (Nat.le_of_ble_eq_true rfl) dX8_init_213 dX8_init_215 (fun q213 H locs Wd hL => ?_)
  refine W.widen (k := 25) (n := 53882) (Nat.le_of_ble_eq_true rfl) (Nat.le_of_ble_eq_true rfl) ?_
  obtain ⟨hP, hD, hS⟩ := Wd
  obtain ⟨u, hu⟩ : ∃ u : Nat → Nat, u = fun k => [h0, q7, q15, q24, q33, q41, q49, q58, q67, q76, q85, q94, q103, q112, q121, q130, q139, q148, q157, q166, q174, q183, q191, q198, q206, q213].getD k 0 := ⟨_, rfl⟩
  obtain ⟨hP2, hD2⟩ := mws_of (D := D) (cI := cI) (ad := fun k => if k = 0 then h0 else u k) (h := fun _ _ => 0) (A := A) (H := H) ShM (fun k => k) (fun i _ j _ q => q) (fun k e he => by
    subst hu
    have hk : k < 26 := (List.getElem?_eq_some_iff.mp he).1
    rcases (show k = 0 ∨ k = 1 ∨ k = 2 ∨ k = 3 ∨ k = 4 ∨ k = 5 ∨ k = 6 ∨ k = 7 ∨ k = 8 ∨ k = 9 ∨ k = 10 ∨ k = 11 ∨ k = 12 ∨ k = 13 ∨ k = 14 ∨ k = 15 ∨ k = 16 ∨ k = 17 ∨ k = 18 ∨ k = 19 ∨ k = 20 ∨ k = 21 ∨ k = 22 ∨ k = 23 ∨ k = 24 ∨ k = 25 by omega) with rfl | rfl | rfl | rfl | rfl | rfl | rfl | rfl | rfl | rfl | rfl | rfl | rfl | rfl | rfl | rfl | rfl | rfl | rfl | rfl | rfl | rfl | rfl | rfl | rfl | rfl <;> (cases he; rfl)) hP hD
  refine tl_X8_init l p e s m args below meth c Q D cI (fun k => if k = 0 then h0 else u k) A H locs lr ⟨C.1, C.2.1, C.2.2.1, C.2.2.2.1, C.2.2.2.2.1, C.2.2.2.2.2.1, C.2.2.2.2.2.2.1, C.2.2.2.2.2.2.2.1, C.2.2.2.2.2.2.2.2.1, C.2.2.2.2.2.2.2.2.2.1, fun L xs q => by cases q⟩ ⟨fun v h H locs pc lr r hr => (by obtain ⟨ty, e2, -⟩ := hr; cases e2), fun h H locs pc lr r _ hw hd => ?_⟩ ⟨hP2, hD2, hS⟩ ⟨hl.1, hl.2.1, fun i v hv => ?_⟩
  · subst r
    exact fin u H locs pc lr hw hd
  · match i, hv with
    | 0, hv => cases hv; exact hl.2.2 _ List.mem_cons_self
    | 1, hv => cases hv
    | i + 2, hv => cases hv
