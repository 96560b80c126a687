/-! The world of the claim: 53 cells; links, methods. -/
def fk_0 : List Nat := [4, 5, 6, 7, 8, 9, 12]
def fk_1 : List Nat := [14, 15, 0]
def fk_2 : List Nat := [16, 17, 18]
def fk_3 : List Nat := [19, 0]
def fk_4 : List Nat := [20, 0]
def fk_5 : List Nat := [21, 0]
def fk_6 : List Nat := [5, 10, 11, 22, 2, 1, 0, 0, 0, 0, 0, 0, 0, 0, 0, 0]
def fk_7 : List Nat := [23, 24, 0, 0]
def fk_8 : List Nat := [25, 26, 27, 0]
def fk_9 : List Nat := [5, 28, 29, 30]
def fk_10 : List Nat := [0, 31, 32, 33, 34, 0, 35, 36, 0, 37, 38, 39, 40, 41, 42, 0, 43, 44, 45, 0, 46, 47, 48, 0, 0, 0, 0, 0, 0, 49, 0, 50, 0, 0, 51, 0, 0, 0, 0, 0, 52, 53, 54, 55]
def Sh0 : mS := [.inl (7, fk_0), .inl (2, fk_1), .inl (0, fk_2), .inl (3, fk_3), .inl (3, fk_4), .inl (3, fk_5), .inl (4, fk_6), .inl (5, fk_7), .inl (1, fk_8), .inl (6, fk_9), .inl (8, fk_10), .inr 40, .inr 10, .inr 800, .inr 800, .inr 20, .inr 8, .inr 8, .inr 8, .inr 200, .inr 8200, .inr 8200, .inr 201, .inr 201, .inr 201, .inr 800, .inr 800, .inr 4, .inr 40, .inr 20, .inr 800, .inr 800, .inr 8, .inr 41, .inr 512, .inr 512, .inr 512, .inr 512, .inr 512, .inr 512, .inr 12000, .inr 12000, .inr 12000, .inr 256, .inr 256, .inr 256, .inr 256, .inr 8, .inr 12000, .inr 20, .inr 4, .inr 41, .inr 4]
theorem sh_0 : Sh0[0]? = some (.inl (7, fk_0)) := rfl
theorem sh_1 : Sh0[1]? = some (.inl (2, fk_1)) := rfl
theorem sh_2 : Sh0[2]? = some (.inl (0, fk_2)) := rfl
theorem sh_3 : Sh0[3]? = some (.inl (3, fk_3)) := rfl
theorem sh_4 : Sh0[4]? = some (.inl (3, fk_4)) := rfl
theorem sh_5 : Sh0[5]? = some (.inl (3, fk_5)) := rfl
theorem sh_6 : Sh0[6]? = some (.inl (4, fk_6)) := rfl
theorem sh_7 : Sh0[7]? = some (.inl (5, fk_7)) := rfl
theorem sh_8 : Sh0[8]? = some (.inl (1, fk_8)) := rfl
theorem sh_9 : Sh0[9]? = some (.inl (6, fk_9)) := rfl
theorem sh_10 : Sh0[10]? = some (.inl (8, fk_10)) := rfl
theorem sh_11 : Sh0[11]? = some (.inr 40) := rfl
theorem sh_12 : Sh0[12]? = some (.inr 10) := rfl
theorem sh_13 : Sh0[13]? = some (.inr 800) := rfl
theorem sh_14 : Sh0[14]? = some (.inr 800) := rfl
theorem sh_15 : Sh0[15]? = some (.inr 20) := rfl
theorem sh_16 : Sh0[16]? = some (.inr 8) := rfl
theorem sh_17 : Sh0[17]? = some (.inr 8) := rfl
theorem sh_18 : Sh0[18]? = some (.inr 8) := rfl
theorem sh_19 : Sh0[19]? = some (.inr 200) := rfl
theorem sh_20 : Sh0[20]? = some (.inr 8200) := rfl
theorem sh_21 : Sh0[21]? = some (.inr 8200) := rfl
theorem sh_22 : Sh0[22]? = some (.inr 201) := rfl
theorem sh_23 : Sh0[23]? = some (.inr 201) := rfl
theorem sh_24 : Sh0[24]? = some (.inr 201) := rfl
theorem sh_25 : Sh0[25]? = some (.inr 800) := rfl
theorem sh_26 : Sh0[26]? = some (.inr 800) := rfl
theorem sh_27 : Sh0[27]? = some (.inr 4) := rfl
theorem sh_28 : Sh0[28]? = some (.inr 40) := rfl
theorem sh_29 : Sh0[29]? = some (.inr 20) := rfl
theorem sh_30 : Sh0[30]? = some (.inr 800) := rfl
theorem sh_31 : Sh0[31]? = some (.inr 800) := rfl
theorem sh_32 : Sh0[32]? = some (.inr 8) := rfl
theorem sh_33 : Sh0[33]? = some (.inr 41) := rfl
theorem sh_34 : Sh0[34]? = some (.inr 512) := rfl
theorem sh_35 : Sh0[35]? = some (.inr 512) := rfl
theorem sh_36 : Sh0[36]? = some (.inr 512) := rfl
theorem sh_37 : Sh0[37]? = some (.inr 512) := rfl
theorem sh_38 : Sh0[38]? = some (.inr 512) := rfl
theorem sh_39 : Sh0[39]? = some (.inr 512) := rfl
theorem sh_40 : Sh0[40]? = some (.inr 12000) := rfl
theorem sh_41 : Sh0[41]? = some (.inr 12000) := rfl
theorem sh_42 : Sh0[42]? = some (.inr 12000) := rfl
theorem sh_43 : Sh0[43]? = some (.inr 256) := rfl
theorem sh_44 : Sh0[44]? = some (.inr 256) := rfl
theorem sh_45 : Sh0[45]? = some (.inr 256) := rfl
theorem sh_46 : Sh0[46]? = some (.inr 256) := rfl
theorem sh_47 : Sh0[47]? = some (.inr 8) := rfl
theorem sh_48 : Sh0[48]? = some (.inr 12000) := rfl
theorem sh_49 : Sh0[49]? = some (.inr 20) := rfl
theorem sh_50 : Sh0[50]? = some (.inr 4) := rfl
theorem sh_51 : Sh0[51]? = some (.inr 41) := rfl
theorem sh_52 : Sh0[52]? = some (.inr 4) := rfl
theorem fj_0_0 : fk_0[0]? = some (1 + 3) := rfl
theorem fj_0_1 : fk_0[1]? = some (2 + 3) := rfl
theorem fj_0_2 : fk_0[2]? = some (3 + 3) := rfl
theorem fj_0_3 : fk_0[3]? = some (4 + 3) := rfl
theorem fj_0_4 : fk_0[4]? = some (5 + 3) := rfl
theorem fj_0_5 : fk_0[5]? = some (6 + 3) := rfl
theorem fj_0_6 : fk_0[6]? = some (9 + 3) := rfl
theorem fj_1_0 : fk_1[0]? = some (11 + 3) := rfl
theorem fj_1_1 : fk_1[1]? = some (12 + 3) := rfl
theorem fj_1_2 : fk_1[2]? = some 0 := rfl
theorem fj_2_0 : fk_2[0]? = some (13 + 3) := rfl
theorem fj_2_1 : fk_2[1]? = some (14 + 3) := rfl
theorem fj_2_2 : fk_2[2]? = some (15 + 3) := rfl
theorem fj_3_0 : fk_3[0]? = some (16 + 3) := rfl
theorem fj_3_1 : fk_3[1]? = some 0 := rfl
theorem fj_4_0 : fk_4[0]? = some (17 + 3) := rfl
theorem fj_4_1 : fk_4[1]? = some 0 := rfl
theorem fj_5_0 : fk_5[0]? = some (18 + 3) := rfl
theorem fj_5_1 : fk_5[1]? = some 0 := rfl
theorem fj_6_0 : fk_6[0]? = some (2 + 3) := rfl
theorem fj_6_1 : fk_6[1]? = some (7 + 3) := rfl
theorem fj_6_2 : fk_6[2]? = some (8 + 3) := rfl
theorem fj_6_3 : fk_6[3]? = some (19 + 3) := rfl
theorem fj_6_4 : fk_6[4]? = some 2 := rfl
theorem fj_6_5 : fk_6[5]? = some 1 := rfl
theorem fj_6_6 : fk_6[6]? = some 0 := rfl
theorem fj_6_7 : fk_6[7]? = some 0 := rfl
theorem fj_6_8 : fk_6[8]? = some 0 := rfl
theorem fj_6_9 : fk_6[9]? = some 0 := rfl
theorem fj_6_10 : fk_6[10]? = some 0 := rfl
theorem fj_6_11 : fk_6[11]? = some 0 := rfl
theorem fj_6_12 : fk_6[12]? = some 0 := rfl
theorem fj_6_13 : fk_6[13]? = some 0 := rfl
theorem fj_6_14 : fk_6[14]? = some 0 := rfl
theorem fj_6_15 : fk_6[15]? = some 0 := rfl
theorem fj_7_0 : fk_7[0]? = some (20 + 3) := rfl
theorem fj_7_1 : fk_7[1]? = some (21 + 3) := rfl
theorem fj_7_2 : fk_7[2]? = some 0 := rfl
theorem fj_7_3 : fk_7[3]? = some 0 := rfl
theorem fj_8_0 : fk_8[0]? = some (22 + 3) := rfl
theorem fj_8_1 : fk_8[1]? = some (23 + 3) := rfl
theorem fj_8_2 : fk_8[2]? = some (24 + 3) := rfl
theorem fj_8_3 : fk_8[3]? = some 0 := rfl
theorem fj_9_0 : fk_9[0]? = some (2 + 3) := rfl
theorem fj_9_1 : fk_9[1]? = some (25 + 3) := rfl
theorem fj_9_2 : fk_9[2]? = some (26 + 3) := rfl
theorem fj_9_3 : fk_9[3]? = some (27 + 3) := rfl
theorem fj_10_0 : fk_10[0]? = some 0 := rfl
theorem fj_10_1 : fk_10[1]? = some (28 + 3) := rfl
theorem fj_10_2 : fk_10[2]? = some (29 + 3) := rfl
theorem fj_10_3 : fk_10[3]? = some (30 + 3) := rfl
theorem fj_10_4 : fk_10[4]? = some (31 + 3) := rfl
theorem fj_10_5 : fk_10[5]? = some 0 := rfl
theorem fj_10_6 : fk_10[6]? = some (32 + 3) := rfl
theorem fj_10_7 : fk_10[7]? = some (33 + 3) := rfl
theorem fj_10_8 : fk_10[8]? = some 0 := rfl
theorem fj_10_9 : fk_10[9]? = some (34 + 3) := rfl
theorem fj_10_10 : fk_10[10]? = some (35 + 3) := rfl
theorem fj_10_11 : fk_10[11]? = some (36 + 3) := rfl
theorem fj_10_12 : fk_10[12]? = some (37 + 3) := rfl
theorem fj_10_13 : fk_10[13]? = some (38 + 3) := rfl
theorem fj_10_14 : fk_10[14]? = some (39 + 3) := rfl
theorem fj_10_15 : fk_10[15]? = some 0 := rfl
theorem fj_10_16 : fk_10[16]? = some (40 + 3) := rfl
theorem fj_10_17 : fk_10[17]? = some (41 + 3) := rfl
theorem fj_10_18 : fk_10[18]? = some (42 + 3) := rfl
theorem fj_10_19 : fk_10[19]? = some 0 := rfl
theorem fj_10_20 : fk_10[20]? = some (43 + 3) := rfl
theorem fj_10_21 : fk_10[21]? = some (44 + 3) := rfl
theorem fj_10_22 : fk_10[22]? = some (45 + 3) := rfl
theorem fj_10_23 : fk_10[23]? = some 0 := rfl
theorem fj_10_24 : fk_10[24]? = some 0 := rfl
theorem fj_10_25 : fk_10[25]? = some 0 := rfl
theorem fj_10_26 : fk_10[26]? = some 0 := rfl
theorem fj_10_27 : fk_10[27]? = some 0 := rfl
theorem fj_10_28 : fk_10[28]? = some 0 := rfl
theorem fj_10_29 : fk_10[29]? = some (46 + 3) := rfl
theorem fj_10_30 : fk_10[30]? = some 0 := rfl
theorem fj_10_31 : fk_10[31]? = some (47 + 3) := rfl
theorem fj_10_32 : fk_10[32]? = some 0 := rfl
theorem fj_10_33 : fk_10[33]? = some 0 := rfl
theorem fj_10_34 : fk_10[34]? = some (48 + 3) := rfl
theorem fj_10_35 : fk_10[35]? = some 0 := rfl
theorem fj_10_36 : fk_10[36]? = some 0 := rfl
theorem fj_10_37 : fk_10[37]? = some 0 := rfl
theorem fj_10_38 : fk_10[38]? = some 0 := rfl
theorem fj_10_39 : fk_10[39]? = some 0 := rfl
theorem fj_10_40 : fk_10[40]? = some (49 + 3) := rfl
theorem fj_10_41 : fk_10[41]? = some (50 + 3) := rfl
theorem fj_10_42 : fk_10[42]? = some (51 + 3) := rfl
theorem fj_10_43 : fk_10[43]? = some (52 + 3) := rfl
theorem ci_X0 : (vwCl[0]?).map (fun q => q.1) = some RX0 := rfl
theorem ci_X1 : (vwCl[1]?).map (fun q => q.1) = some RX1 := rfl
theorem ci_X2 : (vwCl[2]?).map (fun q => q.1) = some RX2 := rfl
theorem ci_X3 : (vwCl[3]?).map (fun q => q.1) = some RX3 := rfl
theorem ci_X4 : (vwCl[4]?).map (fun q => q.1) = some RX4 := rfl
theorem ci_X5 : (vwCl[5]?).map (fun q => q.1) = some RX5 := rfl
theorem ci_X6 : (vwCl[6]?).map (fun q => q.1) = some RX6 := rfl
theorem ci_X7 : (vwCl[7]?).map (fun q => q.1) = some RX7 := rfl
theorem ci_X8 : (vwCl[8]?).map (fun q => q.1) = some RX8 := rfl
theorem fl_X7_12 : mFL RX7 12 7 0 := ⟨RX7, TX7, 7, rfl, by decide, inX7, Or.inl (wG_at 231 (by decide +kernel) rfl)⟩
theorem fl_X7_19 : mFL RX7 19 7 1 := ⟨RX7, TX7, 7, rfl, by decide, inX7, Or.inl (wG_at 232 (by decide +kernel) rfl)⟩
theorem fl_X7_26 : mFL RX7 26 7 2 := ⟨RX7, TX7, 7, rfl, by decide, inX7, Or.inl (wG_at 233 (by decide +kernel) rfl)⟩
theorem fl_X7_30 : mFL RX7 30 7 3 := ⟨RX7, TX7, 7, rfl, by decide, inX7, Or.inl (wG_at 234 (by decide +kernel) rfl)⟩
theorem fl_X7_33 : mFL RX7 33 7 4 := ⟨RX7, TX7, 7, rfl, by decide, inX7, Or.inl (wG_at 235 (by decide +kernel) rfl)⟩
theorem fl_X7_41 : mFL RX7 41 7 5 := ⟨RX7, TX7, 7, rfl, by decide, inX7, Or.inl (wG_at 236 (by decide +kernel) rfl)⟩
theorem fl_X7_50 : mFL RX7 50 7 6 := ⟨RX7, TX7, 7, rfl, by decide, inX7, Or.inl (wG_at 237 (by decide +kernel) rfl)⟩
theorem fl_X7_62 : mFL RX7 62 2 2 := ⟨RX2, TX2, 3, rfl, by decide, inX2, Or.inr ⟨"DeedHands", List.mem_of_getElem? (i := 70) (by decide +kernel)⟩⟩
theorem fp_X2_2 : mFP 2 2 .int := ⟨RX2, TX2, 3, rfl, ⟨tyX2, tyX2_ok⟩, nmX2, rfl, by decide +kernel⟩
theorem fl_X7_98 : mFL RX7 98 3 1 := ⟨RX3, TX3, 2, rfl, by decide, inX3, Or.inr ⟨"DeedHands", List.mem_of_getElem? (i := 104) (by decide +kernel)⟩⟩
theorem fl_X7_143 : mFL RX7 143 4 9 := ⟨RX4, TX4, 16, rfl, by decide, inX4, Or.inr ⟨"DeedHands", List.mem_of_getElem? (i := 167) (by decide +kernel)⟩⟩
theorem fl_X7_146 : mFL RX7 146 4 11 := ⟨RX4, TX4, 16, rfl, by decide, inX4, Or.inr ⟨"DeedHands", List.mem_of_getElem? (i := 170) (by decide +kernel)⟩⟩
theorem fl_X0_9 : mFL RX0 9 0 0 := ⟨RX0, TX0, 3, rfl, by decide, inX0, Or.inl (wG_at 86 (by decide +kernel) rfl)⟩
theorem fl_X0_15 : mFL RX0 15 0 1 := ⟨RX0, TX0, 3, rfl, by decide, inX0, Or.inl (wG_at 87 (by decide +kernel) rfl)⟩
theorem fl_X0_18 : mFL RX0 18 0 2 := ⟨RX0, TX0, 3, rfl, by decide, inX0, Or.inl (wG_at 88 (by decide +kernel) rfl)⟩
theorem fl_X0_21 : mFL RX0 21 2 2 := ⟨RX2, TX2, 3, rfl, by decide, inX2, Or.inr ⟨"DeedHands", List.mem_of_getElem? (i := 71) (by decide +kernel)⟩⟩
theorem fl_X1_11 : mFL RX1 11 1 0 := ⟨RX1, TX1, 4, rfl, by decide, inX1, Or.inl (wG_at 143 (by decide +kernel) rfl)⟩
theorem fl_X1_15 : mFL RX1 15 1 1 := ⟨RX1, TX1, 4, rfl, by decide, inX1, Or.inl (wG_at 144 (by decide +kernel) rfl)⟩
theorem fl_X1_18 : mFL RX1 18 1 2 := ⟨RX1, TX1, 4, rfl, by decide, inX1, Or.inl (wG_at 145 (by decide +kernel) rfl)⟩
theorem fl_X1_21 : mFL RX1 21 1 3 := ⟨RX1, TX1, 4, rfl, by decide, inX1, Or.inl (wG_at 146 (by decide +kernel) rfl)⟩
theorem fp_X1_3 : mFP 1 3 .int := ⟨RX1, TX1, 4, rfl, ⟨tyX1, tyX1_ok⟩, nmX1, rfl, by decide +kernel⟩
theorem fl_X2_9 : mFL RX2 9 2 0 := ⟨RX2, TX2, 3, rfl, by decide, inX2, Or.inl (wG_at 67 (by decide +kernel) rfl)⟩
theorem fl_X2_15 : mFL RX2 15 2 1 := ⟨RX2, TX2, 3, rfl, by decide, inX2, Or.inl (wG_at 68 (by decide +kernel) rfl)⟩
theorem fl_X2_18 : mFL RX2 18 2 2 := ⟨RX2, TX2, 3, rfl, by decide, inX2, Or.inl (wG_at 69 (by decide +kernel) rfl)⟩
theorem fl_X3_9 : mFL RX3 9 3 0 := ⟨RX3, TX3, 2, rfl, by decide, inX3, Or.inl (wG_at 102 (by decide +kernel) rfl)⟩
theorem fl_X3_15 : mFL RX3 15 3 1 := ⟨RX3, TX3, 2, rfl, by decide, inX3, Or.inl (wG_at 103 (by decide +kernel) rfl)⟩
theorem fp_X3_1 : mFP 3 1 .int := ⟨RX3, TX3, 2, rfl, ⟨tyX3, tyX3_ok⟩, nmX3, rfl, by decide +kernel⟩
theorem fl_X4_12 : mFL RX4 12 4 1 := ⟨RX4, TX4, 16, rfl, by decide, inX4, Or.inl (wG_at 158 (by decide +kernel) rfl)⟩
theorem fl_X4_21 : mFL RX4 21 4 2 := ⟨RX4, TX4, 16, rfl, by decide, inX4, Or.inl (wG_at 159 (by decide +kernel) rfl)⟩
theorem fl_X4_25 : mFL RX4 25 4 3 := ⟨RX4, TX4, 16, rfl, by decide, inX4, Or.inl (wG_at 160 (by decide +kernel) rfl)⟩
theorem fl_X4_29 : mFL RX4 29 4 0 := ⟨RX4, TX4, 16, rfl, by decide, inX4, Or.inl (wG_at 157 (by decide +kernel) rfl)⟩
theorem fl_X4_33 : mFL RX4 33 4 4 := ⟨RX4, TX4, 16, rfl, by decide, inX4, Or.inl (wG_at 161 (by decide +kernel) rfl)⟩
theorem fp_X4_4 : mFP 4 4 (.object "DeedHands$Row") := ⟨RX4, TX4, 16, rfl, ⟨tyX4, tyX4_ok⟩, nmX4, rfl, by decide +kernel⟩
theorem fl_X4_40 : mFL RX4 40 1 3 := ⟨RX1, TX1, 4, rfl, by decide, inX1, Or.inr ⟨"DeedHands", List.mem_of_getElem? (i := 147) (by decide +kernel)⟩⟩
theorem fl_X4_44 : mFL RX4 44 4 9 := ⟨RX4, TX4, 16, rfl, by decide, inX4, Or.inl (wG_at 166 (by decide +kernel) rfl)⟩
theorem fp_X4_9 : mFP 4 9 .int := ⟨RX4, TX4, 16, rfl, ⟨tyX4, tyX4_ok⟩, nmX4, rfl, by decide +kernel⟩
theorem fl_X4_47 : mFL RX4 47 4 10 := ⟨RX4, TX4, 16, rfl, by decide, inX4, Or.inl (wG_at 168 (by decide +kernel) rfl)⟩
theorem fp_X4_10 : mFP 4 10 .int := ⟨RX4, TX4, 16, rfl, ⟨tyX4, tyX4_ok⟩, nmX4, rfl, by decide +kernel⟩
theorem fl_X4_50 : mFL RX4 50 4 11 := ⟨RX4, TX4, 16, rfl, by decide, inX4, Or.inl (wG_at 169 (by decide +kernel) rfl)⟩
theorem fp_X4_11 : mFP 4 11 .int := ⟨RX4, TX4, 16, rfl, ⟨tyX4, tyX4_ok⟩, nmX4, rfl, by decide +kernel⟩
theorem fl_X4_53 : mFL RX4 53 4 12 := ⟨RX4, TX4, 16, rfl, by decide, inX4, Or.inl (wG_at 171 (by decide +kernel) rfl)⟩
theorem fp_X4_12 : mFP 4 12 .int := ⟨RX4, TX4, 16, rfl, ⟨tyX4, tyX4_ok⟩, nmX4, rfl, by decide +kernel⟩
theorem fl_X4_56 : mFL RX4 56 4 13 := ⟨RX4, TX4, 16, rfl, by decide, inX4, Or.inl (wG_at 172 (by decide +kernel) rfl)⟩
theorem fp_X4_13 : mFP 4 13 .int := ⟨RX4, TX4, 16, rfl, ⟨tyX4, tyX4_ok⟩, nmX4, rfl, by decide +kernel⟩
theorem fl_X4_59 : mFL RX4 59 4 14 := ⟨RX4, TX4, 16, rfl, by decide, inX4, Or.inl (wG_at 173 (by decide +kernel) rfl)⟩
theorem fp_X4_14 : mFP 4 14 .int := ⟨RX4, TX4, 16, rfl, ⟨tyX4, tyX4_ok⟩, nmX4, rfl, by decide +kernel⟩
theorem fl_X4_62 : mFL RX4 62 4 15 := ⟨RX4, TX4, 16, rfl, by decide, inX4, Or.inl (wG_at 174 (by decide +kernel) rfl)⟩
theorem fp_X4_15 : mFP 4 15 .int := ⟨RX4, TX4, 16, rfl, ⟨tyX4, tyX4_ok⟩, nmX4, rfl, by decide +kernel⟩
theorem fl_X4_70 : mFL RX4 70 4 5 := ⟨RX4, TX4, 16, rfl, by decide, inX4, Or.inl (wG_at 162 (by decide +kernel) rfl)⟩
theorem fp_X4_5 : mFP 4 5 .boolean := ⟨RX4, TX4, 16, rfl, ⟨tyX4, tyX4_ok⟩, nmX4, rfl, by decide +kernel⟩
theorem fl_X4_83 : mFL RX4 83 4 7 := ⟨RX4, TX4, 16, rfl, by decide, inX4, Or.inl (wG_at 164 (by decide +kernel) rfl)⟩
theorem fp_X4_7 : mFP 4 7 .int := ⟨RX4, TX4, 16, rfl, ⟨tyX4, tyX4_ok⟩, nmX4, rfl, by decide +kernel⟩
theorem fl_X4_86 : mFL RX4 86 4 6 := ⟨RX4, TX4, 16, rfl, by decide, inX4, Or.inl (wG_at 163 (by decide +kernel) rfl)⟩
theorem fp_X4_6 : mFP 4 6 .int := ⟨RX4, TX4, 16, rfl, ⟨tyX4, tyX4_ok⟩, nmX4, rfl, by decide +kernel⟩
theorem fl_X4_89 : mFL RX4 89 4 8 := ⟨RX4, TX4, 16, rfl, by decide, inX4, Or.inl (wG_at 165 (by decide +kernel) rfl)⟩
theorem fp_X4_8 : mFP 4 8 .int := ⟨RX4, TX4, 16, rfl, ⟨tyX4, tyX4_ok⟩, nmX4, rfl, by decide +kernel⟩
theorem fl_X4_115 : mFL RX4 115 5 3 := ⟨RX5, TX5, 4, rfl, by decide, inX5, Or.inr ⟨"DeedHands", List.mem_of_getElem? (i := 127) (by decide +kernel)⟩⟩
theorem fp_X5_3 : mFP 5 3 .int := ⟨RX5, TX5, 4, rfl, ⟨tyX5, tyX5_ok⟩, nmX5, rfl, by decide +kernel⟩
theorem fl_X4_177 : mFL RX4 177 3 1 := ⟨RX3, TX3, 2, rfl, by decide, inX3, Or.inr ⟨"DeedHands", List.mem_of_getElem? (i := 105) (by decide +kernel)⟩⟩
theorem fl_X5_11 : mFL RX5 11 5 0 := ⟨RX5, TX5, 4, rfl, by decide, inX5, Or.inl (wG_at 123 (by decide +kernel) rfl)⟩
theorem fl_X5_15 : mFL RX5 15 5 1 := ⟨RX5, TX5, 4, rfl, by decide, inX5, Or.inl (wG_at 124 (by decide +kernel) rfl)⟩
theorem fl_X5_18 : mFL RX5 18 5 2 := ⟨RX5, TX5, 4, rfl, by decide, inX5, Or.inl (wG_at 125 (by decide +kernel) rfl)⟩
theorem fp_X5_2 : mFP 5 2 .int := ⟨RX5, TX5, 4, rfl, ⟨tyX5, tyX5_ok⟩, nmX5, rfl, by decide +kernel⟩
theorem fl_X5_22 : mFL RX5 22 5 3 := ⟨RX5, TX5, 4, rfl, by decide, inX5, Or.inl (wG_at 126 (by decide +kernel) rfl)⟩
theorem fl_X6_9 : mFL RX6 9 6 1 := ⟨RX6, TX6, 4, rfl, by decide, inX6, Or.inl (wG_at 215 (by decide +kernel) rfl)⟩
theorem fl_X6_15 : mFL RX6 15 6 2 := ⟨RX6, TX6, 4, rfl, by decide, inX6, Or.inl (wG_at 216 (by decide +kernel) rfl)⟩
theorem fl_X6_18 : mFL RX6 18 6 3 := ⟨RX6, TX6, 4, rfl, by decide, inX6, Or.inl (wG_at 217 (by decide +kernel) rfl)⟩
theorem fl_X6_21 : mFL RX6 21 6 0 := ⟨RX6, TX6, 4, rfl, by decide, inX6, Or.inl (wG_at 214 (by decide +kernel) rfl)⟩
theorem fl_X8_7 : mFL RX8 7 8 1 := ⟨RX8, TX8, 44, rfl, by decide, inX8, Or.inl (wG_at 626 (by decide +kernel) rfl)⟩
theorem fl_X8_13 : mFL RX8 13 8 2 := ⟨RX8, TX8, 44, rfl, by decide, inX8, Or.inl (wG_at 627 (by decide +kernel) rfl)⟩
theorem fl_X8_16 : mFL RX8 16 8 3 := ⟨RX8, TX8, 44, rfl, by decide, inX8, Or.inl (wG_at 628 (by decide +kernel) rfl)⟩
theorem fl_X8_19 : mFL RX8 19 8 4 := ⟨RX8, TX8, 44, rfl, by decide, inX8, Or.inl (wG_at 629 (by decide +kernel) rfl)⟩
theorem fl_X8_22 : mFL RX8 22 8 6 := ⟨RX8, TX8, 44, rfl, by decide, inX8, Or.inl (wG_at 631 (by decide +kernel) rfl)⟩
theorem fl_X8_25 : mFL RX8 25 8 7 := ⟨RX8, TX8, 44, rfl, by decide, inX8, Or.inl (wG_at 632 (by decide +kernel) rfl)⟩
theorem fl_X8_28 : mFL RX8 28 8 9 := ⟨RX8, TX8, 44, rfl, by decide, inX8, Or.inl (wG_at 634 (by decide +kernel) rfl)⟩
theorem fl_X8_31 : mFL RX8 31 8 10 := ⟨RX8, TX8, 44, rfl, by decide, inX8, Or.inl (wG_at 635 (by decide +kernel) rfl)⟩
theorem fl_X8_34 : mFL RX8 34 8 11 := ⟨RX8, TX8, 44, rfl, by decide, inX8, Or.inl (wG_at 636 (by decide +kernel) rfl)⟩
theorem fl_X8_37 : mFL RX8 37 8 12 := ⟨RX8, TX8, 44, rfl, by decide, inX8, Or.inl (wG_at 637 (by decide +kernel) rfl)⟩
theorem fl_X8_40 : mFL RX8 40 8 13 := ⟨RX8, TX8, 44, rfl, by decide, inX8, Or.inl (wG_at 638 (by decide +kernel) rfl)⟩
theorem fl_X8_43 : mFL RX8 43 8 14 := ⟨RX8, TX8, 44, rfl, by decide, inX8, Or.inl (wG_at 639 (by decide +kernel) rfl)⟩
theorem fl_X8_46 : mFL RX8 46 8 16 := ⟨RX8, TX8, 44, rfl, by decide, inX8, Or.inl (wG_at 641 (by decide +kernel) rfl)⟩
theorem fl_X8_49 : mFL RX8 49 8 17 := ⟨RX8, TX8, 44, rfl, by decide, inX8, Or.inl (wG_at 642 (by decide +kernel) rfl)⟩
theorem fl_X8_52 : mFL RX8 52 8 18 := ⟨RX8, TX8, 44, rfl, by decide, inX8, Or.inl (wG_at 643 (by decide +kernel) rfl)⟩
theorem fl_X8_55 : mFL RX8 55 8 20 := ⟨RX8, TX8, 44, rfl, by decide, inX8, Or.inl (wG_at 645 (by decide +kernel) rfl)⟩
theorem fl_X8_58 : mFL RX8 58 8 21 := ⟨RX8, TX8, 44, rfl, by decide, inX8, Or.inl (wG_at 646 (by decide +kernel) rfl)⟩
theorem fl_X8_61 : mFL RX8 61 8 22 := ⟨RX8, TX8, 44, rfl, by decide, inX8, Or.inl (wG_at 647 (by decide +kernel) rfl)⟩
theorem fl_X8_64 : mFL RX8 64 8 29 := ⟨RX8, TX8, 44, rfl, by decide, inX8, Or.inl (wG_at 654 (by decide +kernel) rfl)⟩
theorem fl_X8_67 : mFL RX8 67 8 31 := ⟨RX8, TX8, 44, rfl, by decide, inX8, Or.inl (wG_at 656 (by decide +kernel) rfl)⟩
theorem fl_X8_70 : mFL RX8 70 8 34 := ⟨RX8, TX8, 44, rfl, by decide, inX8, Or.inl (wG_at 659 (by decide +kernel) rfl)⟩
theorem fl_X8_73 : mFL RX8 73 8 40 := ⟨RX8, TX8, 44, rfl, by decide, inX8, Or.inl (wG_at 665 (by decide +kernel) rfl)⟩
theorem fl_X8_76 : mFL RX8 76 8 41 := ⟨RX8, TX8, 44, rfl, by decide, inX8, Or.inl (wG_at 666 (by decide +kernel) rfl)⟩
theorem fl_X8_79 : mFL RX8 79 8 42 := ⟨RX8, TX8, 44, rfl, by decide, inX8, Or.inl (wG_at 667 (by decide +kernel) rfl)⟩
theorem fl_X8_82 : mFL RX8 82 8 43 := ⟨RX8, TX8, 44, rfl, by decide, inX8, Or.inl (wG_at 668 (by decide +kernel) rfl)⟩
theorem fl_X8_89 : mFL RX8 89 8 0 := ⟨RX8, TX8, 44, rfl, by decide, inX8, Or.inl (wG_at 625 (by decide +kernel) rfl)⟩
theorem fp_X8_0 : mFP 8 0 .int := ⟨RX8, TX8, 44, rfl, ⟨tyX8, tyX8_ok⟩, nmX8, rfl, by decide +kernel⟩
theorem fl_X8_117 : mFL RX8 117 8 5 := ⟨RX8, TX8, 44, rfl, by decide, inX8, Or.inl (wG_at 630 (by decide +kernel) rfl)⟩
theorem fp_X8_5 : mFP 8 5 .int := ⟨RX8, TX8, 44, rfl, ⟨tyX8, tyX8_ok⟩, nmX8, rfl, by decide +kernel⟩
theorem fl_X8_120 : mFL RX8 120 8 8 := ⟨RX8, TX8, 44, rfl, by decide, inX8, Or.inl (wG_at 633 (by decide +kernel) rfl)⟩
theorem fp_X8_8 : mFP 8 8 .int := ⟨RX8, TX8, 44, rfl, ⟨tyX8, tyX8_ok⟩, nmX8, rfl, by decide +kernel⟩
theorem fl_X8_123 : mFL RX8 123 8 32 := ⟨RX8, TX8, 44, rfl, by decide, inX8, Or.inl (wG_at 657 (by decide +kernel) rfl)⟩
theorem fp_X8_32 : mFP 8 32 .int := ⟨RX8, TX8, 44, rfl, ⟨tyX8, tyX8_ok⟩, nmX8, rfl, by decide +kernel⟩
theorem fl_X8_126 : mFL RX8 126 8 15 := ⟨RX8, TX8, 44, rfl, by decide, inX8, Or.inl (wG_at 640 (by decide +kernel) rfl)⟩
theorem fp_X8_15 : mFP 8 15 .int := ⟨RX8, TX8, 44, rfl, ⟨tyX8, tyX8_ok⟩, nmX8, rfl, by decide +kernel⟩
theorem fl_X8_129 : mFL RX8 129 8 33 := ⟨RX8, TX8, 44, rfl, by decide, inX8, Or.inl (wG_at 658 (by decide +kernel) rfl)⟩
theorem fp_X8_33 : mFP 8 33 .int := ⟨RX8, TX8, 44, rfl, ⟨tyX8, tyX8_ok⟩, nmX8, rfl, by decide +kernel⟩
theorem fl_X8_132 : mFL RX8 132 8 19 := ⟨RX8, TX8, 44, rfl, by decide, inX8, Or.inl (wG_at 644 (by decide +kernel) rfl)⟩
theorem fp_X8_19 : mFP 8 19 .int := ⟨RX8, TX8, 44, rfl, ⟨tyX8, tyX8_ok⟩, nmX8, rfl, by decide +kernel⟩
theorem fl_X8_135 : mFL RX8 135 8 23 := ⟨RX8, TX8, 44, rfl, by decide, inX8, Or.inl (wG_at 648 (by decide +kernel) rfl)⟩
theorem fp_X8_23 : mFP 8 23 .int := ⟨RX8, TX8, 44, rfl, ⟨tyX8, tyX8_ok⟩, nmX8, rfl, by decide +kernel⟩
theorem fl_X8_138 : mFL RX8 138 8 24 := ⟨RX8, TX8, 44, rfl, by decide, inX8, Or.inl (wG_at 649 (by decide +kernel) rfl)⟩
theorem fp_X8_24 : mFP 8 24 .int := ⟨RX8, TX8, 44, rfl, ⟨tyX8, tyX8_ok⟩, nmX8, rfl, by decide +kernel⟩
theorem fl_X8_141 : mFL RX8 141 8 25 := ⟨RX8, TX8, 44, rfl, by decide, inX8, Or.inl (wG_at 650 (by decide +kernel) rfl)⟩
theorem fp_X8_25 : mFP 8 25 .int := ⟨RX8, TX8, 44, rfl, ⟨tyX8, tyX8_ok⟩, nmX8, rfl, by decide +kernel⟩
theorem fl_X8_144 : mFL RX8 144 8 26 := ⟨RX8, TX8, 44, rfl, by decide, inX8, Or.inl (wG_at 651 (by decide +kernel) rfl)⟩
theorem fp_X8_26 : mFP 8 26 .int := ⟨RX8, TX8, 44, rfl, ⟨tyX8, tyX8_ok⟩, nmX8, rfl, by decide +kernel⟩
theorem fl_X8_147 : mFL RX8 147 8 27 := ⟨RX8, TX8, 44, rfl, by decide, inX8, Or.inl (wG_at 652 (by decide +kernel) rfl)⟩
theorem fp_X8_27 : mFP 8 27 .int := ⟨RX8, TX8, 44, rfl, ⟨tyX8, tyX8_ok⟩, nmX8, rfl, by decide +kernel⟩
theorem fl_X8_150 : mFL RX8 150 8 28 := ⟨RX8, TX8, 44, rfl, by decide, inX8, Or.inl (wG_at 653 (by decide +kernel) rfl)⟩
theorem fp_X8_28 : mFP 8 28 .int := ⟨RX8, TX8, 44, rfl, ⟨tyX8, tyX8_ok⟩, nmX8, rfl, by decide +kernel⟩
theorem fl_X8_153 : mFL RX8 153 8 35 := ⟨RX8, TX8, 44, rfl, by decide, inX8, Or.inl (wG_at 660 (by decide +kernel) rfl)⟩
theorem fp_X8_35 : mFP 8 35 .int := ⟨RX8, TX8, 44, rfl, ⟨tyX8, tyX8_ok⟩, nmX8, rfl, by decide +kernel⟩
theorem fl_X8_156 : mFL RX8 156 8 36 := ⟨RX8, TX8, 44, rfl, by decide, inX8, Or.inl (wG_at 661 (by decide +kernel) rfl)⟩
theorem fp_X8_36 : mFP 8 36 .int := ⟨RX8, TX8, 44, rfl, ⟨tyX8, tyX8_ok⟩, nmX8, rfl, by decide +kernel⟩
theorem fl_X8_159 : mFL RX8 159 8 37 := ⟨RX8, TX8, 44, rfl, by decide, inX8, Or.inl (wG_at 662 (by decide +kernel) rfl)⟩
theorem fp_X8_37 : mFP 8 37 .int := ⟨RX8, TX8, 44, rfl, ⟨tyX8, tyX8_ok⟩, nmX8, rfl, by decide +kernel⟩
theorem fl_X8_162 : mFL RX8 162 8 38 := ⟨RX8, TX8, 44, rfl, by decide, inX8, Or.inl (wG_at 663 (by decide +kernel) rfl)⟩
theorem fp_X8_38 : mFP 8 38 .int := ⟨RX8, TX8, 44, rfl, ⟨tyX8, tyX8_ok⟩, nmX8, rfl, by decide +kernel⟩
theorem fl_X8_165 : mFL RX8 165 8 39 := ⟨RX8, TX8, 44, rfl, by decide, inX8, Or.inl (wG_at 664 (by decide +kernel) rfl)⟩
theorem fp_X8_39 : mFP 8 39 .int := ⟨RX8, TX8, 44, rfl, ⟨tyX8, tyX8_ok⟩, nmX8, rfl, by decide +kernel⟩
theorem fl_X8_203 : mFL RX8 203 8 30 := ⟨RX8, TX8, 44, rfl, by decide, inX8, Or.inl (wG_at 655 (by decide +kernel) rfl)⟩
theorem fp_X8_30 : mFP 8 30 .int := ⟨RX8, TX8, 44, rfl, ⟨tyX8, tyX8_ok⟩, nmX8, rfl, by decide +kernel⟩
abbrev iX0_size : mI := (RX0, cX0_size, 2, (some .int), { frames := 0, cells := 0, slots := 0, locals := 0 })
theorem yv_X0_size : mYv yX0_size iX0_size 1 := ⟨⟨by decide +kernel, rfl, ⟨by decide +kernel, by decide +kernel, by decide +kernel⟩, wG_at 344 (by decide +kernel) rfl, wG_at 45 (by decide +kernel) rfl, rfl, rfl⟩, wG_at 342 (by decide +kernel) rfl, wG_at 343 (by decide +kernel) rfl⟩
abbrev iX0_clear : mI := (RX0, cX0_clear, 2, none, { frames := 0, cells := 0, slots := 0, locals := 0 })
theorem yv_X0_clear : mYv yX0_clear iX0_clear 1 := ⟨⟨by decide +kernel, rfl, ⟨by decide +kernel, by decide +kernel, by decide +kernel⟩, wG_at 348 (by decide +kernel) rfl, wG_at 45 (by decide +kernel) rfl, rfl, rfl⟩, wG_at 346 (by decide +kernel) rfl, wG_at 347 (by decide +kernel) rfl⟩
abbrev iX0_writeNought : mI := (RX0, cX0_writeNought, 2, none, { frames := 0, cells := 0, slots := 0, locals := 0 })
theorem yv_X0_writeNought : mYv yX0_writeNought iX0_writeNought 1 := ⟨⟨by decide +kernel, rfl, ⟨by decide +kernel, by decide +kernel, by decide +kernel⟩, wG_at 230 (by decide +kernel) rfl, wG_at 45 (by decide +kernel) rfl, rfl, rfl⟩, wG_at 228 (by decide +kernel) rfl, wG_at 229 (by decide +kernel) rfl⟩
abbrev iX0_write : mI := (RX0, cX0_write, 5, none, { frames := 3, cells := 0, slots := 0, locals := 66 })
theorem yv_X0_write : mYv yX0_write iX0_write 2 := ⟨⟨by decide +kernel, rfl, ⟨by decide +kernel, by decide +kernel, by decide +kernel⟩, wG_at 304 (by decide +kernel) rfl, wG_at 45 (by decide +kernel) rfl, rfl, rfl⟩, wG_at 302 (by decide +kernel) rfl, wG_at 303 (by decide +kernel) rfl⟩
abbrev iX0_behind : mI := (RX0, cX0_behind, 5, (some .int), { frames := 2, cells := 0, slots := 0, locals := 42 })
theorem yv_X0_behind : mYv yX0_behind iX0_behind 1 := ⟨⟨by decide +kernel, rfl, ⟨by decide +kernel, by decide +kernel, by decide +kernel⟩, wG_at 312 (by decide +kernel) rfl, wG_at 45 (by decide +kernel) rfl, rfl, rfl⟩, wG_at 311 (by decide +kernel) rfl, wG_at 2 (by decide +kernel) rfl⟩
abbrev iX0_sign : mI := (RX0, cX0_sign, 2, (some .int), { frames := 0, cells := 0, slots := 0, locals := 0 })
theorem yv_X0_sign : mYv yX0_sign iX0_sign 1 := ⟨⟨by decide +kernel, rfl, ⟨by decide +kernel, by decide +kernel, by decide +kernel⟩, wG_at 320 (by decide +kernel) rfl, wG_at 45 (by decide +kernel) rfl, rfl, rfl⟩, wG_at 318 (by decide +kernel) rfl, wG_at 319 (by decide +kernel) rfl⟩
abbrev iX0_after : mI := (RX0, cX0_after, 2, (some .int), { frames := 0, cells := 0, slots := 0, locals := 0 })
theorem yv_X0_after : mYv yX0_after iX0_after 1 := ⟨⟨by decide +kernel, rfl, ⟨by decide +kernel, by decide +kernel, by decide +kernel⟩, wG_at 325 (by decide +kernel) rfl, wG_at 45 (by decide +kernel) rfl, rfl, rfl⟩, wG_at 323 (by decide +kernel) rfl, wG_at 324 (by decide +kernel) rfl⟩
abbrev iX0_first : mI := (RX0, cX0_first, 2, (some .int), { frames := 1, cells := 0, slots := 0, locals := 21 })
theorem yv_X0_first : mYv yX0_first iX0_first 1 := ⟨⟨by decide +kernel, rfl, ⟨by decide +kernel, by decide +kernel, by decide +kernel⟩, wG_at 316 (by decide +kernel) rfl, wG_at 45 (by decide +kernel) rfl, rfl, rfl⟩, wG_at 314 (by decide +kernel) rfl, wG_at 315 (by decide +kernel) rfl⟩
abbrev iX0_hand : mI := (RX0, cX0_hand, 3, (some .int), { frames := 0, cells := 0, slots := 0, locals := 0 })
theorem yv_X0_hand : mYv yX0_hand iX0_hand 1 := ⟨⟨by decide +kernel, rfl, ⟨by decide +kernel, by decide +kernel, by decide +kernel⟩, wG_at 462 (by decide +kernel) rfl, wG_at 45 (by decide +kernel) rfl, rfl, rfl⟩, wG_at 460 (by decide +kernel) rfl, wG_at 461 (by decide +kernel) rfl⟩
abbrev iX0_clauses : mI := (RX0, cX0_clauses, 4, (some .int), { frames := 1, cells := 0, slots := 0, locals := 21 })
theorem yv_X0_clauses : mYv yX0_clauses iX0_clauses 1 := ⟨⟨by decide +kernel, rfl, ⟨by decide +kernel, by decide +kernel, by decide +kernel⟩, wG_at 356 (by decide +kernel) rfl, wG_at 45 (by decide +kernel) rfl, rfl, rfl⟩, wG_at 354 (by decide +kernel) rfl, wG_at 355 (by decide +kernel) rfl⟩
abbrev iX1_stands : mI := (RX1, cX1_stands, 2, (some .boolean), { frames := 0, cells := 0, slots := 0, locals := 0 })
theorem yv_X1_stands : mYv yX1_stands iX1_stands 1 := ⟨⟨by decide +kernel, rfl, ⟨by decide +kernel, by decide +kernel, by decide +kernel⟩, wG_at 411 (by decide +kernel) rfl, wG_at 49 (by decide +kernel) rfl, rfl, rfl⟩, wG_at 410 (by decide +kernel) rfl, wG_at 5 (by decide +kernel) rfl⟩
abbrev iX1_enter : mI := (RX1, cX1_enter, 4, (some .int), { frames := 0, cells := 0, slots := 0, locals := 0 })
theorem yv_X1_enter : mYv yX1_enter iX1_enter 3 := ⟨⟨by decide +kernel, rfl, ⟨by decide +kernel, by decide +kernel, by decide +kernel⟩, wG_at 397 (by decide +kernel) rfl, wG_at 49 (by decide +kernel) rfl, rfl, rfl⟩, wG_at 395 (by decide +kernel) rfl, wG_at 396 (by decide +kernel) rfl⟩
abbrev iX1_argument : mI := (RX1, cX1_argument, 2, (some .int), { frames := 1, cells := 0, slots := 0, locals := 21 })
theorem yv_X1_argument : mYv yX1_argument iX1_argument 1 := ⟨⟨by decide +kernel, rfl, ⟨by decide +kernel, by decide +kernel, by decide +kernel⟩, wG_at 407 (by decide +kernel) rfl, wG_at 49 (by decide +kernel) rfl, rfl, rfl⟩, wG_at 405 (by decide +kernel) rfl, wG_at 406 (by decide +kernel) rfl⟩
abbrev iX1_keptTop : mI := (RX1, cX1_keptTop, 2, (some .int), { frames := 1, cells := 0, slots := 0, locals := 21 })
theorem yv_X1_keptTop : mYv yX1_keptTop iX1_keptTop 1 := ⟨⟨by decide +kernel, rfl, ⟨by decide +kernel, by decide +kernel, by decide +kernel⟩, wG_at 476 (by decide +kernel) rfl, wG_at 49 (by decide +kernel) rfl, rfl, rfl⟩, wG_at 474 (by decide +kernel) rfl, wG_at 475 (by decide +kernel) rfl⟩
abbrev iX1_keptHand : mI := (RX1, cX1_keptHand, 2, (some .int), { frames := 1, cells := 0, slots := 0, locals := 21 })
theorem yv_X1_keptHand : mYv yX1_keptHand iX1_keptHand 1 := ⟨⟨by decide +kernel, rfl, ⟨by decide +kernel, by decide +kernel, by decide +kernel⟩, wG_at 480 (by decide +kernel) rfl, wG_at 49 (by decide +kernel) rfl, rfl, rfl⟩, wG_at 478 (by decide +kernel) rfl, wG_at 479 (by decide +kernel) rfl⟩
abbrev iX2_add : mI := (RX2, cX2_add, 2, (some .boolean), { frames := 0, cells := 0, slots := 0, locals := 0 })
theorem yv_X2_add : mYv yX2_add iX2_add 1 := ⟨⟨by decide +kernel, rfl, ⟨by decide +kernel, by decide +kernel, by decide +kernel⟩, wG_at 260 (by decide +kernel) rfl, wG_at 44 (by decide +kernel) rfl, rfl, rfl⟩, wG_at 258 (by decide +kernel) rfl, wG_at 259 (by decide +kernel) rfl⟩
abbrev iX2_sign : mI := (RX2, cX2_sign, 2, (some .int), { frames := 0, cells := 0, slots := 0, locals := 0 })
theorem yv_X2_sign : mYv yX2_sign iX2_sign 1 := ⟨⟨by decide +kernel, rfl, ⟨by decide +kernel, by decide +kernel, by decide +kernel⟩, wG_at 276 (by decide +kernel) rfl, wG_at 44 (by decide +kernel) rfl, rfl, rfl⟩, wG_at 274 (by decide +kernel) rfl, wG_at 275 (by decide +kernel) rfl⟩
abbrev iX2_firstFault : mI := (RX2, cX2_firstFault, 5, (some .int), { frames := 2, cells := 0, slots := 0, locals := 43 })
theorem yv_X2_firstFault : mYv yX2_firstFault iX2_firstFault 1 := ⟨⟨by decide +kernel, rfl, ⟨by decide +kernel, by decide +kernel, by decide +kernel⟩, wG_at 272 (by decide +kernel) rfl, wG_at 44 (by decide +kernel) rfl, rfl, rfl⟩, wG_at 270 (by decide +kernel) rfl, wG_at 271 (by decide +kernel) rfl⟩
abbrev iX2_canStand : mI := (RX2, cX2_canStand, 4, (some .boolean), { frames := 1, cells := 0, slots := 0, locals := 20 })
theorem ys_X2_canStand : mYs yX2_canStand iX2_canStand 3 := ⟨⟨by decide +kernel, rfl, ⟨by decide +kernel, by decide +kernel, by decide +kernel⟩, wG_at 279 (by decide +kernel) rfl, wG_at 44 (by decide +kernel) rfl, rfl, rfl⟩, wG_at 278 (by decide +kernel) rfl⟩
abbrev iX2_isHandSign : mI := (RX2, cX2_isHandSign, 1, (some .boolean), { frames := 0, cells := 0, slots := 0, locals := 0 })
theorem ys_X2_isHandSign : mYs yX2_isHandSign iX2_isHandSign 1 := ⟨⟨by decide +kernel, rfl, ⟨by decide +kernel, by decide +kernel, by decide +kernel⟩, wG_at 285 (by decide +kernel) rfl, wG_at 44 (by decide +kernel) rfl, rfl, rfl⟩, wG_at 284 (by decide +kernel) rfl⟩
abbrev iX2_depthOfNext : mI := (RX2, cX2_depthOfNext, 3, (some .int), { frames := 0, cells := 0, slots := 0, locals := 0 })
theorem yv_X2_depthOfNext : mYv yX2_depthOfNext iX2_depthOfNext 1 := ⟨⟨by decide +kernel, rfl, ⟨by decide +kernel, by decide +kernel, by decide +kernel⟩, wG_at 289 (by decide +kernel) rfl, wG_at 44 (by decide +kernel) rfl, rfl, rfl⟩, wG_at 288 (by decide +kernel) rfl, wG_at 0 (by decide +kernel) rfl⟩
abbrev iX3_start : mI := (RX3, cX3_start, 3, none, { frames := 0, cells := 0, slots := 0, locals := 0 })
theorem yv_X3_start : mYv yX3_start iX3_start 1 := ⟨⟨by decide +kernel, rfl, ⟨by decide +kernel, by decide +kernel, by decide +kernel⟩, wG_at 377 (by decide +kernel) rfl, wG_at 46 (by decide +kernel) rfl, rfl, rfl⟩, wG_at 375 (by decide +kernel) rfl, wG_at 376 (by decide +kernel) rfl⟩
abbrev iX3_add : mI := (RX3, cX3_add, 2, (some .boolean), { frames := 0, cells := 0, slots := 0, locals := 0 })
theorem yv_X3_add : mYv yX3_add iX3_add 1 := ⟨⟨by decide +kernel, rfl, ⟨by decide +kernel, by decide +kernel, by decide +kernel⟩, wG_at 369 (by decide +kernel) rfl, wG_at 46 (by decide +kernel) rfl, rfl, rfl⟩, wG_at 367 (by decide +kernel) rfl, wG_at 368 (by decide +kernel) rfl⟩
abbrev iX3_value : mI := (RX3, cX3_value, 2, (some .int), { frames := 0, cells := 0, slots := 0, locals := 0 })
theorem yv_X3_value : mYv yX3_value iX3_value 1 := ⟨⟨by decide +kernel, rfl, ⟨by decide +kernel, by decide +kernel, by decide +kernel⟩, wG_at 496 (by decide +kernel) rfl, wG_at 46 (by decide +kernel) rfl, rfl, rfl⟩, wG_at 494 (by decide +kernel) rfl, wG_at 495 (by decide +kernel) rfl⟩
abbrev iX3_take : mI := (RX3, cX3_take, 4, none, { frames := 1, cells := 0, slots := 0, locals := 22 })
theorem yv_X3_take : mYv yX3_take iX3_take 2 := ⟨⟨by decide +kernel, rfl, ⟨by decide +kernel, by decide +kernel, by decide +kernel⟩, wG_at 587 (by decide +kernel) rfl, wG_at 46 (by decide +kernel) rfl, rfl, rfl⟩, wG_at 585 (by decide +kernel) rfl, wG_at 586 (by decide +kernel) rfl⟩
abbrev iX3_tell : mI := (RX3, cX3_tell, 2, (some .int), { frames := 1, cells := 0, slots := 0, locals := 21 })
theorem yv_X3_tell : mYv yX3_tell iX3_tell 1 := ⟨⟨by decide +kernel, rfl, ⟨by decide +kernel, by decide +kernel, by decide +kernel⟩, wG_at 602 (by decide +kernel) rfl, wG_at 46 (by decide +kernel) rfl, rfl, rfl⟩, wG_at 600 (by decide +kernel) rfl, wG_at 601 (by decide +kernel) rfl⟩
abbrev iX3_next : mI := (RX3, cX3_next, 4, (some .boolean), { frames := 1, cells := 0, slots := 0, locals := 21 })
theorem yv_X3_next : mYv yX3_next iX3_next 2 := ⟨⟨by decide +kernel, rfl, ⟨by decide +kernel, by decide +kernel, by decide +kernel⟩, wG_at 593 (by decide +kernel) rfl, wG_at 46 (by decide +kernel) rfl, rfl, rfl⟩, wG_at 591 (by decide +kernel) rfl, wG_at 592 (by decide +kernel) rfl⟩
abbrev iX4_work : mI := (RX4, cX4_work, 5, none, { frames := 4, cells := 0, slots := 0, locals := 93 })
theorem yv_X4_work : mYv yX4_work iX4_work 3 := ⟨⟨by decide +kernel, rfl, ⟨by decide +kernel, by decide +kernel, by decide +kernel⟩, wG_at 385 (by decide +kernel) rfl, wG_at 47 (by decide +kernel) rfl, rfl, rfl⟩, wG_at 383 (by decide +kernel) rfl, wG_at 384 (by decide +kernel) rfl⟩
abbrev iX4_tell : mI := (RX4, cX4_tell, 2, (some .int), { frames := 0, cells := 0, slots := 0, locals := 0 })
theorem yv_X4_tell : mYv yX4_tell iX4_tell 1 := ⟨⟨by decide +kernel, rfl, ⟨by decide +kernel, by decide +kernel, by decide +kernel⟩, wG_at 504 (by decide +kernel) rfl, wG_at 47 (by decide +kernel) rfl, rfl, rfl⟩, wG_at 502 (by decide +kernel) rfl, wG_at 503 (by decide +kernel) rfl⟩
abbrev iX4_answerer : mI := (RX4, cX4_answerer, 2, (some .int), { frames := 0, cells := 0, slots := 0, locals := 0 })
theorem yv_X4_answerer : mYv yX4_answerer iX4_answerer 1 := ⟨⟨by decide +kernel, rfl, ⟨by decide +kernel, by decide +kernel, by decide +kernel⟩, wG_at 512 (by decide +kernel) rfl, wG_at 47 (by decide +kernel) rfl, rfl, rfl⟩, wG_at 510 (by decide +kernel) rfl, wG_at 511 (by decide +kernel) rfl⟩
abbrev iX4_doing : mI := (RX4, cX4_doing, 1, (some .int), { frames := 0, cells := 0, slots := 0, locals := 0 })
theorem yv_X4_doing : mYv yX4_doing iX4_doing 0 := ⟨⟨by decide +kernel, rfl, ⟨by decide +kernel, by decide +kernel, by decide +kernel⟩, wG_at 614 (by decide +kernel) rfl, wG_at 47 (by decide +kernel) rfl, rfl, rfl⟩, wG_at 612 (by decide +kernel) rfl, wG_at 613 (by decide +kernel) rfl⟩
abbrev iX4_enter : mI := (RX4, cX4_enter, 5, none, { frames := 1, cells := 0, slots := 0, locals := 23 })
theorem yv_X4_enter : mYv yX4_enter iX4_enter 4 := ⟨⟨by decide +kernel, rfl, ⟨by decide +kernel, by decide +kernel, by decide +kernel⟩, wG_at 393 (by decide +kernel) rfl, wG_at 47 (by decide +kernel) rfl, rfl, rfl⟩, wG_at 392 (by decide +kernel) rfl, wG_at 3 (by decide +kernel) rfl⟩
abbrev iX4_give : mI := (RX4, cX4_give, 2, none, { frames := 0, cells := 0, slots := 0, locals := 0 })
theorem yv_X4_give : mYv yX4_give iX4_give 1 := ⟨⟨by decide +kernel, rfl, ⟨by decide +kernel, by decide +kernel, by decide +kernel⟩, wG_at 415 (by decide +kernel) rfl, wG_at 47 (by decide +kernel) rfl, rfl, rfl⟩, wG_at 414 (by decide +kernel) rfl, wG_at 6 (by decide +kernel) rfl⟩
abbrev iX4_begin : mI := (RX4, cX4_begin, 2, none, { frames := 2, cells := 0, slots := 0, locals := 45 })
theorem yv_X4_begin : mYv yX4_begin iX4_begin 0 := ⟨⟨by decide +kernel, rfl, ⟨by decide +kernel, by decide +kernel, by decide +kernel⟩, wG_at 402 (by decide +kernel) rfl, wG_at 47 (by decide +kernel) rfl, rfl, rfl⟩, wG_at 401 (by decide +kernel) rfl, wG_at 4 (by decide +kernel) rfl⟩
abbrev iX4_takeUp : mI := (RX4, cX4_takeUp, 3, none, { frames := 3, cells := 0, slots := 0, locals := 71 })
theorem yv_X4_takeUp : mYv yX4_takeUp iX4_takeUp 0 := ⟨⟨by decide +kernel, rfl, ⟨by decide +kernel, by decide +kernel, by decide +kernel⟩, wG_at 429 (by decide +kernel) rfl, wG_at 47 (by decide +kernel) rfl, rfl, rfl⟩, wG_at 428 (by decide +kernel) rfl, wG_at 8 (by decide +kernel) rfl⟩
abbrev iX4_act : mI := (RX4, cX4_act, 3, (some .int), { frames := 1, cells := 0, slots := 0, locals := 21 })
theorem ys_X4_act : mYs yX4_act iX4_act 3 := ⟨⟨by decide +kernel, rfl, ⟨by decide +kernel, by decide +kernel, by decide +kernel⟩, wG_at 499 (by decide +kernel) rfl, wG_at 47 (by decide +kernel) rfl, rfl, rfl⟩, wG_at 498 (by decide +kernel) rfl⟩
abbrev iX4_choose : mI := (RX4, cX4_choose, 2, none, { frames := 2, cells := 0, slots := 0, locals := 42 })
theorem yv_X4_choose : mYv yX4_choose iX4_choose 0 := ⟨⟨by decide +kernel, rfl, ⟨by decide +kernel, by decide +kernel, by decide +kernel⟩, wG_at 458 (by decide +kernel) rfl, wG_at 47 (by decide +kernel) rfl, rfl, rfl⟩, wG_at 457 (by decide +kernel) rfl, wG_at 10 (by decide +kernel) rfl⟩
abbrev iX4_comeBack : mI := (RX4, cX4_comeBack, 3, none, { frames := 2, cells := 0, slots := 0, locals := 47 })
theorem yv_X4_comeBack : mYv yX4_comeBack iX4_comeBack 1 := ⟨⟨by decide +kernel, rfl, ⟨by decide +kernel, by decide +kernel, by decide +kernel⟩, wG_at 466 (by decide +kernel) rfl, wG_at 47 (by decide +kernel) rfl, rfl, rfl⟩, wG_at 465 (by decide +kernel) rfl, wG_at 11 (by decide +kernel) rfl⟩
abbrev iX4_goOn : mI := (RX4, cX4_goOn, 1, none, { frames := 2, cells := 0, slots := 0, locals := 48 })
theorem yv_X4_goOn : mYv yX4_goOn iX4_goOn 0 := ⟨⟨by decide +kernel, rfl, ⟨by decide +kernel, by decide +kernel, by decide +kernel⟩, wG_at 472 (by decide +kernel) rfl, wG_at 47 (by decide +kernel) rfl, rfl, rfl⟩, wG_at 471 (by decide +kernel) rfl, wG_at 12 (by decide +kernel) rfl⟩
abbrev iX4_ask : mI := (RX4, cX4_ask, 5, none, { frames := 2, cells := 0, slots := 0, locals := 47 })
theorem yv_X4_ask : mYv yX4_ask iX4_ask 2 := ⟨⟨by decide +kernel, rfl, ⟨by decide +kernel, by decide +kernel, by decide +kernel⟩, wG_at 492 (by decide +kernel) rfl, wG_at 47 (by decide +kernel) rfl, rfl, rfl⟩, wG_at 491 (by decide +kernel) rfl, wG_at 14 (by decide +kernel) rfl⟩
abbrev iX4_nearest : mI := (RX4, cX4_nearest, 5, (some .int), { frames := 2, cells := 0, slots := 0, locals := 42 })
theorem yv_X4_nearest : mYv yX4_nearest iX4_nearest 1 := ⟨⟨by decide +kernel, rfl, ⟨by decide +kernel, by decide +kernel, by decide +kernel⟩, wG_at 488 (by decide +kernel) rfl, wG_at 47 (by decide +kernel) rfl, rfl, rfl⟩, wG_at 487 (by decide +kernel) rfl, wG_at 13 (by decide +kernel) rfl⟩
abbrev iX5_clear : mI := (RX5, cX5_clear, 1, none, { frames := 0, cells := 0, slots := 0, locals := 0 })
theorem yv_X5_clear : mYv yX5_clear iX5_clear 0 := ⟨⟨by decide +kernel, rfl, ⟨by decide +kernel, by decide +kernel, by decide +kernel⟩, wG_at 389 (by decide +kernel) rfl, wG_at 48 (by decide +kernel) rfl, rfl, rfl⟩, wG_at 387 (by decide +kernel) rfl, wG_at 388 (by decide +kernel) rfl⟩
abbrev iX5_stands : mI := (RX5, cX5_stands, 2, (some .boolean), { frames := 0, cells := 0, slots := 0, locals := 0 })
theorem yv_X5_stands : mYv yX5_stands iX5_stands 1 := ⟨⟨by decide +kernel, rfl, ⟨by decide +kernel, by decide +kernel, by decide +kernel⟩, wG_at 437 (by decide +kernel) rfl, wG_at 48 (by decide +kernel) rfl, rfl, rfl⟩, wG_at 436 (by decide +kernel) rfl, wG_at 9 (by decide +kernel) rfl⟩
abbrev iX5_place : mI := (RX5, cX5_place, 2, (some .int), { frames := 1, cells := 0, slots := 0, locals := 21 })
theorem yv_X5_place : mYv yX5_place iX5_place 1 := ⟨⟨by decide +kernel, rfl, ⟨by decide +kernel, by decide +kernel, by decide +kernel⟩, wG_at 433 (by decide +kernel) rfl, wG_at 48 (by decide +kernel) rfl, rfl, rfl⟩, wG_at 431 (by decide +kernel) rfl, wG_at 432 (by decide +kernel) rfl⟩
abbrev iX5_call : mI := (RX5, cX5_call, 2, (some .int), { frames := 1, cells := 0, slots := 0, locals := 21 })
theorem yv_X5_call : mYv yX5_call iX5_call 1 := ⟨⟨by decide +kernel, rfl, ⟨by decide +kernel, by decide +kernel, by decide +kernel⟩, wG_at 441 (by decide +kernel) rfl, wG_at 48 (by decide +kernel) rfl, rfl, rfl⟩, wG_at 439 (by decide +kernel) rfl, wG_at 440 (by decide +kernel) rfl⟩
abbrev iX5_below : mI := (RX5, cX5_below, 2, (some .int), { frames := 1, cells := 0, slots := 0, locals := 21 })
theorem yv_X5_below : mYv yX5_below iX5_below 1 := ⟨⟨by decide +kernel, rfl, ⟨by decide +kernel, by decide +kernel, by decide +kernel⟩, wG_at 454 (by decide +kernel) rfl, wG_at 48 (by decide +kernel) rfl, rfl, rfl⟩, wG_at 452 (by decide +kernel) rfl, wG_at 453 (by decide +kernel) rfl⟩
abbrev iX5_held : mI := (RX5, cX5_held, 2, (some .int), { frames := 1, cells := 0, slots := 0, locals := 21 })
theorem yv_X5_held : mYv yX5_held iX5_held 1 := ⟨⟨by decide +kernel, rfl, ⟨by decide +kernel, by decide +kernel, by decide +kernel⟩, wG_at 445 (by decide +kernel) rfl, wG_at 48 (by decide +kernel) rfl, rfl, rfl⟩, wG_at 443 (by decide +kernel) rfl, wG_at 444 (by decide +kernel) rfl⟩
abbrev iX5_hold : mI := (RX5, cX5_hold, 3, none, { frames := 1, cells := 0, slots := 0, locals := 21 })
theorem yv_X5_hold : mYv yX5_hold iX5_hold 2 := ⟨⟨by decide +kernel, rfl, ⟨by decide +kernel, by decide +kernel, by decide +kernel⟩, wG_at 449 (by decide +kernel) rfl, wG_at 48 (by decide +kernel) rfl, rfl, rfl⟩, wG_at 447 (by decide +kernel) rfl, wG_at 448 (by decide +kernel) rfl⟩
abbrev iX5_push : mI := (RX5, cX5_push, 4, (some .boolean), { frames := 1, cells := 0, slots := 0, locals := 22 })
theorem yv_X5_push : mYv yX5_push iX5_push 2 := ⟨⟨by decide +kernel, rfl, ⟨by decide +kernel, by decide +kernel, by decide +kernel⟩, wG_at 420 (by decide +kernel) rfl, wG_at 48 (by decide +kernel) rfl, rfl, rfl⟩, wG_at 418 (by decide +kernel) rfl, wG_at 419 (by decide +kernel) rfl⟩
abbrev iX5_make : mI := (RX5, cX5_make, 3, (some .boolean), { frames := 0, cells := 0, slots := 0, locals := 0 })
theorem yv_X5_make : mYv yX5_make iX5_make 2 := ⟨⟨by decide +kernel, rfl, ⟨by decide +kernel, by decide +kernel, by decide +kernel⟩, wG_at 424 (by decide +kernel) rfl, wG_at 48 (by decide +kernel) rfl, rfl, rfl⟩, wG_at 423 (by decide +kernel) rfl, wG_at 7 (by decide +kernel) rfl⟩
abbrev iX5_layDown : mI := (RX5, cX5_layDown, 7, (some .boolean), { frames := 1, cells := 0, slots := 0, locals := 22 })
theorem yv_X5_layDown : mYv yX5_layDown iX5_layDown 2 := ⟨⟨by decide +kernel, rfl, ⟨by decide +kernel, by decide +kernel, by decide +kernel⟩, wG_at 484 (by decide +kernel) rfl, wG_at 48 (by decide +kernel) rfl, rfl, rfl⟩, wG_at 482 (by decide +kernel) rfl, wG_at 483 (by decide +kernel) rfl⟩
abbrev iX6_beyond : mI := (RX6, cX6_beyond, 5, (some .int), { frames := 5, cells := 0, slots := 0, locals := 122 })
theorem yv_X6_beyond : mYv yX6_beyond iX6_beyond 1 := ⟨⟨by decide +kernel, rfl, ⟨by decide +kernel, by decide +kernel, by decide +kernel⟩, wG_at 520 (by decide +kernel) rfl, wG_at 50 (by decide +kernel) rfl, rfl, rfl⟩, wG_at 518 (by decide +kernel) rfl, wG_at 519 (by decide +kernel) rfl⟩
abbrev iX6_addsTo : mI := (RX6, cX6_addsTo, 7, (some .boolean), { frames := 4, cells := 0, slots := 0, locals := 96 })
theorem yv_X6_addsTo : mYv yX6_addsTo iX6_addsTo 1 := ⟨⟨by decide +kernel, rfl, ⟨by decide +kernel, by decide +kernel, by decide +kernel⟩, wG_at 524 (by decide +kernel) rfl, wG_at 50 (by decide +kernel) rfl, rfl, rfl⟩, wG_at 523 (by decide +kernel) rfl, wG_at 15 (by decide +kernel) rfl⟩
abbrev iX6_asked : mI := (RX6, cX6_asked, 2, (some .int), { frames := 0, cells := 0, slots := 0, locals := 0 })
theorem yv_X6_asked : mYv yX6_asked iX6_asked 1 := ⟨⟨by decide +kernel, rfl, ⟨by decide +kernel, by decide +kernel, by decide +kernel⟩, wG_at 537 (by decide +kernel) rfl, wG_at 50 (by decide +kernel) rfl, rfl, rfl⟩, wG_at 536 (by decide +kernel) rfl, wG_at 17 (by decide +kernel) rfl⟩
abbrev iX6_asksOf : mI := (RX6, cX6_asksOf, 7, (some .int), { frames := 3, cells := 0, slots := 0, locals := 70 })
theorem yv_X6_asksOf : mYv yX6_asksOf iX6_asksOf 1 := ⟨⟨by decide +kernel, rfl, ⟨by decide +kernel, by decide +kernel, by decide +kernel⟩, wG_at 530 (by decide +kernel) rfl, wG_at 50 (by decide +kernel) rfl, rfl, rfl⟩, wG_at 529 (by decide +kernel) rfl, wG_at 16 (by decide +kernel) rfl⟩
abbrev iX6_whatGoesOn : mI := (RX6, cX6_whatGoesOn, 3, (some .int), { frames := 0, cells := 0, slots := 0, locals := 0 })
theorem yv_X6_whatGoesOn : mYv yX6_whatGoesOn iX6_whatGoesOn 1 := ⟨⟨by decide +kernel, rfl, ⟨by decide +kernel, by decide +kernel, by decide +kernel⟩, wG_at 542 (by decide +kernel) rfl, wG_at 50 (by decide +kernel) rfl, rfl, rfl⟩, wG_at 541 (by decide +kernel) rfl, wG_at 18 (by decide +kernel) rfl⟩
abbrev iX6_pastHand : mI := (RX6, cX6_pastHand, 7, (some .int), { frames := 2, cells := 0, slots := 0, locals := 44 })
theorem yv_X6_pastHand : mYv yX6_pastHand iX6_pastHand 2 := ⟨⟨by decide +kernel, rfl, ⟨by decide +kernel, by decide +kernel, by decide +kernel⟩, wG_at 547 (by decide +kernel) rfl, wG_at 50 (by decide +kernel) rfl, rfl, rfl⟩, wG_at 546 (by decide +kernel) rfl, wG_at 19 (by decide +kernel) rfl⟩
abbrev iX6_goings : mI := (RX6, cX6_goings, 4, (some .int), { frames := 3, cells := 0, slots := 0, locals := 65 })
theorem yv_X6_goings : mYv yX6_goings iX6_goings 1 := ⟨⟨by decide +kernel, rfl, ⟨by decide +kernel, by decide +kernel, by decide +kernel⟩, wG_at 561 (by decide +kernel) rfl, wG_at 50 (by decide +kernel) rfl, rfl, rfl⟩, wG_at 559 (by decide +kernel) rfl, wG_at 560 (by decide +kernel) rfl⟩
abbrev iX6_counted : mI := (RX6, cX6_counted, 2, (some .int), { frames := 0, cells := 0, slots := 0, locals := 0 })
theorem yv_X6_counted : mYv yX6_counted iX6_counted 1 := ⟨⟨by decide +kernel, rfl, ⟨by decide +kernel, by decide +kernel, by decide +kernel⟩, wG_at 569 (by decide +kernel) rfl, wG_at 50 (by decide +kernel) rfl, rfl, rfl⟩, wG_at 568 (by decide +kernel) rfl, wG_at 22 (by decide +kernel) rfl⟩
abbrev iX6_goingsOf : mI := (RX6, cX6_goingsOf, 4, (some .int), { frames := 2, cells := 0, slots := 0, locals := 42 })
theorem yv_X6_goingsOf : mYv yX6_goingsOf iX6_goingsOf 1 := ⟨⟨by decide +kernel, rfl, ⟨by decide +kernel, by decide +kernel, by decide +kernel⟩, wG_at 565 (by decide +kernel) rfl, wG_at 50 (by decide +kernel) rfl, rfl, rfl⟩, wG_at 564 (by decide +kernel) rfl, wG_at 21 (by decide +kernel) rfl⟩
abbrev iX7_say : mI := (RX7, cX7_say, 2, (some .int), { frames := 1, cells := 0, slots := 0, locals := 21 })
theorem yv_X7_say : mYv yX7_say iX7_say 1 := ⟨⟨by decide +kernel, rfl, ⟨by decide +kernel, by decide +kernel, by decide +kernel⟩, wG_at 256 (by decide +kernel) rfl, wG_at 43 (by decide +kernel) rfl, rfl, rfl⟩, wG_at 254 (by decide +kernel) rfl, wG_at 255 (by decide +kernel) rfl⟩
abbrev iX7_wipe : mI := (RX7, cX7_wipe, 2, (some .int), { frames := 0, cells := 0, slots := 0, locals := 0 })
theorem yv_X7_wipe : mYv yX7_wipe iX7_wipe 0 := ⟨⟨by decide +kernel, rfl, ⟨by decide +kernel, by decide +kernel, by decide +kernel⟩, wG_at 264 (by decide +kernel) rfl, wG_at 43 (by decide +kernel) rfl, rfl, rfl⟩, wG_at 262 (by decide +kernel) rfl, wG_at 263 (by decide +kernel) rfl⟩
abbrev iX7_fault : mI := (RX7, cX7_fault, 2, (some .int), { frames := 3, cells := 0, slots := 0, locals := 67 })
theorem yv_X7_fault : mYv yX7_fault iX7_fault 1 := ⟨⟨by decide +kernel, rfl, ⟨by decide +kernel, by decide +kernel, by decide +kernel⟩, wG_at 268 (by decide +kernel) rfl, wG_at 43 (by decide +kernel) rfl, rfl, rfl⟩, wG_at 266 (by decide +kernel) rfl, wG_at 267 (by decide +kernel) rfl⟩
abbrev iX7_text : mI := (RX7, cX7_text, 2, (some .int), { frames := 5, cells := 0, slots := 0, locals := 112 })
theorem yv_X7_text : mYv yX7_text iX7_text 1 := ⟨⟨by decide +kernel, rfl, ⟨by decide +kernel, by decide +kernel, by decide +kernel⟩, wG_at 293 (by decide +kernel) rfl, wG_at 43 (by decide +kernel) rfl, rfl, rfl⟩, wG_at 291 (by decide +kernel) rfl, wG_at 292 (by decide +kernel) rfl⟩
abbrev iX7_clause : mI := (RX7, cX7_clause, 3, (some .int), { frames := 5, cells := 0, slots := 0, locals := 112 })
theorem yv_X7_clause : mYv yX7_clause iX7_clause 2 := ⟨⟨by decide +kernel, rfl, ⟨by decide +kernel, by decide +kernel, by decide +kernel⟩, wG_at 330 (by decide +kernel) rfl, wG_at 43 (by decide +kernel) rfl, rfl, rfl⟩, wG_at 328 (by decide +kernel) rfl, wG_at 329 (by decide +kernel) rfl⟩
abbrev iX7_drop : mI := (RX7, cX7_drop, 5, (some .int), { frames := 1, cells := 0, slots := 0, locals := 21 })
theorem yv_X7_drop : mYv yX7_drop iX7_drop 2 := ⟨⟨by decide +kernel, rfl, ⟨by decide +kernel, by decide +kernel, by decide +kernel⟩, wG_at 340 (by decide +kernel) rfl, wG_at 43 (by decide +kernel) rfl, rfl, rfl⟩, wG_at 338 (by decide +kernel) rfl, wG_at 339 (by decide +kernel) rfl⟩
abbrev iX7_has : mI := (RX7, cX7_has, 2, (some .int), { frames := 2, cells := 0, slots := 0, locals := 44 })
theorem yv_X7_has : mYv yX7_has iX7_has 1 := ⟨⟨by decide +kernel, rfl, ⟨by decide +kernel, by decide +kernel, by decide +kernel⟩, wG_at 352 (by decide +kernel) rfl, wG_at 43 (by decide +kernel) rfl, rfl, rfl⟩, wG_at 350 (by decide +kernel) rfl, wG_at 351 (by decide +kernel) rfl⟩
abbrev iX7_reply : mI := (RX7, cX7_reply, 2, (some .int), { frames := 1, cells := 0, slots := 0, locals := 21 })
theorem yv_X7_reply : mYv yX7_reply iX7_reply 1 := ⟨⟨by decide +kernel, rfl, ⟨by decide +kernel, by decide +kernel, by decide +kernel⟩, wG_at 362 (by decide +kernel) rfl, wG_at 43 (by decide +kernel) rfl, rfl, rfl⟩, wG_at 360 (by decide +kernel) rfl, wG_at 361 (by decide +kernel) rfl⟩
abbrev iX7_mute : mI := (RX7, cX7_mute, 2, (some .int), { frames := 1, cells := 0, slots := 0, locals := 22 })
theorem yv_X7_mute : mYv yX7_mute iX7_mute 0 := ⟨⟨by decide +kernel, rfl, ⟨by decide +kernel, by decide +kernel, by decide +kernel⟩, wG_at 373 (by decide +kernel) rfl, wG_at 43 (by decide +kernel) rfl, rfl, rfl⟩, wG_at 371 (by decide +kernel) rfl, wG_at 372 (by decide +kernel) rfl⟩
abbrev iX7_run : mI := (RX7, cX7_run, 4, (some .int), { frames := 5, cells := 0, slots := 0, locals := 117 })
theorem yv_X7_run : mYv yX7_run iX7_run 3 := ⟨⟨by decide +kernel, rfl, ⟨by decide +kernel, by decide +kernel, by decide +kernel⟩, wG_at 381 (by decide +kernel) rfl, wG_at 43 (by decide +kernel) rfl, rfl, rfl⟩, wG_at 379 (by decide +kernel) rfl, wG_at 380 (by decide +kernel) rfl⟩
abbrev iX7_who : mI := (RX7, cX7_who, 4, (some .int), { frames := 5, cells := 0, slots := 0, locals := 117 })
theorem yv_X7_who : mYv yX7_who iX7_who 3 := ⟨⟨by decide +kernel, rfl, ⟨by decide +kernel, by decide +kernel, by decide +kernel⟩, wG_at 508 (by decide +kernel) rfl, wG_at 43 (by decide +kernel) rfl, rfl, rfl⟩, wG_at 506 (by decide +kernel) rfl, wG_at 507 (by decide +kernel) rfl⟩
abbrev iX7_may : mI := (RX7, cX7_may, 3, (some .int), { frames := 6, cells := 0, slots := 0, locals := 146 })
theorem yv_X7_may : mYv yX7_may iX7_may 2 := ⟨⟨by decide +kernel, rfl, ⟨by decide +kernel, by decide +kernel, by decide +kernel⟩, wG_at 516 (by decide +kernel) rfl, wG_at 43 (by decide +kernel) rfl, rfl, rfl⟩, wG_at 514 (by decide +kernel) rfl, wG_at 515 (by decide +kernel) rfl⟩
abbrev iX7_often : mI := (RX7, cX7_often, 3, (some .int), { frames := 4, cells := 0, slots := 0, locals := 88 })
theorem yv_X7_often : mYv yX7_often iX7_often 2 := ⟨⟨by decide +kernel, rfl, ⟨by decide +kernel, by decide +kernel, by decide +kernel⟩, wG_at 557 (by decide +kernel) rfl, wG_at 43 (by decide +kernel) rfl, rfl, rfl⟩, wG_at 555 (by decide +kernel) rfl, wG_at 556 (by decide +kernel) rfl⟩
abbrev iX7_all : mI := (RX7, cX7_all, 5, (some .int), { frames := 6, cells := 0, slots := 0, locals := 146 })
theorem yv_X7_all : mYv yX7_all iX7_all 4 := ⟨⟨by decide +kernel, rfl, ⟨by decide +kernel, by decide +kernel, by decide +kernel⟩, wG_at 576 (by decide +kernel) rfl, wG_at 43 (by decide +kernel) rfl, rfl, rfl⟩, wG_at 574 (by decide +kernel) rfl, wG_at 575 (by decide +kernel) rfl⟩
abbrev iX7_row : mI := (RX7, cX7_row, 8, (some .int), { frames := 6, cells := 0, slots := 0, locals := 146 })
theorem yv_X7_row : mYv yX7_row iX7_row 6 := ⟨⟨by decide +kernel, rfl, ⟨by decide +kernel, by decide +kernel, by decide +kernel⟩, wG_at 598 (by decide +kernel) rfl, wG_at 43 (by decide +kernel) rfl, rfl, rfl⟩, wG_at 596 (by decide +kernel) rfl, wG_at 597 (by decide +kernel) rfl⟩
abbrev iX7_apart : mI := (RX7, cX7_apart, 9, (some .int), { frames := 6, cells := 0, slots := 0, locals := 146 })
theorem yv_X7_apart : mYv yX7_apart iX7_apart 7 := ⟨⟨by decide +kernel, rfl, ⟨by decide +kernel, by decide +kernel, by decide +kernel⟩, wG_at 606 (by decide +kernel) rfl, wG_at 43 (by decide +kernel) rfl, rfl, rfl⟩, wG_at 604 (by decide +kernel) rfl, wG_at 605 (by decide +kernel) rfl⟩
abbrev iX7_told : mI := (RX7, cX7_told, 2, (some .int), { frames := 1, cells := 0, slots := 0, locals := 21 })
theorem yv_X7_told : mYv yX7_told iX7_told 1 := ⟨⟨by decide +kernel, rfl, ⟨by decide +kernel, by decide +kernel, by decide +kernel⟩, wG_at 618 (by decide +kernel) rfl, wG_at 43 (by decide +kernel) rfl, rfl, rfl⟩, wG_at 616 (by decide +kernel) rfl, wG_at 617 (by decide +kernel) rfl⟩
abbrev iX7_isText : mI := (RX7, cX7_isText, 1, (some .boolean), { frames := 0, cells := 0, slots := 0, locals := 0 })
theorem ys_X7_isText : mYs yX7_isText iX7_isText 1 := ⟨⟨by decide +kernel, rfl, ⟨by decide +kernel, by decide +kernel, by decide +kernel⟩, wG_at 296 (by decide +kernel) rfl, wG_at 43 (by decide +kernel) rfl, rfl, rfl⟩, wG_at 295 (by decide +kernel) rfl⟩
abbrev iX7_isNumber : mI := (RX7, cX7_isNumber, 1, (some .boolean), { frames := 0, cells := 0, slots := 0, locals := 0 })
theorem ys_X7_isNumber : mYs yX7_isNumber iX7_isNumber 1 := ⟨⟨by decide +kernel, rfl, ⟨by decide +kernel, by decide +kernel, by decide +kernel⟩, wG_at 365 (by decide +kernel) rfl, wG_at 43 (by decide +kernel) rfl, rfl, rfl⟩, wG_at 364 (by decide +kernel) rfl⟩
abbrev iX7_isPart : mI := (RX7, cX7_isPart, 2, (some .boolean), { frames := 0, cells := 0, slots := 0, locals := 0 })
theorem ys_X7_isPart : mYs yX7_isPart iX7_isPart 2 := ⟨⟨by decide +kernel, rfl, ⟨by decide +kernel, by decide +kernel, by decide +kernel⟩, wG_at 333 (by decide +kernel) rfl, wG_at 43 (by decide +kernel) rfl, rfl, rfl⟩, wG_at 332 (by decide +kernel) rfl⟩
abbrev iX7_areRows : mI := (RX7, cX7_areRows, 2, (some .boolean), { frames := 0, cells := 0, slots := 0, locals := 0 })
theorem ys_X7_areRows : mYs yX7_areRows iX7_areRows 2 := ⟨⟨by decide +kernel, rfl, ⟨by decide +kernel, by decide +kernel, by decide +kernel⟩, wG_at 579 (by decide +kernel) rfl, wG_at 43 (by decide +kernel) rfl, rfl, rfl⟩, wG_at 578 (by decide +kernel) rfl⟩
abbrev iX7_isClause : mI := (RX7, cX7_isClause, 3, (some .boolean), { frames := 1, cells := 0, slots := 0, locals := 21 })
theorem yv_X7_isClause : mYv yX7_isClause iX7_isClause 2 := ⟨⟨by decide +kernel, rfl, ⟨by decide +kernel, by decide +kernel, by decide +kernel⟩, wG_at 553 (by decide +kernel) rfl, wG_at 43 (by decide +kernel) rfl, rfl, rfl⟩, wG_at 552 (by decide +kernel) rfl, wG_at 20 (by decide +kernel) rfl⟩
abbrev iX7_pageOf : mI := (RX7, cX7_pageOf, 2, (some .int), { frames := 0, cells := 0, slots := 0, locals := 0 })
theorem ys_X7_pageOf : mYs yX7_pageOf iX7_pageOf 2 := ⟨⟨by decide +kernel, rfl, ⟨by decide +kernel, by decide +kernel, by decide +kernel⟩, wG_at 336 (by decide +kernel) rfl, wG_at 43 (by decide +kernel) rfl, rfl, rfl⟩, wG_at 335 (by decide +kernel) rfl⟩
abbrev iX7_textsOf : mI := (RX7, cX7_textsOf, 1, (some .int), { frames := 0, cells := 0, slots := 0, locals := 0 })
theorem ys_X7_textsOf : mYs yX7_textsOf iX7_textsOf 1 := ⟨⟨by decide +kernel, rfl, ⟨by decide +kernel, by decide +kernel, by decide +kernel⟩, wG_at 282 (by decide +kernel) rfl, wG_at 43 (by decide +kernel) rfl, rfl, rfl⟩, wG_at 281 (by decide +kernel) rfl⟩
abbrev iX7_becomes : mI := (RX7, cX7_becomes, 3, (some .int), { frames := 4, cells := 0, slots := 0, locals := 90 })
theorem yv_X7_becomes : mYv yX7_becomes iX7_becomes 2 := ⟨⟨by decide +kernel, rfl, ⟨by decide +kernel, by decide +kernel, by decide +kernel⟩, wG_at 300 (by decide +kernel) rfl, wG_at 43 (by decide +kernel) rfl, rfl, rfl⟩, wG_at 299 (by decide +kernel) rfl, wG_at 1 (by decide +kernel) rfl⟩
abbrev iX7_goThrough : mI := (RX7, cX7_goThrough, 10, (some .int), { frames := 5, cells := 0, slots := 0, locals := 117 })
theorem yv_X7_goThrough : mYv yX7_goThrough iX7_goThrough 5 := ⟨⟨by decide +kernel, rfl, ⟨by decide +kernel, by decide +kernel, by decide +kernel⟩, wG_at 583 (by decide +kernel) rfl, wG_at 43 (by decide +kernel) rfl, rfl, rfl⟩, wG_at 582 (by decide +kernel) rfl, wG_at 23 (by decide +kernel) rfl⟩
abbrev iX7_differ : mI := (RX7, cX7_differ, 10, (some .boolean), { frames := 5, cells := 0, slots := 0, locals := 117 })
theorem yv_X7_differ : mYv yX7_differ iX7_differ 5 := ⟨⟨by decide +kernel, rfl, ⟨by decide +kernel, by decide +kernel, by decide +kernel⟩, wG_at 610 (by decide +kernel) rfl, wG_at 43 (by decide +kernel) rfl, rfl, rfl⟩, wG_at 609 (by decide +kernel) rfl, wG_at 24 (by decide +kernel) rfl⟩
abbrev iX8_in : mI := (RX8, cX8_in, 3, (some .boolean), { frames := 0, cells := 0, slots := 0, locals := 0 })
theorem ys_X8_in : mYs yX8_in iX8_in 3 := ⟨⟨by decide +kernel, rfl, ⟨by decide +kernel, by decide +kernel, by decide +kernel⟩, wG_at 764 (by decide +kernel) rfl, wG_at 51 (by decide +kernel) rfl, rfl, rfl⟩, wG_at 763 (by decide +kernel) rfl⟩
abbrev iX8_isFour : mI := (RX8, cX8_isFour, 1, (some .boolean), { frames := 1, cells := 0, slots := 0, locals := 22 })
theorem ys_X8_isFour : mYs yX8_isFour iX8_isFour 1 := ⟨⟨by decide +kernel, rfl, ⟨by decide +kernel, by decide +kernel, by decide +kernel⟩, wG_at 786 (by decide +kernel) rfl, wG_at 51 (by decide +kernel) rfl, rfl, rfl⟩, wG_at 785 (by decide +kernel) rfl⟩
abbrev iX8_say : mI := (RX8, cX8_say, 2, (some .int), { frames := 1, cells := 0, slots := 0, locals := 22 })
theorem yv_X8_say : mYv yX8_say iX8_say 1 := ⟨⟨by decide +kernel, rfl, ⟨by decide +kernel, by decide +kernel, by decide +kernel⟩, wG_at 761 (by decide +kernel) rfl, wG_at 51 (by decide +kernel) rfl, rfl, rfl⟩, wG_at 759 (by decide +kernel) rfl, wG_at 760 (by decide +kernel) rfl⟩
abbrev iX8_wipe : mI := (RX8, cX8_wipe, 2, (some .int), { frames := 0, cells := 0, slots := 0, locals := 0 })
theorem yv_X8_wipe : mYv yX8_wipe iX8_wipe 0 := ⟨⟨by decide +kernel, rfl, ⟨by decide +kernel, by decide +kernel, by decide +kernel⟩, wG_at 768 (by decide +kernel) rfl, wG_at 51 (by decide +kernel) rfl, rfl, rfl⟩, wG_at 766 (by decide +kernel) rfl, wG_at 767 (by decide +kernel) rfl⟩
abbrev iX8_partsOf : mI := (RX8, cX8_partsOf, 4, (some .int), { frames := 1, cells := 0, slots := 0, locals := 22 })
theorem ys_X8_partsOf : mYs yX8_partsOf iX8_partsOf 2 := ⟨⟨by decide +kernel, rfl, ⟨by decide +kernel, by decide +kernel, by decide +kernel⟩, wG_at 779 (by decide +kernel) rfl, wG_at 51 (by decide +kernel) rfl, rfl, rfl⟩, wG_at 778 (by decide +kernel) rfl⟩
abbrev iX8_faultOf : mI := (RX8, cX8_faultOf, 7, (some .int), { frames := 2, cells := 0, slots := 0, locals := 45 })
theorem yv_X8_faultOf : mYv yX8_faultOf iX8_faultOf 1 := ⟨⟨by decide +kernel, rfl, ⟨by decide +kernel, by decide +kernel, by decide +kernel⟩, wG_at 776 (by decide +kernel) rfl, wG_at 51 (by decide +kernel) rfl, rfl, rfl⟩, wG_at 775 (by decide +kernel) rfl, wG_at 25 (by decide +kernel) rfl⟩
abbrev iX8_fault : mI := (RX8, cX8_fault, 2, (some .int), { frames := 3, cells := 0, slots := 0, locals := 71 })
theorem yv_X8_fault : mYv yX8_fault iX8_fault 1 := ⟨⟨by decide +kernel, rfl, ⟨by decide +kernel, by decide +kernel, by decide +kernel⟩, wG_at 772 (by decide +kernel) rfl, wG_at 51 (by decide +kernel) rfl, rfl, rfl⟩, wG_at 770 (by decide +kernel) rfl, wG_at 771 (by decide +kernel) rfl⟩
abbrev iX8_keep : mI := (RX8, cX8_keep, 8, (some .int), { frames := 2, cells := 0, slots := 0, locals := 45 })
theorem yv_X8_keep : mYv yX8_keep iX8_keep 1 := ⟨⟨by decide +kernel, rfl, ⟨by decide +kernel, by decide +kernel, by decide +kernel⟩, wG_at 790 (by decide +kernel) rfl, wG_at 51 (by decide +kernel) rfl, rfl, rfl⟩, wG_at 789 (by decide +kernel) rfl, wG_at 26 (by decide +kernel) rfl⟩
abbrev iX8_text : mI := (RX8, cX8_text, 2, (some .int), { frames := 3, cells := 0, slots := 0, locals := 72 })
theorem yv_X8_text : mYv yX8_text iX8_text 1 := ⟨⟨by decide +kernel, rfl, ⟨by decide +kernel, by decide +kernel, by decide +kernel⟩, wG_at 783 (by decide +kernel) rfl, wG_at 51 (by decide +kernel) rfl, rfl, rfl⟩, wG_at 781 (by decide +kernel) rfl, wG_at 782 (by decide +kernel) rfl⟩
abbrev iX8_clauseOf : mI := (RX8, cX8_clauseOf, 2, (some .int), { frames := 0, cells := 0, slots := 0, locals := 0 })
theorem ys_X8_clauseOf : mYs yX8_clauseOf iX8_clauseOf 2 := ⟨⟨by decide +kernel, rfl, ⟨by decide +kernel, by decide +kernel, by decide +kernel⟩, wG_at 797 (by decide +kernel) rfl, wG_at 51 (by decide +kernel) rfl, rfl, rfl⟩, wG_at 796 (by decide +kernel) rfl⟩
abbrev iX8_clause : mI := (RX8, cX8_clause, 3, (some .int), { frames := 3, cells := 0, slots := 0, locals := 72 })
theorem yv_X8_clause : mYv yX8_clause iX8_clause 2 := ⟨⟨by decide +kernel, rfl, ⟨by decide +kernel, by decide +kernel, by decide +kernel⟩, wG_at 794 (by decide +kernel) rfl, wG_at 51 (by decide +kernel) rfl, rfl, rfl⟩, wG_at 792 (by decide +kernel) rfl, wG_at 793 (by decide +kernel) rfl⟩
abbrev iX8_drop : mI := (RX8, cX8_drop, 4, (some .int), { frames := 2, cells := 0, slots := 0, locals := 42 })
theorem yv_X8_drop : mYv yX8_drop iX8_drop 2 := ⟨⟨by decide +kernel, rfl, ⟨by decide +kernel, by decide +kernel, by decide +kernel⟩, wG_at 801 (by decide +kernel) rfl, wG_at 51 (by decide +kernel) rfl, rfl, rfl⟩, wG_at 799 (by decide +kernel) rfl, wG_at 800 (by decide +kernel) rfl⟩
abbrev iX8_hasClause : mI := (RX8, cX8_hasClause, 3, (some .boolean), { frames := 1, cells := 0, slots := 0, locals := 21 })
theorem yv_X8_hasClause : mYv yX8_hasClause iX8_hasClause 2 := ⟨⟨by decide +kernel, rfl, ⟨by decide +kernel, by decide +kernel, by decide +kernel⟩, wG_at 809 (by decide +kernel) rfl, wG_at 51 (by decide +kernel) rfl, rfl, rfl⟩, wG_at 808 (by decide +kernel) rfl, wG_at 27 (by decide +kernel) rfl⟩
abbrev iX8_has : mI := (RX8, cX8_has, 4, (some .int), { frames := 2, cells := 0, slots := 0, locals := 43 })
theorem yv_X8_has : mYv yX8_has iX8_has 1 := ⟨⟨by decide +kernel, rfl, ⟨by decide +kernel, by decide +kernel, by decide +kernel⟩, wG_at 805 (by decide +kernel) rfl, wG_at 51 (by decide +kernel) rfl, rfl, rfl⟩, wG_at 803 (by decide +kernel) rfl, wG_at 804 (by decide +kernel) rfl⟩
abbrev iX8_reply : mI := (RX8, cX8_reply, 2, (some .int), { frames := 1, cells := 0, slots := 0, locals := 22 })
theorem yv_X8_reply : mYv yX8_reply iX8_reply 1 := ⟨⟨by decide +kernel, rfl, ⟨by decide +kernel, by decide +kernel, by decide +kernel⟩, wG_at 813 (by decide +kernel) rfl, wG_at 51 (by decide +kernel) rfl, rfl, rfl⟩, wG_at 811 (by decide +kernel) rfl, wG_at 812 (by decide +kernel) rfl⟩
abbrev iX8_mute : mI := (RX8, cX8_mute, 2, (some .int), { frames := 0, cells := 0, slots := 0, locals := 0 })
theorem yv_X8_mute : mYv yX8_mute iX8_mute 0 := ⟨⟨by decide +kernel, rfl, ⟨by decide +kernel, by decide +kernel, by decide +kernel⟩, wG_at 817 (by decide +kernel) rfl, wG_at 51 (by decide +kernel) rfl, rfl, rfl⟩, wG_at 815 (by decide +kernel) rfl, wG_at 816 (by decide +kernel) rfl⟩
abbrev iX8_wait : mI := (RX8, cX8_wait, 6, none, { frames := 0, cells := 0, slots := 0, locals := 0 })
theorem yv_X8_wait : mYv yX8_wait iX8_wait 5 := ⟨⟨by decide +kernel, rfl, ⟨by decide +kernel, by decide +kernel, by decide +kernel⟩, wG_at 841 (by decide +kernel) rfl, wG_at 51 (by decide +kernel) rfl, rfl, rfl⟩, wG_at 840 (by decide +kernel) rfl, wG_at 32 (by decide +kernel) rfl⟩
abbrev iX8_lay : mI := (RX8, cX8_lay, 3, none, { frames := 0, cells := 0, slots := 0, locals := 0 })
theorem yv_X8_lay : mYv yX8_lay iX8_lay 2 := ⟨⟨by decide +kernel, rfl, ⟨by decide +kernel, by decide +kernel, by decide +kernel⟩, wG_at 837 (by decide +kernel) rfl, wG_at 51 (by decide +kernel) rfl, rfl, rfl⟩, wG_at 836 (by decide +kernel) rfl, wG_at 31 (by decide +kernel) rfl⟩
abbrev iX8_act : mI := (RX8, cX8_act, 3, (some .int), { frames := 0, cells := 0, slots := 0, locals := 0 })
theorem ys_X8_act : mYs yX8_act iX8_act 3 := ⟨⟨by decide +kernel, rfl, ⟨by decide +kernel, by decide +kernel, by decide +kernel⟩, wG_at 868 (by decide +kernel) rfl, wG_at 51 (by decide +kernel) rfl, rfl, rfl⟩, wG_at 867 (by decide +kernel) rfl⟩
abbrev iX8_partOf : mI := (RX8, cX8_partOf, 5, (some .int), { frames := 0, cells := 0, slots := 0, locals := 0 })
theorem yv_X8_partOf : mYv yX8_partOf iX8_partOf 2 := ⟨⟨by decide +kernel, rfl, ⟨by decide +kernel, by decide +kernel, by decide +kernel⟩, wG_at 857 (by decide +kernel) rfl, wG_at 51 (by decide +kernel) rfl, rfl, rfl⟩, wG_at 856 (by decide +kernel) rfl, wG_at 36 (by decide +kernel) rfl⟩
abbrev iX8_end : mI := (RX8, cX8_end, 3, (some .int), { frames := 4, cells := 0, slots := 0, locals := 88 })
theorem yv_X8_end : mYv yX8_end iX8_end 2 := ⟨⟨by decide +kernel, rfl, ⟨by decide +kernel, by decide +kernel, by decide +kernel⟩, wG_at 829 (by decide +kernel) rfl, wG_at 51 (by decide +kernel) rfl, rfl, rfl⟩, wG_at 828 (by decide +kernel) rfl, wG_at 29 (by decide +kernel) rfl⟩
abbrev iX8_begin : mI := (RX8, cX8_begin, 2, none, { frames := 1, cells := 0, slots := 0, locals := 25 })
theorem yv_X8_begin : mYv yX8_begin iX8_begin 0 := ⟨⟨by decide +kernel, rfl, ⟨by decide +kernel, by decide +kernel, by decide +kernel⟩, wG_at 833 (by decide +kernel) rfl, wG_at 51 (by decide +kernel) rfl, rfl, rfl⟩, wG_at 832 (by decide +kernel) rfl, wG_at 30 (by decide +kernel) rfl⟩
abbrev iX8_work : mI := (RX8, cX8_work, 4, none, { frames := 0, cells := 0, slots := 0, locals := 0 })
theorem yv_X8_work : mYv yX8_work iX8_work 3 := ⟨⟨by decide +kernel, rfl, ⟨by decide +kernel, by decide +kernel, by decide +kernel⟩, wG_at 849 (by decide +kernel) rfl, wG_at 51 (by decide +kernel) rfl, rfl, rfl⟩, wG_at 848 (by decide +kernel) rfl, wG_at 34 (by decide +kernel) rfl⟩
abbrev iX8_leave : mI := (RX8, cX8_leave, 2, none, { frames := 2, cells := 0, slots := 0, locals := 43 })
theorem yv_X8_leave : mYv yX8_leave iX8_leave 0 := ⟨⟨by decide +kernel, rfl, ⟨by decide +kernel, by decide +kernel, by decide +kernel⟩, wG_at 845 (by decide +kernel) rfl, wG_at 51 (by decide +kernel) rfl, rfl, rfl⟩, wG_at 844 (by decide +kernel) rfl, wG_at 33 (by decide +kernel) rfl⟩
abbrev iX8_come : mI := (RX8, cX8_come, 4, none, { frames := 3, cells := 0, slots := 0, locals := 65 })
theorem yv_X8_come : mYv yX8_come iX8_come 0 := ⟨⟨by decide +kernel, rfl, ⟨by decide +kernel, by decide +kernel, by decide +kernel⟩, wG_at 853 (by decide +kernel) rfl, wG_at 51 (by decide +kernel) rfl, rfl, rfl⟩, wG_at 852 (by decide +kernel) rfl, wG_at 35 (by decide +kernel) rfl⟩
abbrev iX8_ask : mI := (RX8, cX8_ask, 3, none, { frames := 2, cells := 0, slots := 0, locals := 43 })
theorem yv_X8_ask : mYv yX8_ask iX8_ask 1 := ⟨⟨by decide +kernel, rfl, ⟨by decide +kernel, by decide +kernel, by decide +kernel⟩, wG_at 865 (by decide +kernel) rfl, wG_at 51 (by decide +kernel) rfl, rfl, rfl⟩, wG_at 864 (by decide +kernel) rfl, wG_at 38 (by decide +kernel) rfl⟩
abbrev iX8_goOn : mI := (RX8, cX8_goOn, 4, none, { frames := 1, cells := 0, slots := 0, locals := 22 })
theorem yv_X8_goOn : mYv yX8_goOn iX8_goOn 1 := ⟨⟨by decide +kernel, rfl, ⟨by decide +kernel, by decide +kernel, by decide +kernel⟩, wG_at 861 (by decide +kernel) rfl, wG_at 51 (by decide +kernel) rfl, rfl, rfl⟩, wG_at 860 (by decide +kernel) rfl, wG_at 37 (by decide +kernel) rfl⟩
abbrev iX8_giveReplies : mI := (RX8, cX8_giveReplies, 2, none, { frames := 0, cells := 0, slots := 0, locals := 0 })
theorem yv_X8_giveReplies : mYv yX8_giveReplies iX8_giveReplies 0 := ⟨⟨by decide +kernel, rfl, ⟨by decide +kernel, by decide +kernel, by decide +kernel⟩, wG_at 825 (by decide +kernel) rfl, wG_at 51 (by decide +kernel) rfl, rfl, rfl⟩, wG_at 824 (by decide +kernel) rfl, wG_at 28 (by decide +kernel) rfl⟩
abbrev iX8_run : mI := (RX8, cX8_run, 5, (some .int), { frames := 5, cells := 0, slots := 0, locals := 110 })
theorem yv_X8_run : mYv yX8_run iX8_run 3 := ⟨⟨by decide +kernel, rfl, ⟨by decide +kernel, by decide +kernel, by decide +kernel⟩, wG_at 821 (by decide +kernel) rfl, wG_at 51 (by decide +kernel) rfl, rfl, rfl⟩, wG_at 819 (by decide +kernel) rfl, wG_at 820 (by decide +kernel) rfl⟩
abbrev iX8_who : mI := (RX8, cX8_who, 4, (some .int), { frames := 5, cells := 0, slots := 0, locals := 110 })
theorem yv_X8_who : mYv yX8_who iX8_who 3 := ⟨⟨by decide +kernel, rfl, ⟨by decide +kernel, by decide +kernel, by decide +kernel⟩, wG_at 872 (by decide +kernel) rfl, wG_at 51 (by decide +kernel) rfl, rfl, rfl⟩, wG_at 870 (by decide +kernel) rfl, wG_at 871 (by decide +kernel) rfl⟩
abbrev iX8_mayOf : mI := (RX8, cX8_mayOf, 13, (some .int), { frames := 2, cells := 0, slots := 0, locals := 45 })
theorem yv_X8_mayOf : mYv yX8_mayOf iX8_mayOf 1 := ⟨⟨by decide +kernel, rfl, ⟨by decide +kernel, by decide +kernel, by decide +kernel⟩, wG_at 884 (by decide +kernel) rfl, wG_at 51 (by decide +kernel) rfl, rfl, rfl⟩, wG_at 883 (by decide +kernel) rfl, wG_at 40 (by decide +kernel) rfl⟩
abbrev iX8_layMay : mI := (RX8, cX8_layMay, 5, none, { frames := 3, cells := 0, slots := 0, locals := 77 })
theorem yv_X8_layMay : mYv yX8_layMay iX8_layMay 0 := ⟨⟨by decide +kernel, rfl, ⟨by decide +kernel, by decide +kernel, by decide +kernel⟩, wG_at 880 (by decide +kernel) rfl, wG_at 51 (by decide +kernel) rfl, rfl, rfl⟩, wG_at 879 (by decide +kernel) rfl, wG_at 39 (by decide +kernel) rfl⟩
abbrev iX8_may : mI := (RX8, cX8_may, 4, (some .int), { frames := 4, cells := 0, slots := 0, locals := 101 })
theorem yv_X8_may : mYv yX8_may iX8_may 2 := ⟨⟨by decide +kernel, rfl, ⟨by decide +kernel, by decide +kernel, by decide +kernel⟩, wG_at 876 (by decide +kernel) rfl, wG_at 51 (by decide +kernel) rfl, rfl, rfl⟩, wG_at 874 (by decide +kernel) rfl, wG_at 875 (by decide +kernel) rfl⟩
abbrev iX8_often : mI := (RX8, cX8_often, 14, (some .int), { frames := 2, cells := 0, slots := 0, locals := 45 })
theorem yv_X8_often : mYv yX8_often iX8_often 2 := ⟨⟨by decide +kernel, rfl, ⟨by decide +kernel, by decide +kernel, by decide +kernel⟩, wG_at 888 (by decide +kernel) rfl, wG_at 51 (by decide +kernel) rfl, rfl, rfl⟩, wG_at 886 (by decide +kernel) rfl, wG_at 887 (by decide +kernel) rfl⟩
abbrev iX8_giveRow : mI := (RX8, cX8_giveRow, 6, none, { frames := 0, cells := 0, slots := 0, locals := 0 })
theorem yv_X8_giveRow : mYv yX8_giveRow iX8_giveRow 3 := ⟨⟨by decide +kernel, rfl, ⟨by decide +kernel, by decide +kernel, by decide +kernel⟩, wG_at 902 (by decide +kernel) rfl, wG_at 51 (by decide +kernel) rfl, rfl, rfl⟩, wG_at 901 (by decide +kernel) rfl, wG_at 41 (by decide +kernel) rfl⟩
abbrev iX8_rows : mI := (RX8, cX8_rows, 4, (some .int), { frames := 0, cells := 0, slots := 0, locals := 0 })
theorem ys_X8_rows : mYs yX8_rows iX8_rows 2 := ⟨⟨by decide +kernel, rfl, ⟨by decide +kernel, by decide +kernel, by decide +kernel⟩, wG_at 898 (by decide +kernel) rfl, wG_at 51 (by decide +kernel) rfl, rfl, rfl⟩, wG_at 897 (by decide +kernel) rfl⟩
abbrev iX8_areTold : mI := (RX8, cX8_areTold, 3, (some .boolean), { frames := 1, cells := 0, slots := 0, locals := 22 })
theorem ys_X8_areTold : mYs yX8_areTold iX8_areTold 3 := ⟨⟨by decide +kernel, rfl, ⟨by decide +kernel, by decide +kernel, by decide +kernel⟩, wG_at 895 (by decide +kernel) rfl, wG_at 51 (by decide +kernel) rfl, rfl, rfl⟩, wG_at 894 (by decide +kernel) rfl⟩
abbrev iX8_all : mI := (RX8, cX8_all, 7, (some .int), { frames := 5, cells := 0, slots := 0, locals := 110 })
theorem yv_X8_all : mYv yX8_all iX8_all 4 := ⟨⟨by decide +kernel, rfl, ⟨by decide +kernel, by decide +kernel, by decide +kernel⟩, wG_at 892 (by decide +kernel) rfl, wG_at 51 (by decide +kernel) rfl, rfl, rfl⟩, wG_at 890 (by decide +kernel) rfl, wG_at 891 (by decide +kernel) rfl⟩
abbrev iX8_row : mI := (RX8, cX8_row, 10, (some .int), { frames := 5, cells := 0, slots := 0, locals := 110 })
theorem yv_X8_row : mYv yX8_row iX8_row 6 := ⟨⟨by decide +kernel, rfl, ⟨by decide +kernel, by decide +kernel, by decide +kernel⟩, wG_at 906 (by decide +kernel) rfl, wG_at 51 (by decide +kernel) rfl, rfl, rfl⟩, wG_at 904 (by decide +kernel) rfl, wG_at 905 (by decide +kernel) rfl⟩
abbrev iX8_apart : mI := (RX8, cX8_apart, 14, (some .int), { frames := 5, cells := 0, slots := 0, locals := 110 })
theorem yv_X8_apart : mYv yX8_apart iX8_apart 7 := ⟨⟨by decide +kernel, rfl, ⟨by decide +kernel, by decide +kernel, by decide +kernel⟩, wG_at 910 (by decide +kernel) rfl, wG_at 51 (by decide +kernel) rfl, rfl, rfl⟩, wG_at 908 (by decide +kernel) rfl, wG_at 909 (by decide +kernel) rfl⟩
abbrev iX8_told : mI := (RX8, cX8_told, 2, (some .int), { frames := 1, cells := 0, slots := 0, locals := 22 })
theorem yv_X8_told : mYv yX8_told iX8_told 1 := ⟨⟨by decide +kernel, rfl, ⟨by decide +kernel, by decide +kernel, by decide +kernel⟩, wG_at 914 (by decide +kernel) rfl, wG_at 51 (by decide +kernel) rfl, rfl, rfl⟩, wG_at 912 (by decide +kernel) rfl, wG_at 913 (by decide +kernel) rfl⟩
theorem lk_X7_54 : mLk RX7 54 yX0_writeNought := Or.inl (wG_at 227 (by decide +kernel) rfl)
theorem lk_X7_58 : mLk RX7 58 yX2_add := Or.inl (wG_at 257 (by decide +kernel) rfl)
theorem lk_X7_66 : mLk RX7 66 yX2_firstFault := Or.inl (wG_at 269 (by decide +kernel) rfl)
theorem lk_X7_70 : mLk RX7 70 yX7_isText := Or.inl (wG_at 294 (by decide +kernel) rfl)
theorem lk_X7_73 : mLk RX7 73 yX7_becomes := Or.inl (wG_at 297 (by decide +kernel) rfl)
theorem lk_X7_77 : mLk RX7 77 yX7_isPart := Or.inl (wG_at 331 (by decide +kernel) rfl)
theorem lk_X7_81 : mLk RX7 81 yX7_pageOf := Or.inl (wG_at 334 (by decide +kernel) rfl)
theorem lk_X7_85 : mLk RX7 85 yX0_size := Or.inl (wG_at 341 (by decide +kernel) rfl)
theorem lk_X7_88 : mLk RX7 88 yX0_clear := Or.inl (wG_at 345 (by decide +kernel) rfl)
theorem lk_X7_91 : mLk RX7 91 yX0_clauses := Or.inl (wG_at 353 (by decide +kernel) rfl)
theorem lk_X7_94 : mLk RX7 94 yX7_isNumber := Or.inl (wG_at 363 (by decide +kernel) rfl)
theorem lk_X7_97 : mLk RX7 97 yX3_add := Or.inl (wG_at 366 (by decide +kernel) rfl)
theorem lk_X7_101 : mLk RX7 101 yX3_start := Or.inl (wG_at 374 (by decide +kernel) rfl)
theorem lk_X7_104 : mLk RX7 104 yX4_work := Or.inl (wG_at 382 (by decide +kernel) rfl)
theorem lk_X7_108 : mLk RX7 108 yX4_tell := Or.inl (wG_at 501 (by decide +kernel) rfl)
theorem lk_X7_111 : mLk RX7 111 yX4_answerer := Or.inl (wG_at 509 (by decide +kernel) rfl)
theorem lk_X7_114 : mLk RX7 114 yX6_beyond := Or.inl (wG_at 517 (by decide +kernel) rfl)
theorem lk_X7_117 : mLk RX7 117 yX7_isClause := Or.inl (wG_at 550 (by decide +kernel) rfl)
theorem lk_X7_120 : mLk RX7 120 yX6_goings := Or.inl (wG_at 558 (by decide +kernel) rfl)
theorem lk_X7_123 : mLk RX7 123 yX7_areRows := Or.inl (wG_at 577 (by decide +kernel) rfl)
theorem lk_X7_126 : mLk RX7 126 yX7_goThrough := Or.inl (wG_at 580 (by decide +kernel) rfl)
theorem lk_X7_130 : mLk RX7 130 yX3_tell := Or.inl (wG_at 599 (by decide +kernel) rfl)
theorem lk_X7_131 : mLk RX7 131 yX7_differ := Or.inl (wG_at 607 (by decide +kernel) rfl)
theorem lk_X7_135 : mLk RX7 135 yX0_write := Or.inl (wG_at 301 (by decide +kernel) rfl)
theorem lk_X7_139 : mLk RX7 139 yX7_wipe := Or.inl (wG_at 326 (by decide +kernel) rfl)
theorem lk_X7_149 : mLk RX7 149 yX3_take := Or.inl (wG_at 584 (by decide +kernel) rfl)
theorem lk_X7_153 : mLk RX7 153 yX3_next := Or.inl (wG_at 590 (by decide +kernel) rfl)
theorem lk_X7_156 : mLk RX7 156 yX4_doing := Or.inl (wG_at 611 (by decide +kernel) rfl)
theorem lk_X0_27 : Cond.methodLink RX0 27 Lib.Math.min.name ∈ wG := wG_at 305 (by decide +kernel) rfl
theorem lk_X0_33 : mLk RX0 33 yX2_sign := Or.inl (wG_at 308 (by decide +kernel) rfl)
theorem lk_X0_37 : mLk RX0 37 yX0_behind := Or.inl (wG_at 309 (by decide +kernel) rfl)
theorem lk_X0_40 : mLk RX0 40 yX0_first := Or.inl (wG_at 313 (by decide +kernel) rfl)
theorem lk_X0_43 : mLk RX0 43 yX0_sign := Or.inl (wG_at 317 (by decide +kernel) rfl)
theorem lk_X0_44 : mLk RX0 44 yX7_textsOf := Or.inr ⟨"DeedHands", List.mem_of_getElem? (i := 321) (by decide +kernel)⟩
theorem lk_X0_47 : mLk RX0 47 yX0_after := Or.inl (wG_at 322 (by decide +kernel) rfl)
theorem lk_X0_50 : mLk RX0 50 yX7_pageOf := Or.inr ⟨"DeedHands", List.mem_of_getElem? (i := 357) (by decide +kernel)⟩
theorem lk_X0_53 : mLk RX0 53 yX0_size := Or.inl (wG_at 358 (by decide +kernel) rfl)
theorem lk_X1_25 : mLk RX1 25 yX1_stands := Or.inl (wG_at 408 (by decide +kernel) rfl)
theorem lk_X2_22 : mLk RX2 22 yX2_sign := Or.inl (wG_at 273 (by decide +kernel) rfl)
theorem lk_X2_26 : mLk RX2 26 yX2_canStand := Or.inl (wG_at 277 (by decide +kernel) rfl)
theorem lk_X2_30 : mLk RX2 30 yX7_textsOf := Or.inr ⟨"DeedHands", List.mem_of_getElem? (i := 280) (by decide +kernel)⟩
theorem lk_X2_33 : mLk RX2 33 yX2_isHandSign := Or.inl (wG_at 283 (by decide +kernel) rfl)
theorem lk_X2_37 : mLk RX2 37 yX2_depthOfNext := Or.inl (wG_at 286 (by decide +kernel) rfl)
theorem lk_X3_19 : mLk RX3 19 yX3_start := Or.inl (wG_at 588 (by decide +kernel) rfl)
theorem lk_X3_23 : mLk RX3 23 yX3_value := Or.inl (wG_at 589 (by decide +kernel) rfl)
theorem lk_X3_27 : Cond.methodLink RX3 27 Lib.Math.min.name ∈ wG := wG_at 594 (by decide +kernel) rfl
theorem lk_X4_37 : mLk RX4 37 yX5_clear := Or.inl (wG_at 386 (by decide +kernel) rfl)
theorem lk_X4_65 : mLk RX4 65 yX4_enter := Or.inl (wG_at 390 (by decide +kernel) rfl)
theorem lk_X4_74 : mLk RX4 74 yX4_begin := Or.inl (wG_at 399 (by decide +kernel) rfl)
theorem lk_X4_77 : mLk RX4 77 yX4_takeUp := Or.inl (wG_at 426 (by decide +kernel) rfl)
theorem lk_X4_80 : mLk RX4 80 yX1_enter := Or.inl (wG_at 394 (by decide +kernel) rfl)
theorem lk_X4_92 : mLk RX4 92 yX0_sign := Or.inl (wG_at 403 (by decide +kernel) rfl)
theorem lk_X4_98 : mLk RX4 98 yX1_argument := Or.inl (wG_at 404 (by decide +kernel) rfl)
theorem lk_X4_101 : mLk RX4 101 yX4_give := Or.inl (wG_at 412 (by decide +kernel) rfl)
theorem lk_X4_105 : mLk RX4 105 yX7_textsOf := Or.inr ⟨"DeedHands", List.mem_of_getElem? (i := 416) (by decide +kernel)⟩
theorem lk_X4_108 : mLk RX4 108 yX5_push := Or.inl (wG_at 417 (by decide +kernel) rfl)
theorem lk_X4_112 : mLk RX4 112 yX0_first := Or.inl (wG_at 425 (by decide +kernel) rfl)
theorem lk_X4_118 : mLk RX4 118 yX5_place := Or.inl (wG_at 430 (by decide +kernel) rfl)
theorem lk_X4_120 : mLk RX4 120 yX5_call := Or.inl (wG_at 438 (by decide +kernel) rfl)
theorem lk_X4_122 : mLk RX4 122 yX5_held := Or.inl (wG_at 442 (by decide +kernel) rfl)
theorem lk_X4_125 : mLk RX4 125 yX5_hold := Or.inl (wG_at 446 (by decide +kernel) rfl)
theorem lk_X4_129 : mLk RX4 129 yX0_after := Or.inl (wG_at 450 (by decide +kernel) rfl)
theorem lk_X4_132 : mLk RX4 132 yX5_below := Or.inl (wG_at 451 (by decide +kernel) rfl)
theorem lk_X4_135 : mLk RX4 135 yX4_choose := Or.inl (wG_at 455 (by decide +kernel) rfl)
theorem lk_X4_138 : mLk RX4 138 yX0_hand := Or.inl (wG_at 459 (by decide +kernel) rfl)
theorem lk_X4_141 : mLk RX4 141 yX4_comeBack := Or.inl (wG_at 463 (by decide +kernel) rfl)
theorem lk_X4_144 : mLk RX4 144 yX4_goOn := Or.inl (wG_at 469 (by decide +kernel) rfl)
theorem lk_X4_147 : mLk RX4 147 yX4_nearest := Or.inl (wG_at 485 (by decide +kernel) rfl)
theorem lk_X4_150 : mLk RX4 150 yX4_ask := Or.inl (wG_at 489 (by decide +kernel) rfl)
theorem lk_X4_153 : mLk RX4 153 yX4_act := Or.inl (wG_at 497 (by decide +kernel) rfl)
theorem lk_X4_156 : Cond.methodLink RX4 156 Lib.Math.min.name ∈ wG := wG_at 500 (by decide +kernel) rfl
theorem lk_X4_162 : mLk RX4 162 yX7_pageOf := Or.inr ⟨"DeedHands", List.mem_of_getElem? (i := 467) (by decide +kernel)⟩
theorem lk_X4_165 : mLk RX4 165 yX0_size := Or.inl (wG_at 468 (by decide +kernel) rfl)
theorem lk_X4_168 : mLk RX4 168 yX1_keptTop := Or.inl (wG_at 473 (by decide +kernel) rfl)
theorem lk_X4_171 : mLk RX4 171 yX1_keptHand := Or.inl (wG_at 477 (by decide +kernel) rfl)
theorem lk_X4_174 : mLk RX4 174 yX5_layDown := Or.inl (wG_at 481 (by decide +kernel) rfl)
theorem lk_X4_182 : mLk RX4 182 yX3_value := Or.inl (wG_at 493 (by decide +kernel) rfl)
theorem lk_X5_25 : mLk RX5 25 yX5_stands := Or.inl (wG_at 434 (by decide +kernel) rfl)
theorem lk_X5_29 : mLk RX5 29 yX5_make := Or.inl (wG_at 421 (by decide +kernel) rfl)
theorem lk_X6_25 : mLk RX6 25 yX6_addsTo := Or.inl (wG_at 521 (by decide +kernel) rfl)
theorem lk_X6_29 : mLk RX6 29 yX6_asked := Or.inl (wG_at 534 (by decide +kernel) rfl)
theorem lk_X6_33 : mLk RX6 33 yX0_size := Or.inl (wG_at 525 (by decide +kernel) rfl)
theorem lk_X6_38 : Cond.methodLink RX6 38 Lib.Math.min.name ∈ wG := wG_at 526 (by decide +kernel) rfl
theorem lk_X6_44 : mLk RX6 44 yX6_asksOf := Or.inl (wG_at 527 (by decide +kernel) rfl)
theorem lk_X6_47 : mLk RX6 47 yX0_hand := Or.inl (wG_at 543 (by decide +kernel) rfl)
theorem lk_X6_50 : mLk RX6 50 yX0_sign := Or.inl (wG_at 531 (by decide +kernel) rfl)
theorem lk_X6_53 : mLk RX6 53 yX0_first := Or.inl (wG_at 532 (by decide +kernel) rfl)
theorem lk_X6_56 : mLk RX6 56 yX7_textsOf := Or.inr ⟨"DeedHands", List.mem_of_getElem? (i := 533) (by decide +kernel)⟩
theorem lk_X6_59 : mLk RX6 59 yX0_after := Or.inl (wG_at 538 (by decide +kernel) rfl)
theorem lk_X6_62 : mLk RX6 62 yX6_whatGoesOn := Or.inl (wG_at 539 (by decide +kernel) rfl)
theorem lk_X6_65 : mLk RX6 65 yX6_pastHand := Or.inl (wG_at 544 (by decide +kernel) rfl)
theorem lk_X6_68 : mLk RX6 68 yX0_clauses := Or.inl (wG_at 548 (by decide +kernel) rfl)
theorem lk_X6_71 : mLk RX6 71 yX7_pageOf := Or.inr ⟨"DeedHands", List.mem_of_getElem? (i := 549) (by decide +kernel)⟩
theorem lk_X6_74 : mLk RX6 74 yX6_goingsOf := Or.inl (wG_at 562 (by decide +kernel) rfl)
theorem lk_X6_77 : mLk RX6 77 yX6_counted := Or.inl (wG_at 566 (by decide +kernel) rfl)
theorem lk_X6_80 : Cond.methodLink RX6 80 Lib.Math.max.name ∈ wG := wG_at 570 (by decide +kernel) rfl
theorem lk_L_13 : mLk RL 13 yX7_say := Or.inl (wG_at 253 (by decide +kernel) rfl)
theorem lk_L_17 : mLk RL 17 yX8_say := Or.inl (wG_at 758 (by decide +kernel) rfl)
theorem lk_L_18 : mLk RL 18 yX7_wipe := Or.inl (wG_at 261 (by decide +kernel) rfl)
theorem lk_L_22 : mLk RL 22 yX8_wipe := Or.inl (wG_at 765 (by decide +kernel) rfl)
theorem lk_L_23 : mLk RL 23 yX7_fault := Or.inl (wG_at 265 (by decide +kernel) rfl)
theorem lk_L_26 : mLk RL 26 yX8_fault := Or.inl (wG_at 769 (by decide +kernel) rfl)
theorem lk_L_27 : mLk RL 27 yX7_text := Or.inl (wG_at 290 (by decide +kernel) rfl)
theorem lk_L_30 : mLk RL 30 yX8_text := Or.inl (wG_at 780 (by decide +kernel) rfl)
theorem lk_L_31 : mLk RL 31 yX7_clause := Or.inl (wG_at 327 (by decide +kernel) rfl)
theorem lk_L_35 : mLk RL 35 yX8_clause := Or.inl (wG_at 791 (by decide +kernel) rfl)
theorem lk_L_36 : mLk RL 36 yX7_drop := Or.inl (wG_at 337 (by decide +kernel) rfl)
theorem lk_L_39 : mLk RL 39 yX8_drop := Or.inl (wG_at 798 (by decide +kernel) rfl)
theorem lk_L_40 : mLk RL 40 yX7_has := Or.inl (wG_at 349 (by decide +kernel) rfl)
theorem lk_L_43 : mLk RL 43 yX8_has := Or.inl (wG_at 802 (by decide +kernel) rfl)
theorem lk_L_44 : mLk RL 44 yX7_reply := Or.inl (wG_at 359 (by decide +kernel) rfl)
theorem lk_L_47 : mLk RL 47 yX8_reply := Or.inl (wG_at 810 (by decide +kernel) rfl)
theorem lk_L_48 : mLk RL 48 yX7_mute := Or.inl (wG_at 370 (by decide +kernel) rfl)
theorem lk_L_51 : mLk RL 51 yX8_mute := Or.inl (wG_at 814 (by decide +kernel) rfl)
theorem lk_L_52 : mLk RL 52 yX7_run := Or.inl (wG_at 378 (by decide +kernel) rfl)
theorem lk_L_56 : mLk RL 56 yX8_run := Or.inl (wG_at 818 (by decide +kernel) rfl)
theorem lk_L_57 : mLk RL 57 yX7_who := Or.inl (wG_at 505 (by decide +kernel) rfl)
theorem lk_L_60 : mLk RL 60 yX8_who := Or.inl (wG_at 869 (by decide +kernel) rfl)
theorem lk_L_61 : mLk RL 61 yX7_may := Or.inl (wG_at 513 (by decide +kernel) rfl)
theorem lk_L_64 : mLk RL 64 yX8_may := Or.inl (wG_at 873 (by decide +kernel) rfl)
theorem lk_L_65 : mLk RL 65 yX7_often := Or.inl (wG_at 554 (by decide +kernel) rfl)
theorem lk_L_68 : mLk RL 68 yX8_often := Or.inl (wG_at 885 (by decide +kernel) rfl)
theorem lk_L_69 : mLk RL 69 yX7_all := Or.inl (wG_at 573 (by decide +kernel) rfl)
theorem lk_L_73 : mLk RL 73 yX8_all := Or.inl (wG_at 889 (by decide +kernel) rfl)
theorem lk_L_74 : mLk RL 74 yX7_row := Or.inl (wG_at 595 (by decide +kernel) rfl)
theorem lk_L_78 : mLk RL 78 yX8_row := Or.inl (wG_at 903 (by decide +kernel) rfl)
theorem lk_L_79 : mLk RL 79 yX7_apart := Or.inl (wG_at 603 (by decide +kernel) rfl)
theorem lk_L_83 : mLk RL 83 yX8_apart := Or.inl (wG_at 907 (by decide +kernel) rfl)
theorem lk_L_84 : mLk RL 84 yX7_told := Or.inl (wG_at 615 (by decide +kernel) rfl)
theorem lk_L_87 : mLk RL 87 yX8_told := Or.inl (wG_at 911 (by decide +kernel) rfl)
theorem lk_X8_85 : mLk RX8 85 yX8_in := Or.inl (wG_at 762 (by decide +kernel) rfl)
theorem lk_X8_93 : mLk RX8 93 yX8_partsOf := Or.inl (wG_at 777 (by decide +kernel) rfl)
theorem lk_X8_97 : mLk RX8 97 yX8_faultOf := Or.inl (wG_at 773 (by decide +kernel) rfl)
theorem lk_X8_101 : mLk RX8 101 yX8_isFour := Or.inl (wG_at 784 (by decide +kernel) rfl)
theorem lk_X8_105 : mLk RX8 105 yX8_keep := Or.inl (wG_at 787 (by decide +kernel) rfl)
theorem lk_X8_109 : mLk RX8 109 yX8_clauseOf := Or.inl (wG_at 795 (by decide +kernel) rfl)
theorem lk_X8_113 : mLk RX8 113 yX8_hasClause := Or.inl (wG_at 806 (by decide +kernel) rfl)
theorem lk_X8_168 : mLk RX8 168 yX8_begin := Or.inl (wG_at 830 (by decide +kernel) rfl)
theorem lk_X8_171 : mLk RX8 171 yX8_leave := Or.inl (wG_at 842 (by decide +kernel) rfl)
theorem lk_X8_174 : mLk RX8 174 yX8_come := Or.inl (wG_at 850 (by decide +kernel) rfl)
theorem lk_X8_177 : mLk RX8 177 yX8_lay := Or.inl (wG_at 834 (by decide +kernel) rfl)
theorem lk_X8_181 : mLk RX8 181 yX8_wait := Or.inl (wG_at 838 (by decide +kernel) rfl)
theorem lk_X8_185 : mLk RX8 185 yX8_work := Or.inl (wG_at 846 (by decide +kernel) rfl)
theorem lk_X8_189 : mLk RX8 189 yX8_partOf := Or.inl (wG_at 854 (by decide +kernel) rfl)
theorem lk_X8_192 : mLk RX8 192 yX8_goOn := Or.inl (wG_at 858 (by decide +kernel) rfl)
theorem lk_X8_196 : mLk RX8 196 yX8_ask := Or.inl (wG_at 862 (by decide +kernel) rfl)
theorem lk_X8_199 : mLk RX8 199 yX8_act := Or.inl (wG_at 866 (by decide +kernel) rfl)
theorem lk_X8_206 : mLk RX8 206 yX8_giveReplies := Or.inl (wG_at 822 (by decide +kernel) rfl)
theorem lk_X8_209 : mLk RX8 209 yX8_end := Or.inl (wG_at 826 (by decide +kernel) rfl)
theorem lk_X8_212 : mLk RX8 212 yX8_mayOf := Or.inl (wG_at 881 (by decide +kernel) rfl)
theorem lk_X8_215 : mLk RX8 215 yX8_layMay := Or.inl (wG_at 877 (by decide +kernel) rfl)
theorem lk_X8_218 : mLk RX8 218 yX8_areTold := Or.inl (wG_at 893 (by decide +kernel) rfl)
theorem lk_X8_221 : mLk RX8 221 yX8_rows := Or.inl (wG_at 896 (by decide +kernel) rfl)
theorem lk_X8_224 : mLk RX8 224 yX8_giveRow := Or.inl (wG_at 899 (by decide +kernel) rfl)
theorem mm_min : Cond.static Lib.Math.min.name ∈ wG ∧ Cond.initialized "java/lang/Math" ∈ wG ∧ Cond.code Lib.Math.min.name Lib.Math.min.code 2 (some .int) ∈ wG := ⟨wG_at 306 (by decide +kernel) rfl, wG_at 52 (by decide +kernel) rfl, wG_at 307 (by decide +kernel) rfl⟩
theorem mm_max : Cond.static Lib.Math.max.name ∈ wG ∧ Cond.initialized "java/lang/Math" ∈ wG ∧ Cond.code Lib.Math.max.name Lib.Math.max.code 2 (some .int) ∈ wG := ⟨wG_at 571 (by decide +kernel) rfl, wG_at 52 (by decide +kernel) rfl, wG_at 572 (by decide +kernel) rfl⟩
theorem kc_X4_69 : Cond.constant RX4 69 (1000000) ∈ wG := wG_at 398 (by decide +kernel) rfl
