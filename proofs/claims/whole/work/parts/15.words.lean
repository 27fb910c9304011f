theorem hin_X0 : ∀ w ∈ u_ws RX0 TX0 15, w ∈ tG := by
  have h : ∀ w ∈ u_ws RX0 TX0 15, w ∈ lw_tbl ∧ goodWord w = true := by decide +kernel
  exact fun w hw => tG_in (h w hw).1 (h w hw).2
theorem hin_X2 : ∀ w ∈ u_ws RX2 TX2 3, w ∈ tG := by
  have h : ∀ w ∈ u_ws RX2 TX2 3, w ∈ lw_tbl ∧ goodWord w = true := by decide +kernel
  exact fun w hw => tG_in (h w hw).1 (h w hw).2
theorem hin_X3 : ∀ w ∈ u_ws RX3 TX3 6, w ∈ tG := by
  have h : ∀ w ∈ u_ws RX3 TX3 6, w ∈ lw_tbl ∧ goodWord w = true := by decide +kernel
  exact fun w hw => tG_in (h w hw).1 (h w hw).2
theorem hin_X4 : ∀ w ∈ u_ws RX4 TX4 7, w ∈ tG := by
  have h : ∀ w ∈ u_ws RX4 TX4 7, w ∈ lw_tbl ∧ goodWord w = true := by decide +kernel
  exact fun w hw => tG_in (h w hw).1 (h w hw).2
theorem hin_X5 : ∀ w ∈ u_ws RX5 TX5 20, w ∈ tG := by
  have h : ∀ w ∈ u_ws RX5 TX5 20, w ∈ lw_tbl ∧ goodWord w = true := by decide +kernel
  exact fun w hw => tG_in (h w hw).1 (h w hw).2
theorem fl_X0_9 : Cond.fieldLink RX0 9 (TX0 0).1 (TX0 0).2.1 (TX0 0).2.2.1 ∈ tG := tG_in (List.mem_of_getElem? (i := 90) (by decide +kernel)) rfl
theorem fl_X4_69 : Cond.fieldLink RX4 69 (TX0 0).1 (TX0 0).2.1 (TX0 0).2.2.1 ∈ tG := tG_in (List.mem_of_getElem? (i := 91) (by decide +kernel)) rfl
theorem fl_X3_54 : Cond.fieldLink RX3 54 (TX0 0).1 (TX0 0).2.1 (TX0 0).2.2.1 ∈ tG := tG_in (List.mem_of_getElem? (i := 92) (by decide +kernel)) rfl
theorem fl_X0_13 : Cond.fieldLink RX0 13 (TX0 1).1 (TX0 1).2.1 (TX0 1).2.2.1 ∈ tG := tG_in (List.mem_of_getElem? (i := 93) (by decide +kernel)) rfl
theorem fl_X4_78 : Cond.fieldLink RX4 78 (TX0 1).1 (TX0 1).2.1 (TX0 1).2.2.1 ∈ tG := tG_in (List.mem_of_getElem? (i := 94) (by decide +kernel)) rfl
theorem fl_X3_65 : Cond.fieldLink RX3 65 (TX0 1).1 (TX0 1).2.1 (TX0 1).2.2.1 ∈ tG := tG_in (List.mem_of_getElem? (i := 95) (by decide +kernel)) rfl
theorem fl_X0_16 : Cond.fieldLink RX0 16 (TX0 2).1 (TX0 2).2.1 (TX0 2).2.2.1 ∈ tG := tG_in (List.mem_of_getElem? (i := 96) (by decide +kernel)) rfl
theorem fl_X4_55 : Cond.fieldLink RX4 55 (TX0 2).1 (TX0 2).2.1 (TX0 2).2.2.1 ∈ tG := tG_in (List.mem_of_getElem? (i := 97) (by decide +kernel)) rfl
theorem fl_X3_79 : Cond.fieldLink RX3 79 (TX0 2).1 (TX0 2).2.1 (TX0 2).2.2.1 ∈ tG := tG_in (List.mem_of_getElem? (i := 98) (by decide +kernel)) rfl
theorem fl_X0_20 : Cond.fieldLink RX0 20 (TX0 3).1 (TX0 3).2.1 (TX0 3).2.2.1 ∈ tG := tG_in (List.mem_of_getElem? (i := 99) (by decide +kernel)) rfl
theorem fl_X4_59 : Cond.fieldLink RX4 59 (TX0 3).1 (TX0 3).2.1 (TX0 3).2.2.1 ∈ tG := tG_in (List.mem_of_getElem? (i := 100) (by decide +kernel)) rfl
theorem fl_X0_23 : Cond.fieldLink RX0 23 (TX0 4).1 (TX0 4).2.1 (TX0 4).2.2.1 ∈ tG := tG_in (List.mem_of_getElem? (i := 101) (by decide +kernel)) rfl
theorem fl_X4_62 : Cond.fieldLink RX4 62 (TX0 4).1 (TX0 4).2.1 (TX0 4).2.2.1 ∈ tG := tG_in (List.mem_of_getElem? (i := 102) (by decide +kernel)) rfl
theorem fl_X0_26 : Cond.fieldLink RX0 26 (TX0 5).1 (TX0 5).2.1 (TX0 5).2.2.1 ∈ tG := tG_in (List.mem_of_getElem? (i := 103) (by decide +kernel)) rfl
theorem fl_X4_109 : Cond.fieldLink RX4 109 (TX0 5).1 (TX0 5).2.1 (TX0 5).2.2.1 ∈ tG := tG_in (List.mem_of_getElem? (i := 104) (by decide +kernel)) rfl
theorem fl_X0_29 : Cond.fieldLink RX0 29 (TX0 6).1 (TX0 6).2.1 (TX0 6).2.2.1 ∈ tG := tG_in (List.mem_of_getElem? (i := 105) (by decide +kernel)) rfl
theorem fl_X4_176 : Cond.fieldLink RX4 176 (TX0 6).1 (TX0 6).2.1 (TX0 6).2.2.1 ∈ tG := tG_in (List.mem_of_getElem? (i := 106) (by decide +kernel)) rfl
theorem fl_X0_32 : Cond.fieldLink RX0 32 (TX0 7).1 (TX0 7).2.1 (TX0 7).2.2.1 ∈ tG := tG_in (List.mem_of_getElem? (i := 107) (by decide +kernel)) rfl
theorem fl_X4_101 : Cond.fieldLink RX4 101 (TX0 7).1 (TX0 7).2.1 (TX0 7).2.2.1 ∈ tG := tG_in (List.mem_of_getElem? (i := 108) (by decide +kernel)) rfl
theorem fl_X0_35 : Cond.fieldLink RX0 35 (TX0 8).1 (TX0 8).2.1 (TX0 8).2.2.1 ∈ tG := tG_in (List.mem_of_getElem? (i := 109) (by decide +kernel)) rfl
theorem fl_X4_158 : Cond.fieldLink RX4 158 (TX0 8).1 (TX0 8).2.1 (TX0 8).2.2.1 ∈ tG := tG_in (List.mem_of_getElem? (i := 110) (by decide +kernel)) rfl
theorem fl_X0_38 : Cond.fieldLink RX0 38 (TX0 9).1 (TX0 9).2.1 (TX0 9).2.2.1 ∈ tG := tG_in (List.mem_of_getElem? (i := 111) (by decide +kernel)) rfl
theorem fl_X3_93 : Cond.fieldLink RX3 93 (TX0 9).1 (TX0 9).2.1 (TX0 9).2.2.1 ∈ tG := tG_in (List.mem_of_getElem? (i := 112) (by decide +kernel)) rfl
theorem fl_X4_170 : Cond.fieldLink RX4 170 (TX0 9).1 (TX0 9).2.1 (TX0 9).2.2.1 ∈ tG := tG_in (List.mem_of_getElem? (i := 113) (by decide +kernel)) rfl
theorem fl_X0_41 : Cond.fieldLink RX0 41 (TX0 10).1 (TX0 10).2.1 (TX0 10).2.2.1 ∈ tG := tG_in (List.mem_of_getElem? (i := 114) (by decide +kernel)) rfl
theorem fl_X3_101 : Cond.fieldLink RX3 101 (TX0 10).1 (TX0 10).2.1 (TX0 10).2.2.1 ∈ tG := tG_in (List.mem_of_getElem? (i := 115) (by decide +kernel)) rfl
theorem fl_X4_173 : Cond.fieldLink RX4 173 (TX0 10).1 (TX0 10).2.1 (TX0 10).2.2.1 ∈ tG := tG_in (List.mem_of_getElem? (i := 116) (by decide +kernel)) rfl
theorem fl_X0_44 : Cond.fieldLink RX0 44 (TX0 11).1 (TX0 11).2.1 (TX0 11).2.2.1 ∈ tG := tG_in (List.mem_of_getElem? (i := 117) (by decide +kernel)) rfl
theorem fl_X4_161 : Cond.fieldLink RX4 161 (TX0 11).1 (TX0 11).2.1 (TX0 11).2.2.1 ∈ tG := tG_in (List.mem_of_getElem? (i := 118) (by decide +kernel)) rfl
theorem fl_X0_47 : Cond.fieldLink RX0 47 (TX0 12).1 (TX0 12).2.1 (TX0 12).2.2.1 ∈ tG := tG_in (List.mem_of_getElem? (i := 119) (by decide +kernel)) rfl
theorem fl_X0_50 : Cond.fieldLink RX0 50 (TX0 13).1 (TX0 13).2.1 (TX0 13).2.2.1 ∈ tG := tG_in (List.mem_of_getElem? (i := 120) (by decide +kernel)) rfl
theorem fl_X4_206 : Cond.fieldLink RX4 206 (TX0 13).1 (TX0 13).2.1 (TX0 13).2.2.1 ∈ tG := tG_in (List.mem_of_getElem? (i := 121) (by decide +kernel)) rfl
theorem fl_X0_53 : Cond.fieldLink RX0 53 (TX0 14).1 (TX0 14).2.1 (TX0 14).2.2.1 ∈ tG := tG_in (List.mem_of_getElem? (i := 122) (by decide +kernel)) rfl
theorem fl_X4_228 : Cond.fieldLink RX4 228 (TX0 14).1 (TX0 14).2.1 (TX0 14).2.2.1 ∈ tG := tG_in (List.mem_of_getElem? (i := 123) (by decide +kernel)) rfl
theorem fl_X2_11 : Cond.fieldLink RX2 11 (TX2 0).1 (TX2 0).2.1 (TX2 0).2.2.1 ∈ tG := tG_in (List.mem_of_getElem? (i := 164) (by decide +kernel)) rfl
theorem fl_X4_262 : Cond.fieldLink RX4 262 (TX2 0).1 (TX2 0).2.1 (TX2 0).2.2.1 ∈ tG := tG_in (List.mem_of_getElem? (i := 165) (by decide +kernel)) rfl
theorem fl_X2_14 : Cond.fieldLink RX2 14 (TX2 1).1 (TX2 1).2.1 (TX2 1).2.2.1 ∈ tG := tG_in (List.mem_of_getElem? (i := 166) (by decide +kernel)) rfl
theorem fl_X4_256 : Cond.fieldLink RX4 256 (TX2 1).1 (TX2 1).2.1 (TX2 1).2.2.1 ∈ tG := tG_in (List.mem_of_getElem? (i := 167) (by decide +kernel)) rfl
theorem fl_X2_18 : Cond.fieldLink RX2 18 (TX2 2).1 (TX2 2).2.1 (TX2 2).2.2.1 ∈ tG := tG_in (List.mem_of_getElem? (i := 168) (by decide +kernel)) rfl
theorem fl_X4_247 : Cond.fieldLink RX4 247 (TX2 2).1 (TX2 2).2.1 (TX2 2).2.2.1 ∈ tG := tG_in (List.mem_of_getElem? (i := 169) (by decide +kernel)) rfl
theorem fl_X3_9 : Cond.fieldLink RX3 9 (TX3 0).1 (TX3 0).2.1 (TX3 0).2.2.1 ∈ tG := tG_in (List.mem_of_getElem? (i := 183) (by decide +kernel)) rfl
theorem fl_X3_13 : Cond.fieldLink RX3 13 (TX3 1).1 (TX3 1).2.1 (TX3 1).2.2.1 ∈ tG := tG_in (List.mem_of_getElem? (i := 184) (by decide +kernel)) rfl
theorem fl_X4_214 : Cond.fieldLink RX4 214 (TX3 1).1 (TX3 1).2.1 (TX3 1).2.2.1 ∈ tG := tG_in (List.mem_of_getElem? (i := 185) (by decide +kernel)) rfl
theorem fl_X3_17 : Cond.fieldLink RX3 17 (TX3 2).1 (TX3 2).2.1 (TX3 2).2.2.1 ∈ tG := tG_in (List.mem_of_getElem? (i := 186) (by decide +kernel)) rfl
theorem fl_X3_20 : Cond.fieldLink RX3 20 (TX3 3).1 (TX3 3).2.1 (TX3 3).2.2.1 ∈ tG := tG_in (List.mem_of_getElem? (i := 187) (by decide +kernel)) rfl
theorem fl_X3_23 : Cond.fieldLink RX3 23 (TX3 4).1 (TX3 4).2.1 (TX3 4).2.2.1 ∈ tG := tG_in (List.mem_of_getElem? (i := 188) (by decide +kernel)) rfl
theorem fl_X3_26 : Cond.fieldLink RX3 26 (TX3 5).1 (TX3 5).2.1 (TX3 5).2.2.1 ∈ tG := tG_in (List.mem_of_getElem? (i := 189) (by decide +kernel)) rfl
theorem fl_X4_10 : Cond.fieldLink RX4 10 (TX4 0).1 (TX4 0).2.1 (TX4 0).2.2.1 ∈ tG := tG_in (List.mem_of_getElem? (i := 203) (by decide +kernel)) rfl
theorem fl_X4_16 : Cond.fieldLink RX4 16 (TX4 1).1 (TX4 1).2.1 (TX4 1).2.2.1 ∈ tG := tG_in (List.mem_of_getElem? (i := 204) (by decide +kernel)) rfl
theorem fl_X4_19 : Cond.fieldLink RX4 19 (TX4 2).1 (TX4 2).2.1 (TX4 2).2.2.1 ∈ tG := tG_in (List.mem_of_getElem? (i := 205) (by decide +kernel)) rfl
theorem fl_X4_22 : Cond.fieldLink RX4 22 (TX4 3).1 (TX4 3).2.1 (TX4 3).2.2.1 ∈ tG := tG_in (List.mem_of_getElem? (i := 206) (by decide +kernel)) rfl
theorem fl_X4_29 : Cond.fieldLink RX4 29 (TX4 4).1 (TX4 4).2.1 (TX4 4).2.2.1 ∈ tG := tG_in (List.mem_of_getElem? (i := 207) (by decide +kernel)) rfl
theorem fl_X4_36 : Cond.fieldLink RX4 36 (TX4 5).1 (TX4 5).2.1 (TX4 5).2.2.1 ∈ tG := tG_in (List.mem_of_getElem? (i := 208) (by decide +kernel)) rfl
theorem fl_X4_40 : Cond.fieldLink RX4 40 (TX4 6).1 (TX4 6).2.1 (TX4 6).2.2.1 ∈ tG := tG_in (List.mem_of_getElem? (i := 209) (by decide +kernel)) rfl
theorem fl_X4_48 : Cond.fieldLink RX4 48 "LacedHouse" "GREATEST_SETTING" "[I" ∈ tG := tG_in (List.mem_of_getElem? (i := 232) (by decide +kernel)) rfl
theorem fl_X4_122 : Cond.fieldLink RX4 122 "LacedHouse" "LEAST_TRAIT" "[I" ∈ tG := tG_in (List.mem_of_getElem? (i := 320) (by decide +kernel)) rfl
theorem fl_X4_125 : Cond.fieldLink RX4 125 "LacedHouse" "GREATEST_TRAIT" "[I" ∈ tG := tG_in (List.mem_of_getElem? (i := 322) (by decide +kernel)) rfl
theorem fl_J0_38 : Cond.fieldLink RJ0 38 "java/lang/String" "COMPACT_STRINGS" "Z" ∈ tG := tG_in (List.mem_of_getElem? (i := 585) (by decide +kernel)) rfl
theorem fl_J0_1053 : Cond.fieldLink RJ0 1053 "jdk/internal/util/Preconditions" "SIOOBE_FORMATTER" "Ljava/util/function/BiFunction;" ∈ tG := tG_in (List.mem_of_getElem? (i := 601) (by decide +kernel)) rfl
theorem fl_X1_15 : Cond.fieldLink RX1 15 "LacedHouse$Kinds" "ABOVE" "[I" ∈ tG := tG_in (List.mem_of_getElem? (i := 665) (by decide +kernel)) rfl
theorem fl_X5_9 : Cond.fieldLink RX5 9 (TX5 0).1 (TX5 0).2.1 (TX5 0).2.2.1 ∈ tG := tG_in (List.mem_of_getElem? (i := 748) (by decide +kernel)) rfl
theorem fl_X5_13 : Cond.fieldLink RX5 13 (TX5 1).1 (TX5 1).2.1 (TX5 1).2.2.1 ∈ tG := tG_in (List.mem_of_getElem? (i := 749) (by decide +kernel)) rfl
theorem fl_X5_16 : Cond.fieldLink RX5 16 (TX5 2).1 (TX5 2).2.1 (TX5 2).2.2.1 ∈ tG := tG_in (List.mem_of_getElem? (i := 750) (by decide +kernel)) rfl
theorem fl_X5_310 : Cond.fieldLink RX5 310 (TX5 3).1 (TX5 3).2.1 (TX5 3).2.2.1 ∈ tG := tG_in (List.mem_of_getElem? (i := 751) (by decide +kernel)) rfl
theorem fl_X5_19 : Cond.fieldLink RX5 19 (TX5 4).1 (TX5 4).2.1 (TX5 4).2.2.1 ∈ tG := tG_in (List.mem_of_getElem? (i := 752) (by decide +kernel)) rfl
theorem fl_X5_22 : Cond.fieldLink RX5 22 (TX5 5).1 (TX5 5).2.1 (TX5 5).2.2.1 ∈ tG := tG_in (List.mem_of_getElem? (i := 753) (by decide +kernel)) rfl
theorem fl_X5_218 : Cond.fieldLink RX5 218 (TX5 6).1 (TX5 6).2.1 (TX5 6).2.2.1 ∈ tG := tG_in (List.mem_of_getElem? (i := 754) (by decide +kernel)) rfl
theorem fl_X5_225 : Cond.fieldLink RX5 225 (TX5 7).1 (TX5 7).2.1 (TX5 7).2.2.1 ∈ tG := tG_in (List.mem_of_getElem? (i := 755) (by decide +kernel)) rfl
theorem fl_X5_222 : Cond.fieldLink RX5 222 (TX5 8).1 (TX5 8).2.1 (TX5 8).2.2.1 ∈ tG := tG_in (List.mem_of_getElem? (i := 756) (by decide +kernel)) rfl
theorem fl_X5_234 : Cond.fieldLink RX5 234 (TX5 9).1 (TX5 9).2.1 (TX5 9).2.2.1 ∈ tG := tG_in (List.mem_of_getElem? (i := 757) (by decide +kernel)) rfl
theorem fl_X5_231 : Cond.fieldLink RX5 231 (TX5 10).1 (TX5 10).2.1 (TX5 10).2.2.1 ∈ tG := tG_in (List.mem_of_getElem? (i := 758) (by decide +kernel)) rfl
theorem fl_X5_244 : Cond.fieldLink RX5 244 (TX5 11).1 (TX5 11).2.1 (TX5 11).2.2.1 ∈ tG := tG_in (List.mem_of_getElem? (i := 759) (by decide +kernel)) rfl
theorem fl_X5_41 : Cond.fieldLink RX5 41 (TX5 12).1 (TX5 12).2.1 (TX5 12).2.2.1 ∈ tG := tG_in (List.mem_of_getElem? (i := 760) (by decide +kernel)) rfl
theorem fl_X5_45 : Cond.fieldLink RX5 45 (TX5 13).1 (TX5 13).2.1 (TX5 13).2.2.1 ∈ tG := tG_in (List.mem_of_getElem? (i := 761) (by decide +kernel)) rfl
theorem fl_X5_255 : Cond.fieldLink RX5 255 (TX5 14).1 (TX5 14).2.1 (TX5 14).2.2.1 ∈ tG := tG_in (List.mem_of_getElem? (i := 762) (by decide +kernel)) rfl
theorem fl_X5_262 : Cond.fieldLink RX5 262 (TX5 15).1 (TX5 15).2.1 (TX5 15).2.2.1 ∈ tG := tG_in (List.mem_of_getElem? (i := 763) (by decide +kernel)) rfl
theorem fl_X5_48 : Cond.fieldLink RX5 48 (TX5 16).1 (TX5 16).2.1 (TX5 16).2.2.1 ∈ tG := tG_in (List.mem_of_getElem? (i := 764) (by decide +kernel)) rfl
theorem fl_X5_51 : Cond.fieldLink RX5 51 (TX5 17).1 (TX5 17).2.1 (TX5 17).2.2.1 ∈ tG := tG_in (List.mem_of_getElem? (i := 765) (by decide +kernel)) rfl
theorem fl_X5_54 : Cond.fieldLink RX5 54 (TX5 18).1 (TX5 18).2.1 (TX5 18).2.2.1 ∈ tG := tG_in (List.mem_of_getElem? (i := 766) (by decide +kernel)) rfl
theorem fl_X5_57 : Cond.fieldLink RX5 57 (TX5 19).1 (TX5 19).2.1 (TX5 19).2.2.1 ∈ tG := tG_in (List.mem_of_getElem? (i := 767) (by decide +kernel)) rfl
theorem fl_J0_9 : Cond.fieldLink RJ0 9 "java/lang/String" "value" "[B" ∈ tG := tG_in (List.mem_of_getElem? (i := 1207) (by decide +kernel)) rfl
theorem fl_J0_15 : Cond.fieldLink RJ0 15 "java/lang/String" "coder" "B" ∈ tG := tG_in (List.mem_of_getElem? (i := 1208) (by decide +kernel)) rfl
theorem kc_X4_283 : Cond.constant RX4 283 (-1000001) ∈ tG := tG_in (List.mem_of_getElem? (i := 238) (by decide +kernel)) rfl
theorem kc_X4_131 : Cond.constant RX4 131 (99999) ∈ tG := tG_in (List.mem_of_getElem? (i := 338) (by decide +kernel)) rfl
theorem kc_X0_115 : Cond.constant RX0 115 (99999) ∈ tG := tG_in (List.mem_of_getElem? (i := 369) (by decide +kernel)) rfl
theorem kc_J6_265 : Cond.constant RJ6 265 (1431655765) ∈ tG := tG_in (List.mem_of_getElem? (i := 455) (by decide +kernel)) rfl
theorem kc_J6_266 : Cond.constant RJ6 266 (858993459) ∈ tG := tG_in (List.mem_of_getElem? (i := 456) (by decide +kernel)) rfl
theorem kc_J6_267 : Cond.constant RJ6 267 (252645135) ∈ tG := tG_in (List.mem_of_getElem? (i := 457) (by decide +kernel)) rfl
theorem kc_X0_128 : Cond.constant RX0 128 (1103515245) ∈ tG := tG_in (List.mem_of_getElem? (i := 502) (by decide +kernel)) rfl
theorem kc_X5_60 : Cond.constant RX5 60 (-1000001) ∈ tG := tG_in (List.mem_of_getElem? (i := 823) (by decide +kernel)) rfl
theorem kc_X5_112 : Cond.constant RX5 112 (-1000002) ∈ tG := tG_in (List.mem_of_getElem? (i := 868) (by decide +kernel)) rfl
theorem kc_X5_161 : Cond.constant RX5 161 (99999) ∈ tG := tG_in (List.mem_of_getElem? (i := 927) (by decide +kernel)) rfl
theorem kc_X5_165 : Cond.constant RX5 165 (-1000005) ∈ tG := tG_in (List.mem_of_getElem? (i := 928) (by decide +kernel)) rfl
theorem kc_X5_65 : Cond.constant RX5 65 (-1000004) ∈ tG := tG_in (List.mem_of_getElem? (i := 1009) (by decide +kernel)) rfl
theorem kc_X5_206 : Cond.constant RX5 206 (-1000006) ∈ tG := tG_in (List.mem_of_getElem? (i := 1059) (by decide +kernel)) rfl
theorem kc_X5_214 : Cond.constant RX5 214 (1103515245) ∈ tG := tG_in (List.mem_of_getElem? (i := 1076) (by decide +kernel)) rfl
theorem kc_X5_302 : Cond.constant RX5 302 (-1000003) ∈ tG := tG_in (List.mem_of_getElem? (i := 1162) (by decide +kernel)) rfl
theorem kc_X5_303 : Cond.constant RX5 303 (-1000007) ∈ tG := tG_in (List.mem_of_getElem? (i := 1167) (by decide +kernel)) rfl
theorem wi_X0_init : Cond.instanceMethod yX0_init ∈ tG := tG_in (List.mem_of_getElem? (i := 84) (by decide +kernel)) rfl
theorem wc_X0_init : Cond.code yX0_init cX0_init 1 (none : Option Jvm.ClassFile.FieldType) ∈ tG := tG_in (List.mem_of_getElem? (i := 85) (by decide +kernel)) rfl
theorem wi_X0_become : Cond.instanceMethod yX0_become ∈ tG := tG_in (List.mem_of_getElem? (i := 400) (by decide +kernel)) rfl
theorem wv_X0_become : Cond.selects RX0 yX0_become yX0_become ∈ tG := tG_in (List.mem_of_getElem? (i := 401) (by decide +kernel)) rfl
theorem wc_X0_become : Cond.code yX0_become cX0_become 2 (none : Option Jvm.ClassFile.FieldType) ∈ tG := tG_in (List.mem_of_getElem? (i := 402) (by decide +kernel)) rfl
theorem wi_X0_isFull : Cond.instanceMethod yX0_isFull ∈ tG := tG_in (List.mem_of_getElem? (i := 279) (by decide +kernel)) rfl
theorem wv_X0_isFull : Cond.selects RX0 yX0_isFull yX0_isFull ∈ tG := tG_in (List.mem_of_getElem? (i := 280) (by decide +kernel)) rfl
theorem wc_X0_isFull : Cond.code yX0_isFull cX0_isFull 1 (some .boolean) ∈ tG := tG_in (List.mem_of_getElem? (i := 281) (by decide +kernel)) rfl
theorem wi_X0_add : Cond.instanceMethod yX0_add ∈ tG := tG_in (List.mem_of_getElem? (i := 283) (by decide +kernel)) rfl
theorem wv_X0_add : Cond.selects RX0 yX0_add yX0_add ∈ tG := tG_in (List.mem_of_getElem? (i := 284) (by decide +kernel)) rfl
theorem wc_X0_add : Cond.code yX0_add cX0_add 3 (some .int) ∈ tG := tG_in (List.mem_of_getElem? (i := 285) (by decide +kernel)) rfl
theorem wi_X0_sendHome : Cond.instanceMethod yX0_sendHome ∈ tG := tG_in (List.mem_of_getElem? (i := 459) (by decide +kernel)) rfl
theorem wv_X0_sendHome : Cond.selects RX0 yX0_sendHome yX0_sendHome ∈ tG := tG_in (List.mem_of_getElem? (i := 460) (by decide +kernel)) rfl
theorem wc_X0_sendHome : Cond.code yX0_sendHome cX0_sendHome 3 (none : Option Jvm.ClassFile.FieldType) ∈ tG := tG_in (List.mem_of_getElem? (i := 461) (by decide +kernel)) rfl
theorem wi_X0_trait : Cond.instanceMethod yX0_trait ∈ tG := tG_in (List.mem_of_getElem? (i := 313) (by decide +kernel)) rfl
theorem wv_X0_trait : Cond.selects RX0 yX0_trait yX0_trait ∈ tG := tG_in (List.mem_of_getElem? (i := 314) (by decide +kernel)) rfl
theorem wc_X0_trait : Cond.code yX0_trait cX0_trait 2 (some (.array .int)) ∈ tG := tG_in (List.mem_of_getElem? (i := 315) (by decide +kernel)) rfl
theorem wi_X0_needs : Cond.instanceMethod yX0_needs ∈ tG := tG_in (List.mem_of_getElem? (i := 296) (by decide +kernel)) rfl
theorem wv_X0_needs : Cond.selects RX0 yX0_needs yX0_needs ∈ tG := tG_in (List.mem_of_getElem? (i := 297) (by decide +kernel)) rfl
theorem wc_X0_needs : Cond.code yX0_needs cX0_needs 2 (some .int) ∈ tG := tG_in (List.mem_of_getElem? (i := 298) (by decide +kernel)) rfl
theorem wi_X0_placeNow : Cond.instanceMethod yX0_placeNow ∈ tG := tG_in (List.mem_of_getElem? (i := 352) (by decide +kernel)) rfl
theorem wv_X0_placeNow : Cond.selects RX0 yX0_placeNow yX0_placeNow ∈ tG := tG_in (List.mem_of_getElem? (i := 353) (by decide +kernel)) rfl
theorem wc_X0_placeNow : Cond.code yX0_placeNow cX0_placeNow 1 (some .int) ∈ tG := tG_in (List.mem_of_getElem? (i := 354) (by decide +kernel)) rfl
theorem wi_X0_measureNow : Cond.instanceMethod yX0_measureNow ∈ tG := tG_in (List.mem_of_getElem? (i := 348) (by decide +kernel)) rfl
theorem wv_X0_measureNow : Cond.selects RX0 yX0_measureNow yX0_measureNow ∈ tG := tG_in (List.mem_of_getElem? (i := 349) (by decide +kernel)) rfl
theorem wc_X0_measureNow : Cond.code yX0_measureNow cX0_measureNow 1 (some .int) ∈ tG := tG_in (List.mem_of_getElem? (i := 350) (by decide +kernel)) rfl
theorem wi_X0_width : Cond.instanceMethod yX0_width ∈ tG := tG_in (List.mem_of_getElem? (i := 265) (by decide +kernel)) rfl
theorem wv_X0_width : Cond.selects RX0 yX0_width yX0_width ∈ tG := tG_in (List.mem_of_getElem? (i := 266) (by decide +kernel)) rfl
theorem wc_X0_width : Cond.code yX0_width cX0_width 3 (some .int) ∈ tG := tG_in (List.mem_of_getElem? (i := 267) (by decide +kernel)) rfl
theorem wi_X0_reachable : Cond.instanceMethod yX0_reachable ∈ tG := tG_in (List.mem_of_getElem? (i := 329) (by decide +kernel)) rfl
theorem wv_X0_reachable : Cond.selects RX0 yX0_reachable yX0_reachable ∈ tG := tG_in (List.mem_of_getElem? (i := 330) (by decide +kernel)) rfl
theorem wc_X0_reachable : Cond.code yX0_reachable cX0_reachable 6 (some .int) ∈ tG := tG_in (List.mem_of_getElem? (i := 331) (by decide +kernel)) rfl
theorem wi_X0_canReach : Cond.instanceMethod yX0_canReach ∈ tG := tG_in (List.mem_of_getElem? (i := 436) (by decide +kernel)) rfl
theorem wv_X0_canReach : Cond.selects RX0 yX0_canReach yX0_canReach ∈ tG := tG_in (List.mem_of_getElem? (i := 437) (by decide +kernel)) rfl
theorem wc_X0_canReach : Cond.code yX0_canReach cX0_canReach 4 (some .boolean) ∈ tG := tG_in (List.mem_of_getElem? (i := 438) (by decide +kernel)) rfl
theorem wi_X0_measuresToAim : Cond.instanceMethod yX0_measuresToAim ∈ tG := tG_in (List.mem_of_getElem? (i := 508) (by decide +kernel)) rfl
theorem wv_X0_measuresToAim : Cond.selects RX0 yX0_measuresToAim yX0_measuresToAim ∈ tG := tG_in (List.mem_of_getElem? (i := 509) (by decide +kernel)) rfl
theorem wc_X0_measuresToAim : Cond.code yX0_measuresToAim cX0_measuresToAim 4 (some .int) ∈ tG := tG_in (List.mem_of_getElem? (i := 510) (by decide +kernel)) rfl
theorem wi_X0_passHours : Cond.instanceMethod yX0_passHours ∈ tG := tG_in (List.mem_of_getElem? (i := 340) (by decide +kernel)) rfl
theorem wv_X0_passHours : Cond.selects RX0 yX0_passHours yX0_passHours ∈ tG := tG_in (List.mem_of_getElem? (i := 341) (by decide +kernel)) rfl
theorem wc_X0_passHours : Cond.code yX0_passHours cX0_passHours 3 (none : Option Jvm.ClassFile.FieldType) ∈ tG := tG_in (List.mem_of_getElem? (i := 342) (by decide +kernel)) rfl
theorem wi_X0_holdsFor : Cond.instanceMethod yX0_holdsFor ∈ tG := tG_in (List.mem_of_getElem? (i := 428) (by decide +kernel)) rfl
theorem wv_X0_holdsFor : Cond.selects RX0 yX0_holdsFor yX0_holdsFor ∈ tG := tG_in (List.mem_of_getElem? (i := 429) (by decide +kernel)) rfl
theorem wc_X0_holdsFor : Cond.code yX0_holdsFor cX0_holdsFor 3 (some .boolean) ∈ tG := tG_in (List.mem_of_getElem? (i := 430) (by decide +kernel)) rfl
theorem wi_X0_passHour : Cond.instanceMethod yX0_passHour ∈ tG := tG_in (List.mem_of_getElem? (i := 344) (by decide +kernel)) rfl
theorem wv_X0_passHour : Cond.selects RX0 yX0_passHour yX0_passHour ∈ tG := tG_in (List.mem_of_getElem? (i := 345) (by decide +kernel)) rfl
theorem wc_X0_passHour : Cond.code yX0_passHour cX0_passHour 3 (none : Option Jvm.ClassFile.FieldType) ∈ tG := tG_in (List.mem_of_getElem? (i := 346) (by decide +kernel)) rfl
theorem wi_X0_walk : Cond.instanceMethod yX0_walk ∈ tG := tG_in (List.mem_of_getElem? (i := 357) (by decide +kernel)) rfl
theorem wv_X0_walk : Cond.selects RX0 yX0_walk yX0_walk ∈ tG := tG_in (List.mem_of_getElem? (i := 2) (by decide +kernel)) rfl
theorem wc_X0_walk : Cond.code yX0_walk cX0_walk 7 (none : Option Jvm.ClassFile.FieldType) ∈ tG := tG_in (List.mem_of_getElem? (i := 358) (by decide +kernel)) rfl
theorem wi_X0_pull : Cond.instanceMethod yX0_pull ∈ tG := tG_in (List.mem_of_getElem? (i := 365) (by decide +kernel)) rfl
theorem wv_X0_pull : Cond.selects RX0 yX0_pull yX0_pull ∈ tG := tG_in (List.mem_of_getElem? (i := 3) (by decide +kernel)) rfl
theorem wc_X0_pull : Cond.code yX0_pull cX0_pull 5 (none : Option Jvm.ClassFile.FieldType) ∈ tG := tG_in (List.mem_of_getElem? (i := 366) (by decide +kernel)) rfl
theorem wi_X0_draw : Cond.instanceMethod yX0_draw ∈ tG := tG_in (List.mem_of_getElem? (i := 500) (by decide +kernel)) rfl
theorem wv_X0_draw : Cond.selects RX0 yX0_draw yX0_draw ∈ tG := tG_in (List.mem_of_getElem? (i := 8) (by decide +kernel)) rfl
theorem wc_X0_draw : Cond.code yX0_draw cX0_draw 1 (some .int) ∈ tG := tG_in (List.mem_of_getElem? (i := 501) (by decide +kernel)) rfl
theorem wi_X0_passPartyHour : Cond.instanceMethod yX0_passPartyHour ∈ tG := tG_in (List.mem_of_getElem? (i := 495) (by decide +kernel)) rfl
theorem wv_X0_passPartyHour : Cond.selects RX0 yX0_passPartyHour yX0_passPartyHour ∈ tG := tG_in (List.mem_of_getElem? (i := 496) (by decide +kernel)) rfl
theorem wc_X0_passPartyHour : Cond.code yX0_passPartyHour cX0_passPartyHour 2 (none : Option Jvm.ClassFile.FieldType) ∈ tG := tG_in (List.mem_of_getElem? (i := 497) (by decide +kernel)) rfl
theorem wi_X0_thoseStuck : Cond.instanceMethod yX0_thoseStuck ∈ tG := tG_in (List.mem_of_getElem? (i := 376) (by decide +kernel)) rfl
theorem wv_X0_thoseStuck : Cond.selects RX0 yX0_thoseStuck yX0_thoseStuck ∈ tG := tG_in (List.mem_of_getElem? (i := 377) (by decide +kernel)) rfl
theorem wc_X0_thoseStuck : Cond.code yX0_thoseStuck cX0_thoseStuck 3 (some .int) ∈ tG := tG_in (List.mem_of_getElem? (i := 378) (by decide +kernel)) rfl
theorem wi_X0_thoseAtAim : Cond.instanceMethod yX0_thoseAtAim ∈ tG := tG_in (List.mem_of_getElem? (i := 380) (by decide +kernel)) rfl
theorem wv_X0_thoseAtAim : Cond.selects RX0 yX0_thoseAtAim yX0_thoseAtAim ∈ tG := tG_in (List.mem_of_getElem? (i := 381) (by decide +kernel)) rfl
theorem wc_X0_thoseAtAim : Cond.code yX0_thoseAtAim cX0_thoseAtAim 3 (some .int) ∈ tG := tG_in (List.mem_of_getElem? (i := 382) (by decide +kernel)) rfl
theorem wi_X0_thoseInHall : Cond.instanceMethod yX0_thoseInHall ∈ tG := tG_in (List.mem_of_getElem? (i := 384) (by decide +kernel)) rfl
theorem wv_X0_thoseInHall : Cond.selects RX0 yX0_thoseInHall yX0_thoseInHall ∈ tG := tG_in (List.mem_of_getElem? (i := 385) (by decide +kernel)) rfl
theorem wc_X0_thoseInHall : Cond.code yX0_thoseInHall cX0_thoseInHall 3 (some .int) ∈ tG := tG_in (List.mem_of_getElem? (i := 386) (by decide +kernel)) rfl
theorem wi_X0_closedCells : Cond.instanceMethod yX0_closedCells ∈ tG := tG_in (List.mem_of_getElem? (i := 388) (by decide +kernel)) rfl
theorem wv_X0_closedCells : Cond.selects RX0 yX0_closedCells yX0_closedCells ∈ tG := tG_in (List.mem_of_getElem? (i := 389) (by decide +kernel)) rfl
theorem wc_X0_closedCells : Cond.code yX0_closedCells cX0_closedCells 4 (some .int) ∈ tG := tG_in (List.mem_of_getElem? (i := 390) (by decide +kernel)) rfl
theorem wi_X0_howManyHome : Cond.instanceMethod yX0_howManyHome ∈ tG := tG_in (List.mem_of_getElem? (i := 722) (by decide +kernel)) rfl
theorem wv_X0_howManyHome : Cond.selects RX0 yX0_howManyHome yX0_howManyHome ∈ tG := tG_in (List.mem_of_getElem? (i := 723) (by decide +kernel)) rfl
theorem wc_X0_howManyHome : Cond.code yX0_howManyHome cX0_howManyHome 3 (some .int) ∈ tG := tG_in (List.mem_of_getElem? (i := 724) (by decide +kernel)) rfl
theorem wi_X0_howManyHeld : Cond.instanceMethod yX0_howManyHeld ∈ tG := tG_in (List.mem_of_getElem? (i := 726) (by decide +kernel)) rfl
theorem wv_X0_howManyHeld : Cond.selects RX0 yX0_howManyHeld yX0_howManyHeld ∈ tG := tG_in (List.mem_of_getElem? (i := 727) (by decide +kernel)) rfl
theorem wc_X0_howManyHeld : Cond.code yX0_howManyHeld cX0_howManyHeld 3 (some .int) ∈ tG := tG_in (List.mem_of_getElem? (i := 728) (by decide +kernel)) rfl
theorem ws_X1_needs : Cond.static yX1_needs ∈ tG := tG_in (List.mem_of_getElem? (i := 300) (by decide +kernel)) rfl
theorem wc_X1_needs : Cond.code yX1_needs cX1_needs 6 (some .int) ∈ tG := tG_in (List.mem_of_getElem? (i := 301) (by decide +kernel)) rfl
theorem ws_X1_steps : Cond.static yX1_steps ∈ tG := tG_in (List.mem_of_getElem? (i := 304) (by decide +kernel)) rfl
theorem wc_X1_steps : Cond.code yX1_steps cX1_steps 1 (some .int) ∈ tG := tG_in (List.mem_of_getElem? (i := 305) (by decide +kernel)) rfl
theorem ws_X1_laughs : Cond.static yX1_laughs ∈ tG := tG_in (List.mem_of_getElem? (i := 307) (by decide +kernel)) rfl
theorem wc_X1_laughs : Cond.code yX1_laughs cX1_laughs 2 (some .int) ∈ tG := tG_in (List.mem_of_getElem? (i := 308) (by decide +kernel)) rfl
theorem ws_X1_laces : Cond.static yX1_laces ∈ tG := tG_in (List.mem_of_getElem? (i := 310) (by decide +kernel)) rfl
theorem wc_X1_laces : Cond.code yX1_laces cX1_laces 1 (some .int) ∈ tG := tG_in (List.mem_of_getElem? (i := 311) (by decide +kernel)) rfl
theorem ws_X1_isUnder : Cond.static yX1_isUnder ∈ tG := tG_in (List.mem_of_getElem? (i := 663) (by decide +kernel)) rfl
theorem wc_X1_isUnder : Cond.code yX1_isUnder cX1_isUnder 4 (some .boolean) ∈ tG := tG_in (List.mem_of_getElem? (i := 664) (by decide +kernel)) rfl
theorem wi_X2_init : Cond.instanceMethod yX2_init ∈ tG := tG_in (List.mem_of_getElem? (i := 159) (by decide +kernel)) rfl
theorem wc_X2_init : Cond.code yX2_init cX2_init 1 (none : Option Jvm.ClassFile.FieldType) ∈ tG := tG_in (List.mem_of_getElem? (i := 160) (by decide +kernel)) rfl
theorem ws_X2_isSheet : Cond.static yX2_isSheet ∈ tG := tG_in (List.mem_of_getElem? (i := 475) (by decide +kernel)) rfl
theorem wc_X2_isSheet : Cond.code yX2_isSheet cX2_isSheet 1 (some .boolean) ∈ tG := tG_in (List.mem_of_getElem? (i := 476) (by decide +kernel)) rfl
theorem ws_X2_areBits : Cond.static yX2_areBits ∈ tG := tG_in (List.mem_of_getElem? (i := 672) (by decide +kernel)) rfl
theorem wc_X2_areBits : Cond.code yX2_areBits cX2_areBits 1 (some .boolean) ∈ tG := tG_in (List.mem_of_getElem? (i := 673) (by decide +kernel)) rfl
theorem wi_X2_isMissing : Cond.instanceMethod yX2_isMissing ∈ tG := tG_in (List.mem_of_getElem? (i := 478) (by decide +kernel)) rfl
theorem wv_X2_isMissing : Cond.selects RX2 yX2_isMissing yX2_isMissing ∈ tG := tG_in (List.mem_of_getElem? (i := 479) (by decide +kernel)) rfl
theorem wc_X2_isMissing : Cond.code yX2_isMissing cX2_isMissing 2 (some .boolean) ∈ tG := tG_in (List.mem_of_getElem? (i := 480) (by decide +kernel)) rfl
theorem wi_X2_make : Cond.instanceMethod yX2_make ∈ tG := tG_in (List.mem_of_getElem? (i := 675) (by decide +kernel)) rfl
theorem wv_X2_make : Cond.selects RX2 yX2_make yX2_make ∈ tG := tG_in (List.mem_of_getElem? (i := 676) (by decide +kernel)) rfl
theorem wc_X2_make : Cond.code yX2_make cX2_make 4 (some .int) ∈ tG := tG_in (List.mem_of_getElem? (i := 677) (by decide +kernel)) rfl
theorem wi_X2_put : Cond.instanceMethod yX2_put ∈ tG := tG_in (List.mem_of_getElem? (i := 684) (by decide +kernel)) rfl
theorem wv_X2_put : Cond.selects RX2 yX2_put yX2_put ∈ tG := tG_in (List.mem_of_getElem? (i := 685) (by decide +kernel)) rfl
theorem wc_X2_put : Cond.code yX2_put cX2_put 5 (none : Option Jvm.ClassFile.FieldType) ∈ tG := tG_in (List.mem_of_getElem? (i := 686) (by decide +kernel)) rfl
theorem wi_X2_hasRange : Cond.instanceMethod yX2_hasRange ∈ tG := tG_in (List.mem_of_getElem? (i := 692) (by decide +kernel)) rfl
theorem wv_X2_hasRange : Cond.selects RX2 yX2_hasRange yX2_hasRange ∈ tG := tG_in (List.mem_of_getElem? (i := 693) (by decide +kernel)) rfl
theorem wc_X2_hasRange : Cond.code yX2_hasRange cX2_hasRange 4 (some .boolean) ∈ tG := tG_in (List.mem_of_getElem? (i := 694) (by decide +kernel)) rfl
theorem wi_X3_init : Cond.instanceMethod yX3_init ∈ tG := tG_in (List.mem_of_getElem? (i := 180) (by decide +kernel)) rfl
theorem wc_X3_init : Cond.code yX3_init cX3_init 1 (none : Option Jvm.ClassFile.FieldType) ∈ tG := tG_in (List.mem_of_getElem? (i := 181) (by decide +kernel)) rfl
theorem wi_X3_hasRoomFor : Cond.instanceMethod yX3_hasRoomFor ∈ tG := tG_in (List.mem_of_getElem? (i := 524) (by decide +kernel)) rfl
theorem wv_X3_hasRoomFor : Cond.selects RX3 yX3_hasRoomFor yX3_hasRoomFor ∈ tG := tG_in (List.mem_of_getElem? (i := 525) (by decide +kernel)) rfl
theorem wc_X3_hasRoomFor : Cond.code yX3_hasRoomFor cX3_hasRoomFor 2 (some .boolean) ∈ tG := tG_in (List.mem_of_getElem? (i := 526) (by decide +kernel)) rfl
theorem wi_X3_add : Cond.instanceMethod yX3_add ∈ tG := tG_in (List.mem_of_getElem? (i := 528) (by decide +kernel)) rfl
theorem wv_X3_add : Cond.selects RX3 yX3_add yX3_add ∈ tG := tG_in (List.mem_of_getElem? (i := 529) (by decide +kernel)) rfl
theorem wc_X3_add : Cond.code yX3_add cX3_add 2 (none : Option Jvm.ClassFile.FieldType) ∈ tG := tG_in (List.mem_of_getElem? (i := 530) (by decide +kernel)) rfl
theorem wi_X3_read : Cond.instanceMethod yX3_read ∈ tG := tG_in (List.mem_of_getElem? (i := 541) (by decide +kernel)) rfl
theorem wv_X3_read : Cond.selects RX3 yX3_read yX3_read ∈ tG := tG_in (List.mem_of_getElem? (i := 542) (by decide +kernel)) rfl
theorem wc_X3_read : Cond.code yX3_read cX3_read 3 (some .int) ∈ tG := tG_in (List.mem_of_getElem? (i := 543) (by decide +kernel)) rfl
theorem wi_X3_readItem : Cond.instanceMethod yX3_readItem ∈ tG := tG_in (List.mem_of_getElem? (i := 557) (by decide +kernel)) rfl
theorem wv_X3_readItem : Cond.selects RX3 yX3_readItem yX3_readItem ∈ tG := tG_in (List.mem_of_getElem? (i := 10) (by decide +kernel)) rfl
theorem wc_X3_readItem : Cond.code yX3_readItem cX3_readItem 3 (some .boolean) ∈ tG := tG_in (List.mem_of_getElem? (i := 558) (by decide +kernel)) rfl
theorem wi_X3_readGuest : Cond.instanceMethod yX3_readGuest ∈ tG := tG_in (List.mem_of_getElem? (i := 627) (by decide +kernel)) rfl
theorem wv_X3_readGuest : Cond.selects RX3 yX3_readGuest yX3_readGuest ∈ tG := tG_in (List.mem_of_getElem? (i := 13) (by decide +kernel)) rfl
theorem wc_X3_readGuest : Cond.code yX3_readGuest cX3_readGuest 5 (some .boolean) ∈ tG := tG_in (List.mem_of_getElem? (i := 628) (by decide +kernel)) rfl
theorem wi_X3_readTrait : Cond.instanceMethod yX3_readTrait ∈ tG := tG_in (List.mem_of_getElem? (i := 639) (by decide +kernel)) rfl
theorem wv_X3_readTrait : Cond.selects RX3 yX3_readTrait yX3_readTrait ∈ tG := tG_in (List.mem_of_getElem? (i := 15) (by decide +kernel)) rfl
theorem wc_X3_readTrait : Cond.code yX3_readTrait cX3_readTrait 6 (some .boolean) ∈ tG := tG_in (List.mem_of_getElem? (i := 640) (by decide +kernel)) rfl
theorem wi_X3_readPair : Cond.instanceMethod yX3_readPair ∈ tG := tG_in (List.mem_of_getElem? (i := 645) (by decide +kernel)) rfl
theorem wv_X3_readPair : Cond.selects RX3 yX3_readPair yX3_readPair ∈ tG := tG_in (List.mem_of_getElem? (i := 16) (by decide +kernel)) rfl
theorem wc_X3_readPair : Cond.code yX3_readPair cX3_readPair 5 (some .boolean) ∈ tG := tG_in (List.mem_of_getElem? (i := 646) (by decide +kernel)) rfl
theorem wi_X3_takeNumber : Cond.instanceMethod yX3_takeNumber ∈ tG := tG_in (List.mem_of_getElem? (i := 633) (by decide +kernel)) rfl
theorem wv_X3_takeNumber : Cond.selects RX3 yX3_takeNumber yX3_takeNumber ∈ tG := tG_in (List.mem_of_getElem? (i := 14) (by decide +kernel)) rfl
theorem wc_X3_takeNumber : Cond.code yX3_takeNumber cX3_takeNumber 3 (some .boolean) ∈ tG := tG_in (List.mem_of_getElem? (i := 634) (by decide +kernel)) rfl
theorem wi_X3_kindTold : Cond.instanceMethod yX3_kindTold ∈ tG := tG_in (List.mem_of_getElem? (i := 561) (by decide +kernel)) rfl
theorem wv_X3_kindTold : Cond.selects RX3 yX3_kindTold yX3_kindTold ∈ tG := tG_in (List.mem_of_getElem? (i := 11) (by decide +kernel)) rfl
theorem wc_X3_kindTold : Cond.code yX3_kindTold cX3_kindTold 2 (some .int) ∈ tG := tG_in (List.mem_of_getElem? (i := 562) (by decide +kernel)) rfl
theorem ws_X3_wordOf : Cond.static yX3_wordOf ∈ tG := tG_in (List.mem_of_getElem? (i := 564) (by decide +kernel)) rfl
theorem wc_X3_wordOf : Cond.code yX3_wordOf cX3_wordOf 1 (some (.object "java/lang/String")) ∈ tG := tG_in (List.mem_of_getElem? (i := 565) (by decide +kernel)) rfl
theorem wi_X3_isWord : Cond.instanceMethod yX3_isWord ∈ tG := tG_in (List.mem_of_getElem? (i := 575) (by decide +kernel)) rfl
theorem wv_X3_isWord : Cond.selects RX3 yX3_isWord yX3_isWord ∈ tG := tG_in (List.mem_of_getElem? (i := 12) (by decide +kernel)) rfl
theorem wc_X3_isWord : Cond.code yX3_isWord cX3_isWord 3 (some .boolean) ∈ tG := tG_in (List.mem_of_getElem? (i := 576) (by decide +kernel)) rfl
theorem wi_X3_next : Cond.instanceMethod yX3_next ∈ tG := tG_in (List.mem_of_getElem? (i := 546) (by decide +kernel)) rfl
theorem wv_X3_next : Cond.selects RX3 yX3_next yX3_next ∈ tG := tG_in (List.mem_of_getElem? (i := 9) (by decide +kernel)) rfl
theorem wc_X3_next : Cond.code yX3_next cX3_next 1 (none : Option Jvm.ClassFile.FieldType) ∈ tG := tG_in (List.mem_of_getElem? (i := 547) (by decide +kernel)) rfl
theorem ws_X3_isLetter : Cond.static yX3_isLetter ∈ tG := tG_in (List.mem_of_getElem? (i := 549) (by decide +kernel)) rfl
theorem wc_X3_isLetter : Cond.code yX3_isLetter cX3_isLetter 1 (some .boolean) ∈ tG := tG_in (List.mem_of_getElem? (i := 550) (by decide +kernel)) rfl
theorem ws_X3_isDigit : Cond.static yX3_isDigit ∈ tG := tG_in (List.mem_of_getElem? (i := 552) (by decide +kernel)) rfl
theorem wc_X3_isDigit : Cond.code yX3_isDigit cX3_isDigit 1 (some .boolean) ∈ tG := tG_in (List.mem_of_getElem? (i := 553) (by decide +kernel)) rfl
theorem wi_X4_init : Cond.instanceMethod yX4_init ∈ tG := tG_in (List.mem_of_getElem? (i := 76) (by decide +kernel)) rfl
theorem wc_X4_init : Cond.code yX4_init cX4_init 1 (none : Option Jvm.ClassFile.FieldType) ∈ tG := tG_in (List.mem_of_getElem? (i := 77) (by decide +kernel)) rfl
theorem wi_X4_set : Cond.instanceMethod yX4_set ∈ tG := tG_in (List.mem_of_getElem? (i := 226) (by decide +kernel)) rfl
theorem wv_X4_set : Cond.selects RX4 yX4_set yX4_set ∈ tG := tG_in (List.mem_of_getElem? (i := 227) (by decide +kernel)) rfl
theorem wc_X4_set : Cond.code yX4_set cX4_set 4 (some .int) ∈ tG := tG_in (List.mem_of_getElem? (i := 228) (by decide +kernel)) rfl
theorem wi_X4_cell : Cond.instanceMethod yX4_cell ∈ tG := tG_in (List.mem_of_getElem? (i := 240) (by decide +kernel)) rfl
theorem wv_X4_cell : Cond.selects RX4 yX4_cell yX4_cell ∈ tG := tG_in (List.mem_of_getElem? (i := 241) (by decide +kernel)) rfl
theorem wc_X4_cell : Cond.code yX4_cell cX4_cell 4 (some .int) ∈ tG := tG_in (List.mem_of_getElem? (i := 242) (by decide +kernel)) rfl
theorem wi_X4_measure : Cond.instanceMethod yX4_measure ∈ tG := tG_in (List.mem_of_getElem? (i := 247) (by decide +kernel)) rfl
theorem wv_X4_measure : Cond.selects RX4 yX4_measure yX4_measure ∈ tG := tG_in (List.mem_of_getElem? (i := 248) (by decide +kernel)) rfl
theorem wc_X4_measure : Cond.code yX4_measure cX4_measure 4 (some .int) ∈ tG := tG_in (List.mem_of_getElem? (i := 249) (by decide +kernel)) rfl
theorem wi_X4_listed : Cond.instanceMethod yX4_listed ∈ tG := tG_in (List.mem_of_getElem? (i := 257) (by decide +kernel)) rfl
theorem wv_X4_listed : Cond.selects RX4 yX4_listed yX4_listed ∈ tG := tG_in (List.mem_of_getElem? (i := 258) (by decide +kernel)) rfl
theorem wc_X4_listed : Cond.code yX4_listed cX4_listed 2 (some .int) ∈ tG := tG_in (List.mem_of_getElem? (i := 259) (by decide +kernel)) rfl
theorem wi_X4_wide : Cond.instanceMethod yX4_wide ∈ tG := tG_in (List.mem_of_getElem? (i := 261) (by decide +kernel)) rfl
theorem wv_X4_wide : Cond.selects RX4 yX4_wide yX4_wide ∈ tG := tG_in (List.mem_of_getElem? (i := 262) (by decide +kernel)) rfl
theorem wc_X4_wide : Cond.code yX4_wide cX4_wide 3 (some .int) ∈ tG := tG_in (List.mem_of_getElem? (i := 263) (by decide +kernel)) rfl
theorem wi_X4_guest : Cond.instanceMethod yX4_guest ∈ tG := tG_in (List.mem_of_getElem? (i := 272) (by decide +kernel)) rfl
theorem wv_X4_guest : Cond.selects RX4 yX4_guest yX4_guest ∈ tG := tG_in (List.mem_of_getElem? (i := 273) (by decide +kernel)) rfl
theorem wc_X4_guest : Cond.code yX4_guest cX4_guest 3 (some .int) ∈ tG := tG_in (List.mem_of_getElem? (i := 274) (by decide +kernel)) rfl
theorem wi_X4_of : Cond.instanceMethod yX4_of ∈ tG := tG_in (List.mem_of_getElem? (i := 288) (by decide +kernel)) rfl
theorem wv_X4_of : Cond.selects RX4 yX4_of yX4_of ∈ tG := tG_in (List.mem_of_getElem? (i := 289) (by decide +kernel)) rfl
theorem wc_X4_of : Cond.code yX4_of cX4_of 3 (some .int) ∈ tG := tG_in (List.mem_of_getElem? (i := 290) (by decide +kernel)) rfl
theorem wi_X4_change : Cond.instanceMethod yX4_change ∈ tG := tG_in (List.mem_of_getElem? (i := 317) (by decide +kernel)) rfl
theorem wv_X4_change : Cond.selects RX4 yX4_change yX4_change ∈ tG := tG_in (List.mem_of_getElem? (i := 318) (by decide +kernel)) rfl
theorem wc_X4_change : Cond.code yX4_change cX4_change 6 (some .int) ∈ tG := tG_in (List.mem_of_getElem? (i := 319) (by decide +kernel)) rfl
theorem wi_X4_reach : Cond.instanceMethod yX4_reach ∈ tG := tG_in (List.mem_of_getElem? (i := 325) (by decide +kernel)) rfl
theorem wv_X4_reach : Cond.selects RX4 yX4_reach yX4_reach ∈ tG := tG_in (List.mem_of_getElem? (i := 326) (by decide +kernel)) rfl
theorem wc_X4_reach : Cond.code yX4_reach cX4_reach 3 (some .int) ∈ tG := tG_in (List.mem_of_getElem? (i := 327) (by decide +kernel)) rfl
theorem wi_X4_go : Cond.instanceMethod yX4_go ∈ tG := tG_in (List.mem_of_getElem? (i := 335) (by decide +kernel)) rfl
theorem wv_X4_go : Cond.selects RX4 yX4_go yX4_go ∈ tG := tG_in (List.mem_of_getElem? (i := 336) (by decide +kernel)) rfl
theorem wc_X4_go : Cond.code yX4_go cX4_go 2 (some .int) ∈ tG := tG_in (List.mem_of_getElem? (i := 337) (by decide +kernel)) rfl
theorem wi_X4_now : Cond.instanceMethod yX4_now ∈ tG := tG_in (List.mem_of_getElem? (i := 371) (by decide +kernel)) rfl
theorem wv_X4_now : Cond.selects RX4 yX4_now yX4_now ∈ tG := tG_in (List.mem_of_getElem? (i := 372) (by decide +kernel)) rfl
theorem wc_X4_now : Cond.code yX4_now cX4_now 2 (some .int) ∈ tG := tG_in (List.mem_of_getElem? (i := 373) (by decide +kernel)) rfl
theorem wi_X4_ahead : Cond.instanceMethod yX4_ahead ∈ tG := tG_in (List.mem_of_getElem? (i := 392) (by decide +kernel)) rfl
theorem wv_X4_ahead : Cond.selects RX4 yX4_ahead yX4_ahead ∈ tG := tG_in (List.mem_of_getElem? (i := 393) (by decide +kernel)) rfl
theorem wc_X4_ahead : Cond.code yX4_ahead cX4_ahead 4 (some .int) ∈ tG := tG_in (List.mem_of_getElem? (i := 394) (by decide +kernel)) rfl
theorem wi_X4_strain : Cond.instanceMethod yX4_strain ∈ tG := tG_in (List.mem_of_getElem? (i := 407) (by decide +kernel)) rfl
theorem wv_X4_strain : Cond.selects RX4 yX4_strain yX4_strain ∈ tG := tG_in (List.mem_of_getElem? (i := 408) (by decide +kernel)) rfl
theorem wc_X4_strain : Cond.code yX4_strain cX4_strain 2 (some .int) ∈ tG := tG_in (List.mem_of_getElem? (i := 409) (by decide +kernel)) rfl
theorem wi_X4_snaps : Cond.instanceMethod yX4_snaps ∈ tG := tG_in (List.mem_of_getElem? (i := 411) (by decide +kernel)) rfl
theorem wv_X4_snaps : Cond.selects RX4 yX4_snaps yX4_snaps ∈ tG := tG_in (List.mem_of_getElem? (i := 412) (by decide +kernel)) rfl
theorem wc_X4_snaps : Cond.code yX4_snaps cX4_snaps 2 (some .int) ∈ tG := tG_in (List.mem_of_getElem? (i := 413) (by decide +kernel)) rfl
theorem wi_X4_comes : Cond.instanceMethod yX4_comes ∈ tG := tG_in (List.mem_of_getElem? (i := 416) (by decide +kernel)) rfl
theorem wv_X4_comes : Cond.selects RX4 yX4_comes yX4_comes ∈ tG := tG_in (List.mem_of_getElem? (i := 417) (by decide +kernel)) rfl
theorem wc_X4_comes : Cond.code yX4_comes cX4_comes 4 (some .int) ∈ tG := tG_in (List.mem_of_getElem? (i := 418) (by decide +kernel)) rfl
theorem wi_X4_stuck : Cond.instanceMethod yX4_stuck ∈ tG := tG_in (List.mem_of_getElem? (i := 420) (by decide +kernel)) rfl
theorem wv_X4_stuck : Cond.selects RX4 yX4_stuck yX4_stuck ∈ tG := tG_in (List.mem_of_getElem? (i := 421) (by decide +kernel)) rfl
theorem wc_X4_stuck : Cond.code yX4_stuck cX4_stuck 4 (some .int) ∈ tG := tG_in (List.mem_of_getElem? (i := 422) (by decide +kernel)) rfl
theorem wi_X4_tight : Cond.instanceMethod yX4_tight ∈ tG := tG_in (List.mem_of_getElem? (i := 424) (by decide +kernel)) rfl
theorem wv_X4_tight : Cond.selects RX4 yX4_tight yX4_tight ∈ tG := tG_in (List.mem_of_getElem? (i := 425) (by decide +kernel)) rfl
theorem wc_X4_tight : Cond.code yX4_tight cX4_tight 4 (some .int) ∈ tG := tG_in (List.mem_of_getElem? (i := 426) (by decide +kernel)) rfl
theorem wi_X4_measureFor : Cond.instanceMethod yX4_measureFor ∈ tG := tG_in (List.mem_of_getElem? (i := 432) (by decide +kernel)) rfl
theorem wv_X4_measureFor : Cond.selects RX4 yX4_measureFor yX4_measureFor ∈ tG := tG_in (List.mem_of_getElem? (i := 433) (by decide +kernel)) rfl
theorem wc_X4_measureFor : Cond.code yX4_measureFor cX4_measureFor 4 (some .int) ∈ tG := tG_in (List.mem_of_getElem? (i := 434) (by decide +kernel)) rfl
theorem wi_X4_kindFor : Cond.instanceMethod yX4_kindFor ∈ tG := tG_in (List.mem_of_getElem? (i := 441) (by decide +kernel)) rfl
theorem wv_X4_kindFor : Cond.selects RX4 yX4_kindFor yX4_kindFor ∈ tG := tG_in (List.mem_of_getElem? (i := 442) (by decide +kernel)) rfl
theorem wc_X4_kindFor : Cond.code yX4_kindFor cX4_kindFor 6 (some .int) ∈ tG := tG_in (List.mem_of_getElem? (i := 443) (by decide +kernel)) rfl
theorem wi_X4_sizeFor : Cond.instanceMethod yX4_sizeFor ∈ tG := tG_in (List.mem_of_getElem? (i := 445) (by decide +kernel)) rfl
theorem wv_X4_sizeFor : Cond.selects RX4 yX4_sizeFor yX4_sizeFor ∈ tG := tG_in (List.mem_of_getElem? (i := 446) (by decide +kernel)) rfl
theorem wc_X4_sizeFor : Cond.code yX4_sizeFor cX4_sizeFor 4 (some .int) ∈ tG := tG_in (List.mem_of_getElem? (i := 447) (by decide +kernel)) rfl
theorem wi_X4_send : Cond.instanceMethod yX4_send ∈ tG := tG_in (List.mem_of_getElem? (i := 449) (by decide +kernel)) rfl
theorem wv_X4_send : Cond.selects RX4 yX4_send yX4_send ∈ tG := tG_in (List.mem_of_getElem? (i := 450) (by decide +kernel)) rfl
theorem wc_X4_send : Cond.code yX4_send cX4_send 5 (some .int) ∈ tG := tG_in (List.mem_of_getElem? (i := 451) (by decide +kernel)) rfl
theorem wi_X4_fits : Cond.instanceMethod yX4_fits ∈ tG := tG_in (List.mem_of_getElem? (i := 463) (by decide +kernel)) rfl
theorem wv_X4_fits : Cond.selects RX4 yX4_fits yX4_fits ∈ tG := tG_in (List.mem_of_getElem? (i := 464) (by decide +kernel)) rfl
theorem wc_X4_fits : Cond.code yX4_fits cX4_fits 6 (some .int) ∈ tG := tG_in (List.mem_of_getElem? (i := 465) (by decide +kernel)) rfl
theorem wi_X4_kinds : Cond.instanceMethod yX4_kinds ∈ tG := tG_in (List.mem_of_getElem? (i := 487) (by decide +kernel)) rfl
theorem wv_X4_kinds : Cond.selects RX4 yX4_kinds yX4_kinds ∈ tG := tG_in (List.mem_of_getElem? (i := 488) (by decide +kernel)) rfl
theorem wc_X4_kinds : Cond.code yX4_kinds cX4_kinds 6 (some .int) ∈ tG := tG_in (List.mem_of_getElem? (i := 489) (by decide +kernel)) rfl
theorem wi_X4_party : Cond.instanceMethod yX4_party ∈ tG := tG_in (List.mem_of_getElem? (i := 491) (by decide +kernel)) rfl
theorem wv_X4_party : Cond.selects RX4 yX4_party yX4_party ∈ tG := tG_in (List.mem_of_getElem? (i := 492) (by decide +kernel)) rfl
theorem wc_X4_party : Cond.code yX4_party cX4_party 3 (some .int) ∈ tG := tG_in (List.mem_of_getElem? (i := 493) (by decide +kernel)) rfl
theorem wi_X4_odds : Cond.instanceMethod yX4_odds ∈ tG := tG_in (List.mem_of_getElem? (i := 504) (by decide +kernel)) rfl
theorem wv_X4_odds : Cond.selects RX4 yX4_odds yX4_odds ∈ tG := tG_in (List.mem_of_getElem? (i := 505) (by decide +kernel)) rfl
theorem wc_X4_odds : Cond.code yX4_odds cX4_odds 11 (some .long) ∈ tG := tG_in (List.mem_of_getElem? (i := 506) (by decide +kernel)) rfl
theorem wi_X4_seed : Cond.instanceMethod yX4_seed ∈ tG := tG_in (List.mem_of_getElem? (i := 516) (by decide +kernel)) rfl
theorem wv_X4_seed : Cond.selects RX4 yX4_seed yX4_seed ∈ tG := tG_in (List.mem_of_getElem? (i := 517) (by decide +kernel)) rfl
theorem wc_X4_seed : Cond.code yX4_seed cX4_seed 3 (some .int) ∈ tG := tG_in (List.mem_of_getElem? (i := 518) (by decide +kernel)) rfl
theorem wi_X4_feed : Cond.instanceMethod yX4_feed ∈ tG := tG_in (List.mem_of_getElem? (i := 520) (by decide +kernel)) rfl
theorem wv_X4_feed : Cond.selects RX4 yX4_feed yX4_feed ∈ tG := tG_in (List.mem_of_getElem? (i := 521) (by decide +kernel)) rfl
theorem wc_X4_feed : Cond.code yX4_feed cX4_feed 4 (some .int) ∈ tG := tG_in (List.mem_of_getElem? (i := 522) (by decide +kernel)) rfl
theorem wi_X4_wipe : Cond.instanceMethod yX4_wipe ∈ tG := tG_in (List.mem_of_getElem? (i := 533) (by decide +kernel)) rfl
theorem wv_X4_wipe : Cond.selects RX4 yX4_wipe yX4_wipe ∈ tG := tG_in (List.mem_of_getElem? (i := 534) (by decide +kernel)) rfl
theorem wc_X4_wipe : Cond.code yX4_wipe cX4_wipe 2 (some .int) ∈ tG := tG_in (List.mem_of_getElem? (i := 535) (by decide +kernel)) rfl
theorem wi_X4_text : Cond.instanceMethod yX4_text ∈ tG := tG_in (List.mem_of_getElem? (i := 537) (by decide +kernel)) rfl
theorem wv_X4_text : Cond.selects RX4 yX4_text yX4_text ∈ tG := tG_in (List.mem_of_getElem? (i := 538) (by decide +kernel)) rfl
theorem wc_X4_text : Cond.code yX4_text cX4_text 2 (some .int) ∈ tG := tG_in (List.mem_of_getElem? (i := 539) (by decide +kernel)) rfl
theorem wi_X4_hold : Cond.instanceMethod yX4_hold ∈ tG := tG_in (List.mem_of_getElem? (i := 652) (by decide +kernel)) rfl
theorem wv_X4_hold : Cond.selects RX4 yX4_hold yX4_hold ∈ tG := tG_in (List.mem_of_getElem? (i := 653) (by decide +kernel)) rfl
theorem wc_X4_hold : Cond.code yX4_hold cX4_hold 3 (some .int) ∈ tG := tG_in (List.mem_of_getElem? (i := 654) (by decide +kernel)) rfl
theorem wi_X4_as : Cond.instanceMethod yX4_as ∈ tG := tG_in (List.mem_of_getElem? (i := 659) (by decide +kernel)) rfl
theorem wv_X4_as : Cond.selects RX4 yX4_as yX4_as ∈ tG := tG_in (List.mem_of_getElem? (i := 660) (by decide +kernel)) rfl
theorem wc_X4_as : Cond.code yX4_as cX4_as 4 (some .int) ∈ tG := tG_in (List.mem_of_getElem? (i := 661) (by decide +kernel)) rfl
theorem wi_X4_sheet : Cond.instanceMethod yX4_sheet ∈ tG := tG_in (List.mem_of_getElem? (i := 668) (by decide +kernel)) rfl
theorem wv_X4_sheet : Cond.selects RX4 yX4_sheet yX4_sheet ∈ tG := tG_in (List.mem_of_getElem? (i := 669) (by decide +kernel)) rfl
theorem wc_X4_sheet : Cond.code yX4_sheet cX4_sheet 4 (some .int) ∈ tG := tG_in (List.mem_of_getElem? (i := 670) (by decide +kernel)) rfl
theorem wi_X4_write : Cond.instanceMethod yX4_write ∈ tG := tG_in (List.mem_of_getElem? (i := 680) (by decide +kernel)) rfl
theorem wv_X4_write : Cond.selects RX4 yX4_write yX4_write ∈ tG := tG_in (List.mem_of_getElem? (i := 681) (by decide +kernel)) rfl
theorem wc_X4_write : Cond.code yX4_write cX4_write 5 (some .int) ∈ tG := tG_in (List.mem_of_getElem? (i := 682) (by decide +kernel)) rfl
theorem wi_X4_copy : Cond.instanceMethod yX4_copy ∈ tG := tG_in (List.mem_of_getElem? (i := 688) (by decide +kernel)) rfl
theorem wv_X4_copy : Cond.selects RX4 yX4_copy yX4_copy ∈ tG := tG_in (List.mem_of_getElem? (i := 689) (by decide +kernel)) rfl
theorem wc_X4_copy : Cond.code yX4_copy cX4_copy 6 (some .int) ∈ tG := tG_in (List.mem_of_getElem? (i := 690) (by decide +kernel)) rfl
theorem wi_X4_load : Cond.instanceMethod yX4_load ∈ tG := tG_in (List.mem_of_getElem? (i := 697) (by decide +kernel)) rfl
theorem wv_X4_load : Cond.selects RX4 yX4_load yX4_load ∈ tG := tG_in (List.mem_of_getElem? (i := 698) (by decide +kernel)) rfl
theorem wc_X4_load : Cond.code yX4_load cX4_load 5 (some .int) ∈ tG := tG_in (List.mem_of_getElem? (i := 699) (by decide +kernel)) rfl
theorem wi_X4_judge : Cond.instanceMethod yX4_judge ∈ tG := tG_in (List.mem_of_getElem? (i := 702) (by decide +kernel)) rfl
theorem wv_X4_judge : Cond.selects RX4 yX4_judge yX4_judge ∈ tG := tG_in (List.mem_of_getElem? (i := 703) (by decide +kernel)) rfl
theorem wc_X4_judge : Cond.code yX4_judge cX4_judge 4 (some .int) ∈ tG := tG_in (List.mem_of_getElem? (i := 704) (by decide +kernel)) rfl
theorem wi_X4_image : Cond.instanceMethod yX4_image ∈ tG := tG_in (List.mem_of_getElem? (i := 706) (by decide +kernel)) rfl
theorem wv_X4_image : Cond.selects RX4 yX4_image yX4_image ∈ tG := tG_in (List.mem_of_getElem? (i := 707) (by decide +kernel)) rfl
theorem wc_X4_image : Cond.code yX4_image cX4_image 1 (some .int) ∈ tG := tG_in (List.mem_of_getElem? (i := 708) (by decide +kernel)) rfl
theorem wi_X4_undo : Cond.instanceMethod yX4_undo ∈ tG := tG_in (List.mem_of_getElem? (i := 710) (by decide +kernel)) rfl
theorem wv_X4_undo : Cond.selects RX4 yX4_undo yX4_undo ∈ tG := tG_in (List.mem_of_getElem? (i := 711) (by decide +kernel)) rfl
theorem wc_X4_undo : Cond.code yX4_undo cX4_undo 1 (some .int) ∈ tG := tG_in (List.mem_of_getElem? (i := 712) (by decide +kernel)) rfl
theorem wi_X4_tear : Cond.instanceMethod yX4_tear ∈ tG := tG_in (List.mem_of_getElem? (i := 714) (by decide +kernel)) rfl
theorem wv_X4_tear : Cond.selects RX4 yX4_tear yX4_tear ∈ tG := tG_in (List.mem_of_getElem? (i := 715) (by decide +kernel)) rfl
theorem wc_X4_tear : Cond.code yX4_tear cX4_tear 2 (some .int) ∈ tG := tG_in (List.mem_of_getElem? (i := 716) (by decide +kernel)) rfl
theorem wi_X4_count : Cond.instanceMethod yX4_count ∈ tG := tG_in (List.mem_of_getElem? (i := 718) (by decide +kernel)) rfl
theorem wv_X4_count : Cond.selects RX4 yX4_count yX4_count ∈ tG := tG_in (List.mem_of_getElem? (i := 719) (by decide +kernel)) rfl
theorem wc_X4_count : Cond.code yX4_count cX4_count 2 (some .int) ∈ tG := tG_in (List.mem_of_getElem? (i := 720) (by decide +kernel)) rfl
theorem wi_X4_status : Cond.instanceMethod yX4_status ∈ tG := tG_in (List.mem_of_getElem? (i := 730) (by decide +kernel)) rfl
theorem wv_X4_status : Cond.selects RX4 yX4_status yX4_status ∈ tG := tG_in (List.mem_of_getElem? (i := 731) (by decide +kernel)) rfl
theorem wc_X4_status : Cond.code yX4_status cX4_status 4 (some .int) ∈ tG := tG_in (List.mem_of_getElem? (i := 732) (by decide +kernel)) rfl
theorem wi_X4_found : Cond.instanceMethod yX4_found ∈ tG := tG_in (List.mem_of_getElem? (i := 236) (by decide +kernel)) rfl
theorem wv_X4_found : Cond.selects RX4 yX4_found yX4_found ∈ tG := tG_in (List.mem_of_getElem? (i := 0) (by decide +kernel)) rfl
theorem wc_X4_found : Cond.code yX4_found cX4_found 2 (some .int) ∈ tG := tG_in (List.mem_of_getElem? (i := 237) (by decide +kernel)) rfl
theorem ws_X4_within : Cond.static yX4_within ∈ tG := tG_in (List.mem_of_getElem? (i := 230) (by decide +kernel)) rfl
theorem wc_X4_within : Cond.code yX4_within cX4_within 3 (some .boolean) ∈ tG := tG_in (List.mem_of_getElem? (i := 231) (by decide +kernel)) rfl
theorem ws_X4_isCell : Cond.static yX4_isCell ∈ tG := tG_in (List.mem_of_getElem? (i := 244) (by decide +kernel)) rfl
theorem wc_X4_isCell : Cond.code yX4_isCell cX4_isCell 1 (some .boolean) ∈ tG := tG_in (List.mem_of_getElem? (i := 245) (by decide +kernel)) rfl
theorem ws_X4_isListed : Cond.static yX4_isListed ∈ tG := tG_in (List.mem_of_getElem? (i := 251) (by decide +kernel)) rfl
theorem wc_X4_isListed : Cond.code yX4_isListed cX4_isListed 1 (some .boolean) ∈ tG := tG_in (List.mem_of_getElem? (i := 252) (by decide +kernel)) rfl
theorem ws_X4_isMeasure : Cond.static yX4_isMeasure ∈ tG := tG_in (List.mem_of_getElem? (i := 254) (by decide +kernel)) rfl
theorem wc_X4_isMeasure : Cond.code yX4_isMeasure cX4_isMeasure 1 (some .boolean) ∈ tG := tG_in (List.mem_of_getElem? (i := 255) (by decide +kernel)) rfl
theorem ws_X4_isKind : Cond.static yX4_isKind ∈ tG := tG_in (List.mem_of_getElem? (i := 276) (by decide +kernel)) rfl
theorem wc_X4_isKind : Cond.code yX4_isKind cX4_isKind 1 (some .boolean) ∈ tG := tG_in (List.mem_of_getElem? (i := 277) (by decide +kernel)) rfl
theorem ws_X4_isSpot : Cond.static yX4_isSpot ∈ tG := tG_in (List.mem_of_getElem? (i := 656) (by decide +kernel)) rfl
theorem wc_X4_isSpot : Cond.code yX4_isSpot cX4_isSpot 1 (some .boolean) ∈ tG := tG_in (List.mem_of_getElem? (i := 657) (by decide +kernel)) rfl
theorem wi_X4_isGuest : Cond.instanceMethod yX4_isGuest ∈ tG := tG_in (List.mem_of_getElem? (i := 293) (by decide +kernel)) rfl
theorem wv_X4_isGuest : Cond.selects RX4 yX4_isGuest yX4_isGuest ∈ tG := tG_in (List.mem_of_getElem? (i := 1) (by decide +kernel)) rfl
theorem wc_X4_isGuest : Cond.code yX4_isGuest cX4_isGuest 2 (some .boolean) ∈ tG := tG_in (List.mem_of_getElem? (i := 294) (by decide +kernel)) rfl
theorem wi_X4_startTrial : Cond.instanceMethod yX4_startTrial ∈ tG := tG_in (List.mem_of_getElem? (i := 397) (by decide +kernel)) rfl
theorem wv_X4_startTrial : Cond.selects RX4 yX4_startTrial yX4_startTrial ∈ tG := tG_in (List.mem_of_getElem? (i := 4) (by decide +kernel)) rfl
theorem wc_X4_startTrial : Cond.code yX4_startTrial cX4_startTrial 1 (none : Option Jvm.ClassFile.FieldType) ∈ tG := tG_in (List.mem_of_getElem? (i := 398) (by decide +kernel)) rfl
theorem wi_X4_lackOfSheet : Cond.instanceMethod yX4_lackOfSheet ∈ tG := tG_in (List.mem_of_getElem? (i := 472) (by decide +kernel)) rfl
theorem wv_X4_lackOfSheet : Cond.selects RX4 yX4_lackOfSheet yX4_lackOfSheet ∈ tG := tG_in (List.mem_of_getElem? (i := 6) (by decide +kernel)) rfl
theorem wc_X4_lackOfSheet : Cond.code yX4_lackOfSheet cX4_lackOfSheet 2 (some .int) ∈ tG := tG_in (List.mem_of_getElem? (i := 473) (by decide +kernel)) rfl
theorem wi_X4_lackOfTold : Cond.instanceMethod yX4_lackOfTold ∈ tG := tG_in (List.mem_of_getElem? (i := 468) (by decide +kernel)) rfl
theorem wv_X4_lackOfTold : Cond.selects RX4 yX4_lackOfTold yX4_lackOfTold ∈ tG := tG_in (List.mem_of_getElem? (i := 5) (by decide +kernel)) rfl
theorem wc_X4_lackOfTold : Cond.code yX4_lackOfTold cX4_lackOfTold 4 (some .int) ∈ tG := tG_in (List.mem_of_getElem? (i := 469) (by decide +kernel)) rfl
theorem wi_X4_trialGoesAsTold : Cond.instanceMethod yX4_trialGoesAsTold ∈ tG := tG_in (List.mem_of_getElem? (i := 484) (by decide +kernel)) rfl
theorem wv_X4_trialGoesAsTold : Cond.selects RX4 yX4_trialGoesAsTold yX4_trialGoesAsTold ∈ tG := tG_in (List.mem_of_getElem? (i := 7) (by decide +kernel)) rfl
theorem wc_X4_trialGoesAsTold : Cond.code yX4_trialGoesAsTold cX4_trialGoesAsTold 5 (some .boolean) ∈ tG := tG_in (List.mem_of_getElem? (i := 485) (by decide +kernel)) rfl
theorem ws_X4_commonDivisor : Cond.static yX4_commonDivisor ∈ tG := tG_in (List.mem_of_getElem? (i := 513) (by decide +kernel)) rfl
theorem wc_X4_commonDivisor : Cond.code yX4_commonDivisor cX4_commonDivisor 6 (some .int) ∈ tG := tG_in (List.mem_of_getElem? (i := 514) (by decide +kernel)) rfl
theorem wi_X5_init : Cond.instanceMethod yX5_init ∈ tG := tG_in (List.mem_of_getElem? (i := 736) (by decide +kernel)) rfl
theorem wc_X5_init : Cond.code yX5_init cX5_init 2 (none : Option Jvm.ClassFile.FieldType) ∈ tG := tG_in (List.mem_of_getElem? (i := 737) (by decide +kernel)) rfl
theorem wi_X5_finding : Cond.instanceMethod yX5_finding ∈ tG := tG_in (List.mem_of_getElem? (i := 826) (by decide +kernel)) rfl
theorem wv_X5_finding : Cond.selects RX5 yX5_finding yX5_finding ∈ tG := tG_in (List.mem_of_getElem? (i := 18) (by decide +kernel)) rfl
theorem wc_X5_finding : Cond.code yX5_finding cX5_finding 2 (some .int) ∈ tG := tG_in (List.mem_of_getElem? (i := 827) (by decide +kernel)) rfl
theorem ws_X5_within : Cond.static yX5_within ∈ tG := tG_in (List.mem_of_getElem? (i := 814) (by decide +kernel)) rfl
theorem wc_X5_within : Cond.code yX5_within cX5_within 3 (some .boolean) ∈ tG := tG_in (List.mem_of_getElem? (i := 815) (by decide +kernel)) rfl
theorem wi_X5_become : Cond.instanceMethod yX5_become ∈ tG := tG_in (List.mem_of_getElem? (i := 821) (by decide +kernel)) rfl
theorem wv_X5_become : Cond.selects RX5 yX5_become yX5_become ∈ tG := tG_in (List.mem_of_getElem? (i := 17) (by decide +kernel)) rfl
theorem wc_X5_become : Cond.code yX5_become cX5_become 4 (some .int) ∈ tG := tG_in (List.mem_of_getElem? (i := 822) (by decide +kernel)) rfl
theorem ws_X5_copyRow : Cond.static yX5_copyRow ∈ tG := tG_in (List.mem_of_getElem? (i := 983) (by decide +kernel)) rfl
theorem wc_X5_copyRow : Cond.code yX5_copyRow cX5_copyRow 3 (none : Option Jvm.ClassFile.FieldType) ∈ tG := tG_in (List.mem_of_getElem? (i := 984) (by decide +kernel)) rfl
theorem wi_X5_putBack : Cond.instanceMethod yX5_putBack ∈ tG := tG_in (List.mem_of_getElem? (i := 987) (by decide +kernel)) rfl
theorem wv_X5_putBack : Cond.selects RX5 yX5_putBack yX5_putBack ∈ tG := tG_in (List.mem_of_getElem? (i := 40) (by decide +kernel)) rfl
theorem wc_X5_putBack : Cond.code yX5_putBack cX5_putBack 2 (some .int) ∈ tG := tG_in (List.mem_of_getElem? (i := 988) (by decide +kernel)) rfl
theorem wi_X5_orNone : Cond.instanceMethod yX5_orNone ∈ tG := tG_in (List.mem_of_getElem? (i := 1007) (by decide +kernel)) rfl
theorem wv_X5_orNone : Cond.selects RX5 yX5_orNone yX5_orNone ∈ tG := tG_in (List.mem_of_getElem? (i := 43) (by decide +kernel)) rfl
theorem wc_X5_orNone : Cond.code yX5_orNone cX5_orNone 2 (some .int) ∈ tG := tG_in (List.mem_of_getElem? (i := 1008) (by decide +kernel)) rfl
theorem ws_X5_bits : Cond.static yX5_bits ∈ tG := tG_in (List.mem_of_getElem? (i := 1042) (by decide +kernel)) rfl
theorem wc_X5_bits : Cond.code yX5_bits cX5_bits 3 (some .int) ∈ tG := tG_in (List.mem_of_getElem? (i := 1043) (by decide +kernel)) rfl
theorem ws_X5_isCell : Cond.static yX5_isCell ∈ tG := tG_in (List.mem_of_getElem? (i := 833) (by decide +kernel)) rfl
theorem wc_X5_isCell : Cond.code yX5_isCell cX5_isCell 1 (some .boolean) ∈ tG := tG_in (List.mem_of_getElem? (i := 834) (by decide +kernel)) rfl
theorem ws_X5_isMeasure : Cond.static yX5_isMeasure ∈ tG := tG_in (List.mem_of_getElem? (i := 846) (by decide +kernel)) rfl
theorem wc_X5_isMeasure : Cond.code yX5_isMeasure cX5_isMeasure 1 (some .boolean) ∈ tG := tG_in (List.mem_of_getElem? (i := 847) (by decide +kernel)) rfl
theorem ws_X5_isOften : Cond.static yX5_isOften ∈ tG := tG_in (List.mem_of_getElem? (i := 817) (by decide +kernel)) rfl
theorem wc_X5_isOften : Cond.code yX5_isOften cX5_isOften 1 (some .boolean) ∈ tG := tG_in (List.mem_of_getElem? (i := 818) (by decide +kernel)) rfl
theorem ws_X5_isBase : Cond.static yX5_isBase ∈ tG := tG_in (List.mem_of_getElem? (i := 836) (by decide +kernel)) rfl
theorem wc_X5_isBase : Cond.code yX5_isBase cX5_isBase 1 (some .boolean) ∈ tG := tG_in (List.mem_of_getElem? (i := 837) (by decide +kernel)) rfl
theorem wi_X5_set : Cond.instanceMethod yX5_set ∈ tG := tG_in (List.mem_of_getElem? (i := 810) (by decide +kernel)) rfl
theorem wv_X5_set : Cond.selects RX5 yX5_set yX5_set ∈ tG := tG_in (List.mem_of_getElem? (i := 811) (by decide +kernel)) rfl
theorem wc_X5_set : Cond.code yX5_set cX5_set 4 (some .int) ∈ tG := tG_in (List.mem_of_getElem? (i := 812) (by decide +kernel)) rfl
theorem wi_X5_cell : Cond.instanceMethod yX5_cell ∈ tG := tG_in (List.mem_of_getElem? (i := 829) (by decide +kernel)) rfl
theorem wv_X5_cell : Cond.selects RX5 yX5_cell yX5_cell ∈ tG := tG_in (List.mem_of_getElem? (i := 830) (by decide +kernel)) rfl
theorem wc_X5_cell : Cond.code yX5_cell cX5_cell 3 (some .int) ∈ tG := tG_in (List.mem_of_getElem? (i := 831) (by decide +kernel)) rfl
theorem ws_X5_isPlace : Cond.static yX5_isPlace ∈ tG := tG_in (List.mem_of_getElem? (i := 843) (by decide +kernel)) rfl
theorem wc_X5_isPlace : Cond.code yX5_isPlace cX5_isPlace 1 (some .boolean) ∈ tG := tG_in (List.mem_of_getElem? (i := 844) (by decide +kernel)) rfl
theorem wi_X5_measure : Cond.instanceMethod yX5_measure ∈ tG := tG_in (List.mem_of_getElem? (i := 839) (by decide +kernel)) rfl
theorem wv_X5_measure : Cond.selects RX5 yX5_measure yX5_measure ∈ tG := tG_in (List.mem_of_getElem? (i := 840) (by decide +kernel)) rfl
theorem wc_X5_measure : Cond.code yX5_measure cX5_measure 3 (some .int) ∈ tG := tG_in (List.mem_of_getElem? (i := 841) (by decide +kernel)) rfl
theorem wi_X5_listed : Cond.instanceMethod yX5_listed ∈ tG := tG_in (List.mem_of_getElem? (i := 849) (by decide +kernel)) rfl
theorem wv_X5_listed : Cond.selects RX5 yX5_listed yX5_listed ∈ tG := tG_in (List.mem_of_getElem? (i := 850) (by decide +kernel)) rfl
theorem wc_X5_listed : Cond.code yX5_listed cX5_listed 2 (some .int) ∈ tG := tG_in (List.mem_of_getElem? (i := 851) (by decide +kernel)) rfl
theorem wi_X5_placeNow : Cond.instanceMethod yX5_placeNow ∈ tG := tG_in (List.mem_of_getElem? (i := 943) (by decide +kernel)) rfl
theorem wv_X5_placeNow : Cond.selects RX5 yX5_placeNow yX5_placeNow ∈ tG := tG_in (List.mem_of_getElem? (i := 32) (by decide +kernel)) rfl
theorem wc_X5_placeNow : Cond.code yX5_placeNow cX5_placeNow 1 (some .int) ∈ tG := tG_in (List.mem_of_getElem? (i := 944) (by decide +kernel)) rfl
theorem wi_X5_measureNow : Cond.instanceMethod yX5_measureNow ∈ tG := tG_in (List.mem_of_getElem? (i := 939) (by decide +kernel)) rfl
theorem wv_X5_measureNow : Cond.selects RX5 yX5_measureNow yX5_measureNow ∈ tG := tG_in (List.mem_of_getElem? (i := 31) (by decide +kernel)) rfl
theorem wc_X5_measureNow : Cond.code yX5_measureNow cX5_measureNow 1 (some .int) ∈ tG := tG_in (List.mem_of_getElem? (i := 940) (by decide +kernel)) rfl
theorem wi_X5_wideAt : Cond.instanceMethod yX5_wideAt ∈ tG := tG_in (List.mem_of_getElem? (i := 858) (by decide +kernel)) rfl
theorem wv_X5_wideAt : Cond.selects RX5 yX5_wideAt yX5_wideAt ∈ tG := tG_in (List.mem_of_getElem? (i := 19) (by decide +kernel)) rfl
theorem wc_X5_wideAt : Cond.code yX5_wideAt cX5_wideAt 3 (some .int) ∈ tG := tG_in (List.mem_of_getElem? (i := 859) (by decide +kernel)) rfl
theorem wi_X5_wide : Cond.instanceMethod yX5_wide ∈ tG := tG_in (List.mem_of_getElem? (i := 853) (by decide +kernel)) rfl
theorem wv_X5_wide : Cond.selects RX5 yX5_wide yX5_wide ∈ tG := tG_in (List.mem_of_getElem? (i := 854) (by decide +kernel)) rfl
theorem wc_X5_wide : Cond.code yX5_wide cX5_wide 3 (some .int) ∈ tG := tG_in (List.mem_of_getElem? (i := 855) (by decide +kernel)) rfl
theorem ws_X5_guestAt : Cond.static yX5_guestAt ∈ tG := tG_in (List.mem_of_getElem? (i := 874) (by decide +kernel)) rfl
theorem wc_X5_guestAt : Cond.code yX5_guestAt cX5_guestAt 2 (some .int) ∈ tG := tG_in (List.mem_of_getElem? (i := 875) (by decide +kernel)) rfl
theorem wi_X5_guestIs : Cond.instanceMethod yX5_guestIs ∈ tG := tG_in (List.mem_of_getElem? (i := 894) (by decide +kernel)) rfl
theorem wv_X5_guestIs : Cond.selects RX5 yX5_guestIs yX5_guestIs ∈ tG := tG_in (List.mem_of_getElem? (i := 24) (by decide +kernel)) rfl
theorem wc_X5_guestIs : Cond.code yX5_guestIs cX5_guestIs 3 (some .int) ∈ tG := tG_in (List.mem_of_getElem? (i := 895) (by decide +kernel)) rfl
theorem wi_X5_isGuest : Cond.instanceMethod yX5_isGuest ∈ tG := tG_in (List.mem_of_getElem? (i := 882) (by decide +kernel)) rfl
theorem wv_X5_isGuest : Cond.selects RX5 yX5_isGuest yX5_isGuest ∈ tG := tG_in (List.mem_of_getElem? (i := 21) (by decide +kernel)) rfl
theorem wc_X5_isGuest : Cond.code yX5_isGuest cX5_isGuest 2 (some .boolean) ∈ tG := tG_in (List.mem_of_getElem? (i := 883) (by decide +kernel)) rfl
theorem ws_X5_isKind : Cond.static yX5_isKind ∈ tG := tG_in (List.mem_of_getElem? (i := 866) (by decide +kernel)) rfl
theorem wc_X5_isKind : Cond.code yX5_isKind cX5_isKind 1 (some .boolean) ∈ tG := tG_in (List.mem_of_getElem? (i := 867) (by decide +kernel)) rfl
theorem wi_X5_comesIn : Cond.instanceMethod yX5_comesIn ∈ tG := tG_in (List.mem_of_getElem? (i := 871) (by decide +kernel)) rfl
theorem wv_X5_comesIn : Cond.selects RX5 yX5_comesIn yX5_comesIn ∈ tG := tG_in (List.mem_of_getElem? (i := 20) (by decide +kernel)) rfl
theorem wc_X5_comesIn : Cond.code yX5_comesIn cX5_comesIn 4 (some .int) ∈ tG := tG_in (List.mem_of_getElem? (i := 872) (by decide +kernel)) rfl
theorem wi_X5_guest : Cond.instanceMethod yX5_guest ∈ tG := tG_in (List.mem_of_getElem? (i := 862) (by decide +kernel)) rfl
theorem wv_X5_guest : Cond.selects RX5 yX5_guest yX5_guest ∈ tG := tG_in (List.mem_of_getElem? (i := 863) (by decide +kernel)) rfl
theorem wc_X5_guest : Cond.code yX5_guest cX5_guest 3 (some .int) ∈ tG := tG_in (List.mem_of_getElem? (i := 864) (by decide +kernel)) rfl
theorem wi_X5_needs : Cond.instanceMethod yX5_needs ∈ tG := tG_in (List.mem_of_getElem? (i := 890) (by decide +kernel)) rfl
theorem wv_X5_needs : Cond.selects RX5 yX5_needs yX5_needs ∈ tG := tG_in (List.mem_of_getElem? (i := 23) (by decide +kernel)) rfl
theorem wc_X5_needs : Cond.code yX5_needs cX5_needs 4 (some .int) ∈ tG := tG_in (List.mem_of_getElem? (i := 891) (by decide +kernel)) rfl
theorem wi_X5_steps : Cond.instanceMethod yX5_steps ∈ tG := tG_in (List.mem_of_getElem? (i := 898) (by decide +kernel)) rfl
theorem wv_X5_steps : Cond.selects RX5 yX5_steps yX5_steps ∈ tG := tG_in (List.mem_of_getElem? (i := 25) (by decide +kernel)) rfl
theorem wc_X5_steps : Cond.code yX5_steps cX5_steps 2 (some .int) ∈ tG := tG_in (List.mem_of_getElem? (i := 899) (by decide +kernel)) rfl
theorem wi_X5_laughs : Cond.instanceMethod yX5_laughs ∈ tG := tG_in (List.mem_of_getElem? (i := 902) (by decide +kernel)) rfl
theorem wv_X5_laughs : Cond.selects RX5 yX5_laughs yX5_laughs ∈ tG := tG_in (List.mem_of_getElem? (i := 26) (by decide +kernel)) rfl
theorem wc_X5_laughs : Cond.code yX5_laughs cX5_laughs 2 (some .int) ∈ tG := tG_in (List.mem_of_getElem? (i := 903) (by decide +kernel)) rfl
theorem wi_X5_laces : Cond.instanceMethod yX5_laces ∈ tG := tG_in (List.mem_of_getElem? (i := 906) (by decide +kernel)) rfl
theorem wv_X5_laces : Cond.selects RX5 yX5_laces yX5_laces ∈ tG := tG_in (List.mem_of_getElem? (i := 27) (by decide +kernel)) rfl
theorem wc_X5_laces : Cond.code yX5_laces cX5_laces 3 (some .int) ∈ tG := tG_in (List.mem_of_getElem? (i := 907) (by decide +kernel)) rfl
theorem wi_X5_told : Cond.instanceMethod yX5_told ∈ tG := tG_in (List.mem_of_getElem? (i := 886) (by decide +kernel)) rfl
theorem wv_X5_told : Cond.selects RX5 yX5_told yX5_told ∈ tG := tG_in (List.mem_of_getElem? (i := 22) (by decide +kernel)) rfl
theorem wc_X5_told : Cond.code yX5_told cX5_told 3 (some .int) ∈ tG := tG_in (List.mem_of_getElem? (i := 887) (by decide +kernel)) rfl
theorem wi_X5_of : Cond.instanceMethod yX5_of ∈ tG := tG_in (List.mem_of_getElem? (i := 877) (by decide +kernel)) rfl
theorem wv_X5_of : Cond.selects RX5 yX5_of yX5_of ∈ tG := tG_in (List.mem_of_getElem? (i := 878) (by decide +kernel)) rfl
theorem wc_X5_of : Cond.code yX5_of cX5_of 3 (some .int) ∈ tG := tG_in (List.mem_of_getElem? (i := 879) (by decide +kernel)) rfl
theorem ws_X5_isField : Cond.static yX5_isField ∈ tG := tG_in (List.mem_of_getElem? (i := 913) (by decide +kernel)) rfl
theorem wc_X5_isField : Cond.code yX5_isField cX5_isField 2 (some .boolean) ∈ tG := tG_in (List.mem_of_getElem? (i := 914) (by decide +kernel)) rfl
theorem wi_X5_change : Cond.instanceMethod yX5_change ∈ tG := tG_in (List.mem_of_getElem? (i := 909) (by decide +kernel)) rfl
theorem wv_X5_change : Cond.selects RX5 yX5_change yX5_change ∈ tG := tG_in (List.mem_of_getElem? (i := 910) (by decide +kernel)) rfl
theorem wc_X5_change : Cond.code yX5_change cX5_change 4 (some .int) ∈ tG := tG_in (List.mem_of_getElem? (i := 911) (by decide +kernel)) rfl
theorem wi_X5_reachOf : Cond.instanceMethod yX5_reachOf ∈ tG := tG_in (List.mem_of_getElem? (i := 921) (by decide +kernel)) rfl
theorem wv_X5_reachOf : Cond.selects RX5 yX5_reachOf yX5_reachOf ∈ tG := tG_in (List.mem_of_getElem? (i := 28) (by decide +kernel)) rfl
theorem wc_X5_reachOf : Cond.code yX5_reachOf cX5_reachOf 7 (some .int) ∈ tG := tG_in (List.mem_of_getElem? (i := 922) (by decide +kernel)) rfl
theorem wi_X5_reach : Cond.instanceMethod yX5_reach ∈ tG := tG_in (List.mem_of_getElem? (i := 916) (by decide +kernel)) rfl
theorem wv_X5_reach : Cond.selects RX5 yX5_reach yX5_reach ∈ tG := tG_in (List.mem_of_getElem? (i := 917) (by decide +kernel)) rfl
theorem wc_X5_reach : Cond.code yX5_reach cX5_reach 3 (some .int) ∈ tG := tG_in (List.mem_of_getElem? (i := 918) (by decide +kernel)) rfl
theorem wi_X5_goes : Cond.instanceMethod yX5_goes ∈ tG := tG_in (List.mem_of_getElem? (i := 951) (by decide +kernel)) rfl
theorem wv_X5_goes : Cond.selects RX5 yX5_goes yX5_goes ∈ tG := tG_in (List.mem_of_getElem? (i := 34) (by decide +kernel)) rfl
theorem wc_X5_goes : Cond.code yX5_goes cX5_goes 8 (none : Option Jvm.ClassFile.FieldType) ∈ tG := tG_in (List.mem_of_getElem? (i := 952) (by decide +kernel)) rfl
theorem wi_X5_isIn : Cond.instanceMethod yX5_isIn ∈ tG := tG_in (List.mem_of_getElem? (i := 947) (by decide +kernel)) rfl
theorem wv_X5_isIn : Cond.selects RX5 yX5_isIn yX5_isIn ∈ tG := tG_in (List.mem_of_getElem? (i := 33) (by decide +kernel)) rfl
theorem wc_X5_isIn : Cond.code yX5_isIn cX5_isIn 2 (some .boolean) ∈ tG := tG_in (List.mem_of_getElem? (i := 948) (by decide +kernel)) rfl
theorem wi_X5_strains : Cond.instanceMethod yX5_strains ∈ tG := tG_in (List.mem_of_getElem? (i := 956) (by decide +kernel)) rfl
theorem wv_X5_strains : Cond.selects RX5 yX5_strains yX5_strains ∈ tG := tG_in (List.mem_of_getElem? (i := 35) (by decide +kernel)) rfl
theorem wc_X5_strains : Cond.code yX5_strains cX5_strains 4 (none : Option Jvm.ClassFile.FieldType) ∈ tG := tG_in (List.mem_of_getElem? (i := 957) (by decide +kernel)) rfl
theorem wi_X5_hour : Cond.instanceMethod yX5_hour ∈ tG := tG_in (List.mem_of_getElem? (i := 935) (by decide +kernel)) rfl
theorem wv_X5_hour : Cond.selects RX5 yX5_hour yX5_hour ∈ tG := tG_in (List.mem_of_getElem? (i := 30) (by decide +kernel)) rfl
theorem wc_X5_hour : Cond.code yX5_hour cX5_hour 3 (none : Option Jvm.ClassFile.FieldType) ∈ tG := tG_in (List.mem_of_getElem? (i := 936) (by decide +kernel)) rfl
theorem wi_X5_hoursGo : Cond.instanceMethod yX5_hoursGo ∈ tG := tG_in (List.mem_of_getElem? (i := 931) (by decide +kernel)) rfl
theorem wv_X5_hoursGo : Cond.selects RX5 yX5_hoursGo yX5_hoursGo ∈ tG := tG_in (List.mem_of_getElem? (i := 29) (by decide +kernel)) rfl
theorem wc_X5_hoursGo : Cond.code yX5_hoursGo cX5_hoursGo 3 (none : Option Jvm.ClassFile.FieldType) ∈ tG := tG_in (List.mem_of_getElem? (i := 932) (by decide +kernel)) rfl
theorem wi_X5_go : Cond.instanceMethod yX5_go ∈ tG := tG_in (List.mem_of_getElem? (i := 924) (by decide +kernel)) rfl
theorem wv_X5_go : Cond.selects RX5 yX5_go yX5_go ∈ tG := tG_in (List.mem_of_getElem? (i := 925) (by decide +kernel)) rfl
theorem wc_X5_go : Cond.code yX5_go cX5_go 2 (some .int) ∈ tG := tG_in (List.mem_of_getElem? (i := 926) (by decide +kernel)) rfl
theorem wi_X5_stuckOnes : Cond.instanceMethod yX5_stuckOnes ∈ tG := tG_in (List.mem_of_getElem? (i := 964) (by decide +kernel)) rfl
theorem wv_X5_stuckOnes : Cond.selects RX5 yX5_stuckOnes yX5_stuckOnes ∈ tG := tG_in (List.mem_of_getElem? (i := 36) (by decide +kernel)) rfl
theorem wc_X5_stuckOnes : Cond.code yX5_stuckOnes cX5_stuckOnes 3 (some .int) ∈ tG := tG_in (List.mem_of_getElem? (i := 965) (by decide +kernel)) rfl
theorem wi_X5_arrived : Cond.instanceMethod yX5_arrived ∈ tG := tG_in (List.mem_of_getElem? (i := 968) (by decide +kernel)) rfl
theorem wv_X5_arrived : Cond.selects RX5 yX5_arrived yX5_arrived ∈ tG := tG_in (List.mem_of_getElem? (i := 37) (by decide +kernel)) rfl
theorem wc_X5_arrived : Cond.code yX5_arrived cX5_arrived 3 (some .int) ∈ tG := tG_in (List.mem_of_getElem? (i := 969) (by decide +kernel)) rfl
theorem wi_X5_inTheHall : Cond.instanceMethod yX5_inTheHall ∈ tG := tG_in (List.mem_of_getElem? (i := 972) (by decide +kernel)) rfl
theorem wv_X5_inTheHall : Cond.selects RX5 yX5_inTheHall yX5_inTheHall ∈ tG := tG_in (List.mem_of_getElem? (i := 38) (by decide +kernel)) rfl
theorem wc_X5_inTheHall : Cond.code yX5_inTheHall cX5_inTheHall 3 (some .int) ∈ tG := tG_in (List.mem_of_getElem? (i := 973) (by decide +kernel)) rfl
theorem wi_X5_shutCells : Cond.instanceMethod yX5_shutCells ∈ tG := tG_in (List.mem_of_getElem? (i := 976) (by decide +kernel)) rfl
theorem wv_X5_shutCells : Cond.selects RX5 yX5_shutCells yX5_shutCells ∈ tG := tG_in (List.mem_of_getElem? (i := 39) (by decide +kernel)) rfl
theorem wc_X5_shutCells : Cond.code yX5_shutCells cX5_shutCells 3 (some .int) ∈ tG := tG_in (List.mem_of_getElem? (i := 977) (by decide +kernel)) rfl
theorem wi_X5_now : Cond.instanceMethod yX5_now ∈ tG := tG_in (List.mem_of_getElem? (i := 959) (by decide +kernel)) rfl
theorem wv_X5_now : Cond.selects RX5 yX5_now yX5_now ∈ tG := tG_in (List.mem_of_getElem? (i := 960) (by decide +kernel)) rfl
theorem wc_X5_now : Cond.code yX5_now cX5_now 2 (some .int) ∈ tG := tG_in (List.mem_of_getElem? (i := 961) (by decide +kernel)) rfl
theorem wi_X5_behind : Cond.instanceMethod yX5_behind ∈ tG := tG_in (List.mem_of_getElem? (i := 995) (by decide +kernel)) rfl
theorem wv_X5_behind : Cond.selects RX5 yX5_behind yX5_behind ∈ tG := tG_in (List.mem_of_getElem? (i := 41) (by decide +kernel)) rfl
theorem wc_X5_behind : Cond.code yX5_behind cX5_behind 3 (some .int) ∈ tG := tG_in (List.mem_of_getElem? (i := 996) (by decide +kernel)) rfl
theorem wi_X5_ahead : Cond.instanceMethod yX5_ahead ∈ tG := tG_in (List.mem_of_getElem? (i := 979) (by decide +kernel)) rfl
theorem wv_X5_ahead : Cond.selects RX5 yX5_ahead yX5_ahead ∈ tG := tG_in (List.mem_of_getElem? (i := 980) (by decide +kernel)) rfl
theorem wc_X5_ahead : Cond.code yX5_ahead cX5_ahead 5 (some .int) ∈ tG := tG_in (List.mem_of_getElem? (i := 981) (by decide +kernel)) rfl
theorem wi_X5_strain : Cond.instanceMethod yX5_strain ∈ tG := tG_in (List.mem_of_getElem? (i := 990) (by decide +kernel)) rfl
theorem wv_X5_strain : Cond.selects RX5 yX5_strain yX5_strain ∈ tG := tG_in (List.mem_of_getElem? (i := 991) (by decide +kernel)) rfl
theorem wc_X5_strain : Cond.code yX5_strain cX5_strain 2 (some .int) ∈ tG := tG_in (List.mem_of_getElem? (i := 992) (by decide +kernel)) rfl
theorem wi_X5_hoursTo : Cond.instanceMethod yX5_hoursTo ∈ tG := tG_in (List.mem_of_getElem? (i := 1003) (by decide +kernel)) rfl
theorem wv_X5_hoursTo : Cond.selects RX5 yX5_hoursTo yX5_hoursTo ∈ tG := tG_in (List.mem_of_getElem? (i := 42) (by decide +kernel)) rfl
theorem wc_X5_hoursTo : Cond.code yX5_hoursTo cX5_hoursTo 5 (some .int) ∈ tG := tG_in (List.mem_of_getElem? (i := 1004) (by decide +kernel)) rfl
theorem wi_X5_snaps : Cond.instanceMethod yX5_snaps ∈ tG := tG_in (List.mem_of_getElem? (i := 998) (by decide +kernel)) rfl
theorem wv_X5_snaps : Cond.selects RX5 yX5_snaps yX5_snaps ∈ tG := tG_in (List.mem_of_getElem? (i := 999) (by decide +kernel)) rfl
theorem wc_X5_snaps : Cond.code yX5_snaps cX5_snaps 1 (some .int) ∈ tG := tG_in (List.mem_of_getElem? (i := 1000) (by decide +kernel)) rfl
theorem wi_X5_comes : Cond.instanceMethod yX5_comes ∈ tG := tG_in (List.mem_of_getElem? (i := 1011) (by decide +kernel)) rfl
theorem wv_X5_comes : Cond.selects RX5 yX5_comes yX5_comes ∈ tG := tG_in (List.mem_of_getElem? (i := 1012) (by decide +kernel)) rfl
theorem wc_X5_comes : Cond.code yX5_comes cX5_comes 3 (some .int) ∈ tG := tG_in (List.mem_of_getElem? (i := 1013) (by decide +kernel)) rfl
theorem wi_X5_stuck : Cond.instanceMethod yX5_stuck ∈ tG := tG_in (List.mem_of_getElem? (i := 1015) (by decide +kernel)) rfl
theorem wv_X5_stuck : Cond.selects RX5 yX5_stuck yX5_stuck ∈ tG := tG_in (List.mem_of_getElem? (i := 1016) (by decide +kernel)) rfl
theorem wc_X5_stuck : Cond.code yX5_stuck cX5_stuck 3 (some .int) ∈ tG := tG_in (List.mem_of_getElem? (i := 1017) (by decide +kernel)) rfl
theorem ws_X5_isThought : Cond.static yX5_isThought ∈ tG := tG_in (List.mem_of_getElem? (i := 1023) (by decide +kernel)) rfl
theorem wc_X5_isThought : Cond.code yX5_isThought cX5_isThought 1 (some .boolean) ∈ tG := tG_in (List.mem_of_getElem? (i := 1024) (by decide +kernel)) rfl
theorem wi_X5_tight : Cond.instanceMethod yX5_tight ∈ tG := tG_in (List.mem_of_getElem? (i := 1019) (by decide +kernel)) rfl
theorem wv_X5_tight : Cond.selects RX5 yX5_tight yX5_tight ∈ tG := tG_in (List.mem_of_getElem? (i := 1020) (by decide +kernel)) rfl
theorem wc_X5_tight : Cond.code yX5_tight cX5_tight 6 (some .int) ∈ tG := tG_in (List.mem_of_getElem? (i := 1021) (by decide +kernel)) rfl
theorem wi_X5_measureFor : Cond.instanceMethod yX5_measureFor ∈ tG := tG_in (List.mem_of_getElem? (i := 1026) (by decide +kernel)) rfl
theorem wv_X5_measureFor : Cond.selects RX5 yX5_measureFor yX5_measureFor ∈ tG := tG_in (List.mem_of_getElem? (i := 1027) (by decide +kernel)) rfl
theorem wc_X5_measureFor : Cond.code yX5_measureFor cX5_measureFor 5 (some .int) ∈ tG := tG_in (List.mem_of_getElem? (i := 1028) (by decide +kernel)) rfl
theorem wi_X5_kindFor : Cond.instanceMethod yX5_kindFor ∈ tG := tG_in (List.mem_of_getElem? (i := 1030) (by decide +kernel)) rfl
theorem wv_X5_kindFor : Cond.selects RX5 yX5_kindFor yX5_kindFor ∈ tG := tG_in (List.mem_of_getElem? (i := 1031) (by decide +kernel)) rfl
theorem wc_X5_kindFor : Cond.code yX5_kindFor cX5_kindFor 9 (some .int) ∈ tG := tG_in (List.mem_of_getElem? (i := 1032) (by decide +kernel)) rfl
theorem wi_X5_sizeFor : Cond.instanceMethod yX5_sizeFor ∈ tG := tG_in (List.mem_of_getElem? (i := 1034) (by decide +kernel)) rfl
theorem wv_X5_sizeFor : Cond.selects RX5 yX5_sizeFor yX5_sizeFor ∈ tG := tG_in (List.mem_of_getElem? (i := 1035) (by decide +kernel)) rfl
theorem wc_X5_sizeFor : Cond.code yX5_sizeFor cX5_sizeFor 7 (some .int) ∈ tG := tG_in (List.mem_of_getElem? (i := 1036) (by decide +kernel)) rfl
theorem wi_X5_holds : Cond.instanceMethod yX5_holds ∈ tG := tG_in (List.mem_of_getElem? (i := 1046) (by decide +kernel)) rfl
theorem wv_X5_holds : Cond.selects RX5 yX5_holds yX5_holds ∈ tG := tG_in (List.mem_of_getElem? (i := 44) (by decide +kernel)) rfl
theorem wc_X5_holds : Cond.code yX5_holds cX5_holds 4 (some .boolean) ∈ tG := tG_in (List.mem_of_getElem? (i := 1047) (by decide +kernel)) rfl
theorem wi_X5_send : Cond.instanceMethod yX5_send ∈ tG := tG_in (List.mem_of_getElem? (i := 1038) (by decide +kernel)) rfl
theorem wv_X5_send : Cond.selects RX5 yX5_send yX5_send ∈ tG := tG_in (List.mem_of_getElem? (i := 1039) (by decide +kernel)) rfl
theorem wc_X5_send : Cond.code yX5_send cX5_send 4 (some .int) ∈ tG := tG_in (List.mem_of_getElem? (i := 1040) (by decide +kernel)) rfl
theorem wi_X5_lacks : Cond.instanceMethod yX5_lacks ∈ tG := tG_in (List.mem_of_getElem? (i := 1054) (by decide +kernel)) rfl
theorem wv_X5_lacks : Cond.selects RX5 yX5_lacks yX5_lacks ∈ tG := tG_in (List.mem_of_getElem? (i := 45) (by decide +kernel)) rfl
theorem wc_X5_lacks : Cond.code yX5_lacks cX5_lacks 3 (some .int) ∈ tG := tG_in (List.mem_of_getElem? (i := 1055) (by decide +kernel)) rfl
theorem wi_X5_isSo : Cond.instanceMethod yX5_isSo ∈ tG := tG_in (List.mem_of_getElem? (i := 1062) (by decide +kernel)) rfl
theorem wv_X5_isSo : Cond.selects RX5 yX5_isSo yX5_isSo ∈ tG := tG_in (List.mem_of_getElem? (i := 46) (by decide +kernel)) rfl
theorem wc_X5_isSo : Cond.code yX5_isSo cX5_isSo 6 (some .boolean) ∈ tG := tG_in (List.mem_of_getElem? (i := 1063) (by decide +kernel)) rfl
theorem wi_X5_fits : Cond.instanceMethod yX5_fits ∈ tG := tG_in (List.mem_of_getElem? (i := 1049) (by decide +kernel)) rfl
theorem wv_X5_fits : Cond.selects RX5 yX5_fits yX5_fits ∈ tG := tG_in (List.mem_of_getElem? (i := 1050) (by decide +kernel)) rfl
theorem wc_X5_fits : Cond.code yX5_fits cX5_fits 8 (some .int) ∈ tG := tG_in (List.mem_of_getElem? (i := 1051) (by decide +kernel)) rfl
theorem wi_X5_kinds : Cond.instanceMethod yX5_kinds ∈ tG := tG_in (List.mem_of_getElem? (i := 1065) (by decide +kernel)) rfl
theorem wv_X5_kinds : Cond.selects RX5 yX5_kinds yX5_kinds ∈ tG := tG_in (List.mem_of_getElem? (i := 1066) (by decide +kernel)) rfl
theorem wc_X5_kinds : Cond.code yX5_kinds cX5_kinds 8 (some .int) ∈ tG := tG_in (List.mem_of_getElem? (i := 1067) (by decide +kernel)) rfl
theorem wi_X5_drawn : Cond.instanceMethod yX5_drawn ∈ tG := tG_in (List.mem_of_getElem? (i := 1074) (by decide +kernel)) rfl
theorem wv_X5_drawn : Cond.selects RX5 yX5_drawn yX5_drawn ∈ tG := tG_in (List.mem_of_getElem? (i := 47) (by decide +kernel)) rfl
theorem wc_X5_drawn : Cond.code yX5_drawn cX5_drawn 1 (some .int) ∈ tG := tG_in (List.mem_of_getElem? (i := 1075) (by decide +kernel)) rfl
theorem wi_X5_party : Cond.instanceMethod yX5_party ∈ tG := tG_in (List.mem_of_getElem? (i := 1069) (by decide +kernel)) rfl
theorem wv_X5_party : Cond.selects RX5 yX5_party yX5_party ∈ tG := tG_in (List.mem_of_getElem? (i := 1070) (by decide +kernel)) rfl
theorem wc_X5_party : Cond.code yX5_party cX5_party 5 (some .int) ∈ tG := tG_in (List.mem_of_getElem? (i := 1071) (by decide +kernel)) rfl
theorem wi_X5_odds : Cond.instanceMethod yX5_odds ∈ tG := tG_in (List.mem_of_getElem? (i := 1078) (by decide +kernel)) rfl
theorem wv_X5_odds : Cond.selects RX5 yX5_odds yX5_odds ∈ tG := tG_in (List.mem_of_getElem? (i := 1079) (by decide +kernel)) rfl
theorem wc_X5_odds : Cond.code yX5_odds cX5_odds 11 (some .long) ∈ tG := tG_in (List.mem_of_getElem? (i := 1080) (by decide +kernel)) rfl
theorem wi_X5_seed : Cond.instanceMethod yX5_seed ∈ tG := tG_in (List.mem_of_getElem? (i := 1082) (by decide +kernel)) rfl
theorem wv_X5_seed : Cond.selects RX5 yX5_seed yX5_seed ∈ tG := tG_in (List.mem_of_getElem? (i := 1083) (by decide +kernel)) rfl
theorem wc_X5_seed : Cond.code yX5_seed cX5_seed 2 (some .int) ∈ tG := tG_in (List.mem_of_getElem? (i := 1084) (by decide +kernel)) rfl
theorem wi_X5_feed : Cond.instanceMethod yX5_feed ∈ tG := tG_in (List.mem_of_getElem? (i := 1086) (by decide +kernel)) rfl
theorem wv_X5_feed : Cond.selects RX5 yX5_feed yX5_feed ∈ tG := tG_in (List.mem_of_getElem? (i := 1087) (by decide +kernel)) rfl
theorem wc_X5_feed : Cond.code yX5_feed cX5_feed 4 (some .int) ∈ tG := tG_in (List.mem_of_getElem? (i := 1088) (by decide +kernel)) rfl
theorem wi_X5_wipe : Cond.instanceMethod yX5_wipe ∈ tG := tG_in (List.mem_of_getElem? (i := 1090) (by decide +kernel)) rfl
theorem wv_X5_wipe : Cond.selects RX5 yX5_wipe yX5_wipe ∈ tG := tG_in (List.mem_of_getElem? (i := 1091) (by decide +kernel)) rfl
theorem wc_X5_wipe : Cond.code yX5_wipe cX5_wipe 2 (some .int) ∈ tG := tG_in (List.mem_of_getElem? (i := 1092) (by decide +kernel)) rfl
theorem wi_X5_byteAt : Cond.instanceMethod yX5_byteAt ∈ tG := tG_in (List.mem_of_getElem? (i := 1103) (by decide +kernel)) rfl
theorem wv_X5_byteAt : Cond.selects RX5 yX5_byteAt yX5_byteAt ∈ tG := tG_in (List.mem_of_getElem? (i := 49) (by decide +kernel)) rfl
theorem wc_X5_byteAt : Cond.code yX5_byteAt cX5_byteAt 2 (some .int) ∈ tG := tG_in (List.mem_of_getElem? (i := 1104) (by decide +kernel)) rfl
theorem wi_X5_token : Cond.instanceMethod yX5_token ∈ tG := tG_in (List.mem_of_getElem? (i := 1099) (by decide +kernel)) rfl
theorem wv_X5_token : Cond.selects RX5 yX5_token yX5_token ∈ tG := tG_in (List.mem_of_getElem? (i := 48) (by decide +kernel)) rfl
theorem wc_X5_token : Cond.code yX5_token cX5_token 2 (none : Option Jvm.ClassFile.FieldType) ∈ tG := tG_in (List.mem_of_getElem? (i := 1100) (by decide +kernel)) rfl
theorem wi_X5_isWord : Cond.instanceMethod yX5_isWord ∈ tG := tG_in (List.mem_of_getElem? (i := 1111) (by decide +kernel)) rfl
theorem wv_X5_isWord : Cond.selects RX5 yX5_isWord yX5_isWord ∈ tG := tG_in (List.mem_of_getElem? (i := 51) (by decide +kernel)) rfl
theorem wc_X5_isWord : Cond.code yX5_isWord cX5_isWord 4 (some .boolean) ∈ tG := tG_in (List.mem_of_getElem? (i := 1112) (by decide +kernel)) rfl
theorem wi_X5_must : Cond.instanceMethod yX5_must ∈ tG := tG_in (List.mem_of_getElem? (i := 1121) (by decide +kernel)) rfl
theorem wv_X5_must : Cond.selects RX5 yX5_must yX5_must ∈ tG := tG_in (List.mem_of_getElem? (i := 53) (by decide +kernel)) rfl
theorem wc_X5_must : Cond.code yX5_must cX5_must 2 (none : Option Jvm.ClassFile.FieldType) ∈ tG := tG_in (List.mem_of_getElem? (i := 1122) (by decide +kernel)) rfl
theorem wi_X5_number : Cond.instanceMethod yX5_number ∈ tG := tG_in (List.mem_of_getElem? (i := 1130) (by decide +kernel)) rfl
theorem wv_X5_number : Cond.selects RX5 yX5_number yX5_number ∈ tG := tG_in (List.mem_of_getElem? (i := 55) (by decide +kernel)) rfl
theorem wc_X5_number : Cond.code yX5_number cX5_number 4 (some .int) ∈ tG := tG_in (List.mem_of_getElem? (i := 1131) (by decide +kernel)) rfl
theorem wi_X5_addItem : Cond.instanceMethod yX5_addItem ∈ tG := tG_in (List.mem_of_getElem? (i := 1136) (by decide +kernel)) rfl
theorem wv_X5_addItem : Cond.selects RX5 yX5_addItem yX5_addItem ∈ tG := tG_in (List.mem_of_getElem? (i := 56) (by decide +kernel)) rfl
theorem wc_X5_addItem : Cond.code yX5_addItem cX5_addItem 6 (none : Option Jvm.ClassFile.FieldType) ∈ tG := tG_in (List.mem_of_getElem? (i := 1137) (by decide +kernel)) rfl
theorem wi_X5_takesWord : Cond.instanceMethod yX5_takesWord ∈ tG := tG_in (List.mem_of_getElem? (i := 1126) (by decide +kernel)) rfl
theorem wv_X5_takesWord : Cond.selects RX5 yX5_takesWord yX5_takesWord ∈ tG := tG_in (List.mem_of_getElem? (i := 54) (by decide +kernel)) rfl
theorem wc_X5_takesWord : Cond.code yX5_takesWord cX5_takesWord 3 (some .boolean) ∈ tG := tG_in (List.mem_of_getElem? (i := 1127) (by decide +kernel)) rfl
theorem wi_X5_readGuest : Cond.instanceMethod yX5_readGuest ∈ tG := tG_in (List.mem_of_getElem? (i := 1117) (by decide +kernel)) rfl
theorem wv_X5_readGuest : Cond.selects RX5 yX5_readGuest yX5_readGuest ∈ tG := tG_in (List.mem_of_getElem? (i := 52) (by decide +kernel)) rfl
theorem wc_X5_readGuest : Cond.code yX5_readGuest cX5_readGuest 4 (none : Option Jvm.ClassFile.FieldType) ∈ tG := tG_in (List.mem_of_getElem? (i := 1118) (by decide +kernel)) rfl
theorem wi_X5_readItem : Cond.instanceMethod yX5_readItem ∈ tG := tG_in (List.mem_of_getElem? (i := 1107) (by decide +kernel)) rfl
theorem wv_X5_readItem : Cond.selects RX5 yX5_readItem yX5_readItem ∈ tG := tG_in (List.mem_of_getElem? (i := 50) (by decide +kernel)) rfl
theorem wc_X5_readItem : Cond.code yX5_readItem cX5_readItem 3 (none : Option Jvm.ClassFile.FieldType) ∈ tG := tG_in (List.mem_of_getElem? (i := 1108) (by decide +kernel)) rfl
theorem wi_X5_isToldSo : Cond.instanceMethod yX5_isToldSo ∈ tG := tG_in (List.mem_of_getElem? (i := 1143) (by decide +kernel)) rfl
theorem wv_X5_isToldSo : Cond.selects RX5 yX5_isToldSo yX5_isToldSo ∈ tG := tG_in (List.mem_of_getElem? (i := 57) (by decide +kernel)) rfl
theorem wc_X5_isToldSo : Cond.code yX5_isToldSo cX5_isToldSo 5 (none : Option Jvm.ClassFile.FieldType) ∈ tG := tG_in (List.mem_of_getElem? (i := 1144) (by decide +kernel)) rfl
theorem wi_X5_text : Cond.instanceMethod yX5_text ∈ tG := tG_in (List.mem_of_getElem? (i := 1094) (by decide +kernel)) rfl
theorem wv_X5_text : Cond.selects RX5 yX5_text yX5_text ∈ tG := tG_in (List.mem_of_getElem? (i := 1095) (by decide +kernel)) rfl
theorem wc_X5_text : Cond.code yX5_text cX5_text 2 (some .int) ∈ tG := tG_in (List.mem_of_getElem? (i := 1096) (by decide +kernel)) rfl
theorem ws_X5_isSpot : Cond.static yX5_isSpot ∈ tG := tG_in (List.mem_of_getElem? (i := 1150) (by decide +kernel)) rfl
theorem wc_X5_isSpot : Cond.code yX5_isSpot cX5_isSpot 1 (some .boolean) ∈ tG := tG_in (List.mem_of_getElem? (i := 1151) (by decide +kernel)) rfl
theorem wi_X5_hold : Cond.instanceMethod yX5_hold ∈ tG := tG_in (List.mem_of_getElem? (i := 1146) (by decide +kernel)) rfl
theorem wv_X5_hold : Cond.selects RX5 yX5_hold yX5_hold ∈ tG := tG_in (List.mem_of_getElem? (i := 1147) (by decide +kernel)) rfl
theorem wc_X5_hold : Cond.code yX5_hold cX5_hold 3 (some .int) ∈ tG := tG_in (List.mem_of_getElem? (i := 1148) (by decide +kernel)) rfl
theorem wi_X5_as : Cond.instanceMethod yX5_as ∈ tG := tG_in (List.mem_of_getElem? (i := 1153) (by decide +kernel)) rfl
theorem wv_X5_as : Cond.selects RX5 yX5_as yX5_as ∈ tG := tG_in (List.mem_of_getElem? (i := 1154) (by decide +kernel)) rfl
theorem wc_X5_as : Cond.code yX5_as cX5_as 4 (some .int) ∈ tG := tG_in (List.mem_of_getElem? (i := 1155) (by decide +kernel)) rfl
theorem ws_X5_isSheet : Cond.static yX5_isSheet ∈ tG := tG_in (List.mem_of_getElem? (i := 1057) (by decide +kernel)) rfl
theorem wc_X5_isSheet : Cond.code yX5_isSheet cX5_isSheet 1 (some .boolean) ∈ tG := tG_in (List.mem_of_getElem? (i := 1058) (by decide +kernel)) rfl
theorem ws_X5_cutTo : Cond.static yX5_cutTo ∈ tG := tG_in (List.mem_of_getElem? (i := 1173) (by decide +kernel)) rfl
theorem wc_X5_cutTo : Cond.code yX5_cutTo cX5_cutTo 2 (some .int) ∈ tG := tG_in (List.mem_of_getElem? (i := 1174) (by decide +kernel)) rfl
theorem wi_X5_sheet : Cond.instanceMethod yX5_sheet ∈ tG := tG_in (List.mem_of_getElem? (i := 1164) (by decide +kernel)) rfl
theorem wv_X5_sheet : Cond.selects RX5 yX5_sheet yX5_sheet ∈ tG := tG_in (List.mem_of_getElem? (i := 1165) (by decide +kernel)) rfl
theorem wc_X5_sheet : Cond.code yX5_sheet cX5_sheet 5 (some .int) ∈ tG := tG_in (List.mem_of_getElem? (i := 1166) (by decide +kernel)) rfl
theorem wi_X5_write : Cond.instanceMethod yX5_write ∈ tG := tG_in (List.mem_of_getElem? (i := 1169) (by decide +kernel)) rfl
theorem wv_X5_write : Cond.selects RX5 yX5_write yX5_write ∈ tG := tG_in (List.mem_of_getElem? (i := 1170) (by decide +kernel)) rfl
theorem wc_X5_write : Cond.code yX5_write cX5_write 4 (some .int) ∈ tG := tG_in (List.mem_of_getElem? (i := 1171) (by decide +kernel)) rfl
theorem wi_X5_copy : Cond.instanceMethod yX5_copy ∈ tG := tG_in (List.mem_of_getElem? (i := 1176) (by decide +kernel)) rfl
theorem wv_X5_copy : Cond.selects RX5 yX5_copy yX5_copy ∈ tG := tG_in (List.mem_of_getElem? (i := 1177) (by decide +kernel)) rfl
theorem wc_X5_copy : Cond.code yX5_copy cX5_copy 7 (some .int) ∈ tG := tG_in (List.mem_of_getElem? (i := 1178) (by decide +kernel)) rfl
theorem ws_X5_above : Cond.static yX5_above ∈ tG := tG_in (List.mem_of_getElem? (i := 1160) (by decide +kernel)) rfl
theorem wc_X5_above : Cond.code yX5_above cX5_above 1 (some .int) ∈ tG := tG_in (List.mem_of_getElem? (i := 1161) (by decide +kernel)) rfl
theorem ws_X5_isUnder : Cond.static yX5_isUnder ∈ tG := tG_in (List.mem_of_getElem? (i := 1157) (by decide +kernel)) rfl
theorem wc_X5_isUnder : Cond.code yX5_isUnder cX5_isUnder 3 (some .boolean) ∈ tG := tG_in (List.mem_of_getElem? (i := 1158) (by decide +kernel)) rfl
theorem wi_X5_load : Cond.instanceMethod yX5_load ∈ tG := tG_in (List.mem_of_getElem? (i := 1180) (by decide +kernel)) rfl
theorem wv_X5_load : Cond.selects RX5 yX5_load yX5_load ∈ tG := tG_in (List.mem_of_getElem? (i := 1181) (by decide +kernel)) rfl
theorem wc_X5_load : Cond.code yX5_load cX5_load 3 (some .int) ∈ tG := tG_in (List.mem_of_getElem? (i := 1182) (by decide +kernel)) rfl
theorem wi_X5_judge : Cond.instanceMethod yX5_judge ∈ tG := tG_in (List.mem_of_getElem? (i := 1184) (by decide +kernel)) rfl
theorem wv_X5_judge : Cond.selects RX5 yX5_judge yX5_judge ∈ tG := tG_in (List.mem_of_getElem? (i := 1185) (by decide +kernel)) rfl
theorem wc_X5_judge : Cond.code yX5_judge cX5_judge 3 (some .int) ∈ tG := tG_in (List.mem_of_getElem? (i := 1186) (by decide +kernel)) rfl
theorem wi_X5_image : Cond.instanceMethod yX5_image ∈ tG := tG_in (List.mem_of_getElem? (i := 1188) (by decide +kernel)) rfl
theorem wv_X5_image : Cond.selects RX5 yX5_image yX5_image ∈ tG := tG_in (List.mem_of_getElem? (i := 1189) (by decide +kernel)) rfl
theorem wc_X5_image : Cond.code yX5_image cX5_image 1 (some .int) ∈ tG := tG_in (List.mem_of_getElem? (i := 1190) (by decide +kernel)) rfl
theorem wi_X5_undo : Cond.instanceMethod yX5_undo ∈ tG := tG_in (List.mem_of_getElem? (i := 1192) (by decide +kernel)) rfl
theorem wv_X5_undo : Cond.selects RX5 yX5_undo yX5_undo ∈ tG := tG_in (List.mem_of_getElem? (i := 1193) (by decide +kernel)) rfl
theorem wc_X5_undo : Cond.code yX5_undo cX5_undo 1 (some .int) ∈ tG := tG_in (List.mem_of_getElem? (i := 1194) (by decide +kernel)) rfl
theorem wi_X5_tear : Cond.instanceMethod yX5_tear ∈ tG := tG_in (List.mem_of_getElem? (i := 1196) (by decide +kernel)) rfl
theorem wv_X5_tear : Cond.selects RX5 yX5_tear yX5_tear ∈ tG := tG_in (List.mem_of_getElem? (i := 1197) (by decide +kernel)) rfl
theorem wc_X5_tear : Cond.code yX5_tear cX5_tear 2 (some .int) ∈ tG := tG_in (List.mem_of_getElem? (i := 1198) (by decide +kernel)) rfl
theorem wi_X5_count : Cond.instanceMethod yX5_count ∈ tG := tG_in (List.mem_of_getElem? (i := 1200) (by decide +kernel)) rfl
theorem wv_X5_count : Cond.selects RX5 yX5_count yX5_count ∈ tG := tG_in (List.mem_of_getElem? (i := 1201) (by decide +kernel)) rfl
theorem wc_X5_count : Cond.code yX5_count cX5_count 4 (some .int) ∈ tG := tG_in (List.mem_of_getElem? (i := 1202) (by decide +kernel)) rfl
theorem wi_X5_status : Cond.instanceMethod yX5_status ∈ tG := tG_in (List.mem_of_getElem? (i := 1204) (by decide +kernel)) rfl
theorem wv_X5_status : Cond.selects RX5 yX5_status yX5_status ∈ tG := tG_in (List.mem_of_getElem? (i := 1205) (by decide +kernel)) rfl
theorem wc_X5_status : Cond.code yX5_status cX5_status 2 (some .int) ∈ tG := tG_in (List.mem_of_getElem? (i := 1206) (by decide +kernel)) rfl
theorem ws_J6_bitCount_0f7a4 : Cond.static yJ6_bitCount_0f7a4 ∈ tG := tG_in (List.mem_of_getElem? (i := 453) (by decide +kernel)) rfl
theorem wc_J6_bitCount_0f7a4 : Cond.code yJ6_bitCount_0f7a4 cJ6_bitCount_0f7a4 1 (some .int) ∈ tG := tG_in (List.mem_of_getElem? (i := 454) (by decide +kernel)) rfl
theorem ws_J9_max_7cf53 : Cond.static yJ9_max_7cf53 ∈ tG := tG_in (List.mem_of_getElem? (i := 269) (by decide +kernel)) rfl
theorem wc_J9_max_7cf53 : Cond.code yJ9_max_7cf53 cJ9_max_7cf53 2 (some .int) ∈ tG := tG_in (List.mem_of_getElem? (i := 270) (by decide +kernel)) rfl
theorem ws_J9_min_7cf53 : Cond.static yJ9_min_7cf53 ∈ tG := tG_in (List.mem_of_getElem? (i := 361) (by decide +kernel)) rfl
theorem wc_J9_min_7cf53 : Cond.code yJ9_min_7cf53 cJ9_min_7cf53 2 (some .int) ∈ tG := tG_in (List.mem_of_getElem? (i := 362) (by decide +kernel)) rfl
theorem wi_J0_length_8abf5 : Cond.instanceMethod yJ0_length_8abf5 ∈ tG := tG_in (List.mem_of_getElem? (i := 578) (by decide +kernel)) rfl
theorem wv_J0_length_8abf5 : Cond.selects RJ0 yJ0_length_8abf5 yJ0_length_8abf5 ∈ tG := tG_in (List.mem_of_getElem? (i := 579) (by decide +kernel)) rfl
theorem wc_J0_length_8abf5 : Cond.code yJ0_length_8abf5 cJ0_length_8abf5 1 (some .int) ∈ tG := tG_in (List.mem_of_getElem? (i := 580) (by decide +kernel)) rfl
theorem wi_J0_charAt_5068e : Cond.instanceMethod yJ0_charAt_5068e ∈ tG := tG_in (List.mem_of_getElem? (i := 588) (by decide +kernel)) rfl
theorem wv_J0_charAt_5068e : Cond.selects RJ0 yJ0_charAt_5068e yJ0_charAt_5068e ∈ tG := tG_in (List.mem_of_getElem? (i := 589) (by decide +kernel)) rfl
theorem wc_J0_charAt_5068e : Cond.code yJ0_charAt_5068e cJ0_charAt_5068e 2 (some .char) ∈ tG := tG_in (List.mem_of_getElem? (i := 590) (by decide +kernel)) rfl
theorem wi_J0_coder_7d493 : Cond.instanceMethod yJ0_coder_7d493 ∈ tG := tG_in (List.mem_of_getElem? (i := 582) (by decide +kernel)) rfl
theorem wv_J0_coder_7d493 : Cond.selects RJ0 yJ0_coder_7d493 yJ0_coder_7d493 ∈ tG := tG_in (List.mem_of_getElem? (i := 583) (by decide +kernel)) rfl
theorem wc_J0_coder_7d493 : Cond.code yJ0_coder_7d493 cJ0_coder_7d493 1 (some .byte) ∈ tG := tG_in (List.mem_of_getElem? (i := 584) (by decide +kernel)) rfl
theorem wi_J0_isLatin1_aae02 : Cond.instanceMethod yJ0_isLatin1_aae02 ∈ tG := tG_in (List.mem_of_getElem? (i := 592) (by decide +kernel)) rfl
theorem wv_J0_isLatin1_aae02 : Cond.selects RJ0 yJ0_isLatin1_aae02 yJ0_isLatin1_aae02 ∈ tG := tG_in (List.mem_of_getElem? (i := 593) (by decide +kernel)) rfl
theorem wc_J0_isLatin1_aae02 : Cond.code yJ0_isLatin1_aae02 cJ0_isLatin1_aae02 1 (some .boolean) ∈ tG := tG_in (List.mem_of_getElem? (i := 594) (by decide +kernel)) rfl
theorem ws_J0_checkIndex_df160 : Cond.static yJ0_checkIndex_df160 ∈ tG := tG_in (List.mem_of_getElem? (i := 599) (by decide +kernel)) rfl
theorem wc_J0_checkIndex_df160 : Cond.code yJ0_checkIndex_df160 cJ0_checkIndex_df160 2 (none : Option Jvm.ClassFile.FieldType) ∈ tG := tG_in (List.mem_of_getElem? (i := 600) (by decide +kernel)) rfl
theorem ws_J1_charAt_3b067 : Cond.static yJ1_charAt_3b067 ∈ tG := tG_in (List.mem_of_getElem? (i := 596) (by decide +kernel)) rfl
theorem wc_J1_charAt_3b067 : Cond.code yJ1_charAt_3b067 cJ1_charAt_3b067 2 (some .char) ∈ tG := tG_in (List.mem_of_getElem? (i := 597) (by decide +kernel)) rfl
theorem ws_J7_fill_53178 : Cond.static yJ7_fill_53178 ∈ tG := tG_in (List.mem_of_getElem? (i := 88) (by decide +kernel)) rfl
theorem wc_J7_fill_53178 : Cond.code yJ7_fill_53178 cJ7_fill_53178 4 (none : Option Jvm.ClassFile.FieldType) ∈ tG := tG_in (List.mem_of_getElem? (i := 89) (by decide +kernel)) rfl
theorem ws_J3_checkIndex_8e157 : Cond.static yJ3_checkIndex_8e157 ∈ tG := tG_in (List.mem_of_getElem? (i := 604) (by decide +kernel)) rfl
theorem wc_J3_checkIndex_8e157 : Cond.code yJ3_checkIndex_8e157 cJ3_checkIndex_8e157 3 (some .int) ∈ tG := tG_in (List.mem_of_getElem? (i := 605) (by decide +kernel)) rfl
theorem wn_X3 : Cond.initialized RX3 ∈ tG := tG_in (List.mem_of_getElem? (i := 63) (by decide +kernel)) rfl
theorem wn_J9 : Cond.initialized RJ9 ∈ tG := tG_in (List.mem_of_getElem? (i := 65) (by decide +kernel)) rfl
theorem wn_X0 : Cond.initialized RX0 ∈ tG := tG_in (List.mem_of_getElem? (i := 60) (by decide +kernel)) rfl
theorem wn_J7 : Cond.initialized RJ7 ∈ tG := tG_in (List.mem_of_getElem? (i := 61) (by decide +kernel)) rfl
theorem wn_J3 : Cond.initialized RJ3 ∈ tG := tG_in (List.mem_of_getElem? (i := 71) (by decide +kernel)) rfl
theorem wn_X5 : Cond.initialized RX5 ∈ tG := tG_in (List.mem_of_getElem? (i := 64) (by decide +kernel)) rfl
theorem wn_J1 : Cond.initialized RJ1 ∈ tG := tG_in (List.mem_of_getElem? (i := 70) (by decide +kernel)) rfl
theorem wn_X2 : Cond.initialized RX2 ∈ tG := tG_in (List.mem_of_getElem? (i := 62) (by decide +kernel)) rfl
theorem wn_X4 : Cond.initialized RX4 ∈ tG := tG_in (List.mem_of_getElem? (i := 59) (by decide +kernel)) rfl
theorem wn_X1 : Cond.initialized RX1 ∈ tG := tG_in (List.mem_of_getElem? (i := 66) (by decide +kernel)) rfl
theorem wn_J6 : Cond.initialized RJ6 ∈ tG := tG_in (List.mem_of_getElem? (i := 68) (by decide +kernel)) rfl
theorem wn_J0 : Cond.initialized RJ0 ∈ tG := tG_in (List.mem_of_getElem? (i := 69) (by decide +kernel)) rfl
theorem gc_L_9 : g_I RL 9 yX4_init cX4_init 1 0 := ⟨tG_in (List.mem_of_getElem? (i := 75) (by decide +kernel)) rfl, wi_X4_init, wn_X4, wc_X4_init, by decide +kernel, by decide +kernel, rfl, by decide +kernel⟩
theorem gc_X4_9 : g_I RX4 9 yX0_init cX0_init 1 0 := ⟨tG_in (List.mem_of_getElem? (i := 83) (by decide +kernel)) rfl, wi_X0_init, wn_X0, wc_X0_init, by decide +kernel, by decide +kernel, rfl, by decide +kernel⟩
theorem gc_X0_56 : g_S RX0 56 yJ7_fill_53178 cJ7_fill_53178 4 (none : Option Jvm.ClassFile.FieldType) 2 := ⟨tG_in (List.mem_of_getElem? (i := 87) (by decide +kernel)) rfl, ws_J7_fill_53178, wn_J7, wc_J7_fill_53178, by decide +kernel, by decide +kernel, by decide +kernel⟩
theorem gc_L_13 : g_V RL 13 yX4_set cX4_set 4 (some .int) 2 := ⟨tG_in (List.mem_of_getElem? (i := 225) (by decide +kernel)) rfl, wi_X4_set, wv_X4_set, wn_X4, wc_X4_set, by decide +kernel, by decide +kernel, by decide +kernel⟩
theorem gc_X4_44 : g_S RX4 44 yX4_within cX4_within 3 (some .boolean) 3 := ⟨tG_in (List.mem_of_getElem? (i := 229) (by decide +kernel)) rfl, ws_X4_within, wn_X4, wc_X4_within, by decide +kernel, by decide +kernel, by decide +kernel⟩
theorem gc_X4_51 : g_V RX4 51 yX4_found cX4_found 2 (some .int) 1 := ⟨tG_in (List.mem_of_getElem? (i := 234) (by decide +kernel)) rfl, wi_X4_found, wv_X4_found, wn_X4, wc_X4_found, by decide +kernel, by decide +kernel, by decide +kernel⟩
theorem gc_L_18 : g_V RL 18 yX4_cell cX4_cell 4 (some .int) 2 := ⟨tG_in (List.mem_of_getElem? (i := 239) (by decide +kernel)) rfl, wi_X4_cell, wv_X4_cell, wn_X4, wc_X4_cell, by decide +kernel, by decide +kernel, by decide +kernel⟩
theorem gc_X4_65 : g_S RX4 65 yX4_isCell cX4_isCell 1 (some .boolean) 1 := ⟨tG_in (List.mem_of_getElem? (i := 243) (by decide +kernel)) rfl, ws_X4_isCell, wn_X4, wc_X4_isCell, by decide +kernel, by decide +kernel, by decide +kernel⟩
theorem gc_L_22 : g_V RL 22 yX4_measure cX4_measure 4 (some .int) 2 := ⟨tG_in (List.mem_of_getElem? (i := 246) (by decide +kernel)) rfl, wi_X4_measure, wv_X4_measure, wn_X4, wc_X4_measure, by decide +kernel, by decide +kernel, by decide +kernel⟩
theorem gc_X4_72 : g_S RX4 72 yX4_isListed cX4_isListed 1 (some .boolean) 1 := ⟨tG_in (List.mem_of_getElem? (i := 250) (by decide +kernel)) rfl, ws_X4_isListed, wn_X4, wc_X4_isListed, by decide +kernel, by decide +kernel, by decide +kernel⟩
theorem gc_X4_75 : g_S RX4 75 yX4_isMeasure cX4_isMeasure 1 (some .boolean) 1 := ⟨tG_in (List.mem_of_getElem? (i := 253) (by decide +kernel)) rfl, ws_X4_isMeasure, wn_X4, wc_X4_isMeasure, by decide +kernel, by decide +kernel, by decide +kernel⟩
theorem gc_L_26 : g_V RL 26 yX4_listed cX4_listed 2 (some .int) 1 := ⟨tG_in (List.mem_of_getElem? (i := 256) (by decide +kernel)) rfl, wi_X4_listed, wv_X4_listed, wn_X4, wc_X4_listed, by decide +kernel, by decide +kernel, by decide +kernel⟩
theorem gc_L_31 : g_V RL 31 yX4_wide cX4_wide 3 (some .int) 2 := ⟨tG_in (List.mem_of_getElem? (i := 260) (by decide +kernel)) rfl, wi_X4_wide, wv_X4_wide, wn_X4, wc_X4_wide, by decide +kernel, by decide +kernel, by decide +kernel⟩
theorem gc_X4_81 : g_V RX4 81 yX0_width cX0_width 3 (some .int) 2 := ⟨tG_in (List.mem_of_getElem? (i := 264) (by decide +kernel)) rfl, wi_X0_width, wv_X0_width, wn_X0, wc_X0_width, by decide +kernel, by decide +kernel, by decide +kernel⟩
theorem gc_X0_82 : g_S RX0 82 yJ9_max_7cf53 cJ9_max_7cf53 2 (some .int) 2 := ⟨tG_in (List.mem_of_getElem? (i := 268) (by decide +kernel)) rfl, ws_J9_max_7cf53, wn_J9, wc_J9_max_7cf53, by decide +kernel, by decide +kernel, by decide +kernel⟩
theorem gc_L_35 : g_V RL 35 yX4_guest cX4_guest 3 (some .int) 2 := ⟨tG_in (List.mem_of_getElem? (i := 271) (by decide +kernel)) rfl, wi_X4_guest, wv_X4_guest, wn_X4, wc_X4_guest, by decide +kernel, by decide +kernel, by decide +kernel⟩
theorem gc_X4_85 : g_S RX4 85 yX4_isKind cX4_isKind 1 (some .boolean) 1 := ⟨tG_in (List.mem_of_getElem? (i := 275) (by decide +kernel)) rfl, ws_X4_isKind, wn_X4, wc_X4_isKind, by decide +kernel, by decide +kernel, by decide +kernel⟩
theorem gc_X4_88 : g_V RX4 88 yX0_isFull cX0_isFull 1 (some .boolean) 0 := ⟨tG_in (List.mem_of_getElem? (i := 278) (by decide +kernel)) rfl, wi_X0_isFull, wv_X0_isFull, wn_X0, wc_X0_isFull, by decide +kernel, by decide +kernel, by decide +kernel⟩
theorem gc_X4_92 : g_V RX4 92 yX0_add cX0_add 3 (some .int) 2 := ⟨tG_in (List.mem_of_getElem? (i := 282) (by decide +kernel)) rfl, wi_X0_add, wv_X0_add, wn_X0, wc_X0_add, by decide +kernel, by decide +kernel, by decide +kernel⟩
theorem gc_X0_68 : g_V RX0 68 yX0_isFull cX0_isFull 1 (some .boolean) 0 := ⟨tG_in (List.mem_of_getElem? (i := 286) (by decide +kernel)) rfl, wi_X0_isFull, wv_X0_isFull, wn_X0, wc_X0_isFull, by decide +kernel, by decide +kernel, by decide +kernel⟩
theorem gc_L_39 : g_V RL 39 yX4_of cX4_of 3 (some .int) 2 := ⟨tG_in (List.mem_of_getElem? (i := 287) (by decide +kernel)) rfl, wi_X4_of, wv_X4_of, wn_X4, wc_X4_of, by decide +kernel, by decide +kernel, by decide +kernel⟩
theorem gc_X4_95 : g_V RX4 95 yX4_isGuest cX4_isGuest 2 (some .boolean) 1 := ⟨tG_in (List.mem_of_getElem? (i := 291) (by decide +kernel)) rfl, wi_X4_isGuest, wv_X4_isGuest, wn_X4, wc_X4_isGuest, by decide +kernel, by decide +kernel, by decide +kernel⟩
theorem gc_X4_98 : g_V RX4 98 yX0_needs cX0_needs 2 (some .int) 1 := ⟨tG_in (List.mem_of_getElem? (i := 295) (by decide +kernel)) rfl, wi_X0_needs, wv_X0_needs, wn_X0, wc_X0_needs, by decide +kernel, by decide +kernel, by decide +kernel⟩
theorem gc_X0_72 : g_S RX0 72 yX1_needs cX1_needs 6 (some .int) 4 := ⟨tG_in (List.mem_of_getElem? (i := 299) (by decide +kernel)) rfl, ws_X1_needs, wn_X1, wc_X1_needs, by decide +kernel, by decide +kernel, by decide +kernel⟩
theorem gc_X1_7 : g_S RX1 7 yJ9_max_7cf53 cJ9_max_7cf53 2 (some .int) 2 := ⟨tG_in (List.mem_of_getElem? (i := 302) (by decide +kernel)) rfl, ws_J9_max_7cf53, wn_J9, wc_J9_max_7cf53, by decide +kernel, by decide +kernel, by decide +kernel⟩
theorem gc_X4_104 : g_S RX4 104 yX1_steps cX1_steps 1 (some .int) 1 := ⟨tG_in (List.mem_of_getElem? (i := 303) (by decide +kernel)) rfl, ws_X1_steps, wn_X1, wc_X1_steps, by decide +kernel, by decide +kernel, by decide +kernel⟩
theorem gc_X4_112 : g_S RX4 112 yX1_laughs cX1_laughs 2 (some .int) 2 := ⟨tG_in (List.mem_of_getElem? (i := 306) (by decide +kernel)) rfl, ws_X1_laughs, wn_X1, wc_X1_laughs, by decide +kernel, by decide +kernel, by decide +kernel⟩
theorem gc_X4_115 : g_S RX4 115 yX1_laces cX1_laces 1 (some .int) 1 := ⟨tG_in (List.mem_of_getElem? (i := 309) (by decide +kernel)) rfl, ws_X1_laces, wn_X1, wc_X1_laces, by decide +kernel, by decide +kernel, by decide +kernel⟩
theorem gc_X4_118 : g_V RX4 118 yX0_trait cX0_trait 2 (some (.array .int)) 1 := ⟨tG_in (List.mem_of_getElem? (i := 312) (by decide +kernel)) rfl, wi_X0_trait, wv_X0_trait, wn_X0, wc_X0_trait, by decide +kernel, by decide +kernel, by decide +kernel⟩
theorem gc_L_43 : g_V RL 43 yX4_change cX4_change 6 (some .int) 3 := ⟨tG_in (List.mem_of_getElem? (i := 316) (by decide +kernel)) rfl, wi_X4_change, wv_X4_change, wn_X4, wc_X4_change, by decide +kernel, by decide +kernel, by decide +kernel⟩
theorem gc_L_48 : g_V RL 48 yX4_reach cX4_reach 3 (some .int) 2 := ⟨tG_in (List.mem_of_getElem? (i := 324) (by decide +kernel)) rfl, wi_X4_reach, wv_X4_reach, wn_X4, wc_X4_reach, by decide +kernel, by decide +kernel, by decide +kernel⟩
theorem gc_X4_128 : g_V RX4 128 yX0_reachable cX0_reachable 6 (some .int) 2 := ⟨tG_in (List.mem_of_getElem? (i := 328) (by decide +kernel)) rfl, wi_X0_reachable, wv_X0_reachable, wn_X0, wc_X0_reachable, by decide +kernel, by decide +kernel, by decide +kernel⟩
theorem gc_X0_88 : g_V RX0 88 yX0_needs cX0_needs 2 (some .int) 1 := ⟨tG_in (List.mem_of_getElem? (i := 332) (by decide +kernel)) rfl, wi_X0_needs, wv_X0_needs, wn_X0, wc_X0_needs, by decide +kernel, by decide +kernel, by decide +kernel⟩
theorem gc_X0_91 : g_V RX0 91 yX0_width cX0_width 3 (some .int) 2 := ⟨tG_in (List.mem_of_getElem? (i := 333) (by decide +kernel)) rfl, wi_X0_width, wv_X0_width, wn_X0, wc_X0_width, by decide +kernel, by decide +kernel, by decide +kernel⟩
theorem gc_L_52 : g_V RL 52 yX4_go cX4_go 2 (some .int) 1 := ⟨tG_in (List.mem_of_getElem? (i := 334) (by decide +kernel)) rfl, wi_X4_go, wv_X4_go, wn_X4, wc_X4_go, by decide +kernel, by decide +kernel, by decide +kernel⟩
theorem gc_X4_132 : g_V RX4 132 yX0_passHours cX0_passHours 3 (none : Option Jvm.ClassFile.FieldType) 1 := ⟨tG_in (List.mem_of_getElem? (i := 339) (by decide +kernel)) rfl, wi_X0_passHours, wv_X0_passHours, wn_X0, wc_X0_passHours, by decide +kernel, by decide +kernel, by decide +kernel⟩
theorem gc_X0_101 : g_V RX0 101 yX0_passHour cX0_passHour 3 (none : Option Jvm.ClassFile.FieldType) 0 := ⟨tG_in (List.mem_of_getElem? (i := 343) (by decide +kernel)) rfl, wi_X0_passHour, wv_X0_passHour, wn_X0, wc_X0_passHour, by decide +kernel, by decide +kernel, by decide +kernel⟩
theorem gc_X0_104 : g_V RX0 104 yX0_measureNow cX0_measureNow 1 (some .int) 0 := ⟨tG_in (List.mem_of_getElem? (i := 347) (by decide +kernel)) rfl, wi_X0_measureNow, wv_X0_measureNow, wn_X0, wc_X0_measureNow, by decide +kernel, by decide +kernel, by decide +kernel⟩
theorem gc_X0_78 : g_V RX0 78 yX0_placeNow cX0_placeNow 1 (some .int) 0 := ⟨tG_in (List.mem_of_getElem? (i := 351) (by decide +kernel)) rfl, wi_X0_placeNow, wv_X0_placeNow, wn_X0, wc_X0_placeNow, by decide +kernel, by decide +kernel, by decide +kernel⟩
theorem gc_X0_107 : g_V RX0 107 yX0_walk cX0_walk 7 (none : Option Jvm.ClassFile.FieldType) 2 := ⟨tG_in (List.mem_of_getElem? (i := 355) (by decide +kernel)) rfl, wi_X0_walk, wv_X0_walk, wn_X0, wc_X0_walk, by decide +kernel, by decide +kernel, by decide +kernel⟩
theorem gc_X0_119 : g_S RX0 119 yX1_steps cX1_steps 1 (some .int) 1 := ⟨tG_in (List.mem_of_getElem? (i := 359) (by decide +kernel)) rfl, ws_X1_steps, wn_X1, wc_X1_steps, by decide +kernel, by decide +kernel, by decide +kernel⟩
theorem gc_X0_116 : g_S RX0 116 yJ9_min_7cf53 cJ9_min_7cf53 2 (some .int) 2 := ⟨tG_in (List.mem_of_getElem? (i := 360) (by decide +kernel)) rfl, ws_J9_min_7cf53, wn_J9, wc_J9_min_7cf53, by decide +kernel, by decide +kernel, by decide +kernel⟩
theorem gc_X0_111 : g_V RX0 111 yX0_pull cX0_pull 5 (none : Option Jvm.ClassFile.FieldType) 1 := ⟨tG_in (List.mem_of_getElem? (i := 363) (by decide +kernel)) rfl, wi_X0_pull, wv_X0_pull, wn_X0, wc_X0_pull, by decide +kernel, by decide +kernel, by decide +kernel⟩
theorem gc_X0_122 : g_S RX0 122 yX1_laughs cX1_laughs 2 (some .int) 2 := ⟨tG_in (List.mem_of_getElem? (i := 367) (by decide +kernel)) rfl, ws_X1_laughs, wn_X1, wc_X1_laughs, by decide +kernel, by decide +kernel, by decide +kernel⟩
theorem gc_X0_125 : g_S RX0 125 yX1_laces cX1_laces 1 (some .int) 1 := ⟨tG_in (List.mem_of_getElem? (i := 368) (by decide +kernel)) rfl, ws_X1_laces, wn_X1, wc_X1_laces, by decide +kernel, by decide +kernel, by decide +kernel⟩
theorem gc_L_56 : g_V RL 56 yX4_now cX4_now 2 (some .int) 1 := ⟨tG_in (List.mem_of_getElem? (i := 370) (by decide +kernel)) rfl, wi_X4_now, wv_X4_now, wn_X4, wc_X4_now, by decide +kernel, by decide +kernel, by decide +kernel⟩
theorem gc_X4_136 : g_V RX4 136 yX0_measureNow cX0_measureNow 1 (some .int) 0 := ⟨tG_in (List.mem_of_getElem? (i := 374) (by decide +kernel)) rfl, wi_X0_measureNow, wv_X0_measureNow, wn_X0, wc_X0_measureNow, by decide +kernel, by decide +kernel, by decide +kernel⟩
theorem gc_X4_140 : g_V RX4 140 yX0_thoseStuck cX0_thoseStuck 3 (some .int) 0 := ⟨tG_in (List.mem_of_getElem? (i := 375) (by decide +kernel)) rfl, wi_X0_thoseStuck, wv_X0_thoseStuck, wn_X0, wc_X0_thoseStuck, by decide +kernel, by decide +kernel, by decide +kernel⟩
theorem gc_X4_143 : g_V RX4 143 yX0_thoseAtAim cX0_thoseAtAim 3 (some .int) 0 := ⟨tG_in (List.mem_of_getElem? (i := 379) (by decide +kernel)) rfl, wi_X0_thoseAtAim, wv_X0_thoseAtAim, wn_X0, wc_X0_thoseAtAim, by decide +kernel, by decide +kernel, by decide +kernel⟩
theorem gc_X4_146 : g_V RX4 146 yX0_thoseInHall cX0_thoseInHall 3 (some .int) 0 := ⟨tG_in (List.mem_of_getElem? (i := 383) (by decide +kernel)) rfl, wi_X0_thoseInHall, wv_X0_thoseInHall, wn_X0, wc_X0_thoseInHall, by decide +kernel, by decide +kernel, by decide +kernel⟩
theorem gc_X4_149 : g_V RX4 149 yX0_closedCells cX0_closedCells 4 (some .int) 0 := ⟨tG_in (List.mem_of_getElem? (i := 387) (by decide +kernel)) rfl, wi_X0_closedCells, wv_X0_closedCells, wn_X0, wc_X0_closedCells, by decide +kernel, by decide +kernel, by decide +kernel⟩
theorem gc_L_60 : g_V RL 60 yX4_ahead cX4_ahead 4 (some .int) 3 := ⟨tG_in (List.mem_of_getElem? (i := 391) (by decide +kernel)) rfl, wi_X4_ahead, wv_X4_ahead, wn_X4, wc_X4_ahead, by decide +kernel, by decide +kernel, by decide +kernel⟩
theorem gc_X4_152 : g_V RX4 152 yX4_startTrial cX4_startTrial 1 (none : Option Jvm.ClassFile.FieldType) 0 := ⟨tG_in (List.mem_of_getElem? (i := 395) (by decide +kernel)) rfl, wi_X4_startTrial, wv_X4_startTrial, wn_X4, wc_X4_startTrial, by decide +kernel, by decide +kernel, by decide +kernel⟩
theorem gc_X4_221 : g_V RX4 221 yX0_become cX0_become 2 (none : Option Jvm.ClassFile.FieldType) 1 := ⟨tG_in (List.mem_of_getElem? (i := 399) (by decide +kernel)) rfl, wi_X0_become, wv_X0_become, wn_X0, wc_X0_become, by decide +kernel, by decide +kernel, by decide +kernel⟩
theorem gc_L_64 : g_V RL 64 yX4_strain cX4_strain 2 (some .int) 1 := ⟨tG_in (List.mem_of_getElem? (i := 406) (by decide +kernel)) rfl, wi_X4_strain, wv_X4_strain, wn_X4, wc_X4_strain, by decide +kernel, by decide +kernel, by decide +kernel⟩
theorem gc_L_68 : g_V RL 68 yX4_snaps cX4_snaps 2 (some .int) 0 := ⟨tG_in (List.mem_of_getElem? (i := 410) (by decide +kernel)) rfl, wi_X4_snaps, wv_X4_snaps, wn_X4, wc_X4_snaps, by decide +kernel, by decide +kernel, by decide +kernel⟩
theorem gc_X4_155 : g_V RX4 155 yX0_passHour cX0_passHour 3 (none : Option Jvm.ClassFile.FieldType) 0 := ⟨tG_in (List.mem_of_getElem? (i := 414) (by decide +kernel)) rfl, wi_X0_passHour, wv_X0_passHour, wn_X0, wc_X0_passHour, by decide +kernel, by decide +kernel, by decide +kernel⟩
theorem gc_L_73 : g_V RL 73 yX4_comes cX4_comes 4 (some .int) 2 := ⟨tG_in (List.mem_of_getElem? (i := 415) (by decide +kernel)) rfl, wi_X4_comes, wv_X4_comes, wn_X4, wc_X4_comes, by decide +kernel, by decide +kernel, by decide +kernel⟩
theorem gc_L_77 : g_V RL 77 yX4_stuck cX4_stuck 4 (some .int) 2 := ⟨tG_in (List.mem_of_getElem? (i := 419) (by decide +kernel)) rfl, wi_X4_stuck, wv_X4_stuck, wn_X4, wc_X4_stuck, by decide +kernel, by decide +kernel, by decide +kernel⟩
theorem gc_L_81 : g_V RL 81 yX4_tight cX4_tight 4 (some .int) 2 := ⟨tG_in (List.mem_of_getElem? (i := 423) (by decide +kernel)) rfl, wi_X4_tight, wv_X4_tight, wn_X4, wc_X4_tight, by decide +kernel, by decide +kernel, by decide +kernel⟩
theorem gc_X4_164 : g_V RX4 164 yX0_holdsFor cX0_holdsFor 3 (some .boolean) 1 := ⟨tG_in (List.mem_of_getElem? (i := 427) (by decide +kernel)) rfl, wi_X0_holdsFor, wv_X0_holdsFor, wn_X0, wc_X0_holdsFor, by decide +kernel, by decide +kernel, by decide +kernel⟩
theorem gc_L_85 : g_V RL 85 yX4_measureFor cX4_measureFor 4 (some .int) 2 := ⟨tG_in (List.mem_of_getElem? (i := 431) (by decide +kernel)) rfl, wi_X4_measureFor, wv_X4_measureFor, wn_X4, wc_X4_measureFor, by decide +kernel, by decide +kernel, by decide +kernel⟩
theorem gc_X4_167 : g_V RX4 167 yX0_canReach cX0_canReach 4 (some .boolean) 3 := ⟨tG_in (List.mem_of_getElem? (i := 435) (by decide +kernel)) rfl, wi_X0_canReach, wv_X0_canReach, wn_X0, wc_X0_canReach, by decide +kernel, by decide +kernel, by decide +kernel⟩
theorem gc_X0_94 : g_V RX0 94 yX0_reachable cX0_reachable 6 (some .int) 2 := ⟨tG_in (List.mem_of_getElem? (i := 439) (by decide +kernel)) rfl, wi_X0_reachable, wv_X0_reachable, wn_X0, wc_X0_reachable, by decide +kernel, by decide +kernel, by decide +kernel⟩
theorem gc_L_89 : g_V RL 89 yX4_kindFor cX4_kindFor 6 (some .int) 2 := ⟨tG_in (List.mem_of_getElem? (i := 440) (by decide +kernel)) rfl, wi_X4_kindFor, wv_X4_kindFor, wn_X4, wc_X4_kindFor, by decide +kernel, by decide +kernel, by decide +kernel⟩
theorem gc_L_93 : g_V RL 93 yX4_sizeFor cX4_sizeFor 4 (some .int) 2 := ⟨tG_in (List.mem_of_getElem? (i := 444) (by decide +kernel)) rfl, wi_X4_sizeFor, wv_X4_sizeFor, wn_X4, wc_X4_sizeFor, by decide +kernel, by decide +kernel, by decide +kernel⟩
theorem gc_L_97 : g_V RL 97 yX4_send cX4_send 5 (some .int) 1 := ⟨tG_in (List.mem_of_getElem? (i := 448) (by decide +kernel)) rfl, wi_X4_send, wv_X4_send, wn_X4, wc_X4_send, by decide +kernel, by decide +kernel, by decide +kernel⟩
theorem gc_X4_179 : g_S RX4 179 yJ6_bitCount_0f7a4 cJ6_bitCount_0f7a4 1 (some .int) 1 := ⟨tG_in (List.mem_of_getElem? (i := 452) (by decide +kernel)) rfl, ws_J6_bitCount_0f7a4, wn_J6, wc_J6_bitCount_0f7a4, by decide +kernel, by decide +kernel, by decide +kernel⟩
theorem gc_X4_184 : g_V RX4 184 yX0_sendHome cX0_sendHome 3 (none : Option Jvm.ClassFile.FieldType) 1 := ⟨tG_in (List.mem_of_getElem? (i := 458) (by decide +kernel)) rfl, wi_X0_sendHome, wv_X0_sendHome, wn_X0, wc_X0_sendHome, by decide +kernel, by decide +kernel, by decide +kernel⟩
theorem gc_L_101 : g_V RL 101 yX4_fits cX4_fits 6 (some .int) 2 := ⟨tG_in (List.mem_of_getElem? (i := 462) (by decide +kernel)) rfl, wi_X4_fits, wv_X4_fits, wn_X4, wc_X4_fits, by decide +kernel, by decide +kernel, by decide +kernel⟩
theorem gc_X4_187 : g_V RX4 187 yX4_lackOfTold cX4_lackOfTold 4 (some .int) 2 := ⟨tG_in (List.mem_of_getElem? (i := 466) (by decide +kernel)) rfl, wi_X4_lackOfTold, wv_X4_lackOfTold, wn_X4, wc_X4_lackOfTold, by decide +kernel, by decide +kernel, by decide +kernel⟩
theorem gc_X4_244 : g_V RX4 244 yX4_lackOfSheet cX4_lackOfSheet 2 (some .int) 1 := ⟨tG_in (List.mem_of_getElem? (i := 470) (by decide +kernel)) rfl, wi_X4_lackOfSheet, wv_X4_lackOfSheet, wn_X4, wc_X4_lackOfSheet, by decide +kernel, by decide +kernel, by decide +kernel⟩
theorem gc_X4_234 : g_S RX4 234 yX2_isSheet cX2_isSheet 1 (some .boolean) 1 := ⟨tG_in (List.mem_of_getElem? (i := 474) (by decide +kernel)) rfl, ws_X2_isSheet, wn_X2, wc_X2_isSheet, by decide +kernel, by decide +kernel, by decide +kernel⟩
theorem gc_X4_253 : g_V RX4 253 yX2_isMissing cX2_isMissing 2 (some .boolean) 1 := ⟨tG_in (List.mem_of_getElem? (i := 477) (by decide +kernel)) rfl, wi_X2_isMissing, wv_X2_isMissing, wn_X2, wc_X2_isMissing, by decide +kernel, by decide +kernel, by decide +kernel⟩
theorem gc_X4_190 : g_V RX4 190 yX0_placeNow cX0_placeNow 1 (some .int) 0 := ⟨tG_in (List.mem_of_getElem? (i := 481) (by decide +kernel)) rfl, wi_X0_placeNow, wv_X0_placeNow, wn_X0, wc_X0_placeNow, by decide +kernel, by decide +kernel, by decide +kernel⟩
theorem gc_X4_193 : g_V RX4 193 yX4_trialGoesAsTold cX4_trialGoesAsTold 5 (some .boolean) 2 := ⟨tG_in (List.mem_of_getElem? (i := 482) (by decide +kernel)) rfl, wi_X4_trialGoesAsTold, wv_X4_trialGoesAsTold, wn_X4, wc_X4_trialGoesAsTold, by decide +kernel, by decide +kernel, by decide +kernel⟩
theorem gc_L_105 : g_V RL 105 yX4_kinds cX4_kinds 6 (some .int) 2 := ⟨tG_in (List.mem_of_getElem? (i := 486) (by decide +kernel)) rfl, wi_X4_kinds, wv_X4_kinds, wn_X4, wc_X4_kinds, by decide +kernel, by decide +kernel, by decide +kernel⟩
theorem gc_L_109 : g_V RL 109 yX4_party cX4_party 3 (some .int) 1 := ⟨tG_in (List.mem_of_getElem? (i := 490) (by decide +kernel)) rfl, wi_X4_party, wv_X4_party, wn_X4, wc_X4_party, by decide +kernel, by decide +kernel, by decide +kernel⟩
theorem gc_X4_197 : g_V RX4 197 yX0_passPartyHour cX0_passPartyHour 2 (none : Option Jvm.ClassFile.FieldType) 0 := ⟨tG_in (List.mem_of_getElem? (i := 494) (by decide +kernel)) rfl, wi_X0_passPartyHour, wv_X0_passPartyHour, wn_X0, wc_X0_passPartyHour, by decide +kernel, by decide +kernel, by decide +kernel⟩
theorem gc_X0_129 : g_V RX0 129 yX0_draw cX0_draw 1 (some .int) 0 := ⟨tG_in (List.mem_of_getElem? (i := 498) (by decide +kernel)) rfl, wi_X0_draw, wv_X0_draw, wn_X0, wc_X0_draw, by decide +kernel, by decide +kernel, by decide +kernel⟩
theorem gc_L_113 : g_V RL 113 yX4_odds cX4_odds 11 (some .long) 3 := ⟨tG_in (List.mem_of_getElem? (i := 503) (by decide +kernel)) rfl, wi_X4_odds, wv_X4_odds, wn_X4, wc_X4_odds, by decide +kernel, by decide +kernel, by decide +kernel⟩
theorem gc_X4_200 : g_V RX4 200 yX0_measuresToAim cX0_measuresToAim 4 (some .int) 1 := ⟨tG_in (List.mem_of_getElem? (i := 507) (by decide +kernel)) rfl, wi_X0_measuresToAim, wv_X0_measuresToAim, wn_X0, wc_X0_measuresToAim, by decide +kernel, by decide +kernel, by decide +kernel⟩
theorem gc_X0_97 : g_V RX0 97 yX0_canReach cX0_canReach 4 (some .boolean) 3 := ⟨tG_in (List.mem_of_getElem? (i := 511) (by decide +kernel)) rfl, wi_X0_canReach, wv_X0_canReach, wn_X0, wc_X0_canReach, by decide +kernel, by decide +kernel, by decide +kernel⟩
theorem gc_X4_203 : g_S RX4 203 yX4_commonDivisor cX4_commonDivisor 6 (some .int) 2 := ⟨tG_in (List.mem_of_getElem? (i := 512) (by decide +kernel)) rfl, ws_X4_commonDivisor, wn_X4, wc_X4_commonDivisor, by decide +kernel, by decide +kernel, by decide +kernel⟩
theorem gc_L_118 : g_V RL 118 yX4_seed cX4_seed 3 (some .int) 1 := ⟨tG_in (List.mem_of_getElem? (i := 515) (by decide +kernel)) rfl, wi_X4_seed, wv_X4_seed, wn_X4, wc_X4_seed, by decide +kernel, by decide +kernel, by decide +kernel⟩
theorem gc_L_122 : g_V RL 122 yX4_feed cX4_feed 4 (some .int) 2 := ⟨tG_in (List.mem_of_getElem? (i := 519) (by decide +kernel)) rfl, wi_X4_feed, wv_X4_feed, wn_X4, wc_X4_feed, by decide +kernel, by decide +kernel, by decide +kernel⟩
theorem gc_X4_209 : g_V RX4 209 yX3_hasRoomFor cX3_hasRoomFor 2 (some .boolean) 1 := ⟨tG_in (List.mem_of_getElem? (i := 523) (by decide +kernel)) rfl, wi_X3_hasRoomFor, wv_X3_hasRoomFor, wn_X3, wc_X3_hasRoomFor, by decide +kernel, by decide +kernel, by decide +kernel⟩
theorem gc_X4_212 : g_V RX4 212 yX3_add cX3_add 2 (none : Option Jvm.ClassFile.FieldType) 1 := ⟨tG_in (List.mem_of_getElem? (i := 527) (by decide +kernel)) rfl, wi_X3_add, wv_X3_add, wn_X3, wc_X3_add, by decide +kernel, by decide +kernel, by decide +kernel⟩
theorem gc_X3_29 : g_V RX3 29 yX3_hasRoomFor cX3_hasRoomFor 2 (some .boolean) 1 := ⟨tG_in (List.mem_of_getElem? (i := 531) (by decide +kernel)) rfl, wi_X3_hasRoomFor, wv_X3_hasRoomFor, wn_X3, wc_X3_hasRoomFor, by decide +kernel, by decide +kernel, by decide +kernel⟩
theorem gc_L_126 : g_V RL 126 yX4_wipe cX4_wipe 2 (some .int) 0 := ⟨tG_in (List.mem_of_getElem? (i := 532) (by decide +kernel)) rfl, wi_X4_wipe, wv_X4_wipe, wn_X4, wc_X4_wipe, by decide +kernel, by decide +kernel, by decide +kernel⟩
theorem gc_L_130 : g_V RL 130 yX4_text cX4_text 2 (some .int) 0 := ⟨tG_in (List.mem_of_getElem? (i := 536) (by decide +kernel)) rfl, wi_X4_text, wv_X4_text, wn_X4, wc_X4_text, by decide +kernel, by decide +kernel, by decide +kernel⟩
theorem gc_X4_217 : g_V RX4 217 yX3_read cX3_read 3 (some .int) 1 := ⟨tG_in (List.mem_of_getElem? (i := 540) (by decide +kernel)) rfl, wi_X3_read, wv_X3_read, wn_X3, wc_X3_read, by decide +kernel, by decide +kernel, by decide +kernel⟩
theorem gc_X3_33 : g_V RX3 33 yX3_next cX3_next 1 (none : Option Jvm.ClassFile.FieldType) 0 := ⟨tG_in (List.mem_of_getElem? (i := 544) (by decide +kernel)) rfl, wi_X3_next, wv_X3_next, wn_X3, wc_X3_next, by decide +kernel, by decide +kernel, by decide +kernel⟩
theorem gc_X3_132 : g_S RX3 132 yX3_isLetter cX3_isLetter 1 (some .boolean) 1 := ⟨tG_in (List.mem_of_getElem? (i := 548) (by decide +kernel)) rfl, ws_X3_isLetter, wn_X3, wc_X3_isLetter, by decide +kernel, by decide +kernel, by decide +kernel⟩
theorem gc_X3_135 : g_S RX3 135 yX3_isDigit cX3_isDigit 1 (some .boolean) 1 := ⟨tG_in (List.mem_of_getElem? (i := 551) (by decide +kernel)) rfl, ws_X3_isDigit, wn_X3, wc_X3_isDigit, by decide +kernel, by decide +kernel, by decide +kernel⟩
theorem gc_X3_138 : g_S RX3 138 yJ9_min_7cf53 cJ9_min_7cf53 2 (some .int) 2 := ⟨tG_in (List.mem_of_getElem? (i := 554) (by decide +kernel)) rfl, ws_J9_min_7cf53, wn_J9, wc_J9_min_7cf53, by decide +kernel, by decide +kernel, by decide +kernel⟩
theorem gc_X3_36 : g_V RX3 36 yX3_readItem cX3_readItem 3 (some .boolean) 1 := ⟨tG_in (List.mem_of_getElem? (i := 555) (by decide +kernel)) rfl, wi_X3_readItem, wv_X3_readItem, wn_X3, wc_X3_readItem, by decide +kernel, by decide +kernel, by decide +kernel⟩
theorem gc_X3_40 : g_V RX3 40 yX3_kindTold cX3_kindTold 2 (some .int) 0 := ⟨tG_in (List.mem_of_getElem? (i := 559) (by decide +kernel)) rfl, wi_X3_kindTold, wv_X3_kindTold, wn_X3, wc_X3_kindTold, by decide +kernel, by decide +kernel, by decide +kernel⟩
theorem gc_X3_106 : g_S RX3 106 yX3_wordOf cX3_wordOf 1 (some (.object "java/lang/String")) 1 := ⟨tG_in (List.mem_of_getElem? (i := 563) (by decide +kernel)) rfl, ws_X3_wordOf, wn_X3, wc_X3_wordOf, by decide +kernel, by decide +kernel, by decide +kernel⟩
theorem gc_X3_50 : g_V RX3 50 yX3_isWord cX3_isWord 3 (some .boolean) 1 := ⟨tG_in (List.mem_of_getElem? (i := 573) (by decide +kernel)) rfl, wi_X3_isWord, wv_X3_isWord, wn_X3, wc_X3_isWord, by decide +kernel, by decide +kernel, by decide +kernel⟩
theorem gc_X3_124 : g_V RX3 124 yJ0_length_8abf5 cJ0_length_8abf5 1 (some .int) 0 := ⟨tG_in (List.mem_of_getElem? (i := 577) (by decide +kernel)) rfl, wi_J0_length_8abf5, wv_J0_length_8abf5, wn_J0, wc_J0_length_8abf5, by decide +kernel, by decide +kernel, by decide +kernel⟩
theorem gc_J0_335 : g_V RJ0 335 yJ0_coder_7d493 cJ0_coder_7d493 1 (some .byte) 0 := ⟨tG_in (List.mem_of_getElem? (i := 581) (by decide +kernel)) rfl, wi_J0_coder_7d493, wv_J0_coder_7d493, wn_J0, wc_J0_coder_7d493, by decide +kernel, by decide +kernel, by decide +kernel⟩
theorem gc_X3_128 : g_V RX3 128 yJ0_charAt_5068e cJ0_charAt_5068e 2 (some .char) 1 := ⟨tG_in (List.mem_of_getElem? (i := 587) (by decide +kernel)) rfl, wi_J0_charAt_5068e, wv_J0_charAt_5068e, wn_J0, wc_J0_charAt_5068e, by decide +kernel, by decide +kernel, by decide +kernel⟩
theorem gc_J0_492 : g_V RJ0 492 yJ0_isLatin1_aae02 cJ0_isLatin1_aae02 1 (some .boolean) 0 := ⟨tG_in (List.mem_of_getElem? (i := 591) (by decide +kernel)) rfl, wi_J0_isLatin1_aae02, wv_J0_isLatin1_aae02, wn_J0, wc_J0_isLatin1_aae02, by decide +kernel, by decide +kernel, by decide +kernel⟩
theorem gc_J0_495 : g_S RJ0 495 yJ1_charAt_3b067 cJ1_charAt_3b067 2 (some .char) 2 := ⟨tG_in (List.mem_of_getElem? (i := 595) (by decide +kernel)) rfl, ws_J1_charAt_3b067, wn_J1, wc_J1_charAt_3b067, by decide +kernel, by decide +kernel, by decide +kernel⟩
theorem gc_J1_9 : g_S RJ1 9 yJ0_checkIndex_df160 cJ0_checkIndex_df160 2 (none : Option Jvm.ClassFile.FieldType) 2 := ⟨tG_in (List.mem_of_getElem? (i := 598) (by decide +kernel)) rfl, ws_J0_checkIndex_df160, wn_J0, wc_J0_checkIndex_df160, by decide +kernel, by decide +kernel, by decide +kernel⟩
theorem gc_J0_1059 : g_S RJ0 1059 yJ3_checkIndex_8e157 cJ3_checkIndex_8e157 3 (some .int) 3 := ⟨tG_in (List.mem_of_getElem? (i := 603) (by decide +kernel)) rfl, ws_J3_checkIndex_8e157, wn_J3, wc_J3_checkIndex_8e157, by decide +kernel, by decide +kernel, by decide +kernel⟩
theorem gc_X3_44 : g_V RX3 44 yX3_readGuest cX3_readGuest 5 (some .boolean) 2 := ⟨tG_in (List.mem_of_getElem? (i := 625) (by decide +kernel)) rfl, wi_X3_readGuest, wv_X3_readGuest, wn_X3, wc_X3_readGuest, by decide +kernel, by decide +kernel, by decide +kernel⟩
theorem gc_X3_81 : g_V RX3 81 yX0_isFull cX0_isFull 1 (some .boolean) 0 := ⟨tG_in (List.mem_of_getElem? (i := 629) (by decide +kernel)) rfl, wi_X0_isFull, wv_X0_isFull, wn_X0, wc_X0_isFull, by decide +kernel, by decide +kernel, by decide +kernel⟩
theorem gc_X3_75 : g_V RX3 75 yX3_takeNumber cX3_takeNumber 3 (some .boolean) 2 := ⟨tG_in (List.mem_of_getElem? (i := 631) (by decide +kernel)) rfl, wi_X3_takeNumber, wv_X3_takeNumber, wn_X3, wc_X3_takeNumber, by decide +kernel, by decide +kernel, by decide +kernel⟩
theorem gc_X3_87 : g_V RX3 87 yX0_add cX0_add 3 (some .int) 2 := ⟨tG_in (List.mem_of_getElem? (i := 635) (by decide +kernel)) rfl, wi_X0_add, wv_X0_add, wn_X0, wc_X0_add, by decide +kernel, by decide +kernel, by decide +kernel⟩
theorem gc_X3_95 : g_V RX3 95 yX3_readTrait cX3_readTrait 6 (some .boolean) 5 := ⟨tG_in (List.mem_of_getElem? (i := 637) (by decide +kernel)) rfl, wi_X3_readTrait, wv_X3_readTrait, wn_X3, wc_X3_readTrait, by decide +kernel, by decide +kernel, by decide +kernel⟩
theorem gc_X3_59 : g_V RX3 59 yX3_readPair cX3_readPair 5 (some .boolean) 3 := ⟨tG_in (List.mem_of_getElem? (i := 643) (by decide +kernel)) rfl, wi_X3_readPair, wv_X3_readPair, wn_X3, wc_X3_readPair, by decide +kernel, by decide +kernel, by decide +kernel⟩
theorem gc_L_134 : g_V RL 134 yX4_hold cX4_hold 3 (some .int) 2 := ⟨tG_in (List.mem_of_getElem? (i := 651) (by decide +kernel)) rfl, wi_X4_hold, wv_X4_hold, wn_X4, wc_X4_hold, by decide +kernel, by decide +kernel, by decide +kernel⟩
theorem gc_X4_225 : g_S RX4 225 yX4_isSpot cX4_isSpot 1 (some .boolean) 1 := ⟨tG_in (List.mem_of_getElem? (i := 655) (by decide +kernel)) rfl, ws_X4_isSpot, wn_X4, wc_X4_isSpot, by decide +kernel, by decide +kernel, by decide +kernel⟩
theorem gc_L_138 : g_V RL 138 yX4_as cX4_as 4 (some .int) 2 := ⟨tG_in (List.mem_of_getElem? (i := 658) (by decide +kernel)) rfl, wi_X4_as, wv_X4_as, wn_X4, wc_X4_as, by decide +kernel, by decide +kernel, by decide +kernel⟩
theorem gc_X4_231 : g_S RX4 231 yX1_isUnder cX1_isUnder 4 (some .boolean) 2 := ⟨tG_in (List.mem_of_getElem? (i := 662) (by decide +kernel)) rfl, ws_X1_isUnder, wn_X1, wc_X1_isUnder, by decide +kernel, by decide +kernel, by decide +kernel⟩
theorem gc_L_142 : g_V RL 142 yX4_sheet cX4_sheet 4 (some .int) 3 := ⟨tG_in (List.mem_of_getElem? (i := 667) (by decide +kernel)) rfl, wi_X4_sheet, wv_X4_sheet, wn_X4, wc_X4_sheet, by decide +kernel, by decide +kernel, by decide +kernel⟩
theorem gc_X4_237 : g_S RX4 237 yX2_areBits cX2_areBits 1 (some .boolean) 1 := ⟨tG_in (List.mem_of_getElem? (i := 671) (by decide +kernel)) rfl, ws_X2_areBits, wn_X2, wc_X2_areBits, by decide +kernel, by decide +kernel, by decide +kernel⟩
theorem gc_X4_240 : g_V RX4 240 yX2_make cX2_make 4 (some .int) 3 := ⟨tG_in (List.mem_of_getElem? (i := 674) (by decide +kernel)) rfl, wi_X2_make, wv_X2_make, wn_X2, wc_X2_make, by decide +kernel, by decide +kernel, by decide +kernel⟩
theorem gc_X2_21 : g_S RX2 21 yJ7_fill_53178 cJ7_fill_53178 4 (none : Option Jvm.ClassFile.FieldType) 2 := ⟨tG_in (List.mem_of_getElem? (i := 678) (by decide +kernel)) rfl, ws_J7_fill_53178, wn_J7, wc_J7_fill_53178, by decide +kernel, by decide +kernel, by decide +kernel⟩
theorem gc_L_146 : g_V RL 146 yX4_write cX4_write 5 (some .int) 3 := ⟨tG_in (List.mem_of_getElem? (i := 679) (by decide +kernel)) rfl, wi_X4_write, wv_X4_write, wn_X4, wc_X4_write, by decide +kernel, by decide +kernel, by decide +kernel⟩
theorem gc_X4_249 : g_V RX4 249 yX2_put cX2_put 5 (none : Option Jvm.ClassFile.FieldType) 3 := ⟨tG_in (List.mem_of_getElem? (i := 683) (by decide +kernel)) rfl, wi_X2_put, wv_X2_put, wn_X2, wc_X2_put, by decide +kernel, by decide +kernel, by decide +kernel⟩
theorem gc_L_150 : g_V RL 150 yX4_copy cX4_copy 6 (some .int) 5 := ⟨tG_in (List.mem_of_getElem? (i := 687) (by decide +kernel)) rfl, wi_X4_copy, wv_X4_copy, wn_X4, wc_X4_copy, by decide +kernel, by decide +kernel, by decide +kernel⟩
theorem gc_X4_259 : g_V RX4 259 yX2_hasRange cX2_hasRange 4 (some .boolean) 3 := ⟨tG_in (List.mem_of_getElem? (i := 691) (by decide +kernel)) rfl, wi_X2_hasRange, wv_X2_hasRange, wn_X2, wc_X2_hasRange, by decide +kernel, by decide +kernel, by decide +kernel⟩
theorem gc_L_155 : g_V RL 155 yX4_load cX4_load 5 (some .int) 1 := ⟨tG_in (List.mem_of_getElem? (i := 696) (by decide +kernel)) rfl, wi_X4_load, wv_X4_load, wn_X4, wc_X4_load, by decide +kernel, by decide +kernel, by decide +kernel⟩
theorem gc_X4_272 : g_S RX4 272 yJ9_min_7cf53 cJ9_min_7cf53 2 (some .int) 2 := ⟨tG_in (List.mem_of_getElem? (i := 700) (by decide +kernel)) rfl, ws_J9_min_7cf53, wn_J9, wc_J9_min_7cf53, by decide +kernel, by decide +kernel, by decide +kernel⟩
theorem gc_L_159 : g_V RL 159 yX4_judge cX4_judge 4 (some .int) 1 := ⟨tG_in (List.mem_of_getElem? (i := 701) (by decide +kernel)) rfl, wi_X4_judge, wv_X4_judge, wn_X4, wc_X4_judge, by decide +kernel, by decide +kernel, by decide +kernel⟩
theorem gc_L_163 : g_V RL 163 yX4_image cX4_image 1 (some .int) 0 := ⟨tG_in (List.mem_of_getElem? (i := 705) (by decide +kernel)) rfl, wi_X4_image, wv_X4_image, wn_X4, wc_X4_image, by decide +kernel, by decide +kernel, by decide +kernel⟩
theorem gc_L_167 : g_V RL 167 yX4_undo cX4_undo 1 (some .int) 0 := ⟨tG_in (List.mem_of_getElem? (i := 709) (by decide +kernel)) rfl, wi_X4_undo, wv_X4_undo, wn_X4, wc_X4_undo, by decide +kernel, by decide +kernel, by decide +kernel⟩
theorem gc_L_171 : g_V RL 171 yX4_tear cX4_tear 2 (some .int) 0 := ⟨tG_in (List.mem_of_getElem? (i := 713) (by decide +kernel)) rfl, wi_X4_tear, wv_X4_tear, wn_X4, wc_X4_tear, by decide +kernel, by decide +kernel, by decide +kernel⟩
theorem gc_L_175 : g_V RL 175 yX4_count cX4_count 2 (some .int) 1 := ⟨tG_in (List.mem_of_getElem? (i := 717) (by decide +kernel)) rfl, wi_X4_count, wv_X4_count, wn_X4, wc_X4_count, by decide +kernel, by decide +kernel, by decide +kernel⟩
theorem gc_X4_277 : g_V RX4 277 yX0_howManyHome cX0_howManyHome 3 (some .int) 0 := ⟨tG_in (List.mem_of_getElem? (i := 721) (by decide +kernel)) rfl, wi_X0_howManyHome, wv_X0_howManyHome, wn_X0, wc_X0_howManyHome, by decide +kernel, by decide +kernel, by decide +kernel⟩
theorem gc_X4_280 : g_V RX4 280 yX0_howManyHeld cX0_howManyHeld 3 (some .int) 0 := ⟨tG_in (List.mem_of_getElem? (i := 725) (by decide +kernel)) rfl, wi_X0_howManyHeld, wv_X0_howManyHeld, wn_X0, wc_X0_howManyHeld, by decide +kernel, by decide +kernel, by decide +kernel⟩
theorem gc_L_179 : g_V RL 179 yX4_status cX4_status 4 (some .int) 1 := ⟨tG_in (List.mem_of_getElem? (i := 729) (by decide +kernel)) rfl, wi_X4_status, wv_X4_status, wn_X4, wc_X4_status, by decide +kernel, by decide +kernel, by decide +kernel⟩
theorem gc_L_12 : g_I RL 12 yX5_init cX5_init 2 0 := ⟨tG_in (List.mem_of_getElem? (i := 735) (by decide +kernel)) rfl, wi_X5_init, wn_X5, wc_X5_init, by decide +kernel, by decide +kernel, rfl, by decide +kernel⟩
theorem gc_L_17 : g_V RL 17 yX5_set cX5_set 4 (some .int) 2 := ⟨tG_in (List.mem_of_getElem? (i := 809) (by decide +kernel)) rfl, wi_X5_set, wv_X5_set, wn_X5, wc_X5_set, by decide +kernel, by decide +kernel, by decide +kernel⟩
theorem gc_X5_70 : g_S RX5 70 yX5_within cX5_within 3 (some .boolean) 3 := ⟨tG_in (List.mem_of_getElem? (i := 813) (by decide +kernel)) rfl, ws_X5_within, wn_X5, wc_X5_within, by decide +kernel, by decide +kernel, by decide +kernel⟩
theorem gc_X5_74 : g_S RX5 74 yX5_isOften cX5_isOften 1 (some .boolean) 1 := ⟨tG_in (List.mem_of_getElem? (i := 816) (by decide +kernel)) rfl, ws_X5_isOften, wn_X5, wc_X5_isOften, by decide +kernel, by decide +kernel, by decide +kernel⟩
theorem gc_X5_78 : g_V RX5 78 yX5_become cX5_become 4 (some .int) 2 := ⟨tG_in (List.mem_of_getElem? (i := 819) (by decide +kernel)) rfl, wi_X5_become, wv_X5_become, wn_X5, wc_X5_become, by decide +kernel, by decide +kernel, by decide +kernel⟩
theorem gc_X5_66 : g_V RX5 66 yX5_finding cX5_finding 2 (some .int) 1 := ⟨tG_in (List.mem_of_getElem? (i := 824) (by decide +kernel)) rfl, wi_X5_finding, wv_X5_finding, wn_X5, wc_X5_finding, by decide +kernel, by decide +kernel, by decide +kernel⟩
theorem gc_L_21 : g_V RL 21 yX5_cell cX5_cell 3 (some .int) 2 := ⟨tG_in (List.mem_of_getElem? (i := 828) (by decide +kernel)) rfl, wi_X5_cell, wv_X5_cell, wn_X5, wc_X5_cell, by decide +kernel, by decide +kernel, by decide +kernel⟩
theorem gc_X5_82 : g_S RX5 82 yX5_isCell cX5_isCell 1 (some .boolean) 1 := ⟨tG_in (List.mem_of_getElem? (i := 832) (by decide +kernel)) rfl, ws_X5_isCell, wn_X5, wc_X5_isCell, by decide +kernel, by decide +kernel, by decide +kernel⟩
theorem gc_X5_85 : g_S RX5 85 yX5_isBase cX5_isBase 1 (some .boolean) 1 := ⟨tG_in (List.mem_of_getElem? (i := 835) (by decide +kernel)) rfl, ws_X5_isBase, wn_X5, wc_X5_isBase, by decide +kernel, by decide +kernel, by decide +kernel⟩
theorem gc_L_25 : g_V RL 25 yX5_measure cX5_measure 3 (some .int) 2 := ⟨tG_in (List.mem_of_getElem? (i := 838) (by decide +kernel)) rfl, wi_X5_measure, wv_X5_measure, wn_X5, wc_X5_measure, by decide +kernel, by decide +kernel, by decide +kernel⟩
theorem gc_X5_88 : g_S RX5 88 yX5_isPlace cX5_isPlace 1 (some .boolean) 1 := ⟨tG_in (List.mem_of_getElem? (i := 842) (by decide +kernel)) rfl, ws_X5_isPlace, wn_X5, wc_X5_isPlace, by decide +kernel, by decide +kernel, by decide +kernel⟩
theorem gc_X5_91 : g_S RX5 91 yX5_isMeasure cX5_isMeasure 1 (some .boolean) 1 := ⟨tG_in (List.mem_of_getElem? (i := 845) (by decide +kernel)) rfl, ws_X5_isMeasure, wn_X5, wc_X5_isMeasure, by decide +kernel, by decide +kernel, by decide +kernel⟩
theorem gc_L_30 : g_V RL 30 yX5_listed cX5_listed 2 (some .int) 1 := ⟨tG_in (List.mem_of_getElem? (i := 848) (by decide +kernel)) rfl, wi_X5_listed, wv_X5_listed, wn_X5, wc_X5_listed, by decide +kernel, by decide +kernel, by decide +kernel⟩
theorem gc_L_34 : g_V RL 34 yX5_wide cX5_wide 3 (some .int) 2 := ⟨tG_in (List.mem_of_getElem? (i := 852) (by decide +kernel)) rfl, wi_X5_wide, wv_X5_wide, wn_X5, wc_X5_wide, by decide +kernel, by decide +kernel, by decide +kernel⟩
theorem gc_X5_103 : g_V RX5 103 yX5_wideAt cX5_wideAt 3 (some .int) 2 := ⟨tG_in (List.mem_of_getElem? (i := 856) (by decide +kernel)) rfl, wi_X5_wideAt, wv_X5_wideAt, wn_X5, wc_X5_wideAt, by decide +kernel, by decide +kernel, by decide +kernel⟩
theorem gc_X5_98 : g_S RX5 98 yJ9_max_7cf53 cJ9_max_7cf53 2 (some .int) 2 := ⟨tG_in (List.mem_of_getElem? (i := 860) (by decide +kernel)) rfl, ws_J9_max_7cf53, wn_J9, wc_J9_max_7cf53, by decide +kernel, by decide +kernel, by decide +kernel⟩
theorem gc_L_38 : g_V RL 38 yX5_guest cX5_guest 3 (some .int) 2 := ⟨tG_in (List.mem_of_getElem? (i := 861) (by decide +kernel)) rfl, wi_X5_guest, wv_X5_guest, wn_X5, wc_X5_guest, by decide +kernel, by decide +kernel, by decide +kernel⟩
theorem gc_X5_109 : g_S RX5 109 yX5_isKind cX5_isKind 1 (some .boolean) 1 := ⟨tG_in (List.mem_of_getElem? (i := 865) (by decide +kernel)) rfl, ws_X5_isKind, wn_X5, wc_X5_isKind, by decide +kernel, by decide +kernel, by decide +kernel⟩
theorem gc_X5_113 : g_V RX5 113 yX5_comesIn cX5_comesIn 4 (some .int) 2 := ⟨tG_in (List.mem_of_getElem? (i := 869) (by decide +kernel)) rfl, wi_X5_comesIn, wv_X5_comesIn, wn_X5, wc_X5_comesIn, by decide +kernel, by decide +kernel, by decide +kernel⟩
theorem gc_X5_106 : g_S RX5 106 yX5_guestAt cX5_guestAt 2 (some .int) 2 := ⟨tG_in (List.mem_of_getElem? (i := 873) (by decide +kernel)) rfl, ws_X5_guestAt, wn_X5, wc_X5_guestAt, by decide +kernel, by decide +kernel, by decide +kernel⟩
theorem gc_L_42 : g_V RL 42 yX5_of cX5_of 3 (some .int) 2 := ⟨tG_in (List.mem_of_getElem? (i := 876) (by decide +kernel)) rfl, wi_X5_of, wv_X5_of, wn_X5, wc_X5_of, by decide +kernel, by decide +kernel, by decide +kernel⟩
theorem gc_X5_131 : g_V RX5 131 yX5_isGuest cX5_isGuest 2 (some .boolean) 1 := ⟨tG_in (List.mem_of_getElem? (i := 880) (by decide +kernel)) rfl, wi_X5_isGuest, wv_X5_isGuest, wn_X5, wc_X5_isGuest, by decide +kernel, by decide +kernel, by decide +kernel⟩
theorem gc_X5_134 : g_V RX5 134 yX5_told cX5_told 3 (some .int) 2 := ⟨tG_in (List.mem_of_getElem? (i := 884) (by decide +kernel)) rfl, wi_X5_told, wv_X5_told, wn_X5, wc_X5_told, by decide +kernel, by decide +kernel, by decide +kernel⟩
theorem gc_X5_119 : g_V RX5 119 yX5_needs cX5_needs 4 (some .int) 1 := ⟨tG_in (List.mem_of_getElem? (i := 888) (by decide +kernel)) rfl, wi_X5_needs, wv_X5_needs, wn_X5, wc_X5_needs, by decide +kernel, by decide +kernel, by decide +kernel⟩
theorem gc_X5_116 : g_V RX5 116 yX5_guestIs cX5_guestIs 3 (some .int) 2 := ⟨tG_in (List.mem_of_getElem? (i := 892) (by decide +kernel)) rfl, wi_X5_guestIs, wv_X5_guestIs, wn_X5, wc_X5_guestIs, by decide +kernel, by decide +kernel, by decide +kernel⟩
theorem gc_X5_122 : g_V RX5 122 yX5_steps cX5_steps 2 (some .int) 1 := ⟨tG_in (List.mem_of_getElem? (i := 896) (by decide +kernel)) rfl, wi_X5_steps, wv_X5_steps, wn_X5, wc_X5_steps, by decide +kernel, by decide +kernel, by decide +kernel⟩
theorem gc_X5_125 : g_V RX5 125 yX5_laughs cX5_laughs 2 (some .int) 1 := ⟨tG_in (List.mem_of_getElem? (i := 900) (by decide +kernel)) rfl, wi_X5_laughs, wv_X5_laughs, wn_X5, wc_X5_laughs, by decide +kernel, by decide +kernel, by decide +kernel⟩
theorem gc_X5_128 : g_V RX5 128 yX5_laces cX5_laces 3 (some .int) 1 := ⟨tG_in (List.mem_of_getElem? (i := 904) (by decide +kernel)) rfl, wi_X5_laces, wv_X5_laces, wn_X5, wc_X5_laces, by decide +kernel, by decide +kernel, by decide +kernel⟩
theorem gc_L_47 : g_V RL 47 yX5_change cX5_change 4 (some .int) 3 := ⟨tG_in (List.mem_of_getElem? (i := 908) (by decide +kernel)) rfl, wi_X5_change, wv_X5_change, wn_X5, wc_X5_change, by decide +kernel, by decide +kernel, by decide +kernel⟩
theorem gc_X5_137 : g_S RX5 137 yX5_isField cX5_isField 2 (some .boolean) 2 := ⟨tG_in (List.mem_of_getElem? (i := 912) (by decide +kernel)) rfl, ws_X5_isField, wn_X5, wc_X5_isField, by decide +kernel, by decide +kernel, by decide +kernel⟩
theorem gc_L_51 : g_V RL 51 yX5_reach cX5_reach 3 (some .int) 2 := ⟨tG_in (List.mem_of_getElem? (i := 915) (by decide +kernel)) rfl, wi_X5_reach, wv_X5_reach, wn_X5, wc_X5_reach, by decide +kernel, by decide +kernel, by decide +kernel⟩
theorem gc_X5_141 : g_V RX5 141 yX5_reachOf cX5_reachOf 7 (some .int) 2 := ⟨tG_in (List.mem_of_getElem? (i := 919) (by decide +kernel)) rfl, wi_X5_reachOf, wv_X5_reachOf, wn_X5, wc_X5_reachOf, by decide +kernel, by decide +kernel, by decide +kernel⟩
theorem gc_L_55 : g_V RL 55 yX5_go cX5_go 2 (some .int) 1 := ⟨tG_in (List.mem_of_getElem? (i := 923) (by decide +kernel)) rfl, wi_X5_go, wv_X5_go, wn_X5, wc_X5_go, by decide +kernel, by decide +kernel, by decide +kernel⟩
theorem gc_X5_166 : g_V RX5 166 yX5_hoursGo cX5_hoursGo 3 (none : Option Jvm.ClassFile.FieldType) 1 := ⟨tG_in (List.mem_of_getElem? (i := 929) (by decide +kernel)) rfl, wi_X5_hoursGo, wv_X5_hoursGo, wn_X5, wc_X5_hoursGo, by decide +kernel, by decide +kernel, by decide +kernel⟩
theorem gc_X5_162 : g_V RX5 162 yX5_hour cX5_hour 3 (none : Option Jvm.ClassFile.FieldType) 0 := ⟨tG_in (List.mem_of_getElem? (i := 933) (by decide +kernel)) rfl, wi_X5_hour, wv_X5_hour, wn_X5, wc_X5_hour, by decide +kernel, by decide +kernel, by decide +kernel⟩
theorem gc_X5_150 : g_V RX5 150 yX5_measureNow cX5_measureNow 1 (some .int) 0 := ⟨tG_in (List.mem_of_getElem? (i := 937) (by decide +kernel)) rfl, wi_X5_measureNow, wv_X5_measureNow, wn_X5, wc_X5_measureNow, by decide +kernel, by decide +kernel, by decide +kernel⟩
theorem gc_X5_94 : g_V RX5 94 yX5_placeNow cX5_placeNow 1 (some .int) 0 := ⟨tG_in (List.mem_of_getElem? (i := 941) (by decide +kernel)) rfl, wi_X5_placeNow, wv_X5_placeNow, wn_X5, wc_X5_placeNow, by decide +kernel, by decide +kernel, by decide +kernel⟩
theorem gc_X5_147 : g_V RX5 147 yX5_isIn cX5_isIn 2 (some .boolean) 1 := ⟨tG_in (List.mem_of_getElem? (i := 945) (by decide +kernel)) rfl, wi_X5_isIn, wv_X5_isIn, wn_X5, wc_X5_isIn, by decide +kernel, by decide +kernel, by decide +kernel⟩
theorem gc_X5_153 : g_V RX5 153 yX5_goes cX5_goes 8 (none : Option Jvm.ClassFile.FieldType) 2 := ⟨tG_in (List.mem_of_getElem? (i := 949) (by decide +kernel)) rfl, wi_X5_goes, wv_X5_goes, wn_X5, wc_X5_goes, by decide +kernel, by decide +kernel, by decide +kernel⟩
theorem gc_X5_144 : g_S RX5 144 yJ9_min_7cf53 cJ9_min_7cf53 2 (some .int) 2 := ⟨tG_in (List.mem_of_getElem? (i := 953) (by decide +kernel)) rfl, ws_J9_min_7cf53, wn_J9, wc_J9_min_7cf53, by decide +kernel, by decide +kernel, by decide +kernel⟩
theorem gc_X5_157 : g_V RX5 157 yX5_strains cX5_strains 4 (none : Option Jvm.ClassFile.FieldType) 1 := ⟨tG_in (List.mem_of_getElem? (i := 954) (by decide +kernel)) rfl, wi_X5_strains, wv_X5_strains, wn_X5, wc_X5_strains, by decide +kernel, by decide +kernel, by decide +kernel⟩
theorem gc_L_59 : g_V RL 59 yX5_now cX5_now 2 (some .int) 1 := ⟨tG_in (List.mem_of_getElem? (i := 958) (by decide +kernel)) rfl, wi_X5_now, wv_X5_now, wn_X5, wc_X5_now, by decide +kernel, by decide +kernel, by decide +kernel⟩
theorem gc_X5_169 : g_V RX5 169 yX5_stuckOnes cX5_stuckOnes 3 (some .int) 0 := ⟨tG_in (List.mem_of_getElem? (i := 962) (by decide +kernel)) rfl, wi_X5_stuckOnes, wv_X5_stuckOnes, wn_X5, wc_X5_stuckOnes, by decide +kernel, by decide +kernel, by decide +kernel⟩
theorem gc_X5_172 : g_V RX5 172 yX5_arrived cX5_arrived 3 (some .int) 0 := ⟨tG_in (List.mem_of_getElem? (i := 966) (by decide +kernel)) rfl, wi_X5_arrived, wv_X5_arrived, wn_X5, wc_X5_arrived, by decide +kernel, by decide +kernel, by decide +kernel⟩
theorem gc_X5_175 : g_V RX5 175 yX5_inTheHall cX5_inTheHall 3 (some .int) 0 := ⟨tG_in (List.mem_of_getElem? (i := 970) (by decide +kernel)) rfl, wi_X5_inTheHall, wv_X5_inTheHall, wn_X5, wc_X5_inTheHall, by decide +kernel, by decide +kernel, by decide +kernel⟩
theorem gc_X5_178 : g_V RX5 178 yX5_shutCells cX5_shutCells 3 (some .int) 0 := ⟨tG_in (List.mem_of_getElem? (i := 974) (by decide +kernel)) rfl, wi_X5_shutCells, wv_X5_shutCells, wn_X5, wc_X5_shutCells, by decide +kernel, by decide +kernel, by decide +kernel⟩
theorem gc_L_63 : g_V RL 63 yX5_ahead cX5_ahead 5 (some .int) 3 := ⟨tG_in (List.mem_of_getElem? (i := 978) (by decide +kernel)) rfl, wi_X5_ahead, wv_X5_ahead, wn_X5, wc_X5_ahead, by decide +kernel, by decide +kernel, by decide +kernel⟩
theorem gc_X5_61 : g_S RX5 61 yX5_copyRow cX5_copyRow 3 (none : Option Jvm.ClassFile.FieldType) 2 := ⟨tG_in (List.mem_of_getElem? (i := 982) (by decide +kernel)) rfl, ws_X5_copyRow, wn_X5, wc_X5_copyRow, by decide +kernel, by decide +kernel, by decide +kernel⟩
theorem gc_X5_181 : g_V RX5 181 yX5_putBack cX5_putBack 2 (some .int) 1 := ⟨tG_in (List.mem_of_getElem? (i := 985) (by decide +kernel)) rfl, wi_X5_putBack, wv_X5_putBack, wn_X5, wc_X5_putBack, by decide +kernel, by decide +kernel, by decide +kernel⟩
theorem gc_L_67 : g_V RL 67 yX5_strain cX5_strain 2 (some .int) 1 := ⟨tG_in (List.mem_of_getElem? (i := 989) (by decide +kernel)) rfl, wi_X5_strain, wv_X5_strain, wn_X5, wc_X5_strain, by decide +kernel, by decide +kernel, by decide +kernel⟩
theorem gc_X5_184 : g_V RX5 184 yX5_behind cX5_behind 3 (some .int) 2 := ⟨tG_in (List.mem_of_getElem? (i := 993) (by decide +kernel)) rfl, wi_X5_behind, wv_X5_behind, wn_X5, wc_X5_behind, by decide +kernel, by decide +kernel, by decide +kernel⟩
theorem gc_L_72 : g_V RL 72 yX5_snaps cX5_snaps 1 (some .int) 0 := ⟨tG_in (List.mem_of_getElem? (i := 997) (by decide +kernel)) rfl, wi_X5_snaps, wv_X5_snaps, wn_X5, wc_X5_snaps, by decide +kernel, by decide +kernel, by decide +kernel⟩
theorem gc_X5_187 : g_V RX5 187 yX5_hoursTo cX5_hoursTo 5 (some .int) 3 := ⟨tG_in (List.mem_of_getElem? (i := 1001) (by decide +kernel)) rfl, wi_X5_hoursTo, wv_X5_hoursTo, wn_X5, wc_X5_hoursTo, by decide +kernel, by decide +kernel, by decide +kernel⟩
theorem gc_X5_191 : g_V RX5 191 yX5_orNone cX5_orNone 2 (some .int) 1 := ⟨tG_in (List.mem_of_getElem? (i := 1005) (by decide +kernel)) rfl, wi_X5_orNone, wv_X5_orNone, wn_X5, wc_X5_orNone, by decide +kernel, by decide +kernel, by decide +kernel⟩
theorem gc_L_76 : g_V RL 76 yX5_comes cX5_comes 3 (some .int) 2 := ⟨tG_in (List.mem_of_getElem? (i := 1010) (by decide +kernel)) rfl, wi_X5_comes, wv_X5_comes, wn_X5, wc_X5_comes, by decide +kernel, by decide +kernel, by decide +kernel⟩
theorem gc_L_80 : g_V RL 80 yX5_stuck cX5_stuck 3 (some .int) 2 := ⟨tG_in (List.mem_of_getElem? (i := 1014) (by decide +kernel)) rfl, wi_X5_stuck, wv_X5_stuck, wn_X5, wc_X5_stuck, by decide +kernel, by decide +kernel, by decide +kernel⟩
theorem gc_L_84 : g_V RL 84 yX5_tight cX5_tight 6 (some .int) 2 := ⟨tG_in (List.mem_of_getElem? (i := 1018) (by decide +kernel)) rfl, wi_X5_tight, wv_X5_tight, wn_X5, wc_X5_tight, by decide +kernel, by decide +kernel, by decide +kernel⟩
theorem gc_X5_194 : g_S RX5 194 yX5_isThought cX5_isThought 1 (some .boolean) 1 := ⟨tG_in (List.mem_of_getElem? (i := 1022) (by decide +kernel)) rfl, ws_X5_isThought, wn_X5, wc_X5_isThought, by decide +kernel, by decide +kernel, by decide +kernel⟩
theorem gc_L_88 : g_V RL 88 yX5_measureFor cX5_measureFor 5 (some .int) 2 := ⟨tG_in (List.mem_of_getElem? (i := 1025) (by decide +kernel)) rfl, wi_X5_measureFor, wv_X5_measureFor, wn_X5, wc_X5_measureFor, by decide +kernel, by decide +kernel, by decide +kernel⟩
theorem gc_L_92 : g_V RL 92 yX5_kindFor cX5_kindFor 9 (some .int) 2 := ⟨tG_in (List.mem_of_getElem? (i := 1029) (by decide +kernel)) rfl, wi_X5_kindFor, wv_X5_kindFor, wn_X5, wc_X5_kindFor, by decide +kernel, by decide +kernel, by decide +kernel⟩
theorem gc_L_96 : g_V RL 96 yX5_sizeFor cX5_sizeFor 7 (some .int) 2 := ⟨tG_in (List.mem_of_getElem? (i := 1033) (by decide +kernel)) rfl, wi_X5_sizeFor, wv_X5_sizeFor, wn_X5, wc_X5_sizeFor, by decide +kernel, by decide +kernel, by decide +kernel⟩
theorem gc_L_100 : g_V RL 100 yX5_send cX5_send 4 (some .int) 1 := ⟨tG_in (List.mem_of_getElem? (i := 1037) (by decide +kernel)) rfl, wi_X5_send, wv_X5_send, wn_X5, wc_X5_send, by decide +kernel, by decide +kernel, by decide +kernel⟩
theorem gc_X5_197 : g_S RX5 197 yX5_bits cX5_bits 3 (some .int) 1 := ⟨tG_in (List.mem_of_getElem? (i := 1041) (by decide +kernel)) rfl, ws_X5_bits, wn_X5, wc_X5_bits, by decide +kernel, by decide +kernel, by decide +kernel⟩
theorem gc_X5_200 : g_V RX5 200 yX5_holds cX5_holds 4 (some .boolean) 2 := ⟨tG_in (List.mem_of_getElem? (i := 1044) (by decide +kernel)) rfl, wi_X5_holds, wv_X5_holds, wn_X5, wc_X5_holds, by decide +kernel, by decide +kernel, by decide +kernel⟩
theorem gc_L_104 : g_V RL 104 yX5_fits cX5_fits 8 (some .int) 2 := ⟨tG_in (List.mem_of_getElem? (i := 1048) (by decide +kernel)) rfl, wi_X5_fits, wv_X5_fits, wn_X5, wc_X5_fits, by decide +kernel, by decide +kernel, by decide +kernel⟩
theorem gc_X5_207 : g_V RX5 207 yX5_lacks cX5_lacks 3 (some .int) 2 := ⟨tG_in (List.mem_of_getElem? (i := 1052) (by decide +kernel)) rfl, wi_X5_lacks, wv_X5_lacks, wn_X5, wc_X5_lacks, by decide +kernel, by decide +kernel, by decide +kernel⟩
theorem gc_X5_203 : g_S RX5 203 yX5_isSheet cX5_isSheet 1 (some .boolean) 1 := ⟨tG_in (List.mem_of_getElem? (i := 1056) (by decide +kernel)) rfl, ws_X5_isSheet, wn_X5, wc_X5_isSheet, by decide +kernel, by decide +kernel, by decide +kernel⟩
theorem gc_X5_211 : g_V RX5 211 yX5_isSo cX5_isSo 6 (some .boolean) 2 := ⟨tG_in (List.mem_of_getElem? (i := 1060) (by decide +kernel)) rfl, wi_X5_isSo, wv_X5_isSo, wn_X5, wc_X5_isSo, by decide +kernel, by decide +kernel, by decide +kernel⟩
theorem gc_L_108 : g_V RL 108 yX5_kinds cX5_kinds 8 (some .int) 2 := ⟨tG_in (List.mem_of_getElem? (i := 1064) (by decide +kernel)) rfl, wi_X5_kinds, wv_X5_kinds, wn_X5, wc_X5_kinds, by decide +kernel, by decide +kernel, by decide +kernel⟩
theorem gc_L_112 : g_V RL 112 yX5_party cX5_party 5 (some .int) 1 := ⟨tG_in (List.mem_of_getElem? (i := 1068) (by decide +kernel)) rfl, wi_X5_party, wv_X5_party, wn_X5, wc_X5_party, by decide +kernel, by decide +kernel, by decide +kernel⟩
theorem gc_X5_215 : g_V RX5 215 yX5_drawn cX5_drawn 1 (some .int) 0 := ⟨tG_in (List.mem_of_getElem? (i := 1072) (by decide +kernel)) rfl, wi_X5_drawn, wv_X5_drawn, wn_X5, wc_X5_drawn, by decide +kernel, by decide +kernel, by decide +kernel⟩
theorem gc_L_117 : g_V RL 117 yX5_odds cX5_odds 11 (some .long) 3 := ⟨tG_in (List.mem_of_getElem? (i := 1077) (by decide +kernel)) rfl, wi_X5_odds, wv_X5_odds, wn_X5, wc_X5_odds, by decide +kernel, by decide +kernel, by decide +kernel⟩
theorem gc_L_121 : g_V RL 121 yX5_seed cX5_seed 2 (some .int) 1 := ⟨tG_in (List.mem_of_getElem? (i := 1081) (by decide +kernel)) rfl, wi_X5_seed, wv_X5_seed, wn_X5, wc_X5_seed, by decide +kernel, by decide +kernel, by decide +kernel⟩
theorem gc_L_125 : g_V RL 125 yX5_feed cX5_feed 4 (some .int) 2 := ⟨tG_in (List.mem_of_getElem? (i := 1085) (by decide +kernel)) rfl, wi_X5_feed, wv_X5_feed, wn_X5, wc_X5_feed, by decide +kernel, by decide +kernel, by decide +kernel⟩
theorem gc_L_129 : g_V RL 129 yX5_wipe cX5_wipe 2 (some .int) 0 := ⟨tG_in (List.mem_of_getElem? (i := 1089) (by decide +kernel)) rfl, wi_X5_wipe, wv_X5_wipe, wn_X5, wc_X5_wipe, by decide +kernel, by decide +kernel, by decide +kernel⟩
theorem gc_L_133 : g_V RL 133 yX5_text cX5_text 2 (some .int) 0 := ⟨tG_in (List.mem_of_getElem? (i := 1093) (by decide +kernel)) rfl, wi_X5_text, wv_X5_text, wn_X5, wc_X5_text, by decide +kernel, by decide +kernel, by decide +kernel⟩
theorem gc_X5_248 : g_V RX5 248 yX5_token cX5_token 2 (none : Option Jvm.ClassFile.FieldType) 0 := ⟨tG_in (List.mem_of_getElem? (i := 1097) (by decide +kernel)) rfl, wi_X5_token, wv_X5_token, wn_X5, wc_X5_token, by decide +kernel, by decide +kernel, by decide +kernel⟩
theorem gc_X5_228 : g_V RX5 228 yX5_byteAt cX5_byteAt 2 (some .int) 1 := ⟨tG_in (List.mem_of_getElem? (i := 1101) (by decide +kernel)) rfl, wi_X5_byteAt, wv_X5_byteAt, wn_X5, wc_X5_byteAt, by decide +kernel, by decide +kernel, by decide +kernel⟩
theorem gc_X5_290 : g_V RX5 290 yX5_readItem cX5_readItem 3 (none : Option Jvm.ClassFile.FieldType) 0 := ⟨tG_in (List.mem_of_getElem? (i := 1105) (by decide +kernel)) rfl, wi_X5_readItem, wv_X5_readItem, wn_X5, wc_X5_readItem, by decide +kernel, by decide +kernel, by decide +kernel⟩
theorem gc_X5_258 : g_V RX5 258 yX5_isWord cX5_isWord 4 (some .boolean) 1 := ⟨tG_in (List.mem_of_getElem? (i := 1109) (by decide +kernel)) rfl, wi_X5_isWord, wv_X5_isWord, wn_X5, wc_X5_isWord, by decide +kernel, by decide +kernel, by decide +kernel⟩
theorem gc_X5_237 : g_V RX5 237 yJ0_length_8abf5 cJ0_length_8abf5 1 (some .int) 0 := ⟨tG_in (List.mem_of_getElem? (i := 1113) (by decide +kernel)) rfl, wi_J0_length_8abf5, wv_J0_length_8abf5, wn_J0, wc_J0_length_8abf5, by decide +kernel, by decide +kernel, by decide +kernel⟩
theorem gc_X5_240 : g_V RX5 240 yJ0_charAt_5068e cJ0_charAt_5068e 2 (some .char) 1 := ⟨tG_in (List.mem_of_getElem? (i := 1114) (by decide +kernel)) rfl, wi_J0_charAt_5068e, wv_J0_charAt_5068e, wn_J0, wc_J0_charAt_5068e, by decide +kernel, by decide +kernel, by decide +kernel⟩
theorem gc_X5_281 : g_V RX5 281 yX5_readGuest cX5_readGuest 4 (none : Option Jvm.ClassFile.FieldType) 1 := ⟨tG_in (List.mem_of_getElem? (i := 1115) (by decide +kernel)) rfl, wi_X5_readGuest, wv_X5_readGuest, wn_X5, wc_X5_readGuest, by decide +kernel, by decide +kernel, by decide +kernel⟩
theorem gc_X5_251 : g_V RX5 251 yX5_must cX5_must 2 (none : Option Jvm.ClassFile.FieldType) 1 := ⟨tG_in (List.mem_of_getElem? (i := 1119) (by decide +kernel)) rfl, wi_X5_must, wv_X5_must, wn_X5, wc_X5_must, by decide +kernel, by decide +kernel, by decide +kernel⟩
theorem gc_X5_267 : g_V RX5 267 yX5_takesWord cX5_takesWord 3 (some .boolean) 1 := ⟨tG_in (List.mem_of_getElem? (i := 1124) (by decide +kernel)) rfl, wi_X5_takesWord, wv_X5_takesWord, wn_X5, wc_X5_takesWord, by decide +kernel, by decide +kernel, by decide +kernel⟩
theorem gc_X5_270 : g_V RX5 270 yX5_number cX5_number 4 (some .int) 2 := ⟨tG_in (List.mem_of_getElem? (i := 1128) (by decide +kernel)) rfl, wi_X5_number, wv_X5_number, wn_X5, wc_X5_number, by decide +kernel, by decide +kernel, by decide +kernel⟩
theorem gc_X5_277 : g_V RX5 277 yX5_addItem cX5_addItem 6 (none : Option Jvm.ClassFile.FieldType) 4 := ⟨tG_in (List.mem_of_getElem? (i := 1134) (by decide +kernel)) rfl, wi_X5_addItem, wv_X5_addItem, wn_X5, wc_X5_addItem, by decide +kernel, by decide +kernel, by decide +kernel⟩
theorem gc_X5_293 : g_V RX5 293 yX5_isToldSo cX5_isToldSo 5 (none : Option Jvm.ClassFile.FieldType) 1 := ⟨tG_in (List.mem_of_getElem? (i := 1141) (by decide +kernel)) rfl, wi_X5_isToldSo, wv_X5_isToldSo, wn_X5, wc_X5_isToldSo, by decide +kernel, by decide +kernel, by decide +kernel⟩
theorem gc_L_137 : g_V RL 137 yX5_hold cX5_hold 3 (some .int) 2 := ⟨tG_in (List.mem_of_getElem? (i := 1145) (by decide +kernel)) rfl, wi_X5_hold, wv_X5_hold, wn_X5, wc_X5_hold, by decide +kernel, by decide +kernel, by decide +kernel⟩
theorem gc_X5_296 : g_S RX5 296 yX5_isSpot cX5_isSpot 1 (some .boolean) 1 := ⟨tG_in (List.mem_of_getElem? (i := 1149) (by decide +kernel)) rfl, ws_X5_isSpot, wn_X5, wc_X5_isSpot, by decide +kernel, by decide +kernel, by decide +kernel⟩
theorem gc_L_141 : g_V RL 141 yX5_as cX5_as 4 (some .int) 2 := ⟨tG_in (List.mem_of_getElem? (i := 1152) (by decide +kernel)) rfl, wi_X5_as, wv_X5_as, wn_X5, wc_X5_as, by decide +kernel, by decide +kernel, by decide +kernel⟩
theorem gc_X5_299 : g_S RX5 299 yX5_isUnder cX5_isUnder 3 (some .boolean) 2 := ⟨tG_in (List.mem_of_getElem? (i := 1156) (by decide +kernel)) rfl, ws_X5_isUnder, wn_X5, wc_X5_isUnder, by decide +kernel, by decide +kernel, by decide +kernel⟩
theorem gc_X5_307 : g_S RX5 307 yX5_above cX5_above 1 (some .int) 1 := ⟨tG_in (List.mem_of_getElem? (i := 1159) (by decide +kernel)) rfl, ws_X5_above, wn_X5, wc_X5_above, by decide +kernel, by decide +kernel, by decide +kernel⟩
theorem gc_L_145 : g_V RL 145 yX5_sheet cX5_sheet 5 (some .int) 3 := ⟨tG_in (List.mem_of_getElem? (i := 1163) (by decide +kernel)) rfl, wi_X5_sheet, wv_X5_sheet, wn_X5, wc_X5_sheet, by decide +kernel, by decide +kernel, by decide +kernel⟩
theorem gc_L_149 : g_V RL 149 yX5_write cX5_write 4 (some .int) 3 := ⟨tG_in (List.mem_of_getElem? (i := 1168) (by decide +kernel)) rfl, wi_X5_write, wv_X5_write, wn_X5, wc_X5_write, by decide +kernel, by decide +kernel, by decide +kernel⟩
theorem gc_X5_304 : g_S RX5 304 yX5_cutTo cX5_cutTo 2 (some .int) 2 := ⟨tG_in (List.mem_of_getElem? (i := 1172) (by decide +kernel)) rfl, ws_X5_cutTo, wn_X5, wc_X5_cutTo, by decide +kernel, by decide +kernel, by decide +kernel⟩
theorem gc_L_154 : g_V RL 154 yX5_copy cX5_copy 7 (some .int) 5 := ⟨tG_in (List.mem_of_getElem? (i := 1175) (by decide +kernel)) rfl, wi_X5_copy, wv_X5_copy, wn_X5, wc_X5_copy, by decide +kernel, by decide +kernel, by decide +kernel⟩
theorem gc_L_158 : g_V RL 158 yX5_load cX5_load 3 (some .int) 1 := ⟨tG_in (List.mem_of_getElem? (i := 1179) (by decide +kernel)) rfl, wi_X5_load, wv_X5_load, wn_X5, wc_X5_load, by decide +kernel, by decide +kernel, by decide +kernel⟩
theorem gc_L_162 : g_V RL 162 yX5_judge cX5_judge 3 (some .int) 1 := ⟨tG_in (List.mem_of_getElem? (i := 1183) (by decide +kernel)) rfl, wi_X5_judge, wv_X5_judge, wn_X5, wc_X5_judge, by decide +kernel, by decide +kernel, by decide +kernel⟩
theorem gc_L_166 : g_V RL 166 yX5_image cX5_image 1 (some .int) 0 := ⟨tG_in (List.mem_of_getElem? (i := 1187) (by decide +kernel)) rfl, wi_X5_image, wv_X5_image, wn_X5, wc_X5_image, by decide +kernel, by decide +kernel, by decide +kernel⟩
theorem gc_L_170 : g_V RL 170 yX5_undo cX5_undo 1 (some .int) 0 := ⟨tG_in (List.mem_of_getElem? (i := 1191) (by decide +kernel)) rfl, wi_X5_undo, wv_X5_undo, wn_X5, wc_X5_undo, by decide +kernel, by decide +kernel, by decide +kernel⟩
theorem gc_L_174 : g_V RL 174 yX5_tear cX5_tear 2 (some .int) 0 := ⟨tG_in (List.mem_of_getElem? (i := 1195) (by decide +kernel)) rfl, wi_X5_tear, wv_X5_tear, wn_X5, wc_X5_tear, by decide +kernel, by decide +kernel, by decide +kernel⟩
theorem gc_L_178 : g_V RL 178 yX5_count cX5_count 4 (some .int) 1 := ⟨tG_in (List.mem_of_getElem? (i := 1199) (by decide +kernel)) rfl, wi_X5_count, wv_X5_count, wn_X5, wc_X5_count, by decide +kernel, by decide +kernel, by decide +kernel⟩
theorem gc_L_182 : g_V RL 182 yX5_status cX5_status 2 (some .int) 1 := ⟨tG_in (List.mem_of_getElem? (i := 1203) (by decide +kernel)) rfl, wi_X5_status, wv_X5_status, wn_X5, wc_X5_status, by decide +kernel, by decide +kernel, by decide +kernel⟩
theorem wAC_n : Cond.native arraycopyName ∈ tG := tG_in (List.mem_of_getElem? (i := 405) (by decide +kernel)) rfl
theorem wAC_s : Cond.static arraycopyName ∈ tG := tG_in (List.mem_of_getElem? (i := 404) (by decide +kernel)) rfl
theorem wAC_i : Cond.initialized "java/lang/System" ∈ tG := tG_in (List.mem_of_getElem? (i := 67) (by decide +kernel)) rfl
theorem wM_i : Cond.initialized "java/lang/Math" ∈ tG := tG_in (List.mem_of_getElem? (i := 65) (by decide +kernel)) rfl
theorem wM_s_max : Cond.static Lib.Math.max.name ∈ tG := tG_in (List.mem_of_getElem? (i := 269) (by decide +kernel)) rfl
theorem wM_c_max : Cond.code Lib.Math.max.name Lib.Math.max.code 2 (some .int) ∈ tG := tG_in (List.mem_of_getElem? (i := 270) (by decide +kernel)) rfl
theorem wM_s_min : Cond.static Lib.Math.min.name ∈ tG := tG_in (List.mem_of_getElem? (i := 361) (by decide +kernel)) rfl
theorem wM_c_min : Cond.code Lib.Math.min.name Lib.Math.min.code 2 (some .int) ∈ tG := tG_in (List.mem_of_getElem? (i := 362) (by decide +kernel)) rfl
theorem gm_X4_1 : Cond.methodLink RX4 1 Lib.objectInit ∈ tG := tG_in (List.mem_of_getElem? (i := 78) (by decide +kernel)) rfl
theorem gm_X0_1 : Cond.methodLink RX0 1 Lib.objectInit ∈ tG := tG_in (List.mem_of_getElem? (i := 86) (by decide +kernel)) rfl
theorem gm_X2_1 : Cond.methodLink RX2 1 Lib.objectInit ∈ tG := tG_in (List.mem_of_getElem? (i := 161) (by decide +kernel)) rfl
theorem gm_X3_1 : Cond.methodLink RX3 1 Lib.objectInit ∈ tG := tG_in (List.mem_of_getElem? (i := 182) (by decide +kernel)) rfl
theorem gm_X0_82 : Cond.methodLink RX0 82 Lib.Math.max.name ∈ tG := tG_in (List.mem_of_getElem? (i := 268) (by decide +kernel)) rfl
theorem gm_X1_7 : Cond.methodLink RX1 7 Lib.Math.max.name ∈ tG := tG_in (List.mem_of_getElem? (i := 302) (by decide +kernel)) rfl
theorem gm_X0_116 : Cond.methodLink RX0 116 Lib.Math.min.name ∈ tG := tG_in (List.mem_of_getElem? (i := 360) (by decide +kernel)) rfl
theorem gm_X0_62 : Cond.methodLink RX0 62 arraycopyName ∈ tG := tG_in (List.mem_of_getElem? (i := 403) (by decide +kernel)) rfl
theorem gm_X3_138 : Cond.methodLink RX3 138 Lib.Math.min.name ∈ tG := tG_in (List.mem_of_getElem? (i := 554) (by decide +kernel)) rfl
theorem gm_X4_266 : Cond.methodLink RX4 266 arraycopyName ∈ tG := tG_in (List.mem_of_getElem? (i := 695) (by decide +kernel)) rfl
theorem gm_X4_272 : Cond.methodLink RX4 272 Lib.Math.min.name ∈ tG := tG_in (List.mem_of_getElem? (i := 700) (by decide +kernel)) rfl
theorem gm_X5_1 : Cond.methodLink RX5 1 Lib.objectInit ∈ tG := tG_in (List.mem_of_getElem? (i := 738) (by decide +kernel)) rfl
theorem gm_X5_98 : Cond.methodLink RX5 98 Lib.Math.max.name ∈ tG := tG_in (List.mem_of_getElem? (i := 860) (by decide +kernel)) rfl
theorem gm_X5_144 : Cond.methodLink RX5 144 Lib.Math.min.name ∈ tG := tG_in (List.mem_of_getElem? (i := 953) (by decide +kernel)) rfl
theorem wO_i : Cond.instanceMethod Lib.objectInit ∈ tG := tG_in (List.mem_of_getElem? (i := 79) (by decide +kernel)) rfl
theorem wO_c : Cond.code Lib.objectInit ⟨#[0xb1]⟩ 1 none ∈ tG := tG_in (List.mem_of_getElem? (i := 80) (by decide +kernel)) rfl
theorem wA_int : Cond.arrayClass .int ∈ tG := tG_in (List.mem_of_getElem? (i := 155) (by decide +kernel)) rfl
theorem kl_L_7 : Cond.classLink RL 7 "LacedHouse" ∈ tG := tG_in (List.mem_of_getElem? (i := 73) (by decide +kernel)) rfl
theorem wz_X4 : Cond.instantiable RX4 7 ∈ tG := tG_in (List.mem_of_getElem? (i := 74) (by decide +kernel)) rfl
theorem kl_X4_7 : Cond.classLink RX4 7 "LacedHouse$House" ∈ tG := tG_in (List.mem_of_getElem? (i := 81) (by decide +kernel)) rfl
theorem wz_X0 : Cond.instantiable RX0 15 ∈ tG := tG_in (List.mem_of_getElem? (i := 82) (by decide +kernel)) rfl
theorem kl_X4_26 : Cond.classLink RX4 26 "LacedHouse$Sheets" ∈ tG := tG_in (List.mem_of_getElem? (i := 156) (by decide +kernel)) rfl
theorem wz_X2 : Cond.instantiable RX2 3 ∈ tG := tG_in (List.mem_of_getElem? (i := 157) (by decide +kernel)) rfl
theorem kl_X2_9 : Cond.classLink RX2 9 "[[I" ∈ tG := tG_in (List.mem_of_getElem? (i := 162) (by decide +kernel)) rfl
theorem kl_X4_33 : Cond.classLink RX4 33 "LacedHouse$Tape" ∈ tG := tG_in (List.mem_of_getElem? (i := 177) (by decide +kernel)) rfl
theorem wz_X3 : Cond.instantiable RX3 6 ∈ tG := tG_in (List.mem_of_getElem? (i := 178) (by decide +kernel)) rfl
theorem kl_L_10 : Cond.classLink RL 10 "LacedHouseModel" ∈ tG := tG_in (List.mem_of_getElem? (i := 733) (by decide +kernel)) rfl
theorem wz_X5 : Cond.instantiable RX5 20 ∈ tG := tG_in (List.mem_of_getElem? (i := 734) (by decide +kernel)) rfl
theorem kl_X5_25 : Cond.classLink RX5 25 "java/lang/String" ∈ tG := tG_in (List.mem_of_getElem? (i := 739) (by decide +kernel)) rfl
theorem gn_X4_28 : g_N RX4 28 yX2_init "LacedHouse" cX2_init 1 0 := ⟨by decide +kernel, wi_X2_init, wn_X2, wc_X2_init, by decide +kernel, by decide +kernel, rfl, by decide +kernel⟩
theorem gn_X4_35 : g_N RX4 35 yX3_init "LacedHouse" cX3_init 1 0 := ⟨by decide +kernel, wi_X3_init, wn_X3, wc_X3_init, by decide +kernel, by decide +kernel, rfl, by decide +kernel⟩
