/-! facts of methods, fields, links: by program -/
theorem inZ0 : ∀ w ∈ wsX00, w ∈ z_tbl := fun w h => z_in ((by decide +kernel : ∀ w ∈ wsX00, w ∈ lw_tbl) w h) (List.all_eq_true.mp (by decide +kernel : wsX00.all goodWord = true) w h)
theorem inZ1 : ∀ w ∈ wsX10, w ∈ z_tbl := fun w h => z_in ((by decide +kernel : ∀ w ∈ wsX10, w ∈ lw_tbl) w h) (List.all_eq_true.mp (by decide +kernel : wsX10.all goodWord = true) w h)
theorem inZ2 : ∀ w ∈ wsX20, w ∈ z_tbl := fun w h => z_in ((by decide +kernel : ∀ w ∈ wsX20, w ∈ lw_tbl) w h) (List.all_eq_true.mp (by decide +kernel : wsX20.all goodWord = true) w h)
theorem inZ3 : ∀ w ∈ wsX30, w ∈ z_tbl := fun w h => z_in ((by decide +kernel : ∀ w ∈ wsX30, w ∈ lw_tbl) w h) (List.all_eq_true.mp (by decide +kernel : wsX30.all goodWord = true) w h)
theorem inZ4 : ∀ w ∈ wsX40, w ∈ z_tbl := fun w h => z_in ((by decide +kernel : ∀ w ∈ wsX40, w ∈ lw_tbl) w h) (List.all_eq_true.mp (by decide +kernel : wsX40.all goodWord = true) w h)
theorem inZ5 : ∀ w ∈ wsX50, w ∈ z_tbl := fun w h => z_in ((by decide +kernel : ∀ w ∈ wsX50, w ∈ lw_tbl) w h) (List.all_eq_true.mp (by decide +kernel : wsX50.all goodWord = true) w h)
theorem inZ6 : ∀ w ∈ wsX60, w ∈ z_tbl := fun w h => z_in ((by decide +kernel : ∀ w ∈ wsX60, w ∈ lw_tbl) w h) (List.all_eq_true.mp (by decide +kernel : wsX60.all goodWord = true) w h)
theorem inZ7 : ∀ w ∈ wsX70, w ∈ z_tbl := fun w h => z_in ((by decide +kernel : ∀ w ∈ wsX70, w ∈ lw_tbl) w h) (List.all_eq_true.mp (by decide +kernel : wsX70.all goodWord = true) w h)
theorem f_X6_10 : z_F RX6 6 0 10 RX6 TX6 7 := ⟨rfl, by decide, inZ6, by decide +kernel, z_tb (n := 198) (by decide +kernel) (by decide +kernel)⟩
theorem f_X6_19 : z_F RX6 6 1 19 RX6 TX6 7 := ⟨rfl, by decide, inZ6, by decide +kernel, z_tb (n := 199) (by decide +kernel) (by decide +kernel)⟩
theorem f_X6_26 : z_F RX6 6 2 26 RX6 TX6 7 := ⟨rfl, by decide, inZ6, by decide +kernel, z_tb (n := 200) (by decide +kernel) (by decide +kernel)⟩
theorem f_X6_35 : z_F RX6 6 3 35 RX6 TX6 7 := ⟨rfl, by decide, inZ6, by decide +kernel, z_tb (n := 201) (by decide +kernel) (by decide +kernel)⟩
theorem f_X6_44 : z_F RX6 6 4 44 RX6 TX6 7 := ⟨rfl, by decide, inZ6, by decide +kernel, z_tb (n := 202) (by decide +kernel) (by decide +kernel)⟩
theorem f_X6_51 : z_F RX6 6 5 51 RX6 TX6 7 := ⟨rfl, by decide, inZ6, by decide +kernel, z_tb (n := 203) (by decide +kernel) (by decide +kernel)⟩
theorem f_X6_55 : z_F RX6 6 6 55 RX6 TX6 7 := ⟨rfl, by decide, inZ6, by decide +kernel, z_tb (n := 204) (by decide +kernel) (by decide +kernel)⟩
theorem f_X0_11 : z_F RX0 0 2 11 RX0 TX0 12 := ⟨rfl, by decide, inZ0, by decide +kernel, z_tb (n := 90) (by decide +kernel) (by decide +kernel)⟩
theorem f_X0_17 : z_F RX0 0 3 17 RX0 TX0 12 := ⟨rfl, by decide, inZ0, by decide +kernel, z_tb (n := 91) (by decide +kernel) (by decide +kernel)⟩
theorem f_X0_20 : z_F RX0 0 4 20 RX0 TX0 12 := ⟨rfl, by decide, inZ0, by decide +kernel, z_tb (n := 92) (by decide +kernel) (by decide +kernel)⟩
theorem f_X0_23 : z_F RX0 0 5 23 RX0 TX0 12 := ⟨rfl, by decide, inZ0, by decide +kernel, z_tb (n := 93) (by decide +kernel) (by decide +kernel)⟩
theorem f_X0_27 : z_F RX0 0 6 27 RX0 TX0 12 := ⟨rfl, by decide, inZ0, by decide +kernel, z_tb (n := 94) (by decide +kernel) (by decide +kernel)⟩
theorem f_X0_30 : z_F RX0 0 7 30 RX0 TX0 12 := ⟨rfl, by decide, inZ0, by decide +kernel, z_tb (n := 95) (by decide +kernel) (by decide +kernel)⟩
theorem f_X0_33 : z_F RX0 0 8 33 RX0 TX0 12 := ⟨rfl, by decide, inZ0, by decide +kernel, z_tb (n := 96) (by decide +kernel) (by decide +kernel)⟩
theorem f_X0_36 : z_F RX0 0 9 36 RX0 TX0 12 := ⟨rfl, by decide, inZ0, by decide +kernel, z_tb (n := 97) (by decide +kernel) (by decide +kernel)⟩
theorem f_X0_39 : z_F RX0 0 10 39 RX0 TX0 12 := ⟨rfl, by decide, inZ0, by decide +kernel, z_tb (n := 98) (by decide +kernel) (by decide +kernel)⟩
theorem f_X0_42 : z_F RX0 0 0 42 RX0 TX0 12 := ⟨rfl, by decide, inZ0, by decide +kernel, z_tb (n := 88) (by decide +kernel) (by decide +kernel)⟩
theorem f_X0_46 : z_F RX0 0 1 46 RX0 TX0 12 := ⟨rfl, by decide, inZ0, by decide +kernel, z_tb (n := 89) (by decide +kernel) (by decide +kernel)⟩
theorem f_X0_53 : z_F RX0 0 11 53 RX0 TX0 12 := ⟨rfl, by decide, inZ0, by decide +kernel, z_tb (n := 99) (by decide +kernel) (by decide +kernel)⟩
theorem f_X1_9 : z_F RX1 1 0 9 RX1 TX1 4 := ⟨rfl, by decide, inZ1, by decide +kernel, z_tb (n := 64) (by decide +kernel) (by decide +kernel)⟩
theorem f_X1_15 : z_F RX1 1 1 15 RX1 TX1 4 := ⟨rfl, by decide, inZ1, by decide +kernel, z_tb (n := 65) (by decide +kernel) (by decide +kernel)⟩
theorem f_X1_18 : z_F RX1 1 2 18 RX1 TX1 4 := ⟨rfl, by decide, inZ1, by decide +kernel, z_tb (n := 66) (by decide +kernel) (by decide +kernel)⟩
theorem f_X1_21 : z_F RX1 1 3 21 RX1 TX1 4 := ⟨rfl, by decide, inZ1, by decide +kernel, z_tb (n := 67) (by decide +kernel) (by decide +kernel)⟩
theorem f_X2_11 : z_F RX2 2 0 11 RX2 TX2 11 := ⟨rfl, by decide, inZ2, by decide +kernel, z_tb (n := 164) (by decide +kernel) (by decide +kernel)⟩
theorem f_X2_15 : z_F RX2 2 1 15 RX2 TX2 11 := ⟨rfl, by decide, inZ2, by decide +kernel, z_tb (n := 165) (by decide +kernel) (by decide +kernel)⟩
theorem f_X2_19 : z_F RX2 2 2 19 RX2 TX2 11 := ⟨rfl, by decide, inZ2, by decide +kernel, z_tb (n := 166) (by decide +kernel) (by decide +kernel)⟩
theorem f_X2_22 : z_F RX2 2 3 22 RX2 TX2 11 := ⟨rfl, by decide, inZ2, by decide +kernel, z_tb (n := 167) (by decide +kernel) (by decide +kernel)⟩
theorem f_X2_25 : z_F RX2 2 4 25 RX2 TX2 11 := ⟨rfl, by decide, inZ2, by decide +kernel, z_tb (n := 168) (by decide +kernel) (by decide +kernel)⟩
theorem f_X2_28 : z_F RX2 2 5 28 RX2 TX2 11 := ⟨rfl, by decide, inZ2, by decide +kernel, z_tb (n := 169) (by decide +kernel) (by decide +kernel)⟩
theorem f_X2_31 : z_F RX2 2 6 31 RX2 TX2 11 := ⟨rfl, by decide, inZ2, by decide +kernel, z_tb (n := 170) (by decide +kernel) (by decide +kernel)⟩
theorem f_X2_35 : z_F RX2 2 7 35 RX2 TX2 11 := ⟨rfl, by decide, inZ2, by decide +kernel, z_tb (n := 171) (by decide +kernel) (by decide +kernel)⟩
theorem f_X2_38 : z_F RX2 2 8 38 RX2 TX2 11 := ⟨rfl, by decide, inZ2, by decide +kernel, z_tb (n := 172) (by decide +kernel) (by decide +kernel)⟩
theorem f_X2_41 : z_F RX2 2 9 41 RX2 TX2 11 := ⟨rfl, by decide, inZ2, by decide +kernel, z_tb (n := 173) (by decide +kernel) (by decide +kernel)⟩
theorem f_X2_44 : z_F RX2 2 10 44 RX2 TX2 11 := ⟨rfl, by decide, inZ2, by decide +kernel, z_tb (n := 174) (by decide +kernel) (by decide +kernel)⟩
theorem f_X3_12 : z_F RX3 3 3 12 RX3 TX3 7 := ⟨rfl, by decide, inZ3, by decide +kernel, z_tb (n := 139) (by decide +kernel) (by decide +kernel)⟩
theorem f_X3_18 : z_F RX3 3 5 18 RX3 TX3 7 := ⟨rfl, by decide, inZ3, by decide +kernel, z_tb (n := 141) (by decide +kernel) (by decide +kernel)⟩
theorem f_X3_22 : z_F RX3 3 6 22 RX3 TX3 7 := ⟨rfl, by decide, inZ3, by decide +kernel, z_tb (n := 142) (by decide +kernel) (by decide +kernel)⟩
theorem f_X3_26 : z_F RX3 3 0 26 RX3 TX3 7 := ⟨rfl, by decide, inZ3, by decide +kernel, z_tb (n := 136) (by decide +kernel) (by decide +kernel)⟩
theorem f_X3_29 : z_F RX3 3 1 29 RX3 TX3 7 := ⟨rfl, by decide, inZ3, by decide +kernel, z_tb (n := 137) (by decide +kernel) (by decide +kernel)⟩
theorem f_X3_33 : z_F RX3 3 2 33 RX3 TX3 7 := ⟨rfl, by decide, inZ3, by decide +kernel, z_tb (n := 138) (by decide +kernel) (by decide +kernel)⟩
theorem f_X3_42 : z_F RX3 3 4 42 RX3 TX3 7 := ⟨rfl, by decide, inZ3, by decide +kernel, z_tb (n := 140) (by decide +kernel) (by decide +kernel)⟩
theorem f_X4_9 : z_F RX4 4 0 9 RX4 TX4 4 := ⟨rfl, by decide, inZ4, by decide +kernel, z_tb (n := 45) (by decide +kernel) (by decide +kernel)⟩
theorem f_X4_15 : z_F RX4 4 1 15 RX4 TX4 4 := ⟨rfl, by decide, inZ4, by decide +kernel, z_tb (n := 46) (by decide +kernel) (by decide +kernel)⟩
theorem f_X4_18 : z_F RX4 4 2 18 RX4 TX4 4 := ⟨rfl, by decide, inZ4, by decide +kernel, z_tb (n := 47) (by decide +kernel) (by decide +kernel)⟩
theorem f_X4_21 : z_F RX4 4 3 21 RX4 TX4 4 := ⟨rfl, by decide, inZ4, by decide +kernel, z_tb (n := 48) (by decide +kernel) (by decide +kernel)⟩
theorem sX_X5_7 : Cond.fieldLink RX5 7 "CalmLines$Rules" "FIRST" "[I" ∈ z_tbl := z_tb (n := 25) (by decide +kernel) (by decide +kernel)
theorem f_X5_18 : z_F RX5 5 0 18 RX5 TX5 1 := ⟨rfl, by decide, inZ5, by decide +kernel, z_tb (n := 34) (by decide +kernel) (by decide +kernel)⟩
theorem sX_X5_21 : Cond.fieldLink RX5 21 "CalmLines$Rules" "LEAST" "[I" ∈ z_tbl := z_tb (n := 256) (by decide +kernel) (by decide +kernel)
theorem sX_X5_24 : Cond.fieldLink RX5 24 "CalmLines$Rules" "MOST" "[I" ∈ z_tbl := z_tb (n := 258) (by decide +kernel) (by decide +kernel)
theorem f_X7_7 : z_F RX7 7 0 7 RX7 TX7 37 := ⟨rfl, by decide, inZ7, by decide +kernel, z_tb (n := 633) (by decide +kernel) (by decide +kernel)⟩
theorem f_X7_13 : z_F RX7 7 2 13 RX7 TX7 37 := ⟨rfl, by decide, inZ7, by decide +kernel, z_tb (n := 635) (by decide +kernel) (by decide +kernel)⟩
theorem f_X7_16 : z_F RX7 7 3 16 RX7 TX7 37 := ⟨rfl, by decide, inZ7, by decide +kernel, z_tb (n := 636) (by decide +kernel) (by decide +kernel)⟩
theorem f_X7_19 : z_F RX7 7 4 19 RX7 TX7 37 := ⟨rfl, by decide, inZ7, by decide +kernel, z_tb (n := 637) (by decide +kernel) (by decide +kernel)⟩
theorem f_X7_22 : z_F RX7 7 5 22 RX7 TX7 37 := ⟨rfl, by decide, inZ7, by decide +kernel, z_tb (n := 638) (by decide +kernel) (by decide +kernel)⟩
theorem f_X7_25 : z_F RX7 7 6 25 RX7 TX7 37 := ⟨rfl, by decide, inZ7, by decide +kernel, z_tb (n := 639) (by decide +kernel) (by decide +kernel)⟩
theorem f_X7_28 : z_F RX7 7 7 28 RX7 TX7 37 := ⟨rfl, by decide, inZ7, by decide +kernel, z_tb (n := 640) (by decide +kernel) (by decide +kernel)⟩
theorem f_X7_31 : z_F RX7 7 8 31 RX7 TX7 37 := ⟨rfl, by decide, inZ7, by decide +kernel, z_tb (n := 641) (by decide +kernel) (by decide +kernel)⟩
theorem f_X7_34 : z_F RX7 7 9 34 RX7 TX7 37 := ⟨rfl, by decide, inZ7, by decide +kernel, z_tb (n := 642) (by decide +kernel) (by decide +kernel)⟩
theorem f_X7_37 : z_F RX7 7 10 37 RX7 TX7 37 := ⟨rfl, by decide, inZ7, by decide +kernel, z_tb (n := 643) (by decide +kernel) (by decide +kernel)⟩
theorem f_X7_41 : z_F RX7 7 11 41 RX7 TX7 37 := ⟨rfl, by decide, inZ7, by decide +kernel, z_tb (n := 644) (by decide +kernel) (by decide +kernel)⟩
theorem f_X7_44 : z_F RX7 7 12 44 RX7 TX7 37 := ⟨rfl, by decide, inZ7, by decide +kernel, z_tb (n := 645) (by decide +kernel) (by decide +kernel)⟩
theorem f_X7_47 : z_F RX7 7 13 47 RX7 TX7 37 := ⟨rfl, by decide, inZ7, by decide +kernel, z_tb (n := 646) (by decide +kernel) (by decide +kernel)⟩
theorem f_X7_50 : z_F RX7 7 14 50 RX7 TX7 37 := ⟨rfl, by decide, inZ7, by decide +kernel, z_tb (n := 647) (by decide +kernel) (by decide +kernel)⟩
theorem f_X7_53 : z_F RX7 7 15 53 RX7 TX7 37 := ⟨rfl, by decide, inZ7, by decide +kernel, z_tb (n := 648) (by decide +kernel) (by decide +kernel)⟩
theorem f_X7_56 : z_F RX7 7 17 56 RX7 TX7 37 := ⟨rfl, by decide, inZ7, by decide +kernel, z_tb (n := 650) (by decide +kernel) (by decide +kernel)⟩
theorem f_X7_59 : z_F RX7 7 18 59 RX7 TX7 37 := ⟨rfl, by decide, inZ7, by decide +kernel, z_tb (n := 651) (by decide +kernel) (by decide +kernel)⟩
theorem f_X7_62 : z_F RX7 7 19 62 RX7 TX7 37 := ⟨rfl, by decide, inZ7, by decide +kernel, z_tb (n := 652) (by decide +kernel) (by decide +kernel)⟩
theorem f_X7_65 : z_F RX7 7 20 65 RX7 TX7 37 := ⟨rfl, by decide, inZ7, by decide +kernel, z_tb (n := 653) (by decide +kernel) (by decide +kernel)⟩
theorem f_X7_68 : z_F RX7 7 21 68 RX7 TX7 37 := ⟨rfl, by decide, inZ7, by decide +kernel, z_tb (n := 654) (by decide +kernel) (by decide +kernel)⟩
theorem f_X7_71 : z_F RX7 7 22 71 RX7 TX7 37 := ⟨rfl, by decide, inZ7, by decide +kernel, z_tb (n := 655) (by decide +kernel) (by decide +kernel)⟩
theorem f_X7_74 : z_F RX7 7 23 74 RX7 TX7 37 := ⟨rfl, by decide, inZ7, by decide +kernel, z_tb (n := 656) (by decide +kernel) (by decide +kernel)⟩
theorem f_X7_77 : z_F RX7 7 24 77 RX7 TX7 37 := ⟨rfl, by decide, inZ7, by decide +kernel, z_tb (n := 657) (by decide +kernel) (by decide +kernel)⟩
theorem f_X7_80 : z_F RX7 7 25 80 RX7 TX7 37 := ⟨rfl, by decide, inZ7, by decide +kernel, z_tb (n := 658) (by decide +kernel) (by decide +kernel)⟩
theorem f_X7_83 : z_F RX7 7 26 83 RX7 TX7 37 := ⟨rfl, by decide, inZ7, by decide +kernel, z_tb (n := 659) (by decide +kernel) (by decide +kernel)⟩
theorem f_X7_86 : z_F RX7 7 27 86 RX7 TX7 37 := ⟨rfl, by decide, inZ7, by decide +kernel, z_tb (n := 660) (by decide +kernel) (by decide +kernel)⟩
theorem f_X7_89 : z_F RX7 7 29 89 RX7 TX7 37 := ⟨rfl, by decide, inZ7, by decide +kernel, z_tb (n := 662) (by decide +kernel) (by decide +kernel)⟩
theorem f_X7_92 : z_F RX7 7 32 92 RX7 TX7 37 := ⟨rfl, by decide, inZ7, by decide +kernel, z_tb (n := 665) (by decide +kernel) (by decide +kernel)⟩
theorem f_X7_95 : z_F RX7 7 33 95 RX7 TX7 37 := ⟨rfl, by decide, inZ7, by decide +kernel, z_tb (n := 666) (by decide +kernel) (by decide +kernel)⟩
theorem f_X7_98 : z_F RX7 7 34 98 RX7 TX7 37 := ⟨rfl, by decide, inZ7, by decide +kernel, z_tb (n := 667) (by decide +kernel) (by decide +kernel)⟩
theorem f_X7_102 : z_F RX7 7 35 102 RX7 TX7 37 := ⟨rfl, by decide, inZ7, by decide +kernel, z_tb (n := 668) (by decide +kernel) (by decide +kernel)⟩
theorem f_X7_115 : z_F RX7 7 1 115 RX7 TX7 37 := ⟨rfl, by decide, inZ7, by decide +kernel, z_tb (n := 634) (by decide +kernel) (by decide +kernel)⟩
theorem f_X7_147 : z_F RX7 7 16 147 RX7 TX7 37 := ⟨rfl, by decide, inZ7, by decide +kernel, z_tb (n := 649) (by decide +kernel) (by decide +kernel)⟩
theorem f_X7_199 : z_F RX7 7 30 199 RX7 TX7 37 := ⟨rfl, by decide, inZ7, by decide +kernel, z_tb (n := 663) (by decide +kernel) (by decide +kernel)⟩
theorem f_X7_209 : z_F RX7 7 31 209 RX7 TX7 37 := ⟨rfl, by decide, inZ7, by decide +kernel, z_tb (n := 664) (by decide +kernel) (by decide +kernel)⟩
theorem f_X7_212 : z_F RX7 7 36 212 RX7 TX7 37 := ⟨rfl, by decide, inZ7, by decide +kernel, z_tb (n := 669) (by decide +kernel) (by decide +kernel)⟩
theorem f_X7_222 : z_F RX7 7 28 222 RX7 TX7 37 := ⟨rfl, by decide, inZ7, by decide +kernel, z_tb (n := 661) (by decide +kernel) (by decide +kernel)⟩
def iX0_endOf : z_MI := (yX0_endOf, cX0_endOf, 2, (some .int), 1)
theorem mX0_endOf : z_MV iX0_endOf 1 := ⟨⟨by decide +kernel, z_tb (n := 5) (by decide +kernel) (by decide +kernel), z_tb (n := 346) (by decide +kernel) (by decide +kernel), by decide +kernel, by decide +kernel, by decide +kernel, by decide⟩, z_tb (n := 345) (by decide +kernel) (by decide +kernel), z_in (List.mem_append_left _ (List.mem_of_getElem? (i := 6) (by decide +kernel))) (by decide +kernel)⟩
def iX0_firstOf : z_MI := (yX0_firstOf, cX0_firstOf, 2, (some .int), 0)
theorem mX0_firstOf : z_MV iX0_firstOf 1 := ⟨⟨by decide +kernel, z_tb (n := 5) (by decide +kernel) (by decide +kernel), z_tb (n := 342) (by decide +kernel) (by decide +kernel), by decide +kernel, by decide +kernel, by decide +kernel, by decide⟩, z_tb (n := 341) (by decide +kernel) (by decide +kernel), z_in (List.mem_append_left _ (List.mem_of_getElem? (i := 5) (by decide +kernel))) (by decide +kernel)⟩
def iX0_flipsOf : z_MI := (yX0_flipsOf, cX0_flipsOf, 2, (some .int), 0)
theorem mX0_flipsOf : z_MV iX0_flipsOf 1 := ⟨⟨by decide +kernel, z_tb (n := 5) (by decide +kernel) (by decide +kernel), z_tb (n := 391) (by decide +kernel) (by decide +kernel), by decide +kernel, by decide +kernel, by decide +kernel, by decide⟩, z_tb (n := 389) (by decide +kernel) (by decide +kernel), z_tb (n := 390) (by decide +kernel) (by decide +kernel)⟩
def iX0_isSeen : z_MI := (yX0_isSeen, cX0_isSeen, 2, (some .boolean), 2)
theorem mX0_isSeen : z_MV iX0_isSeen 1 := ⟨⟨by decide +kernel, z_tb (n := 5) (by decide +kernel) (by decide +kernel), z_tb (n := 239) (by decide +kernel) (by decide +kernel), by decide +kernel, by decide +kernel, by decide +kernel, by decide⟩, z_tb (n := 237) (by decide +kernel) (by decide +kernel), z_tb (n := 238) (by decide +kernel) (by decide +kernel)⟩
def iX0_isShut : z_MI := (yX0_isShut, cX0_isShut, 2, (some .boolean), 1)
theorem mX0_isShut : z_MV iX0_isShut 1 := ⟨⟨by decide +kernel, z_tb (n := 5) (by decide +kernel) (by decide +kernel), z_tb (n := 243) (by decide +kernel) (by decide +kernel), by decide +kernel, by decide +kernel, by decide +kernel, by decide⟩, z_tb (n := 241) (by decide +kernel) (by decide +kernel), z_tb (n := 242) (by decide +kernel) (by decide +kernel)⟩
def iX0_isUp : z_MI := (yX0_isUp, cX0_isUp, 2, (some .boolean), 0)
theorem mX0_isUp : z_MV iX0_isUp 1 := ⟨⟨by decide +kernel, z_tb (n := 5) (by decide +kernel) (by decide +kernel), z_tb (n := 300) (by decide +kernel) (by decide +kernel), by decide +kernel, by decide +kernel, by decide +kernel, by decide⟩, z_tb (n := 298) (by decide +kernel) (by decide +kernel), z_tb (n := 299) (by decide +kernel) (by decide +kernel)⟩
def iX0_join : z_MI := (yX0_join, cX0_join, 2, none, 3)
theorem mX0_join : z_MV iX0_join 1 := ⟨⟨by decide +kernel, z_tb (n := 5) (by decide +kernel) (by decide +kernel), z_tb (n := 235) (by decide +kernel) (by decide +kernel), by decide +kernel, by decide +kernel, by decide +kernel, by decide⟩, z_tb (n := 233) (by decide +kernel) (by decide +kernel), z_tb (n := 234) (by decide +kernel) (by decide +kernel)⟩
def iX0_lookAt : z_MI := (yX0_lookAt, cX0_lookAt, 4, none, 2)
theorem mX0_lookAt : z_MV iX0_lookAt 1 := ⟨⟨by decide +kernel, z_tb (n := 5) (by decide +kernel) (by decide +kernel), z_tb (n := 354) (by decide +kernel) (by decide +kernel), by decide +kernel, by decide +kernel, by decide +kernel, by decide⟩, z_tb (n := 353) (by decide +kernel) (by decide +kernel), z_in (List.mem_append_left _ (List.mem_of_getElem? (i := 7) (by decide +kernel))) (by decide +kernel)⟩
def iX0_lostOf : z_MI := (yX0_lostOf, cX0_lostOf, 2, (some .int), 0)
theorem mX0_lostOf : z_MV iX0_lostOf 1 := ⟨⟨by decide +kernel, z_tb (n := 5) (by decide +kernel) (by decide +kernel), z_tb (n := 395) (by decide +kernel) (by decide +kernel), by decide +kernel, by decide +kernel, by decide +kernel, by decide⟩, z_tb (n := 393) (by decide +kernel) (by decide +kernel), z_tb (n := 394) (by decide +kernel) (by decide +kernel)⟩
def iX0_openingTick : z_MI := (yX0_openingTick, cX0_openingTick, 4, (some .int), 2)
theorem mX0_openingTick : z_MV iX0_openingTick 2 := ⟨⟨by decide +kernel, z_tb (n := 5) (by decide +kernel) (by decide +kernel), z_tb (n := 328) (by decide +kernel) (by decide +kernel), by decide +kernel, by decide +kernel, by decide +kernel, by decide⟩, z_tb (n := 327) (by decide +kernel) (by decide +kernel), z_in (List.mem_append_left _ (List.mem_of_getElem? (i := 4) (by decide +kernel))) (by decide +kernel)⟩
def iX0_penaltyAt : z_MI := (yX0_penaltyAt, cX0_penaltyAt, 3, (some .int), 2)
theorem mX0_penaltyAt : z_MV iX0_penaltyAt 2 := ⟨⟨by decide +kernel, z_tb (n := 5) (by decide +kernel) (by decide +kernel), z_tb (n := 271) (by decide +kernel) (by decide +kernel), by decide +kernel, by decide +kernel, by decide +kernel, by decide⟩, z_tb (n := 270) (by decide +kernel) (by decide +kernel), z_in (List.mem_append_left _ (List.mem_of_getElem? (i := 0) (by decide +kernel))) (by decide +kernel)⟩
def iX0_penaltyOf : z_MI := (yX0_penaltyOf, cX0_penaltyOf, 3, (some .int), 3)
theorem mX0_penaltyOf : z_MV iX0_penaltyOf 2 := ⟨⟨by decide +kernel, z_tb (n := 5) (by decide +kernel) (by decide +kernel), z_tb (n := 366) (by decide +kernel) (by decide +kernel), by decide +kernel, by decide +kernel, by decide +kernel, by decide⟩, z_tb (n := 364) (by decide +kernel) (by decide +kernel), z_tb (n := 365) (by decide +kernel) (by decide +kernel)⟩
def iX0_restPenalties : z_MI := (yX0_restPenalties, cX0_restPenalties, 3, none, 3)
theorem mX0_restPenalties : z_MV iX0_restPenalties 1 := ⟨⟨by decide +kernel, z_tb (n := 5) (by decide +kernel) (by decide +kernel), z_tb (n := 267) (by decide +kernel) (by decide +kernel), by decide +kernel, by decide +kernel, by decide +kernel, by decide⟩, z_tb (n := 265) (by decide +kernel) (by decide +kernel), z_tb (n := 266) (by decide +kernel) (by decide +kernel)⟩
def iX0_restart : z_MI := (yX0_restart, cX0_restart, 2, none, 0)
theorem mX0_restart : z_MV iX0_restart 0 := ⟨⟨by decide +kernel, z_tb (n := 5) (by decide +kernel) (by decide +kernel), z_tb (n := 86) (by decide +kernel) (by decide +kernel), by decide +kernel, by decide +kernel, by decide +kernel, by decide⟩, z_tb (n := 84) (by decide +kernel) (by decide +kernel), z_tb (n := 85) (by decide +kernel) (by decide +kernel)⟩
def iX0_settle : z_MI := (yX0_settle, cX0_settle, 7, none, 3)
theorem mX0_settle : z_MV iX0_settle 2 := ⟨⟨by decide +kernel, z_tb (n := 5) (by decide +kernel) (by decide +kernel), z_tb (n := 324) (by decide +kernel) (by decide +kernel), by decide +kernel, by decide +kernel, by decide +kernel, by decide⟩, z_tb (n := 323) (by decide +kernel) (by decide +kernel), z_in (List.mem_append_left _ (List.mem_of_getElem? (i := 3) (by decide +kernel))) (by decide +kernel)⟩
def iX0_settleAll : z_MI := (yX0_settleAll, cX0_settleAll, 3, none, 4)
theorem mX0_settleAll : z_MV iX0_settleAll 1 := ⟨⟨by decide +kernel, z_tb (n := 5) (by decide +kernel) (by decide +kernel), z_tb (n := 378) (by decide +kernel) (by decide +kernel), by decide +kernel, by decide +kernel, by decide +kernel, by decide⟩, z_tb (n := 376) (by decide +kernel) (by decide +kernel), z_tb (n := 377) (by decide +kernel) (by decide +kernel)⟩
def iX0_shutLines : z_MI := (yX0_shutLines, cX0_shutLines, 3, (some .int), 2)
theorem mX0_shutLines : z_MV iX0_shutLines 0 := ⟨⟨by decide +kernel, z_tb (n := 5) (by decide +kernel) (by decide +kernel), z_tb (n := 603) (by decide +kernel) (by decide +kernel), by decide +kernel, by decide +kernel, by decide +kernel, by decide⟩, z_tb (n := 601) (by decide +kernel) (by decide +kernel), z_tb (n := 602) (by decide +kernel) (by decide +kernel)⟩
def iX0_take : z_MI := (yX0_take, cX0_take, 6, none, 4)
theorem mX0_take : z_MV iX0_take 3 := ⟨⟨by decide +kernel, z_tb (n := 5) (by decide +kernel) (by decide +kernel), z_tb (n := 320) (by decide +kernel) (by decide +kernel), by decide +kernel, by decide +kernel, by decide +kernel, by decide⟩, z_tb (n := 318) (by decide +kernel) (by decide +kernel), z_tb (n := 319) (by decide +kernel) (by decide +kernel)⟩
def iX0_ticksTillOpen : z_MI := (yX0_ticksTillOpen, cX0_ticksTillOpen, 4, (some .int), 3)
theorem mX0_ticksTillOpen : z_MV iX0_ticksTillOpen 2 := ⟨⟨by decide +kernel, z_tb (n := 5) (by decide +kernel) (by decide +kernel), z_tb (n := 400) (by decide +kernel) (by decide +kernel), by decide +kernel, by decide +kernel, by decide +kernel, by decide⟩, z_tb (n := 398) (by decide +kernel) (by decide +kernel), z_tb (n := 399) (by decide +kernel) (by decide +kernel)⟩
def iX0_wasEverShut : z_MI := (yX0_wasEverShut, cX0_wasEverShut, 1, (some .boolean), 0)
theorem mX0_wasEverShut : z_MV iX0_wasEverShut 0 := ⟨⟨by decide +kernel, z_tb (n := 5) (by decide +kernel) (by decide +kernel), z_tb (n := 501) (by decide +kernel) (by decide +kernel), by decide +kernel, by decide +kernel, by decide +kernel, by decide⟩, z_tb (n := 499) (by decide +kernel) (by decide +kernel), z_tb (n := 500) (by decide +kernel) (by decide +kernel)⟩
def iX0_weightOf : z_MI := (yX0_weightOf, cX0_weightOf, 5, (some .int), 1)
theorem mX0_weightOf : z_MV iX0_weightOf 3 := ⟨⟨by decide +kernel, z_tb (n := 5) (by decide +kernel) (by decide +kernel), z_tb (n := 358) (by decide +kernel) (by decide +kernel), by decide +kernel, by decide +kernel, by decide +kernel, by decide⟩, z_tb (n := 357) (by decide +kernel) (by decide +kernel), z_in (List.mem_append_left _ (List.mem_of_getElem? (i := 8) (by decide +kernel))) (by decide +kernel)⟩
def iX1_isFull : z_MI := (yX1_isFull, cX1_isFull, 1, (some .boolean), 0)
theorem mX1_isFull : z_MV iX1_isFull 0 := ⟨⟨by decide +kernel, z_tb (n := 4) (by decide +kernel) (by decide +kernel), z_tb (n := 312) (by decide +kernel) (by decide +kernel), by decide +kernel, by decide +kernel, by decide +kernel, by decide⟩, z_tb (n := 310) (by decide +kernel) (by decide +kernel), z_tb (n := 311) (by decide +kernel) (by decide +kernel)⟩
def iX1_lineAt : z_MI := (yX1_lineAt, cX1_lineAt, 2, (some .int), 0)
theorem mX1_lineAt : z_MV iX1_lineAt 1 := ⟨⟨by decide +kernel, z_tb (n := 4) (by decide +kernel) (by decide +kernel), z_tb (n := 421) (by decide +kernel) (by decide +kernel), by decide +kernel, by decide +kernel, by decide +kernel, by decide⟩, z_tb (n := 419) (by decide +kernel) (by decide +kernel), z_tb (n := 420) (by decide +kernel) (by decide +kernel)⟩
def iX1_size : z_MI := (yX1_size, cX1_size, 1, (some .int), 0)
theorem mX1_size : z_MV iX1_size 0 := ⟨⟨by decide +kernel, z_tb (n := 4) (by decide +kernel) (by decide +kernel), z_tb (n := 417) (by decide +kernel) (by decide +kernel), by decide +kernel, by decide +kernel, by decide +kernel, by decide⟩, z_tb (n := 415) (by decide +kernel) (by decide +kernel), z_tb (n := 416) (by decide +kernel) (by decide +kernel)⟩
def iX1_tickAt : z_MI := (yX1_tickAt, cX1_tickAt, 2, (some .int), 0)
theorem mX1_tickAt : z_MV iX1_tickAt 1 := ⟨⟨by decide +kernel, z_tb (n := 4) (by decide +kernel) (by decide +kernel), z_tb (n := 429) (by decide +kernel) (by decide +kernel), by decide +kernel, by decide +kernel, by decide +kernel, by decide⟩, z_tb (n := 427) (by decide +kernel) (by decide +kernel), z_tb (n := 428) (by decide +kernel) (by decide +kernel)⟩
def iX1_whatAt : z_MI := (yX1_whatAt, cX1_whatAt, 2, (some .int), 0)
theorem mX1_whatAt : z_MV iX1_whatAt 1 := ⟨⟨by decide +kernel, z_tb (n := 4) (by decide +kernel) (by decide +kernel), z_tb (n := 425) (by decide +kernel) (by decide +kernel), by decide +kernel, by decide +kernel, by decide +kernel, by decide⟩, z_tb (n := 423) (by decide +kernel) (by decide +kernel), z_tb (n := 424) (by decide +kernel) (by decide +kernel)⟩
def iX1_write : z_MI := (yX1_write, cX1_write, 4, none, 0)
theorem mX1_write : z_MV iX1_write 3 := ⟨⟨by decide +kernel, z_tb (n := 4) (by decide +kernel) (by decide +kernel), z_tb (n := 316) (by decide +kernel) (by decide +kernel), by decide +kernel, by decide +kernel, by decide +kernel, by decide⟩, z_tb (n := 314) (by decide +kernel) (by decide +kernel), z_tb (n := 315) (by decide +kernel) (by decide +kernel)⟩
def iX2_echoesOf : z_MI := (yX2_echoesOf, cX2_echoesOf, 2, (some .int), 0)
theorem mX2_echoesOf : z_MV iX2_echoesOf 1 := ⟨⟨by decide +kernel, z_tb (n := 7) (by decide +kernel) (by decide +kernel), z_tb (n := 594) (by decide +kernel) (by decide +kernel), by decide +kernel, by decide +kernel, by decide +kernel, by decide⟩, z_tb (n := 592) (by decide +kernel) (by decide +kernel), z_tb (n := 593) (by decide +kernel) (by decide +kernel)⟩
def iX2_findOwn : z_MI := (yX2_findOwn, cX2_findOwn, 3, none, 3)
theorem mX2_findOwn : z_MV iX2_findOwn 1 := ⟨⟨by decide +kernel, z_tb (n := 7) (by decide +kernel) (by decide +kernel), z_tb (n := 550) (by decide +kernel) (by decide +kernel), by decide +kernel, by decide +kernel, by decide +kernel, by decide⟩, z_tb (n := 549) (by decide +kernel) (by decide +kernel), z_in (List.mem_append_left _ (List.mem_of_getElem? (i := 13) (by decide +kernel))) (by decide +kernel)⟩
def iX2_goalRow : z_MI := (yX2_goalRow, cX2_goalRow, 1, (some .int), 0)
theorem mX2_goalRow : z_MV iX2_goalRow 0 := ⟨⟨by decide +kernel, z_tb (n := 7) (by decide +kernel) (by decide +kernel), z_tb (n := 554) (by decide +kernel) (by decide +kernel), by decide +kernel, by decide +kernel, by decide +kernel, by decide⟩, z_tb (n := 553) (by decide +kernel) (by decide +kernel), z_in (List.mem_append_left _ (List.mem_of_getElem? (i := 14) (by decide +kernel))) (by decide +kernel)⟩
def iX2_hasLetter : z_MI := (yX2_hasLetter, cX2_hasLetter, 1, (some .boolean), 0)
theorem mX2_hasLetter : z_MV iX2_hasLetter 0 := ⟨⟨by decide +kernel, z_tb (n := 7) (by decide +kernel) (by decide +kernel), z_tb (n := 573) (by decide +kernel) (by decide +kernel), by decide +kernel, by decide +kernel, by decide +kernel, by decide⟩, z_tb (n := 571) (by decide +kernel) (by decide +kernel), z_tb (n := 572) (by decide +kernel) (by decide +kernel)⟩
def iX2_hasWay : z_MI := (yX2_hasWay, cX2_hasWay, 3, (some .boolean), 1)
theorem mX2_hasWay : z_MV iX2_hasWay 2 := ⟨⟨by decide +kernel, z_tb (n := 7) (by decide +kernel) (by decide +kernel), z_tb (n := 523) (by decide +kernel) (by decide +kernel), by decide +kernel, by decide +kernel, by decide +kernel, by decide⟩, z_tb (n := 521) (by decide +kernel) (by decide +kernel), z_tb (n := 522) (by decide +kernel) (by decide +kernel)⟩
def iX2_holds : z_MI := (yX2_holds, cX2_holds, 3, (some .boolean), 0)
theorem mX2_holds : z_MS iX2_holds 2 := ⟨⟨by decide +kernel, z_tb (n := 7) (by decide +kernel) (by decide +kernel), z_tb (n := 561) (by decide +kernel) (by decide +kernel), by decide +kernel, by decide +kernel, by decide +kernel, by decide⟩, z_tb (n := 560) (by decide +kernel) (by decide +kernel)⟩
def iX2_isHouse : z_MI := (yX2_isHouse, cX2_isHouse, 1, (some .boolean), 0)
theorem mX2_isHouse : z_MS iX2_isHouse 1 := ⟨⟨by decide +kernel, z_tb (n := 7) (by decide +kernel) (by decide +kernel), z_tb (n := 519) (by decide +kernel) (by decide +kernel), by decide +kernel, by decide +kernel, by decide +kernel, by decide⟩, z_tb (n := 518) (by decide +kernel) (by decide +kernel)⟩
def iX2_lengthOf : z_MI := (yX2_lengthOf, cX2_lengthOf, 2, (some .int), 0)
theorem mX2_lengthOf : z_MS iX2_lengthOf 1 := ⟨⟨by decide +kernel, z_tb (n := 7) (by decide +kernel) (by decide +kernel), z_tb (n := 564) (by decide +kernel) (by decide +kernel), by decide +kernel, by decide +kernel, by decide +kernel, by decide⟩, z_tb (n := 563) (by decide +kernel) (by decide +kernel)⟩
def iX2_lettersOfAll : z_MI := (yX2_lettersOfAll, cX2_lettersOfAll, 1, (some .int), 0)
theorem mX2_lettersOfAll : z_MV iX2_lettersOfAll 0 := ⟨⟨by decide +kernel, z_tb (n := 7) (by decide +kernel) (by decide +kernel), z_tb (n := 611) (by decide +kernel) (by decide +kernel), by decide +kernel, by decide +kernel, by decide +kernel, by decide⟩, z_tb (n := 609) (by decide +kernel) (by decide +kernel), z_tb (n := 610) (by decide +kernel) (by decide +kernel)⟩
def iX2_ownAt : z_MI := (yX2_ownAt, cX2_ownAt, 3, (some .int), 0)
theorem mX2_ownAt : z_MV iX2_ownAt 2 := ⟨⟨by decide +kernel, z_tb (n := 7) (by decide +kernel) (by decide +kernel), z_tb (n := 586) (by decide +kernel) (by decide +kernel), by decide +kernel, by decide +kernel, by decide +kernel, by decide⟩, z_tb (n := 584) (by decide +kernel) (by decide +kernel), z_tb (n := 585) (by decide +kernel) (by decide +kernel)⟩
def iX2_place : z_MI := (yX2_place, cX2_place, 2, (some .int), 0)
theorem mX2_place : z_MS iX2_place 2 := ⟨⟨by decide +kernel, z_tb (n := 7) (by decide +kernel) (by decide +kernel), z_tb (n := 526) (by decide +kernel) (by decide +kernel), by decide +kernel, by decide +kernel, by decide +kernel, by decide⟩, z_tb (n := 525) (by decide +kernel) (by decide +kernel)⟩
def iX2_putBound : z_MI := (yX2_putBound, cX2_putBound, 4, none, 1)
theorem mX2_putBound : z_MV iX2_putBound 3 := ⟨⟨by decide +kernel, z_tb (n := 7) (by decide +kernel) (by decide +kernel), z_tb (n := 538) (by decide +kernel) (by decide +kernel), by decide +kernel, by decide +kernel, by decide +kernel, by decide⟩, z_tb (n := 536) (by decide +kernel) (by decide +kernel), z_tb (n := 537) (by decide +kernel) (by decide +kernel)⟩
def iX2_putWay : z_MI := (yX2_putWay, cX2_putWay, 4, none, 1)
theorem mX2_putWay : z_MV iX2_putWay 3 := ⟨⟨by decide +kernel, z_tb (n := 7) (by decide +kernel) (by decide +kernel), z_tb (n := 530) (by decide +kernel) (by decide +kernel), by decide +kernel, by decide +kernel, by decide +kernel, by decide⟩, z_tb (n := 528) (by decide +kernel) (by decide +kernel), z_tb (n := 529) (by decide +kernel) (by decide +kernel)⟩
def iX2_send : z_MI := (yX2_send, cX2_send, 4, none, 2)
theorem mX2_send : z_MV iX2_send 2 := ⟨⟨by decide +kernel, z_tb (n := 7) (by decide +kernel) (by decide +kernel), z_tb (n := 568) (by decide +kernel) (by decide +kernel), by decide +kernel, by decide +kernel, by decide +kernel, by decide⟩, z_tb (n := 567) (by decide +kernel) (by decide +kernel), z_in (List.mem_append_left _ (List.mem_of_getElem? (i := 16) (by decide +kernel))) (by decide +kernel)⟩
def iX2_shortestRow : z_MI := (yX2_shortestRow, cX2_shortestRow, 5, (some .int), 1)
theorem mX2_shortestRow : z_MV iX2_shortestRow 1 := ⟨⟨by decide +kernel, z_tb (n := 7) (by decide +kernel) (by decide +kernel), z_tb (n := 558) (by decide +kernel) (by decide +kernel), by decide +kernel, by decide +kernel, by decide +kernel, by decide⟩, z_tb (n := 557) (by decide +kernel) (by decide +kernel), z_in (List.mem_append_left _ (List.mem_of_getElem? (i := 15) (by decide +kernel))) (by decide +kernel)⟩
def iX2_startFlood : z_MI := (yX2_startFlood, cX2_startFlood, 3, none, 4)
theorem mX2_startFlood : z_MV iX2_startFlood 1 := ⟨⟨by decide +kernel, z_tb (n := 7) (by decide +kernel) (by decide +kernel), z_tb (n := 546) (by decide +kernel) (by decide +kernel), by decide +kernel, by decide +kernel, by decide +kernel, by decide⟩, z_tb (n := 544) (by decide +kernel) (by decide +kernel), z_tb (n := 545) (by decide +kernel) (by decide +kernel)⟩
def iX2_takeLetter : z_MI := (yX2_takeLetter, cX2_takeLetter, 5, (some .int), 4)
theorem mX2_takeLetter : z_MV iX2_takeLetter 0 := ⟨⟨by decide +kernel, z_tb (n := 7) (by decide +kernel) (by decide +kernel), z_tb (n := 577) (by decide +kernel) (by decide +kernel), by decide +kernel, by decide +kernel, by decide +kernel, by decide⟩, z_tb (n := 575) (by decide +kernel) (by decide +kernel), z_tb (n := 576) (by decide +kernel) (by decide +kernel)⟩
def iX2_ways : z_MI := (yX2_ways, cX2_ways, 1, (some .int), 0)
theorem mX2_ways : z_MV iX2_ways 0 := ⟨⟨by decide +kernel, z_tb (n := 7) (by decide +kernel) (by decide +kernel), z_tb (n := 607) (by decide +kernel) (by decide +kernel), by decide +kernel, by decide +kernel, by decide +kernel, by decide⟩, z_tb (n := 605) (by decide +kernel) (by decide +kernel), z_tb (n := 606) (by decide +kernel) (by decide +kernel)⟩
def iX3_canMeet : z_MI := (yX3_canMeet, cX3_canMeet, 5, (some .boolean), 0)
theorem mX3_canMeet : z_MV iX3_canMeet 2 := ⟨⟨by decide +kernel, z_tb (n := 6) (by decide +kernel) (by decide +kernel), z_tb (n := 509) (by decide +kernel) (by decide +kernel), by decide +kernel, by decide +kernel, by decide +kernel, by decide⟩, z_tb (n := 508) (by decide +kernel) (by decide +kernel), z_in (List.mem_append_left _ (List.mem_of_getElem? (i := 12) (by decide +kernel))) (by decide +kernel)⟩
def iX3_conflict : z_MI := (yX3_conflict, cX3_conflict, 4, (some .int), 1)
theorem mX3_conflict : z_MV iX3_conflict 0 := ⟨⟨by decide +kernel, z_tb (n := 6) (by decide +kernel) (by decide +kernel), z_tb (n := 505) (by decide +kernel) (by decide +kernel), by decide +kernel, by decide +kernel, by decide +kernel, by decide⟩, z_tb (n := 504) (by decide +kernel) (by decide +kernel), z_in (List.mem_append_left _ (List.mem_of_getElem? (i := 11) (by decide +kernel))) (by decide +kernel)⟩
def iX3_findMarks : z_MI := (yX3_findMarks, cX3_findMarks, 8, (some .int), 6)
theorem mX3_findMarks : z_MV iX3_findMarks 2 := ⟨⟨by decide +kernel, z_tb (n := 6) (by decide +kernel) (by decide +kernel), z_tb (n := 484) (by decide +kernel) (by decide +kernel), by decide +kernel, by decide +kernel, by decide +kernel, by decide⟩, z_tb (n := 482) (by decide +kernel) (by decide +kernel), z_tb (n := 483) (by decide +kernel) (by decide +kernel)⟩
def iX3_flipsOf : z_MI := (yX3_flipsOf, cX3_flipsOf, 2, (some .int), 1)
theorem mX3_flipsOf : z_MV iX3_flipsOf 1 := ⟨⟨by decide +kernel, z_tb (n := 6) (by decide +kernel) (by decide +kernel), z_tb (n := 458) (by decide +kernel) (by decide +kernel), by decide +kernel, by decide +kernel, by decide +kernel, by decide⟩, z_tb (n := 456) (by decide +kernel) (by decide +kernel), z_tb (n := 457) (by decide +kernel) (by decide +kernel)⟩
def iX3_goOver : z_MI := (yX3_goOver, cX3_goOver, 5, none, 5)
theorem mX3_goOver : z_MV iX3_goOver 3 := ⟨⟨by decide +kernel, z_tb (n := 6) (by decide +kernel) (by decide +kernel), z_tb (n := 440) (by decide +kernel) (by decide +kernel), by decide +kernel, by decide +kernel, by decide +kernel, by decide⟩, z_tb (n := 438) (by decide +kernel) (by decide +kernel), z_tb (n := 439) (by decide +kernel) (by decide +kernel)⟩
def iX3_keep : z_MI := (yX3_keep, cX3_keep, 2, none, 0)
theorem mX3_keep : z_MV iX3_keep 1 := ⟨⟨by decide +kernel, z_tb (n := 6) (by decide +kernel) (by decide +kernel), z_tb (n := 497) (by decide +kernel) (by decide +kernel), by decide +kernel, by decide +kernel, by decide +kernel, by decide⟩, z_tb (n := 496) (by decide +kernel) (by decide +kernel), z_in (List.mem_append_left _ (List.mem_of_getElem? (i := 10) (by decide +kernel))) (by decide +kernel)⟩
def iX3_lostOf : z_MI := (yX3_lostOf, cX3_lostOf, 2, (some .int), 1)
theorem mX3_lostOf : z_MV iX3_lostOf 1 := ⟨⟨by decide +kernel, z_tb (n := 6) (by decide +kernel) (by decide +kernel), z_tb (n := 463) (by decide +kernel) (by decide +kernel), by decide +kernel, by decide +kernel, by decide +kernel, by decide⟩, z_tb (n := 461) (by decide +kernel) (by decide +kernel), z_tb (n := 462) (by decide +kernel) (by decide +kernel)⟩
def iX3_metLines : z_MI := (yX3_metLines, cX3_metLines, 7, (some .int), 1)
theorem mX3_metLines : z_MV iX3_metLines 1 := ⟨⟨by decide +kernel, z_tb (n := 6) (by decide +kernel) (by decide +kernel), z_tb (n := 490) (by decide +kernel) (by decide +kernel), by decide +kernel, by decide +kernel, by decide +kernel, by decide⟩, z_tb (n := 489) (by decide +kernel) (by decide +kernel), z_in (List.mem_append_left _ (List.mem_of_getElem? (i := 9) (by decide +kernel))) (by decide +kernel)⟩
def iX3_told : z_MI := (yX3_told, cX3_told, 2, (some .int), 0)
theorem mX3_told : z_MS iX3_told 2 := ⟨⟨by decide +kernel, z_tb (n := 6) (by decide +kernel) (by decide +kernel), z_tb (n := 512) (by decide +kernel) (by decide +kernel), by decide +kernel, by decide +kernel, by decide +kernel, by decide⟩, z_tb (n := 511) (by decide +kernel) (by decide +kernel)⟩
def iX4_enter : z_MI := (yX4_enter, cX4_enter, 4, (some .int), 0)
theorem mX4_enter : z_MV iX4_enter 2 := ⟨⟨by decide +kernel, z_tb (n := 3) (by decide +kernel) (by decide +kernel), z_tb (n := 231) (by decide +kernel) (by decide +kernel), by decide +kernel, by decide +kernel, by decide +kernel, by decide⟩, z_tb (n := 229) (by decide +kernel) (by decide +kernel), z_tb (n := 230) (by decide +kernel) (by decide +kernel)⟩
def iX4_has : z_MI := (yX4_has, cX4_has, 2, (some .boolean), 0)
theorem mX4_has : z_MV iX4_has 1 := ⟨⟨by decide +kernel, z_tb (n := 3) (by decide +kernel) (by decide +kernel), z_tb (n := 296) (by decide +kernel) (by decide +kernel), by decide +kernel, by decide +kernel, by decide +kernel, by decide⟩, z_tb (n := 294) (by decide +kernel) (by decide +kernel), z_tb (n := 295) (by decide +kernel) (by decide +kernel)⟩
def iX4_isFull : z_MI := (yX4_isFull, cX4_isFull, 1, (some .boolean), 0)
theorem mX4_isFull : z_MV iX4_isFull 0 := ⟨⟨by decide +kernel, z_tb (n := 3) (by decide +kernel) (by decide +kernel), z_tb (n := 227) (by decide +kernel) (by decide +kernel), by decide +kernel, by decide +kernel, by decide +kernel, by decide⟩, z_tb (n := 225) (by decide +kernel) (by decide +kernel), z_tb (n := 226) (by decide +kernel) (by decide +kernel)⟩
def iX4_kindOf : z_MI := (yX4_kindOf, cX4_kindOf, 2, (some .int), 0)
theorem mX4_kindOf : z_MV iX4_kindOf 1 := ⟨⟨by decide +kernel, z_tb (n := 3) (by decide +kernel) (by decide +kernel), z_tb (n := 362) (by decide +kernel) (by decide +kernel), by decide +kernel, by decide +kernel, by decide +kernel, by decide⟩, z_tb (n := 360) (by decide +kernel) (by decide +kernel), z_tb (n := 361) (by decide +kernel) (by decide +kernel)⟩
def iX4_markOf : z_MI := (yX4_markOf, cX4_markOf, 2, (some .int), 0)
theorem mX4_markOf : z_MV iX4_markOf 1 := ⟨⟨by decide +kernel, z_tb (n := 3) (by decide +kernel) (by decide +kernel), z_tb (n := 404) (by decide +kernel) (by decide +kernel), by decide +kernel, by decide +kernel, by decide +kernel, by decide⟩, z_tb (n := 402) (by decide +kernel) (by decide +kernel), z_tb (n := 403) (by decide +kernel) (by decide +kernel)⟩
def iX4_markedLines : z_MI := (yX4_markedLines, cX4_markedLines, 3, (some .int), 0)
theorem mX4_markedLines : z_MV iX4_markedLines 0 := ⟨⟨by decide +kernel, z_tb (n := 3) (by decide +kernel) (by decide +kernel), z_tb (n := 480) (by decide +kernel) (by decide +kernel), by decide +kernel, by decide +kernel, by decide +kernel, by decide⟩, z_tb (n := 478) (by decide +kernel) (by decide +kernel), z_tb (n := 479) (by decide +kernel) (by decide +kernel)⟩
def iX4_putMark : z_MI := (yX4_putMark, cX4_putMark, 4, (some .int), 0)
theorem mX4_putMark : z_MV iX4_putMark 2 := ⟨⟨by decide +kernel, z_tb (n := 3) (by decide +kernel) (by decide +kernel), z_tb (n := 472) (by decide +kernel) (by decide +kernel), by decide +kernel, by decide +kernel, by decide +kernel, by decide⟩, z_tb (n := 470) (by decide +kernel) (by decide +kernel), z_tb (n := 471) (by decide +kernel) (by decide +kernel)⟩
def iX4_size : z_MI := (yX4_size, cX4_size, 1, (some .int), 0)
theorem mX4_size : z_MV iX4_size 0 := ⟨⟨by decide +kernel, z_tb (n := 3) (by decide +kernel) (by decide +kernel), z_tb (n := 350) (by decide +kernel) (by decide +kernel), by decide +kernel, by decide +kernel, by decide +kernel, by decide⟩, z_tb (n := 348) (by decide +kernel) (by decide +kernel), z_tb (n := 349) (by decide +kernel) (by decide +kernel)⟩
def iX4_slotOf : z_MI := (yX4_slotOf, cX4_slotOf, 2, (some .int), 0)
theorem mX4_slotOf : z_MV iX4_slotOf 1 := ⟨⟨by decide +kernel, z_tb (n := 3) (by decide +kernel) (by decide +kernel), z_tb (n := 247) (by decide +kernel) (by decide +kernel), by decide +kernel, by decide +kernel, by decide +kernel, by decide⟩, z_tb (n := 245) (by decide +kernel) (by decide +kernel), z_tb (n := 246) (by decide +kernel) (by decide +kernel)⟩
def iX5_admits : z_MI := (yX5_admits, cX5_admits, 3, (some .boolean), 0)
theorem mX5_admits : z_MV iX5_admits 2 := ⟨⟨by decide +kernel, z_tb (n := 2) (by decide +kernel) (by decide +kernel), z_tb (n := 255) (by decide +kernel) (by decide +kernel), by decide +kernel, by decide +kernel, by decide +kernel, by decide⟩, z_tb (n := 253) (by decide +kernel) (by decide +kernel), z_tb (n := 254) (by decide +kernel) (by decide +kernel)⟩
def iX5_areMarks : z_MI := (yX5_areMarks, cX5_areMarks, 2, (some .boolean), 0)
theorem mX5_areMarks : z_MS iX5_areMarks 2 := ⟨⟨by decide +kernel, z_tb (n := 2) (by decide +kernel) (by decide +kernel), z_tb (n := 436) (by decide +kernel) (by decide +kernel), by decide +kernel, by decide +kernel, by decide +kernel, by decide⟩, z_tb (n := 435) (by decide +kernel) (by decide +kernel)⟩
def iX5_copyWithMarks : z_MI := (yX5_copyWithMarks, cX5_copyWithMarks, 4, none, 1)
theorem mX5_copyWithMarks : z_MV iX5_copyWithMarks 3 := ⟨⟨by decide +kernel, z_tb (n := 2) (by decide +kernel) (by decide +kernel), z_tb (n := 444) (by decide +kernel) (by decide +kernel), by decide +kernel, by decide +kernel, by decide +kernel, by decide⟩, z_tb (n := 442) (by decide +kernel) (by decide +kernel), z_tb (n := 443) (by decide +kernel) (by decide +kernel)⟩
def iX5_fade : z_MI := (yX5_fade, cX5_fade, 6, (some .int), 1)
theorem mX5_fade : z_MV iX5_fade 2 := ⟨⟨by decide +kernel, z_tb (n := 2) (by decide +kernel) (by decide +kernel), z_tb (n := 275) (by decide +kernel) (by decide +kernel), by decide +kernel, by decide +kernel, by decide +kernel, by decide⟩, z_tb (n := 273) (by decide +kernel) (by decide +kernel), z_tb (n := 274) (by decide +kernel) (by decide +kernel)⟩
def iX5_get : z_MI := (yX5_get, cX5_get, 2, (some .int), 0)
theorem mX5_get : z_MV iX5_get 1 := ⟨⟨by decide +kernel, z_tb (n := 2) (by decide +kernel) (by decide +kernel), z_tb (n := 263) (by decide +kernel) (by decide +kernel), by decide +kernel, by decide +kernel, by decide +kernel, by decide⟩, z_tb (n := 261) (by decide +kernel) (by decide +kernel), z_tb (n := 262) (by decide +kernel) (by decide +kernel)⟩
def iX5_put : z_MI := (yX5_put, cX5_put, 3, none, 0)
theorem mX5_put : z_MV iX5_put 2 := ⟨⟨by decide +kernel, z_tb (n := 2) (by decide +kernel) (by decide +kernel), z_tb (n := 282) (by decide +kernel) (by decide +kernel), by decide +kernel, by decide +kernel, by decide +kernel, by decide⟩, z_tb (n := 280) (by decide +kernel) (by decide +kernel), z_tb (n := 281) (by decide +kernel) (by decide +kernel)⟩
def iX5_ticksTillBelow : z_MI := (yX5_ticksTillBelow, cX5_ticksTillBelow, 9, (some .int), 1)
theorem mX5_ticksTillBelow : z_MV iX5_ticksTillBelow 2 := ⟨⟨by decide +kernel, z_tb (n := 2) (by decide +kernel) (by decide +kernel), z_tb (n := 333) (by decide +kernel) (by decide +kernel), by decide +kernel, by decide +kernel, by decide +kernel, by decide⟩, z_tb (n := 331) (by decide +kernel) (by decide +kernel), z_tb (n := 332) (by decide +kernel) (by decide +kernel)⟩
def iX6_about : z_MI := (yX6_about, cX6_about, 3, (some .int), 4)
theorem mX6_about : z_MV iX6_about 2 := ⟨⟨by decide +kernel, z_tb (n := 1) (by decide +kernel) (by decide +kernel), z_tb (n := 382) (by decide +kernel) (by decide +kernel), by decide +kernel, by decide +kernel, by decide +kernel, by decide⟩, z_tb (n := 380) (by decide +kernel) (by decide +kernel), z_tb (n := 381) (by decide +kernel) (by decide +kernel)⟩
def iX6_again : z_MI := (yX6_again, cX6_again, 5, (some .int), 6)
theorem mX6_again : z_MV iX6_again 4 := ⟨⟨by decide +kernel, z_tb (n := 1) (by decide +kernel) (by decide +kernel), z_tb (n := 433) (by decide +kernel) (by decide +kernel), by decide +kernel, by decide +kernel, by decide +kernel, by decide⟩, z_tb (n := 431) (by decide +kernel) (by decide +kernel), z_tb (n := 432) (by decide +kernel) (by decide +kernel)⟩
def iX6_asNumber : z_MI := (yX6_asNumber, cX6_asNumber, 1, (some .int), 0)
theorem mX6_asNumber : z_MS iX6_asNumber 1 := ⟨⟨by decide +kernel, z_tb (n := 1) (by decide +kernel) (by decide +kernel), z_tb (n := 385) (by decide +kernel) (by decide +kernel), by decide +kernel, by decide +kernel, by decide +kernel, by decide⟩, z_tb (n := 384) (by decide +kernel) (by decide +kernel)⟩
def iX6_bind : z_MI := (yX6_bind, cX6_bind, 4, (some .int), 2)
theorem mX6_bind : z_MV iX6_bind 3 := ⟨⟨by decide +kernel, z_tb (n := 1) (by decide +kernel) (by decide +kernel), z_tb (n := 534) (by decide +kernel) (by decide +kernel), by decide +kernel, by decide +kernel, by decide +kernel, by decide⟩, z_tb (n := 532) (by decide +kernel) (by decide +kernel), z_tb (n := 533) (by decide +kernel) (by decide +kernel)⟩
def iX6_change : z_MI := (yX6_change, cX6_change, 3, (some .int), 7)
theorem mX6_change : z_MV iX6_change 2 := ⟨⟨by decide +kernel, z_tb (n := 1) (by decide +kernel) (by decide +kernel), z_tb (n := 292) (by decide +kernel) (by decide +kernel), by decide +kernel, by decide +kernel, by decide +kernel, by decide⟩, z_tb (n := 290) (by decide +kernel) (by decide +kernel), z_tb (n := 291) (by decide +kernel) (by decide +kernel)⟩
def iX6_count : z_MI := (yX6_count, cX6_count, 2, (some .int), 3)
theorem mX6_count : z_MV iX6_count 1 := ⟨⟨by decide +kernel, z_tb (n := 1) (by decide +kernel) (by decide +kernel), z_tb (n := 598) (by decide +kernel) (by decide +kernel), by decide +kernel, by decide +kernel, by decide +kernel, by decide⟩, z_tb (n := 596) (by decide +kernel) (by decide +kernel), z_tb (n := 597) (by decide +kernel) (by decide +kernel)⟩
def iX6_digest : z_MI := (yX6_digest, cX6_digest, 5, (some .long), 5)
theorem mX6_digest : z_MV iX6_digest 0 := ⟨⟨by decide +kernel, z_tb (n := 1) (by decide +kernel) (by decide +kernel), z_tb (n := 615) (by decide +kernel) (by decide +kernel), by decide +kernel, by decide +kernel, by decide +kernel, by decide⟩, z_tb (n := 613) (by decide +kernel) (by decide +kernel), z_tb (n := 614) (by decide +kernel) (by decide +kernel)⟩
def iX6_echo : z_MI := (yX6_echo, cX6_echo, 2, (some .int), 7)
theorem mX6_echo : z_MV iX6_echo 1 := ⟨⟨by decide +kernel, z_tb (n := 1) (by decide +kernel) (by decide +kernel), z_tb (n := 370) (by decide +kernel) (by decide +kernel), by decide +kernel, by decide +kernel, by decide +kernel, by decide⟩, z_tb (n := 368) (by decide +kernel) (by decide +kernel), z_tb (n := 369) (by decide +kernel) (by decide +kernel)⟩
def iX6_echoes : z_MI := (yX6_echoes, cX6_echoes, 2, (some .int), 1)
theorem mX6_echoes : z_MV iX6_echoes 1 := ⟨⟨by decide +kernel, z_tb (n := 1) (by decide +kernel) (by decide +kernel), z_tb (n := 590) (by decide +kernel) (by decide +kernel), by decide +kernel, by decide +kernel, by decide +kernel, by decide⟩, z_tb (n := 588) (by decide +kernel) (by decide +kernel), z_tb (n := 589) (by decide +kernel) (by decide +kernel)⟩
def iX6_event : z_MI := (yX6_event, cX6_event, 3, (some .int), 1)
theorem mX6_event : z_MV iX6_event 2 := ⟨⟨by decide +kernel, z_tb (n := 1) (by decide +kernel) (by decide +kernel), z_tb (n := 413) (by decide +kernel) (by decide +kernel), by decide +kernel, by decide +kernel, by decide +kernel, by decide⟩, z_tb (n := 411) (by decide +kernel) (by decide +kernel), z_tb (n := 412) (by decide +kernel) (by decide +kernel)⟩
def iX6_faded : z_MI := (yX6_faded, cX6_faded, 3, (some .int), 2)
theorem mX6_faded : z_MV iX6_faded 2 := ⟨⟨by decide +kernel, z_tb (n := 1) (by decide +kernel) (by decide +kernel), z_tb (n := 286) (by decide +kernel) (by decide +kernel), by decide +kernel, by decide +kernel, by decide +kernel, by decide⟩, z_tb (n := 284) (by decide +kernel) (by decide +kernel), z_tb (n := 285) (by decide +kernel) (by decide +kernel)⟩
def iX6_flood : z_MI := (yX6_flood, cX6_flood, 5, (some .int), 6)
theorem mX6_flood : z_MV iX6_flood 1 := ⟨⟨by decide +kernel, z_tb (n := 1) (by decide +kernel) (by decide +kernel), z_tb (n := 542) (by decide +kernel) (by decide +kernel), by decide +kernel, by decide +kernel, by decide +kernel, by decide⟩, z_tb (n := 540) (by decide +kernel) (by decide +kernel), z_tb (n := 541) (by decide +kernel) (by decide +kernel)⟩
def iX6_happen : z_MI := (yX6_happen, cX6_happen, 3, (some .boolean), 5)
theorem mX6_happen : z_MV iX6_happen 2 := ⟨⟨by decide +kernel, z_tb (n := 1) (by decide +kernel) (by decide +kernel), z_tb (n := 308) (by decide +kernel) (by decide +kernel), by decide +kernel, by decide +kernel, by decide +kernel, by decide⟩, z_tb (n := 307) (by decide +kernel) (by decide +kernel), z_in (List.mem_append_left _ (List.mem_of_getElem? (i := 2) (by decide +kernel))) (by decide +kernel)⟩
def iX6_line : z_MI := (yX6_line, cX6_line, 4, (some .int), 4)
theorem mX6_line : z_MV iX6_line 2 := ⟨⟨by decide +kernel, z_tb (n := 1) (by decide +kernel) (by decide +kernel), z_tb (n := 223) (by decide +kernel) (by decide +kernel), by decide +kernel, by decide +kernel, by decide +kernel, by decide⟩, z_tb (n := 221) (by decide +kernel) (by decide +kernel), z_tb (n := 222) (by decide +kernel) (by decide +kernel)⟩
def iX6_longest : z_MI := (yX6_longest, cX6_longest, 1, (some .int), 2)
theorem mX6_longest : z_MV iX6_longest 0 := ⟨⟨by decide +kernel, z_tb (n := 1) (by decide +kernel) (by decide +kernel), z_tb (n := 408) (by decide +kernel) (by decide +kernel), by decide +kernel, by decide +kernel, by decide +kernel, by decide⟩, z_tb (n := 406) (by decide +kernel) (by decide +kernel), z_tb (n := 407) (by decide +kernel) (by decide +kernel)⟩
def iX6_mark : z_MI := (yX6_mark, cX6_mark, 3, (some .int), 1)
theorem mX6_mark : z_MV iX6_mark 2 := ⟨⟨by decide +kernel, z_tb (n := 1) (by decide +kernel) (by decide +kernel), z_tb (n := 468) (by decide +kernel) (by decide +kernel), by decide +kernel, by decide +kernel, by decide +kernel, by decide⟩, z_tb (n := 466) (by decide +kernel) (by decide +kernel), z_tb (n := 467) (by decide +kernel) (by decide +kernel)⟩
def iX6_marks : z_MI := (yX6_marks, cX6_marks, 2, (some .int), 7)
theorem mX6_marks : z_MV iX6_marks 1 := ⟨⟨by decide +kernel, z_tb (n := 1) (by decide +kernel) (by decide +kernel), z_tb (n := 476) (by decide +kernel) (by decide +kernel), by decide +kernel, by decide +kernel, by decide +kernel, by decide⟩, z_tb (n := 474) (by decide +kernel) (by decide +kernel), z_tb (n := 475) (by decide +kernel) (by decide +kernel)⟩
def iX6_own : z_MI := (yX6_own, cX6_own, 3, (some .int), 1)
theorem mX6_own : z_MV iX6_own 2 := ⟨⟨by decide +kernel, z_tb (n := 1) (by decide +kernel) (by decide +kernel), z_tb (n := 582) (by decide +kernel) (by decide +kernel), by decide +kernel, by decide +kernel, by decide +kernel, by decide⟩, z_tb (n := 580) (by decide +kernel) (by decide +kernel), z_tb (n := 581) (by decide +kernel) (by decide +kernel)⟩
def iX6_penaltyAfter : z_MI := (yX6_penaltyAfter, cX6_penaltyAfter, 3, (some .int), 6)
theorem mX6_penaltyAfter : z_MV iX6_penaltyAfter 2 := ⟨⟨by decide +kernel, z_tb (n := 1) (by decide +kernel) (by decide +kernel), z_tb (n := 304) (by decide +kernel) (by decide +kernel), by decide +kernel, by decide +kernel, by decide +kernel, by decide⟩, z_tb (n := 303) (by decide +kernel) (by decide +kernel), z_in (List.mem_append_left _ (List.mem_of_getElem? (i := 1) (by decide +kernel))) (by decide +kernel)⟩
def iX6_rule : z_MI := (yX6_rule, cX6_rule, 4, (some .int), 4)
theorem mX6_rule : z_MV iX6_rule 2 := ⟨⟨by decide +kernel, z_tb (n := 1) (by decide +kernel) (by decide +kernel), z_tb (n := 251) (by decide +kernel) (by decide +kernel), by decide +kernel, by decide +kernel, by decide +kernel, by decide⟩, z_tb (n := 249) (by decide +kernel) (by decide +kernel), z_tb (n := 250) (by decide +kernel) (by decide +kernel)⟩
def iX6_tick : z_MI := (yX6_tick, cX6_tick, 2, (some .int), 5)
theorem mX6_tick : z_MV iX6_tick 1 := ⟨⟨by decide +kernel, z_tb (n := 1) (by decide +kernel) (by decide +kernel), z_tb (n := 374) (by decide +kernel) (by decide +kernel), by decide +kernel, by decide +kernel, by decide +kernel, by decide⟩, z_tb (n := 372) (by decide +kernel) (by decide +kernel), z_tb (n := 373) (by decide +kernel) (by decide +kernel)⟩
def iX6_way : z_MI := (yX6_way, cX6_way, 4, (some .int), 2)
theorem mX6_way : z_MV iX6_way 3 := ⟨⟨by decide +kernel, z_tb (n := 1) (by decide +kernel) (by decide +kernel), z_tb (n := 516) (by decide +kernel) (by decide +kernel), by decide +kernel, by decide +kernel, by decide +kernel, by decide⟩, z_tb (n := 514) (by decide +kernel) (by decide +kernel), z_tb (n := 515) (by decide +kernel) (by decide +kernel)⟩
def iX7_about : z_MI := (yX7_about, cX7_about, 3, (some .int), 3)
theorem mX7_about : z_MV iX7_about 2 := ⟨⟨by decide +kernel, z_tb (n := 8) (by decide +kernel) (by decide +kernel), z_tb (n := 823) (by decide +kernel) (by decide +kernel), by decide +kernel, by decide +kernel, by decide +kernel, by decide⟩, z_tb (n := 821) (by decide +kernel) (by decide +kernel), z_tb (n := 822) (by decide +kernel) (by decide +kernel)⟩
def iX7_aboutOf : z_MI := (yX7_aboutOf, cX7_aboutOf, 3, (some .int), 2)
theorem mX7_aboutOf : z_MV iX7_aboutOf 2 := ⟨⟨by decide +kernel, z_tb (n := 8) (by decide +kernel) (by decide +kernel), z_tb (n := 827) (by decide +kernel) (by decide +kernel), by decide +kernel, by decide +kernel, by decide +kernel, by decide⟩, z_tb (n := 826) (by decide +kernel) (by decide +kernel), z_in (List.mem_append_left _ (List.mem_of_getElem? (i := 28) (by decide +kernel))) (by decide +kernel)⟩
def iX7_again : z_MI := (yX7_again, cX7_again, 5, (some .int), 6)
theorem mX7_again : z_MV iX7_again 4 := ⟨⟨by decide +kernel, z_tb (n := 8) (by decide +kernel) (by decide +kernel), z_tb (n := 843) (by decide +kernel) (by decide +kernel), by decide +kernel, by decide +kernel, by decide +kernel, by decide⟩, z_tb (n := 841) (by decide +kernel) (by decide +kernel), z_tb (n := 842) (by decide +kernel) (by decide +kernel)⟩
def iX7_bearer : z_MI := (yX7_bearer, cX7_bearer, 3, (some .int), 0)
theorem mX7_bearer : z_MV iX7_bearer 2 := ⟨⟨by decide +kernel, z_tb (n := 8) (by decide +kernel) (by decide +kernel), z_tb (n := 764) (by decide +kernel) (by decide +kernel), by decide +kernel, by decide +kernel, by decide +kernel, by decide⟩, z_tb (n := 763) (by decide +kernel) (by decide +kernel), z_in (List.mem_append_left _ (List.mem_of_getElem? (i := 20) (by decide +kernel))) (by decide +kernel)⟩
def iX7_begins : z_MI := (yX7_begins, cX7_begins, 4, none, 2)
theorem mX7_begins : z_MV iX7_begins 2 := ⟨⟨by decide +kernel, z_tb (n := 8) (by decide +kernel) (by decide +kernel), z_tb (n := 755) (by decide +kernel) (by decide +kernel), by decide +kernel, by decide +kernel, by decide +kernel, by decide⟩, z_tb (n := 754) (by decide +kernel) (by decide +kernel), z_in (List.mem_append_left _ (List.mem_of_getElem? (i := 18) (by decide +kernel))) (by decide +kernel)⟩
def iX7_bind : z_MI := (yX7_bind, cX7_bind, 4, (some .int), 2)
theorem mX7_bind : z_MV iX7_bind 3 := ⟨⟨by decide +kernel, z_tb (n := 8) (by decide +kernel) (by decide +kernel), z_tb (n := 894) (by decide +kernel) (by decide +kernel), by decide +kernel, by decide +kernel, by decide +kernel, by decide⟩, z_tb (n := 892) (by decide +kernel) (by decide +kernel), z_tb (n := 893) (by decide +kernel) (by decide +kernel)⟩
def iX7_change : z_MI := (yX7_change, cX7_change, 3, (some .int), 5)
theorem mX7_change : z_MV iX7_change 2 := ⟨⟨by decide +kernel, z_tb (n := 8) (by decide +kernel) (by decide +kernel), z_tb (n := 787) (by decide +kernel) (by decide +kernel), by decide +kernel, by decide +kernel, by decide +kernel, by decide⟩, z_tb (n := 785) (by decide +kernel) (by decide +kernel), z_tb (n := 786) (by decide +kernel) (by decide +kernel)⟩
def iX7_comes : z_MI := (yX7_comes, cX7_comes, 7, none, 5)
theorem mX7_comes : z_MV iX7_comes 2 := ⟨⟨by decide +kernel, z_tb (n := 8) (by decide +kernel) (by decide +kernel), z_tb (n := 914) (by decide +kernel) (by decide +kernel), by decide +kernel, by decide +kernel, by decide +kernel, by decide⟩, z_tb (n := 913) (by decide +kernel) (by decide +kernel), z_in (List.mem_append_left _ (List.mem_of_getElem? (i := 41) (by decide +kernel))) (by decide +kernel)⟩
def iX7_common : z_MI := (yX7_common, cX7_common, 4, (some .int), 1)
theorem mX7_common : z_MV iX7_common 2 := ⟨⟨by decide +kernel, z_tb (n := 8) (by decide +kernel) (by decide +kernel), z_tb (n := 883) (by decide +kernel) (by decide +kernel), by decide +kernel, by decide +kernel, by decide +kernel, by decide⟩, z_tb (n := 882) (by decide +kernel) (by decide +kernel), z_in (List.mem_append_left _ (List.mem_of_getElem? (i := 37) (by decide +kernel))) (by decide +kernel)⟩
def iX7_count : z_MI := (yX7_count, cX7_count, 4, (some .int), 1)
theorem mX7_count : z_MV iX7_count 1 := ⟨⟨by decide +kernel, z_tb (n := 8) (by decide +kernel) (by decide +kernel), z_tb (n := 926) (by decide +kernel) (by decide +kernel), by decide +kernel, by decide +kernel, by decide +kernel, by decide⟩, z_tb (n := 924) (by decide +kernel) (by decide +kernel), z_tb (n := 925) (by decide +kernel) (by decide +kernel)⟩
def iX7_digest : z_MI := (yX7_digest, cX7_digest, 5, (some .long), 3)
theorem mX7_digest : z_MV iX7_digest 0 := ⟨⟨by decide +kernel, z_tb (n := 8) (by decide +kernel) (by decide +kernel), z_tb (n := 930) (by decide +kernel) (by decide +kernel), by decide +kernel, by decide +kernel, by decide +kernel, by decide⟩, z_tb (n := 928) (by decide +kernel) (by decide +kernel), z_tb (n := 929) (by decide +kernel) (by decide +kernel)⟩
def iX7_echo : z_MI := (yX7_echo, cX7_echo, 2, (some .int), 5)
theorem mX7_echo : z_MV iX7_echo 1 := ⟨⟨by decide +kernel, z_tb (n := 8) (by decide +kernel) (by decide +kernel), z_tb (n := 811) (by decide +kernel) (by decide +kernel), by decide +kernel, by decide +kernel, by decide +kernel, by decide⟩, z_tb (n := 809) (by decide +kernel) (by decide +kernel), z_tb (n := 810) (by decide +kernel) (by decide +kernel)⟩
def iX7_echoes : z_MI := (yX7_echoes, cX7_echoes, 2, (some .int), 2)
theorem mX7_echoes : z_MV iX7_echoes 1 := ⟨⟨by decide +kernel, z_tb (n := 8) (by decide +kernel) (by decide +kernel), z_tb (n := 922) (by decide +kernel) (by decide +kernel), by decide +kernel, by decide +kernel, by decide +kernel, by decide⟩, z_tb (n := 920) (by decide +kernel) (by decide +kernel), z_tb (n := 921) (by decide +kernel) (by decide +kernel)⟩
def iX7_event : z_MI := (yX7_event, cX7_event, 3, (some .int), 1)
theorem mX7_event : z_MV iX7_event 2 := ⟨⟨by decide +kernel, z_tb (n := 8) (by decide +kernel) (by decide +kernel), z_tb (n := 839) (by decide +kernel) (by decide +kernel), by decide +kernel, by decide +kernel, by decide +kernel, by decide⟩, z_tb (n := 837) (by decide +kernel) (by decide +kernel), z_tb (n := 838) (by decide +kernel) (by decide +kernel)⟩
def iX7_faded : z_MI := (yX7_faded, cX7_faded, 3, (some .int), 1)
theorem mX7_faded : z_MV iX7_faded 2 := ⟨⟨by decide +kernel, z_tb (n := 8) (by decide +kernel) (by decide +kernel), z_tb (n := 783) (by decide +kernel) (by decide +kernel), by decide +kernel, by decide +kernel, by decide +kernel, by decide⟩, z_tb (n := 781) (by decide +kernel) (by decide +kernel), z_tb (n := 782) (by decide +kernel) (by decide +kernel)⟩
def iX7_fades : z_MI := (yX7_fades, cX7_fades, 5, (some .int), 0)
theorem mX7_fades : z_MV iX7_fades 2 := ⟨⟨by decide +kernel, z_tb (n := 8) (by decide +kernel) (by decide +kernel), z_tb (n := 779) (by decide +kernel) (by decide +kernel), by decide +kernel, by decide +kernel, by decide +kernel, by decide⟩, z_tb (n := 778) (by decide +kernel) (by decide +kernel), z_in (List.mem_append_left _ (List.mem_of_getElem? (i := 21) (by decide +kernel))) (by decide +kernel)⟩
def iX7_findOwn : z_MI := (yX7_findOwn, cX7_findOwn, 6, none, 1)
theorem mX7_findOwn : z_MV iX7_findOwn 2 := ⟨⟨by decide +kernel, z_tb (n := 8) (by decide +kernel) (by decide +kernel), z_tb (n := 906) (by decide +kernel) (by decide +kernel), by decide +kernel, by decide +kernel, by decide +kernel, by decide⟩, z_tb (n := 905) (by decide +kernel) (by decide +kernel), z_in (List.mem_append_left _ (List.mem_of_getElem? (i := 39) (by decide +kernel))) (by decide +kernel)⟩
def iX7_findsAnew : z_MI := (yX7_findsAnew, cX7_findsAnew, 6, none, 2)
theorem mX7_findsAnew : z_MV iX7_findsAnew 2 := ⟨⟨by decide +kernel, z_tb (n := 8) (by decide +kernel) (by decide +kernel), z_tb (n := 902) (by decide +kernel) (by decide +kernel), by decide +kernel, by decide +kernel, by decide +kernel, by decide⟩, z_tb (n := 901) (by decide +kernel) (by decide +kernel), z_in (List.mem_append_left _ (List.mem_of_getElem? (i := 38) (by decide +kernel))) (by decide +kernel)⟩
def iX7_firstOfAll : z_MI := (yX7_firstOfAll, cX7_firstOfAll, 4, (some .int), 1)
theorem mX7_firstOfAll : z_MV iX7_firstOfAll 0 := ⟨⟨by decide +kernel, z_tb (n := 8) (by decide +kernel) (by decide +kernel), z_tb (n := 871) (by decide +kernel) (by decide +kernel), by decide +kernel, by decide +kernel, by decide +kernel, by decide⟩, z_tb (n := 870) (by decide +kernel) (by decide +kernel), z_in (List.mem_append_left _ (List.mem_of_getElem? (i := 34) (by decide +kernel))) (by decide +kernel)⟩
def iX7_flood : z_MI := (yX7_flood, cX7_flood, 3, (some .int), 6)
theorem mX7_flood : z_MV iX7_flood 1 := ⟨⟨by decide +kernel, z_tb (n := 8) (by decide +kernel) (by decide +kernel), z_tb (n := 898) (by decide +kernel) (by decide +kernel), by decide +kernel, by decide +kernel, by decide +kernel, by decide⟩, z_tb (n := 896) (by decide +kernel) (by decide +kernel), z_tb (n := 897) (by decide +kernel) (by decide +kernel)⟩
def iX7_goesOver : z_MI := (yX7_goesOver, cX7_goesOver, 4, none, 5)
theorem mX7_goesOver : z_MV iX7_goesOver 2 := ⟨⟨by decide +kernel, z_tb (n := 8) (by decide +kernel) (by decide +kernel), z_tb (n := 847) (by decide +kernel) (by decide +kernel), by decide +kernel, by decide +kernel, by decide +kernel, by decide⟩, z_tb (n := 846) (by decide +kernel) (by decide +kernel), z_in (List.mem_append_left _ (List.mem_of_getElem? (i := 30) (by decide +kernel))) (by decide +kernel)⟩
def iX7_goesTo : z_MI := (yX7_goesTo, cX7_goesTo, 2, none, 4)
theorem mX7_goesTo : z_MV iX7_goesTo 1 := ⟨⟨by decide +kernel, z_tb (n := 8) (by decide +kernel) (by decide +kernel), z_tb (n := 851) (by decide +kernel) (by decide +kernel), by decide +kernel, by decide +kernel, by decide +kernel, by decide⟩, z_tb (n := 850) (by decide +kernel) (by decide +kernel), z_in (List.mem_append_left _ (List.mem_of_getElem? (i := 31) (by decide +kernel))) (by decide +kernel)⟩
def iX7_happens : z_MI := (yX7_happens, cX7_happens, 9, none, 3)
theorem mX7_happens : z_MV iX7_happens 3 := ⟨⟨by decide +kernel, z_tb (n := 8) (by decide +kernel) (by decide +kernel), z_tb (n := 799) (by decide +kernel) (by decide +kernel), by decide +kernel, by decide +kernel, by decide +kernel, by decide⟩, z_tb (n := 798) (by decide +kernel) (by decide +kernel), z_in (List.mem_append_left _ (List.mem_of_getElem? (i := 24) (by decide +kernel))) (by decide +kernel)⟩
def iX7_holds : z_MI := (yX7_holds, cX7_holds, 4, (some .boolean), 0)
theorem mX7_holds : z_MV iX7_holds 2 := ⟨⟨by decide +kernel, z_tb (n := 8) (by decide +kernel) (by decide +kernel), z_tb (n := 910) (by decide +kernel) (by decide +kernel), by decide +kernel, by decide +kernel, by decide +kernel, by decide⟩, z_tb (n := 909) (by decide +kernel) (by decide +kernel), z_in (List.mem_append_left _ (List.mem_of_getElem? (i := 40) (by decide +kernel))) (by decide +kernel)⟩
def iX7_in : z_MI := (yX7_in, cX7_in, 3, (some .boolean), 0)
theorem mX7_in : z_MS iX7_in 3 := ⟨⟨by decide +kernel, z_tb (n := 8) (by decide +kernel) (by decide +kernel), z_tb (n := 751) (by decide +kernel) (by decide +kernel), by decide +kernel, by decide +kernel, by decide +kernel, by decide⟩, z_tb (n := 750) (by decide +kernel) (by decide +kernel)⟩
def iX7_isHouse : z_MI := (yX7_isHouse, cX7_isHouse, 1, (some .boolean), 1)
theorem mX7_isHouse : z_MS iX7_isHouse 1 := ⟨⟨by decide +kernel, z_tb (n := 8) (by decide +kernel) (by decide +kernel), z_tb (n := 890) (by decide +kernel) (by decide +kernel), by decide +kernel, by decide +kernel, by decide +kernel, by decide⟩, z_tb (n := 889) (by decide +kernel) (by decide +kernel)⟩
def iX7_isLine : z_MI := (yX7_isLine, cX7_isLine, 2, (some .boolean), 1)
theorem mX7_isLine : z_MV iX7_isLine 1 := ⟨⟨by decide +kernel, z_tb (n := 8) (by decide +kernel) (by decide +kernel), z_tb (n := 791) (by decide +kernel) (by decide +kernel), by decide +kernel, by decide +kernel, by decide +kernel, by decide⟩, z_tb (n := 790) (by decide +kernel) (by decide +kernel), z_in (List.mem_append_left _ (List.mem_of_getElem? (i := 22) (by decide +kernel))) (by decide +kernel)⟩
def iX7_isRightBy : z_MI := (yX7_isRightBy, cX7_isRightBy, 3, (some .boolean), 0)
theorem mX7_isRightBy : z_MV iX7_isRightBy 2 := ⟨⟨by decide +kernel, z_tb (n := 8) (by decide +kernel) (by decide +kernel), z_tb (n := 875) (by decide +kernel) (by decide +kernel), by decide +kernel, by decide +kernel, by decide +kernel, by decide⟩, z_tb (n := 874) (by decide +kernel) (by decide +kernel), z_in (List.mem_append_left _ (List.mem_of_getElem? (i := 35) (by decide +kernel))) (by decide +kernel)⟩
def iX7_isSeen : z_MI := (yX7_isSeen, cX7_isSeen, 3, (some .boolean), 1)
theorem mX7_isSeen : z_MV iX7_isSeen 2 := ⟨⟨by decide +kernel, z_tb (n := 8) (by decide +kernel) (by decide +kernel), z_tb (n := 760) (by decide +kernel) (by decide +kernel), by decide +kernel, by decide +kernel, by decide +kernel, by decide⟩, z_tb (n := 759) (by decide +kernel) (by decide +kernel), z_in (List.mem_append_left _ (List.mem_of_getElem? (i := 19) (by decide +kernel))) (by decide +kernel)⟩
def iX7_isSomeShut : z_MI := (yX7_isSomeShut, cX7_isSomeShut, 2, (some .boolean), 0)
theorem mX7_isSomeShut : z_MV iX7_isSomeShut 0 := ⟨⟨by decide +kernel, z_tb (n := 8) (by decide +kernel) (by decide +kernel), z_tb (n := 855) (by decide +kernel) (by decide +kernel), by decide +kernel, by decide +kernel, by decide +kernel, by decide⟩, z_tb (n := 854) (by decide +kernel) (by decide +kernel), z_in (List.mem_append_left _ (List.mem_of_getElem? (i := 32) (by decide +kernel))) (by decide +kernel)⟩
def iX7_least : z_MI := (yX7_least, cX7_least, 1, (some .int), 0)
theorem mX7_least : z_MS iX7_least 1 := ⟨⟨by decide +kernel, z_tb (n := 8) (by decide +kernel) (by decide +kernel), z_tb (n := 771) (by decide +kernel) (by decide +kernel), by decide +kernel, by decide +kernel, by decide +kernel, by decide⟩, z_tb (n := 770) (by decide +kernel) (by decide +kernel)⟩
def iX7_line : z_MI := (yX7_line, cX7_line, 3, (some .int), 3)
theorem mX7_line : z_MV iX7_line 2 := ⟨⟨by decide +kernel, z_tb (n := 8) (by decide +kernel) (by decide +kernel), z_tb (n := 748) (by decide +kernel) (by decide +kernel), by decide +kernel, by decide +kernel, by decide +kernel, by decide⟩, z_tb (n := 746) (by decide +kernel) (by decide +kernel), z_tb (n := 747) (by decide +kernel) (by decide +kernel)⟩
def iX7_logs : z_MI := (yX7_logs, cX7_logs, 3, none, 4)
theorem mX7_logs : z_MV iX7_logs 2 := ⟨⟨by decide +kernel, z_tb (n := 8) (by decide +kernel) (by decide +kernel), z_tb (n := 795) (by decide +kernel) (by decide +kernel), by decide +kernel, by decide +kernel, by decide +kernel, by decide⟩, z_tb (n := 794) (by decide +kernel) (by decide +kernel), z_in (List.mem_append_left _ (List.mem_of_getElem? (i := 23) (by decide +kernel))) (by decide +kernel)⟩
def iX7_longest : z_MI := (yX7_longest, cX7_longest, 2, (some .int), 1)
theorem mX7_longest : z_MV iX7_longest 0 := ⟨⟨by decide +kernel, z_tb (n := 8) (by decide +kernel) (by decide +kernel), z_tb (n := 835) (by decide +kernel) (by decide +kernel), by decide +kernel, by decide +kernel, by decide +kernel, by decide⟩, z_tb (n := 833) (by decide +kernel) (by decide +kernel), z_tb (n := 834) (by decide +kernel) (by decide +kernel)⟩
def iX7_looks : z_MI := (yX7_looks, cX7_looks, 4, none, 2)
theorem mX7_looks : z_MV iX7_looks 1 := ⟨⟨by decide +kernel, z_tb (n := 8) (by decide +kernel) (by decide +kernel), z_tb (n := 807) (by decide +kernel) (by decide +kernel), by decide +kernel, by decide +kernel, by decide +kernel, by decide⟩, z_tb (n := 806) (by decide +kernel) (by decide +kernel), z_in (List.mem_append_left _ (List.mem_of_getElem? (i := 26) (by decide +kernel))) (by decide +kernel)⟩
def iX7_mark : z_MI := (yX7_mark, cX7_mark, 4, (some .int), 2)
theorem mX7_mark : z_MV iX7_mark 2 := ⟨⟨by decide +kernel, z_tb (n := 8) (by decide +kernel) (by decide +kernel), z_tb (n := 859) (by decide +kernel) (by decide +kernel), by decide +kernel, by decide +kernel, by decide +kernel, by decide⟩, z_tb (n := 857) (by decide +kernel) (by decide +kernel), z_tb (n := 858) (by decide +kernel) (by decide +kernel)⟩
def iX7_marks : z_MI := (yX7_marks, cX7_marks, 6, (some .int), 7)
theorem mX7_marks : z_MV iX7_marks 1 := ⟨⟨by decide +kernel, z_tb (n := 8) (by decide +kernel) (by decide +kernel), z_tb (n := 863) (by decide +kernel) (by decide +kernel), by decide +kernel, by decide +kernel, by decide +kernel, by decide⟩, z_tb (n := 861) (by decide +kernel) (by decide +kernel), z_tb (n := 862) (by decide +kernel) (by decide +kernel)⟩
def iX7_most : z_MI := (yX7_most, cX7_most, 1, (some .int), 0)
theorem mX7_most : z_MS iX7_most 1 := ⟨⟨by decide +kernel, z_tb (n := 8) (by decide +kernel) (by decide +kernel), z_tb (n := 774) (by decide +kernel) (by decide +kernel), by decide +kernel, by decide +kernel, by decide +kernel, by decide⟩, z_tb (n := 773) (by decide +kernel) (by decide +kernel)⟩
def iX7_opensIn : z_MI := (yX7_opensIn, cX7_opensIn, 4, (some .int), 1)
theorem mX7_opensIn : z_MV iX7_opensIn 1 := ⟨⟨by decide +kernel, z_tb (n := 8) (by decide +kernel) (by decide +kernel), z_tb (n := 831) (by decide +kernel) (by decide +kernel), by decide +kernel, by decide +kernel, by decide +kernel, by decide⟩, z_tb (n := 830) (by decide +kernel) (by decide +kernel), z_in (List.mem_append_left _ (List.mem_of_getElem? (i := 29) (by decide +kernel))) (by decide +kernel)⟩
def iX7_own : z_MI := (yX7_own, cX7_own, 3, (some .int), 2)
theorem mX7_own : z_MV iX7_own 2 := ⟨⟨by decide +kernel, z_tb (n := 8) (by decide +kernel) (by decide +kernel), z_tb (n := 918) (by decide +kernel) (by decide +kernel), by decide +kernel, by decide +kernel, by decide +kernel, by decide⟩, z_tb (n := 916) (by decide +kernel) (by decide +kernel), z_tb (n := 917) (by decide +kernel) (by decide +kernel)⟩
def iX7_penaltyNow : z_MI := (yX7_penaltyNow, cX7_penaltyNow, 4, (some .int), 1)
theorem mX7_penaltyNow : z_MV iX7_penaltyNow 2 := ⟨⟨by decide +kernel, z_tb (n := 8) (by decide +kernel) (by decide +kernel), z_tb (n := 803) (by decide +kernel) (by decide +kernel), by decide +kernel, by decide +kernel, by decide +kernel, by decide⟩, z_tb (n := 802) (by decide +kernel) (by decide +kernel), z_in (List.mem_append_left _ (List.mem_of_getElem? (i := 25) (by decide +kernel))) (by decide +kernel)⟩
def iX7_rule : z_MI := (yX7_rule, cX7_rule, 4, (some .int), 1)
theorem mX7_rule : z_MV iX7_rule 2 := ⟨⟨by decide +kernel, z_tb (n := 8) (by decide +kernel) (by decide +kernel), z_tb (n := 768) (by decide +kernel) (by decide +kernel), by decide +kernel, by decide +kernel, by decide +kernel, by decide⟩, z_tb (n := 766) (by decide +kernel) (by decide +kernel), z_tb (n := 767) (by decide +kernel) (by decide +kernel)⟩
def iX7_takesMarks : z_MI := (yX7_takesMarks, cX7_takesMarks, 1, none, 0)
theorem mX7_takesMarks : z_MV iX7_takesMarks 0 := ⟨⟨by decide +kernel, z_tb (n := 8) (by decide +kernel) (by decide +kernel), z_tb (n := 632) (by decide +kernel) (by decide +kernel), by decide +kernel, by decide +kernel, by decide +kernel, by decide⟩, z_tb (n := 631) (by decide +kernel) (by decide +kernel), z_in (List.mem_append_left _ (List.mem_of_getElem? (i := 17) (by decide +kernel))) (by decide +kernel)⟩
def iX7_tick : z_MI := (yX7_tick, cX7_tick, 3, (some .int), 4)
theorem mX7_tick : z_MV iX7_tick 1 := ⟨⟨by decide +kernel, z_tb (n := 8) (by decide +kernel) (by decide +kernel), z_tb (n := 815) (by decide +kernel) (by decide +kernel), by decide +kernel, by decide +kernel, by decide +kernel, by decide⟩, z_tb (n := 813) (by decide +kernel) (by decide +kernel), z_tb (n := 814) (by decide +kernel) (by decide +kernel)⟩
def iX7_ticks : z_MI := (yX7_ticks, cX7_ticks, 3, none, 3)
theorem mX7_ticks : z_MV iX7_ticks 1 := ⟨⟨by decide +kernel, z_tb (n := 8) (by decide +kernel) (by decide +kernel), z_tb (n := 819) (by decide +kernel) (by decide +kernel), by decide +kernel, by decide +kernel, by decide +kernel, by decide⟩, z_tb (n := 818) (by decide +kernel) (by decide +kernel), z_in (List.mem_append_left _ (List.mem_of_getElem? (i := 27) (by decide +kernel))) (by decide +kernel)⟩
def iX7_triesMarks : z_MI := (yX7_triesMarks, cX7_triesMarks, 6, none, 6)
theorem mX7_triesMarks : z_MV iX7_triesMarks 1 := ⟨⟨by decide +kernel, z_tb (n := 8) (by decide +kernel) (by decide +kernel), z_tb (n := 867) (by decide +kernel) (by decide +kernel), by decide +kernel, by decide +kernel, by decide +kernel, by decide⟩, z_tb (n := 866) (by decide +kernel) (by decide +kernel), z_in (List.mem_append_left _ (List.mem_of_getElem? (i := 33) (by decide +kernel))) (by decide +kernel)⟩
def iX7_way : z_MI := (yX7_way, cX7_way, 4, (some .int), 2)
theorem mX7_way : z_MV iX7_way 3 := ⟨⟨by decide +kernel, z_tb (n := 8) (by decide +kernel) (by decide +kernel), z_tb (n := 887) (by decide +kernel) (by decide +kernel), by decide +kernel, by decide +kernel, by decide +kernel, by decide⟩, z_tb (n := 885) (by decide +kernel) (by decide +kernel), z_tb (n := 886) (by decide +kernel) (by decide +kernel)⟩
def iX7_whoForbids : z_MI := (yX7_whoForbids, cX7_whoForbids, 3, (some .int), 2)
theorem mX7_whoForbids : z_MV iX7_whoForbids 0 := ⟨⟨by decide +kernel, z_tb (n := 8) (by decide +kernel) (by decide +kernel), z_tb (n := 879) (by decide +kernel) (by decide +kernel), by decide +kernel, by decide +kernel, by decide +kernel, by decide⟩, z_tb (n := 878) (by decide +kernel) (by decide +kernel), z_in (List.mem_append_left _ (List.mem_of_getElem? (i := 36) (by decide +kernel))) (by decide +kernel)⟩
theorem l_X6_59 : Cond.methodLink RX6 59 yX4_isFull ∈ z_tbl := z_tb (n := 224) (by decide +kernel) (by decide +kernel)
theorem l_X6_63 : Cond.methodLink RX6 63 yX4_enter ∈ z_tbl := z_tb (n := 228) (by decide +kernel) (by decide +kernel)
theorem l_X6_67 : Cond.methodLink RX6 67 yX0_join ∈ z_tbl := z_tb (n := 232) (by decide +kernel) (by decide +kernel)
theorem l_X6_71 : Cond.methodLink RX6 71 yX5_admits ∈ z_tbl := z_tb (n := 252) (by decide +kernel) (by decide +kernel)
theorem l_X6_75 : Cond.methodLink RX6 75 yX5_get ∈ z_tbl := z_tb (n := 260) (by decide +kernel) (by decide +kernel)
theorem l_X6_79 : Cond.methodLink RX6 79 yX0_restPenalties ∈ z_tbl := z_tb (n := 264) (by decide +kernel) (by decide +kernel)
theorem l_X6_82 : Cond.methodLink RX6 82 yX5_put ∈ z_tbl := z_tb (n := 279) (by decide +kernel) (by decide +kernel)
theorem l_X6_87 : Cond.methodLink RX6 87 yX5_fade ∈ z_tbl := z_tb (n := 288) (by decide +kernel) (by decide +kernel)
theorem l_X6_90 : Cond.methodLink RX6 90 yX4_has ∈ z_tbl := z_tb (n := 293) (by decide +kernel) (by decide +kernel)
theorem l_X6_94 : Cond.methodLink RX6 94 yX0_isUp ∈ z_tbl := z_tb (n := 297) (by decide +kernel) (by decide +kernel)
theorem l_X6_97 : Cond.methodLink RX6 97 yX6_penaltyAfter ∈ z_tbl := z_tb (n := 301) (by decide +kernel) (by decide +kernel)
theorem l_X6_100 : Cond.methodLink RX6 100 yX6_happen ∈ z_tbl := z_tb (n := 305) (by decide +kernel) (by decide +kernel)
theorem l_X6_103 : Cond.methodLink RX6 103 yX0_penaltyOf ∈ z_tbl := z_tb (n := 363) (by decide +kernel) (by decide +kernel)
theorem l_X6_106 : Cond.methodLink RX6 106 yX1_isFull ∈ z_tbl := z_tb (n := 309) (by decide +kernel) (by decide +kernel)
theorem l_X6_107 : Cond.methodLink RX6 107 yX1_write ∈ z_tbl := z_tb (n := 313) (by decide +kernel) (by decide +kernel)
theorem l_X6_111 : Cond.methodLink RX6 111 yX0_take ∈ z_tbl := z_tb (n := 317) (by decide +kernel) (by decide +kernel)
theorem l_X6_114 : Cond.methodLink RX6 114 yX0_settleAll ∈ z_tbl := z_tb (n := 375) (by decide +kernel) (by decide +kernel)
theorem l_X6_117 : Cond.methodLink RX6 117 yX6_asNumber ∈ z_tbl := z_tb (n := 383) (by decide +kernel) (by decide +kernel)
theorem l_X6_121 : Cond.methodLink RX6 121 yX0_isShut ∈ z_tbl := z_tb (n := 386) (by decide +kernel) (by decide +kernel)
theorem l_X6_124 : Cond.methodLink RX6 124 yX0_isSeen ∈ z_tbl := z_tb (n := 387) (by decide +kernel) (by decide +kernel)
theorem l_X6_127 : Cond.methodLink RX6 127 yX0_flipsOf ∈ z_tbl := z_tb (n := 388) (by decide +kernel) (by decide +kernel)
theorem l_X6_130 : Cond.methodLink RX6 130 yX0_lostOf ∈ z_tbl := z_tb (n := 392) (by decide +kernel) (by decide +kernel)
theorem l_X6_133 : Cond.methodLink RX6 133 yX4_kindOf ∈ z_tbl := z_tb (n := 396) (by decide +kernel) (by decide +kernel)
theorem l_X6_136 : Cond.methodLink RX6 136 yX0_ticksTillOpen ∈ z_tbl := z_tb (n := 397) (by decide +kernel) (by decide +kernel)
theorem l_X6_139 : Cond.methodLink RX6 139 yX4_markOf ∈ z_tbl := z_tb (n := 401) (by decide +kernel) (by decide +kernel)
theorem l_X6_142 : Cond.methodLink RX6 142 yX5_ticksTillBelow ∈ z_tbl := z_tb (n := 409) (by decide +kernel) (by decide +kernel)
theorem l_X6_145 : Cond.methodLink RX6 145 yX1_size ∈ z_tbl := z_tb (n := 414) (by decide +kernel) (by decide +kernel)
theorem l_X6_149 : Cond.methodLink RX6 149 yX1_lineAt ∈ z_tbl := z_tb (n := 418) (by decide +kernel) (by decide +kernel)
theorem l_X6_152 : Cond.methodLink RX6 152 yX1_whatAt ∈ z_tbl := z_tb (n := 422) (by decide +kernel) (by decide +kernel)
theorem l_X6_155 : Cond.methodLink RX6 155 yX1_tickAt ∈ z_tbl := z_tb (n := 426) (by decide +kernel) (by decide +kernel)
theorem l_X6_158 : Cond.methodLink RX6 158 yX5_areMarks ∈ z_tbl := z_tb (n := 434) (by decide +kernel) (by decide +kernel)
theorem l_X6_161 : Cond.methodLink RX6 161 yX3_goOver ∈ z_tbl := z_tb (n := 437) (by decide +kernel) (by decide +kernel)
theorem l_X6_164 : Cond.methodLink RX6 164 yX3_flipsOf ∈ z_tbl := z_tb (n := 455) (by decide +kernel) (by decide +kernel)
theorem l_X6_165 : Cond.methodLink RX6 165 yX3_lostOf ∈ z_tbl := z_tb (n := 460) (by decide +kernel) (by decide +kernel)
theorem l_X6_166 : Cond.methodLink RX6 166 yX4_putMark ∈ z_tbl := z_tb (n := 469) (by decide +kernel) (by decide +kernel)
theorem l_X6_169 : Cond.methodLink RX6 169 yX4_markedLines ∈ z_tbl := z_tb (n := 477) (by decide +kernel) (by decide +kernel)
theorem l_X6_172 : Cond.methodLink RX6 172 yX3_findMarks ∈ z_tbl := z_tb (n := 481) (by decide +kernel) (by decide +kernel)
theorem l_X6_175 : Cond.methodLink RX6 175 yX2_isHouse ∈ z_tbl := z_tb (n := 517) (by decide +kernel) (by decide +kernel)
theorem l_X6_178 : Cond.methodLink RX6 178 yX2_hasWay ∈ z_tbl := z_tb (n := 520) (by decide +kernel) (by decide +kernel)
theorem l_X6_181 : Cond.methodLink RX6 181 yX2_putWay ∈ z_tbl := z_tb (n := 527) (by decide +kernel) (by decide +kernel)
theorem l_X6_185 : Cond.methodLink RX6 185 yX2_putBound ∈ z_tbl := z_tb (n := 535) (by decide +kernel) (by decide +kernel)
theorem l_X6_188 : Cond.methodLink RX6 188 yX2_startFlood ∈ z_tbl := z_tb (n := 543) (by decide +kernel) (by decide +kernel)
theorem l_X6_192 : Cond.methodLink RX6 192 yX2_hasLetter ∈ z_tbl := z_tb (n := 570) (by decide +kernel) (by decide +kernel)
theorem l_X6_195 : Cond.methodLink RX6 195 yX2_takeLetter ∈ z_tbl := z_tb (n := 574) (by decide +kernel) (by decide +kernel)
theorem l_X6_198 : Cond.methodLink RX6 198 yX2_ownAt ∈ z_tbl := z_tb (n := 583) (by decide +kernel) (by decide +kernel)
theorem l_X6_201 : Cond.methodLink RX6 201 yX2_echoesOf ∈ z_tbl := z_tb (n := 591) (by decide +kernel) (by decide +kernel)
theorem l_X6_204 : Cond.methodLink RX6 204 yX4_size ∈ z_tbl := z_tb (n := 599) (by decide +kernel) (by decide +kernel)
theorem l_X6_205 : Cond.methodLink RX6 205 yX0_shutLines ∈ z_tbl := z_tb (n := 600) (by decide +kernel) (by decide +kernel)
theorem l_X6_208 : Cond.methodLink RX6 208 yX2_ways ∈ z_tbl := z_tb (n := 604) (by decide +kernel) (by decide +kernel)
theorem l_X6_211 : Cond.methodLink RX6 211 yX2_lettersOfAll ∈ z_tbl := z_tb (n := 608) (by decide +kernel) (by decide +kernel)
theorem l_X6_218 : Cond.methodLink RX6 218 yX6_count ∈ z_tbl := z_tb (n := 618) (by decide +kernel) (by decide +kernel)
theorem l_X6_221 : Cond.methodLink RX6 221 yX6_about ∈ z_tbl := z_tb (n := 619) (by decide +kernel) (by decide +kernel)
theorem l_X6_224 : Cond.methodLink RX6 224 yX6_event ∈ z_tbl := z_tb (n := 620) (by decide +kernel) (by decide +kernel)
theorem l_X0_50 : Cond.methodLink RX0 50 yX0_restart ∈ z_tbl := z_tb (n := 83) (by decide +kernel) (by decide +kernel)
theorem l_X0_58 : Cond.methodLink RX0 58 yX0_isSeen ∈ z_tbl := z_tb (n := 236) (by decide +kernel) (by decide +kernel)
theorem l_X0_62 : Cond.methodLink RX0 62 yX4_slotOf ∈ z_tbl := z_tb (n := 244) (by decide +kernel) (by decide +kernel)
theorem l_X0_66 : Cond.methodLink RX0 66 yX0_isShut ∈ z_tbl := z_tb (n := 240) (by decide +kernel) (by decide +kernel)
theorem l_X0_69 : Cond.methodLink RX0 69 yX4_size ∈ z_tbl := z_tb (n := 347) (by decide +kernel) (by decide +kernel)
theorem l_X0_73 : Cond.methodLink RX0 73 yX0_penaltyAt ∈ z_tbl := z_tb (n := 268) (by decide +kernel) (by decide +kernel)
theorem l_X0_77 : Cond.methodLink RX0 77 yX5_fade ∈ z_tbl := z_tb (n := 272) (by decide +kernel) (by decide +kernel)
theorem l_X0_82 : Cond.methodLink RX0 82 yX0_openingTick ∈ z_tbl := z_tb (n := 325) (by decide +kernel) (by decide +kernel)
theorem l_X0_85 : Cond.methodLink RX0 85 yX5_get ∈ z_tbl := z_tb (n := 329) (by decide +kernel) (by decide +kernel)
theorem l_X0_88 : Cond.methodLink RX0 88 yX5_ticksTillBelow ∈ z_tbl := z_tb (n := 330) (by decide +kernel) (by decide +kernel)
theorem l_X0_91 : Cond.methodLink RX0 91 Lib.Math.max.name ∈ z_tbl := z_tb (n := 337) (by decide +kernel) (by decide +kernel)
theorem l_X0_96 : Cond.methodLink RX0 96 yX0_settle ∈ z_tbl := z_tb (n := 321) (by decide +kernel) (by decide +kernel)
theorem l_X0_100 : Cond.methodLink RX0 100 Lib.Math.min.name ∈ z_tbl := z_tb (n := 338) (by decide +kernel) (by decide +kernel)
theorem l_X0_103 : Cond.methodLink RX0 103 yX0_firstOf ∈ z_tbl := z_tb (n := 339) (by decide +kernel) (by decide +kernel)
theorem l_X0_106 : Cond.methodLink RX0 106 yX0_endOf ∈ z_tbl := z_tb (n := 343) (by decide +kernel) (by decide +kernel)
theorem l_X0_109 : Cond.methodLink RX0 109 yX0_lookAt ∈ z_tbl := z_tb (n := 351) (by decide +kernel) (by decide +kernel)
theorem l_X0_113 : Cond.methodLink RX0 113 yX0_weightOf ∈ z_tbl := z_tb (n := 355) (by decide +kernel) (by decide +kernel)
theorem l_X0_117 : Cond.methodLink RX0 117 yX4_kindOf ∈ z_tbl := z_tb (n := 359) (by decide +kernel) (by decide +kernel)
theorem l_X2_48 : Cond.methodLink RX2 48 yX2_place ∈ z_tbl := z_tb (n := 524) (by decide +kernel) (by decide +kernel)
theorem l_X2_52 : Cond.methodLink RX2 52 yX2_findOwn ∈ z_tbl := z_tb (n := 547) (by decide +kernel) (by decide +kernel)
theorem l_X2_56 : Cond.methodLink RX2 56 yX2_hasLetter ∈ z_tbl := z_tb (n := 578) (by decide +kernel) (by decide +kernel)
theorem l_X2_60 : Cond.methodLink RX2 60 yX2_goalRow ∈ z_tbl := z_tb (n := 551) (by decide +kernel) (by decide +kernel)
theorem l_X2_64 : Cond.methodLink RX2 64 yX2_shortestRow ∈ z_tbl := z_tb (n := 555) (by decide +kernel) (by decide +kernel)
theorem l_X2_68 : Cond.methodLink RX2 68 yX2_send ∈ z_tbl := z_tb (n := 565) (by decide +kernel) (by decide +kernel)
theorem l_X2_72 : Cond.methodLink RX2 72 yX2_holds ∈ z_tbl := z_tb (n := 559) (by decide +kernel) (by decide +kernel)
theorem l_X2_76 : Cond.methodLink RX2 76 yX2_lengthOf ∈ z_tbl := z_tb (n := 562) (by decide +kernel) (by decide +kernel)
theorem l_X2_79 : Cond.methodLink RX2 79 yX2_hasWay ∈ z_tbl := z_tb (n := 569) (by decide +kernel) (by decide +kernel)
theorem l_X3_46 : Cond.methodLink RX3 46 yX5_copyWithMarks ∈ z_tbl := z_tb (n := 441) (by decide +kernel) (by decide +kernel)
theorem l_X3_50 : Cond.methodLink RX3 50 yX0_restart ∈ z_tbl := z_tb (n := 448) (by decide +kernel) (by decide +kernel)
theorem l_X3_53 : Cond.methodLink RX3 53 yX1_size ∈ z_tbl := z_tb (n := 449) (by decide +kernel) (by decide +kernel)
theorem l_X3_59 : Cond.methodLink RX3 59 yX1_lineAt ∈ z_tbl := z_tb (n := 450) (by decide +kernel) (by decide +kernel)
theorem l_X3_63 : Cond.methodLink RX3 63 yX1_whatAt ∈ z_tbl := z_tb (n := 451) (by decide +kernel) (by decide +kernel)
theorem l_X3_66 : Cond.methodLink RX3 66 yX1_tickAt ∈ z_tbl := z_tb (n := 452) (by decide +kernel) (by decide +kernel)
theorem l_X3_69 : Cond.methodLink RX3 69 yX0_take ∈ z_tbl := z_tb (n := 453) (by decide +kernel) (by decide +kernel)
theorem l_X3_73 : Cond.methodLink RX3 73 yX0_settleAll ∈ z_tbl := z_tb (n := 454) (by decide +kernel) (by decide +kernel)
theorem l_X3_77 : Cond.methodLink RX3 77 yX0_flipsOf ∈ z_tbl := z_tb (n := 459) (by decide +kernel) (by decide +kernel)
theorem l_X3_80 : Cond.methodLink RX3 80 yX0_lostOf ∈ z_tbl := z_tb (n := 464) (by decide +kernel) (by decide +kernel)
theorem l_X3_83 : Cond.methodLink RX3 83 yX4_markedLines ∈ z_tbl := z_tb (n := 485) (by decide +kernel) (by decide +kernel)
theorem l_X3_88 : Cond.methodLink RX3 88 yX3_goOver ∈ z_tbl := z_tb (n := 486) (by decide +kernel) (by decide +kernel)
theorem l_X3_91 : Cond.methodLink RX3 91 yX3_metLines ∈ z_tbl := z_tb (n := 487) (by decide +kernel) (by decide +kernel)
theorem l_X3_95 : Cond.methodLink RX3 95 yX3_keep ∈ z_tbl := z_tb (n := 494) (by decide +kernel) (by decide +kernel)
theorem l_X3_98 : Cond.methodLink RX3 98 yX0_wasEverShut ∈ z_tbl := z_tb (n := 498) (by decide +kernel) (by decide +kernel)
theorem l_X3_102 : Cond.methodLink RX3 102 yX3_conflict ∈ z_tbl := z_tb (n := 502) (by decide +kernel) (by decide +kernel)
theorem l_X3_105 : Cond.methodLink RX3 105 yX4_size ∈ z_tbl := z_tb (n := 491) (by decide +kernel) (by decide +kernel)
theorem l_X3_106 : Cond.methodLink RX3 106 yX4_markOf ∈ z_tbl := z_tb (n := 492) (by decide +kernel) (by decide +kernel)
theorem l_X3_109 : Cond.methodLink RX3 109 yX3_canMeet ∈ z_tbl := z_tb (n := 506) (by decide +kernel) (by decide +kernel)
theorem l_X3_113 : Cond.methodLink RX3 113 yX3_told ∈ z_tbl := z_tb (n := 510) (by decide +kernel) (by decide +kernel)
theorem l_X5_27 : Cond.methodLink RX5 27 arraycopyName ∈ z_tbl := z_tb (n := 445) (by decide +kernel) (by decide +kernel)
theorem l_X5_33 : Cond.methodLink RX5 33 Lib.Math.max.name ∈ z_tbl := z_tb (n := 276) (by decide +kernel) (by decide +kernel)
theorem l_X5_39 : Cond.methodLink RX5 39 Lib.Math.min.name ∈ z_tbl := z_tb (n := 334) (by decide +kernel) (by decide +kernel)
theorem l_X7_105 : Cond.methodLink RX7 105 yX7_takesMarks ∈ z_tbl := z_tb (n := 629) (by decide +kernel) (by decide +kernel)
theorem l_X7_108 : Cond.methodLink RX7 108 yX7_bearer ∈ z_tbl := z_tb (n := 761) (by decide +kernel) (by decide +kernel)
theorem l_X7_112 : Cond.methodLink RX7 112 yX7_fades ∈ z_tbl := z_tb (n := 776) (by decide +kernel) (by decide +kernel)
theorem l_X7_119 : Cond.methodLink RX7 119 yX7_isSeen ∈ z_tbl := z_tb (n := 757) (by decide +kernel) (by decide +kernel)
theorem l_X7_124 : Cond.methodLink RX7 124 yX7_in ∈ z_tbl := z_tb (n := 749) (by decide +kernel) (by decide +kernel)
theorem l_X7_128 : Cond.methodLink RX7 128 yX7_begins ∈ z_tbl := z_tb (n := 752) (by decide +kernel) (by decide +kernel)
theorem l_X7_133 : Cond.methodLink RX7 133 yX7_least ∈ z_tbl := z_tb (n := 769) (by decide +kernel) (by decide +kernel)
theorem l_X7_137 : Cond.methodLink RX7 137 yX7_most ∈ z_tbl := z_tb (n := 772) (by decide +kernel) (by decide +kernel)
theorem l_X7_140 : Cond.methodLink RX7 140 yX7_penaltyNow ∈ z_tbl := z_tb (n := 800) (by decide +kernel) (by decide +kernel)
theorem l_X7_143 : Cond.methodLink RX7 143 yX7_looks ∈ z_tbl := z_tb (n := 804) (by decide +kernel) (by decide +kernel)
theorem l_X7_150 : Cond.methodLink RX7 150 yX7_happens ∈ z_tbl := z_tb (n := 796) (by decide +kernel) (by decide +kernel)
theorem l_X7_154 : Cond.methodLink RX7 154 yX7_isLine ∈ z_tbl := z_tb (n := 788) (by decide +kernel) (by decide +kernel)
theorem l_X7_158 : Cond.methodLink RX7 158 yX7_logs ∈ z_tbl := z_tb (n := 792) (by decide +kernel) (by decide +kernel)
theorem l_X7_161 : Cond.methodLink RX7 161 yX7_ticks ∈ z_tbl := z_tb (n := 816) (by decide +kernel) (by decide +kernel)
theorem l_X7_164 : Cond.methodLink RX7 164 yX7_opensIn ∈ z_tbl := z_tb (n := 828) (by decide +kernel) (by decide +kernel)
theorem l_X7_167 : Cond.methodLink RX7 167 yX7_aboutOf ∈ z_tbl := z_tb (n := 824) (by decide +kernel) (by decide +kernel)
theorem l_X7_170 : Cond.methodLink RX7 170 yX7_isSomeShut ∈ z_tbl := z_tb (n := 852) (by decide +kernel) (by decide +kernel)
theorem l_X7_174 : Cond.methodLink RX7 174 yX7_goesTo ∈ z_tbl := z_tb (n := 848) (by decide +kernel) (by decide +kernel)
theorem l_X7_177 : Cond.methodLink RX7 177 yX7_goesOver ∈ z_tbl := z_tb (n := 844) (by decide +kernel) (by decide +kernel)
theorem l_X7_180 : Cond.methodLink RX7 180 yX7_isRightBy ∈ z_tbl := z_tb (n := 872) (by decide +kernel) (by decide +kernel)
theorem l_X7_183 : Cond.methodLink RX7 183 yX7_common ∈ z_tbl := z_tb (n := 880) (by decide +kernel) (by decide +kernel)
theorem l_X7_186 : Cond.methodLink RX7 186 yX7_triesMarks ∈ z_tbl := z_tb (n := 864) (by decide +kernel) (by decide +kernel)
theorem l_X7_189 : Cond.methodLink RX7 189 yX7_firstOfAll ∈ z_tbl := z_tb (n := 868) (by decide +kernel) (by decide +kernel)
theorem l_X7_193 : Cond.methodLink RX7 193 yX7_whoForbids ∈ z_tbl := z_tb (n := 876) (by decide +kernel) (by decide +kernel)
theorem l_X7_196 : Cond.methodLink RX7 196 yX7_isHouse ∈ z_tbl := z_tb (n := 888) (by decide +kernel) (by decide +kernel)
theorem l_X7_202 : Cond.methodLink RX7 202 yX7_holds ∈ z_tbl := z_tb (n := 907) (by decide +kernel) (by decide +kernel)
theorem l_X7_205 : Cond.methodLink RX7 205 yX7_findOwn ∈ z_tbl := z_tb (n := 903) (by decide +kernel) (by decide +kernel)
theorem l_X7_216 : Cond.methodLink RX7 216 yX7_findsAnew ∈ z_tbl := z_tb (n := 899) (by decide +kernel) (by decide +kernel)
theorem l_X7_219 : Cond.methodLink RX7 219 yX7_comes ∈ z_tbl := z_tb (n := 911) (by decide +kernel) (by decide +kernel)
theorem l_X7_229 : Cond.methodLink RX7 229 yX7_count ∈ z_tbl := z_tb (n := 933) (by decide +kernel) (by decide +kernel)
theorem k_X6_86 : Cond.constant RX6 86 (nI 100000) ∈ z_tbl := z_tb (n := 287) (by decide +kernel) (by decide +kernel)
theorem k_X6_214 : Cond.constantLong RX6 214 (137) ∈ z_tbl := z_tb (n := 616) (by decide +kernel) (by decide +kernel)
theorem k_X6_216 : Cond.constantLong RX6 216 (31) ∈ z_tbl := z_tb (n := 617) (by decide +kernel) (by decide +kernel)
theorem k_X6_227 : Cond.constantLong RX6 227 (9) ∈ z_tbl := z_tb (n := 621) (by decide +kernel) (by decide +kernel)
theorem k_X0_57 : Cond.constant RX0 57 (-1000000) ∈ z_tbl := z_tb (n := 87) (by decide +kernel) (by decide +kernel)
theorem k_X3_94 : Cond.constant RX3 94 (nI 100000) ∈ z_tbl := z_tb (n := 493) (by decide +kernel) (by decide +kernel)
theorem k_X7_101 : Cond.constant RX7 101 (nI 41000) ∈ z_tbl := z_tb (n := 628) (by decide +kernel) (by decide +kernel)
theorem k_X7_123 : Cond.constant RX7 123 (-100000) ∈ z_tbl := z_tb (n := 756) (by decide +kernel) (by decide +kernel)
theorem k_X7_132 : Cond.constant RX7 132 (nI 100000) ∈ z_tbl := z_tb (n := 775) (by decide +kernel) (by decide +kernel)
theorem k_X7_225 : Cond.constantLong RX7 225 (137) ∈ z_tbl := z_tb (n := 931) (by decide +kernel) (by decide +kernel)
theorem k_X7_227 : Cond.constantLong RX7 227 (31) ∈ z_tbl := z_tb (n := 932) (by decide +kernel) (by decide +kernel)
theorem k_X7_232 : Cond.constantLong RX7 232 (9) ∈ z_tbl := z_tb (n := 934) (by decide +kernel) (by decide +kernel)
