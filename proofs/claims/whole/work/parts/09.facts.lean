theorem tb_1 : ∀ w ∈ tables_1_1, w ∈ tables_1 := fun w h => List.mem_append_left _ h
theorem tb_2 : ∀ w ∈ tables_1_2, w ∈ tables_1 := fun w h => List.mem_append_right _ (List.mem_append_left _ h)
theorem tb_3 : ∀ w ∈ tables_1_3, w ∈ tables_1 := fun w h => List.mem_append_right _ (List.mem_append_right _ (List.mem_append_left _ h))
theorem tb_4 : ∀ w ∈ tables_1_4, w ∈ tables_1 := fun w h => List.mem_append_right _ (List.mem_append_right _ (List.mem_append_right _ (List.mem_append_left _ h)))
theorem tb_5 : ∀ w ∈ tables_1_5, w ∈ tables_1 := fun w h => List.mem_append_right _ (List.mem_append_right _ (List.mem_append_right _ (List.mem_append_right _ (List.mem_append_left _ h))))
theorem tb_6 : ∀ w ∈ tables_1_6, w ∈ tables_1 := fun w h => List.mem_append_right _ (List.mem_append_right _ (List.mem_append_right _ (List.mem_append_right _ (List.mem_append_right _ (List.mem_append_left _ h)))))
theorem tb_7 : ∀ w ∈ tables_1_7, w ∈ tables_1 := fun w h => List.mem_append_right _ (List.mem_append_right _ (List.mem_append_right _ (List.mem_append_right _ (List.mem_append_right _ (List.mem_append_right _ (List.mem_append_left _ h))))))
theorem tb_8 : ∀ w ∈ tables_1_8, w ∈ tables_1 := fun w h => List.mem_append_right _ (List.mem_append_right _ (List.mem_append_right _ (List.mem_append_right _ (List.mem_append_right _ (List.mem_append_right _ (List.mem_append_right _ (h)))))))
theorem kX0 : x_K 0 RX0 TX0 14 tyX0 := ⟨rfl, fun w h => x_gin ((by decide +kernel : ∀ w ∈ wsX00, w ∈ lw_tbl) w h) ((by decide +kernel : ∀ w ∈ wsX00, gB w = true) w h), tyX0_ok, nmX0⟩
theorem kX1 : x_K 1 RX1 TX1 8 tyX1 := ⟨rfl, fun w h => x_gin ((by decide +kernel : ∀ w ∈ wsX10, w ∈ lw_tbl) w h) ((by decide +kernel : ∀ w ∈ wsX10, gB w = true) w h), tyX1_ok, nmX1⟩
theorem kX2 : x_K 2 RX2 TX2 10 tyX2 := ⟨rfl, fun w h => x_gin ((by decide +kernel : ∀ w ∈ wsX20, w ∈ lw_tbl) w h) ((by decide +kernel : ∀ w ∈ wsX20, gB w = true) w h), tyX2_ok, nmX2⟩
theorem kX3 : x_K 3 RX3 TX3 3 tyX3 := ⟨rfl, fun w h => x_gin ((by decide +kernel : ∀ w ∈ wsX30, w ∈ lw_tbl) w h) ((by decide +kernel : ∀ w ∈ wsX30, gB w = true) w h), tyX3_ok, nmX3⟩
theorem kX4 : x_K 4 RX4 TX4 1 tyX4 := ⟨rfl, fun w h => x_gin ((by decide +kernel : ∀ w ∈ wsX40, w ∈ lw_tbl) w h) ((by decide +kernel : ∀ w ∈ wsX40, gB w = true) w h), tyX4_ok, nmX4⟩
theorem kX5 : x_K 5 RX5 TX5 4 tyX5 := ⟨rfl, fun w h => x_gin ((by decide +kernel : ∀ w ∈ wsX50, w ∈ lw_tbl) w h) ((by decide +kernel : ∀ w ∈ wsX50, gB w = true) w h), tyX5_ok, nmX5⟩
theorem kX6 : x_K 6 RX6 TX6 9 tyX6 := ⟨rfl, fun w h => x_gin ((by decide +kernel : ∀ w ∈ wsX60, w ∈ lw_tbl) w h) ((by decide +kernel : ∀ w ∈ wsX60, gB w = true) w h), tyX6_ok, nmX6⟩
theorem kX7 : x_K 7 RX7 TX7 3 tyX7 := ⟨rfl, fun w h => x_gin ((by decide +kernel : ∀ w ∈ wsX70, w ∈ lw_tbl) w h) ((by decide +kernel : ∀ w ∈ wsX70, gB w = true) w h), tyX7_ok, nmX7⟩
theorem kX9 : x_K 8 RX9 TX9 4 tyX9 := ⟨rfl, fun w h => x_gin ((by decide +kernel : ∀ w ∈ wsX90, w ∈ lw_tbl) w h) ((by decide +kernel : ∀ w ∈ wsX90, gB w = true) w h), tyX9_ok, nmX9⟩
theorem kX10 : x_K 9 RX10 TX10 11 tyX10 := ⟨rfl, fun w h => x_gin ((by decide +kernel : ∀ w ∈ wsX100, w ∈ lw_tbl) w h) ((by decide +kernel : ∀ w ∈ wsX100, gB w = true) w h), tyX10_ok, nmX10⟩
theorem kX11 : x_K 10 RX11 TX11 30 tyX11 := ⟨rfl, fun w h => x_gin ((by decide +kernel : ∀ w ∈ wsX110, w ∈ lw_tbl) w h) ((by decide +kernel : ∀ w ∈ wsX110, gB w = true) w h), tyX11_ok, nmX11⟩
set_option maxRecDepth 100000 in
theorem f_X5_9 : x_F RX5 9 5 0 (tyX5 0) true true := ⟨RX5, TX5, 4, tyX5, kX5, by decide, (x_gin (List.mem_append_right _ (tb_1 _ (List.mem_of_getElem? (i := 49) rfl))) rfl), rfl, rfl, fun _ => rfl⟩
set_option maxRecDepth 100000 in
theorem f_X2_90 : x_F RX2 90 5 0 (tyX5 0) true false := ⟨RX5, TX5, 4, tyX5, kX5, by decide, (x_gin (List.mem_append_right _ (tb_1 _ (List.mem_of_getElem? (i := 50) rfl))) rfl), rfl, rfl, fun h => by cases h⟩
set_option maxRecDepth 100000 in
theorem f_X5_15 : x_F RX5 15 5 1 (tyX5 1) true true := ⟨RX5, TX5, 4, tyX5, kX5, by decide, (x_gin (List.mem_append_right _ (tb_1 _ (List.mem_of_getElem? (i := 51) rfl))) rfl), rfl, rfl, fun _ => rfl⟩
set_option maxRecDepth 100000 in
theorem f_X2_93 : x_F RX2 93 5 1 (tyX5 1) true false := ⟨RX5, TX5, 4, tyX5, kX5, by decide, (x_gin (List.mem_append_right _ (tb_1 _ (List.mem_of_getElem? (i := 52) rfl))) rfl), rfl, rfl, fun h => by cases h⟩
set_option maxRecDepth 100000 in
theorem f_X5_18 : x_F RX5 18 5 2 (tyX5 2) true true := ⟨RX5, TX5, 4, tyX5, kX5, by decide, (x_gin (List.mem_append_right _ (tb_1 _ (List.mem_of_getElem? (i := 53) rfl))) rfl), rfl, rfl, fun _ => rfl⟩
set_option maxRecDepth 100000 in
theorem f_X2_96 : x_F RX2 96 5 2 (tyX5 2) true false := ⟨RX5, TX5, 4, tyX5, kX5, by decide, (x_gin (List.mem_append_right _ (tb_1 _ (List.mem_of_getElem? (i := 54) rfl))) rfl), rfl, rfl, fun h => by cases h⟩
set_option maxRecDepth 100000 in
theorem f_X5_21 : x_F RX5 21 5 3 (tyX5 3) false true := ⟨RX5, TX5, 4, tyX5, kX5, by decide, (x_gin (List.mem_append_right _ (tb_1 _ (List.mem_of_getElem? (i := 55) rfl))) rfl), rfl, rfl, fun _ => rfl⟩
set_option maxRecDepth 100000 in
theorem f_X2_12 : x_F RX2 12 2 0 (tyX2 0) true true := ⟨RX2, TX2, 10, tyX2, kX2, by decide, (x_gin (List.mem_append_right _ (tb_1 _ (List.mem_of_getElem? (i := 67) rfl))) rfl), rfl, rfl, fun _ => rfl⟩
set_option maxRecDepth 100000 in
theorem f_X2_87 : x_F RX2 87 2 1 (tyX2 1) false true := ⟨RX2, TX2, 10, tyX2, kX2, by decide, (x_gin (List.mem_append_right _ (tb_1 _ (List.mem_of_getElem? (i := 68) rfl))) rfl), rfl, rfl, fun _ => rfl⟩
set_option maxRecDepth 100000 in
theorem f_X2_18 : x_F RX2 18 2 2 (tyX2 2) false true := ⟨RX2, TX2, 10, tyX2, kX2, by decide, (x_gin (List.mem_append_right _ (tb_1 _ (List.mem_of_getElem? (i := 69) rfl))) rfl), rfl, rfl, fun _ => rfl⟩
set_option maxRecDepth 100000 in
theorem f_X10_119 : x_F RX10 119 2 2 (tyX2 2) false false := ⟨RX2, TX2, 10, tyX2, kX2, by decide, (x_gin (List.mem_append_right _ (tb_1 _ (List.mem_of_getElem? (i := 70) rfl))) rfl), rfl, rfl, fun h => by cases h⟩
set_option maxRecDepth 100000 in
theorem f_X2_24 : x_F RX2 24 2 3 (tyX2 3) true true := ⟨RX2, TX2, 10, tyX2, kX2, by decide, (x_gin (List.mem_append_right _ (tb_1 _ (List.mem_of_getElem? (i := 71) rfl))) rfl), rfl, rfl, fun _ => rfl⟩
set_option maxRecDepth 100000 in
theorem f_X2_58 : x_F RX2 58 2 4 (tyX2 4) false true := ⟨RX2, TX2, 10, tyX2, kX2, by decide, (x_gin (List.mem_append_right _ (tb_1 _ (List.mem_of_getElem? (i := 72) rfl))) rfl), rfl, rfl, fun _ => rfl⟩
set_option maxRecDepth 100000 in
theorem f_X2_72 : x_F RX2 72 2 5 (tyX2 5) false true := ⟨RX2, TX2, 10, tyX2, kX2, by decide, (x_gin (List.mem_append_right _ (tb_1 _ (List.mem_of_getElem? (i := 73) rfl))) rfl), rfl, rfl, fun _ => rfl⟩
set_option maxRecDepth 100000 in
theorem f_X2_75 : x_F RX2 75 2 6 (tyX2 6) false true := ⟨RX2, TX2, 10, tyX2, kX2, by decide, (x_gin (List.mem_append_right _ (tb_1 _ (List.mem_of_getElem? (i := 74) rfl))) rfl), rfl, rfl, fun _ => rfl⟩
set_option maxRecDepth 100000 in
theorem f_X2_78 : x_F RX2 78 2 7 (tyX2 7) false true := ⟨RX2, TX2, 10, tyX2, kX2, by decide, (x_gin (List.mem_append_right _ (tb_1 _ (List.mem_of_getElem? (i := 75) rfl))) rfl), rfl, rfl, fun _ => rfl⟩
set_option maxRecDepth 100000 in
theorem f_X2_28 : x_F RX2 28 2 8 (tyX2 8) true true := ⟨RX2, TX2, 10, tyX2, kX2, by decide, (x_gin (List.mem_append_right _ (tb_1 _ (List.mem_of_getElem? (i := 76) rfl))) rfl), rfl, rfl, fun _ => rfl⟩
set_option maxRecDepth 100000 in
theorem f_X2_81 : x_F RX2 81 2 9 (tyX2 9) false true := ⟨RX2, TX2, 10, tyX2, kX2, by decide, (x_gin (List.mem_append_right _ (tb_1 _ (List.mem_of_getElem? (i := 77) rfl))) rfl), rfl, rfl, fun _ => rfl⟩
set_option maxRecDepth 100000 in
theorem f_X7_7 : x_F RX7 7 7 0 (tyX7 0) true true := ⟨RX7, TX7, 3, tyX7, kX7, by decide, (x_gin (List.mem_append_right _ (tb_1 _ (List.mem_of_getElem? (i := 111) rfl))) rfl), rfl, rfl, fun _ => rfl⟩
set_option maxRecDepth 100000 in
theorem f_X7_13 : x_F RX7 13 7 1 (tyX7 1) true true := ⟨RX7, TX7, 3, tyX7, kX7, by decide, (x_gin (List.mem_append_right _ (tb_1 _ (List.mem_of_getElem? (i := 112) rfl))) rfl), rfl, rfl, fun _ => rfl⟩
set_option maxRecDepth 100000 in
theorem f_X7_17 : x_F RX7 17 7 2 (tyX7 2) false true := ⟨RX7, TX7, 3, tyX7, kX7, by decide, (x_gin (List.mem_append_right _ (tb_1 _ (List.mem_of_getElem? (i := 113) rfl))) rfl), rfl, rfl, fun _ => rfl⟩
set_option maxRecDepth 100000 in
theorem f_X1_95 : x_F RX1 95 7 2 (tyX7 2) false false := ⟨RX7, TX7, 3, tyX7, kX7, by decide, (x_gin (List.mem_append_right _ (tb_1 _ (List.mem_of_getElem? (i := 114) rfl))) rfl), rfl, rfl, fun h => by cases h⟩
set_option maxRecDepth 100000 in
theorem f_X3_49 : x_F RX3 49 7 2 (tyX7 2) false false := ⟨RX7, TX7, 3, tyX7, kX7, by decide, (x_gin (List.mem_append_right _ (tb_1 _ (List.mem_of_getElem? (i := 115) rfl))) rfl), rfl, rfl, fun h => by cases h⟩
set_option maxRecDepth 100000 in
theorem f_X10_176 : x_F RX10 176 7 2 (tyX7 2) false false := ⟨RX7, TX7, 3, tyX7, kX7, by decide, (x_gin (List.mem_append_right _ (tb_1 _ (List.mem_of_getElem? (i := 116) rfl))) rfl), rfl, rfl, fun h => by cases h⟩
set_option maxRecDepth 100000 in
theorem f_X4_7 : x_F RX4 7 4 0 (tyX4 0) true true := ⟨RX4, TX4, 1, tyX4, kX4, by decide, (x_gin (List.mem_append_right _ (tb_1 _ (List.mem_of_getElem? (i := 133) rfl))) rfl), rfl, rfl, fun _ => rfl⟩
set_option maxRecDepth 100000 in
theorem f_X6_49 : x_F RX6 49 4 0 (tyX4 0) true false := ⟨RX4, TX4, 1, tyX4, kX4, by decide, (x_gin (List.mem_append_right _ (tb_1 _ (List.mem_of_getElem? (i := 134) rfl))) rfl), rfl, rfl, fun h => by cases h⟩
set_option maxRecDepth 100000 in
theorem f_X9_9 : x_F RX9 9 8 0 (tyX9 0) true true := ⟨RX9, TX9, 4, tyX9, kX9, by decide, (x_gin (List.mem_append_right _ (tb_1 _ (List.mem_of_getElem? (i := 143) rfl))) rfl), rfl, rfl, fun _ => rfl⟩
set_option maxRecDepth 100000 in
theorem f_X9_15 : x_F RX9 15 8 1 (tyX9 1) true true := ⟨RX9, TX9, 4, tyX9, kX9, by decide, (x_gin (List.mem_append_right _ (tb_1 _ (List.mem_of_getElem? (i := 144) rfl))) rfl), rfl, rfl, fun _ => rfl⟩
set_option maxRecDepth 100000 in
theorem f_X1_125 : x_F RX1 125 8 1 (tyX9 1) true false := ⟨RX9, TX9, 4, tyX9, kX9, by decide, (x_gin (List.mem_append_right _ (tb_1 _ (List.mem_of_getElem? (i := 145) rfl))) rfl), rfl, rfl, fun h => by cases h⟩
set_option maxRecDepth 100000 in
theorem f_X9_18 : x_F RX9 18 8 2 (tyX9 2) true true := ⟨RX9, TX9, 4, tyX9, kX9, by decide, (x_gin (List.mem_append_right _ (tb_1 _ (List.mem_of_getElem? (i := 146) rfl))) rfl), rfl, rfl, fun _ => rfl⟩
set_option maxRecDepth 100000 in
theorem f_X0_88 : x_F RX0 88 8 2 (tyX9 2) true false := ⟨RX9, TX9, 4, tyX9, kX9, by decide, (x_gin (List.mem_append_right _ (tb_1 _ (List.mem_of_getElem? (i := 147) rfl))) rfl), rfl, rfl, fun h => by cases h⟩
set_option maxRecDepth 100000 in
theorem f_X9_21 : x_F RX9 21 8 3 (tyX9 3) true true := ⟨RX9, TX9, 4, tyX9, kX9, by decide, (x_gin (List.mem_append_right _ (tb_1 _ (List.mem_of_getElem? (i := 148) rfl))) rfl), rfl, rfl, fun _ => rfl⟩
set_option maxRecDepth 100000 in
theorem f_X6_68 : x_F RX6 68 8 3 (tyX9 3) true false := ⟨RX9, TX9, 4, tyX9, kX9, by decide, (x_gin (List.mem_append_right _ (tb_1 _ (List.mem_of_getElem? (i := 149) rfl))) rfl), rfl, rfl, fun h => by cases h⟩
set_option maxRecDepth 100000 in
theorem f_X0_14 : x_F RX0 14 0 0 (tyX0 0) true true := ⟨RX0, TX0, 14, tyX0, kX0, by decide, (x_gin (List.mem_append_right _ (tb_1 _ (List.mem_of_getElem? (i := 159) rfl))) rfl), rfl, rfl, fun _ => rfl⟩
set_option maxRecDepth 100000 in
theorem f_X1_53 : x_F RX1 53 0 0 (tyX0 0) true false := ⟨RX0, TX0, 14, tyX0, kX0, by decide, (x_gin (List.mem_append_right _ (tb_1 _ (List.mem_of_getElem? (i := 160) rfl))) rfl), rfl, rfl, fun h => by cases h⟩
set_option maxRecDepth 100000 in
theorem f_X10_73 : x_F RX10 73 0 0 (tyX0 0) true false := ⟨RX0, TX0, 14, tyX0, kX0, by decide, (x_gin (List.mem_append_right _ (tb_1 _ (List.mem_of_getElem? (i := 161) rfl))) rfl), rfl, rfl, fun h => by cases h⟩
set_option maxRecDepth 100000 in
theorem f_X0_22 : x_F RX0 22 0 1 (tyX0 1) true true := ⟨RX0, TX0, 14, tyX0, kX0, by decide, (x_gin (List.mem_append_right _ (tb_1 _ (List.mem_of_getElem? (i := 162) rfl))) rfl), rfl, rfl, fun _ => rfl⟩
set_option maxRecDepth 100000 in
theorem f_X1_47 : x_F RX1 47 0 1 (tyX0 1) true false := ⟨RX0, TX0, 14, tyX0, kX0, by decide, (x_gin (List.mem_append_right _ (tb_1 _ (List.mem_of_getElem? (i := 163) rfl))) rfl), rfl, rfl, fun h => by cases h⟩
set_option maxRecDepth 100000 in
theorem f_X10_136 : x_F RX10 136 0 1 (tyX0 1) true false := ⟨RX0, TX0, 14, tyX0, kX0, by decide, (x_gin (List.mem_append_right _ (tb_1 _ (List.mem_of_getElem? (i := 164) rfl))) rfl), rfl, rfl, fun h => by cases h⟩
set_option maxRecDepth 100000 in
theorem f_X0_59 : x_F RX0 59 0 2 (tyX0 2) false true := ⟨RX0, TX0, 14, tyX0, kX0, by decide, (x_gin (List.mem_append_right _ (tb_1 _ (List.mem_of_getElem? (i := 165) rfl))) rfl), rfl, rfl, fun _ => rfl⟩
set_option maxRecDepth 100000 in
theorem f_X10_97 : x_F RX10 97 0 2 (tyX0 2) false false := ⟨RX0, TX0, 14, tyX0, kX0, by decide, (x_gin (List.mem_append_right _ (tb_1 _ (List.mem_of_getElem? (i := 166) rfl))) rfl), rfl, rfl, fun h => by cases h⟩
set_option maxRecDepth 100000 in
theorem f_X0_28 : x_F RX0 28 0 3 (tyX0 3) true true := ⟨RX0, TX0, 14, tyX0, kX0, by decide, (x_gin (List.mem_append_right _ (tb_1 _ (List.mem_of_getElem? (i := 167) rfl))) rfl), rfl, rfl, fun _ => rfl⟩
set_option maxRecDepth 100000 in
theorem f_X1_72 : x_F RX1 72 0 3 (tyX0 3) true false := ⟨RX0, TX0, 14, tyX0, kX0, by decide, (x_gin (List.mem_append_right _ (tb_1 _ (List.mem_of_getElem? (i := 168) rfl))) rfl), rfl, rfl, fun h => by cases h⟩
set_option maxRecDepth 100000 in
theorem f_X10_164 : x_F RX10 164 0 3 (tyX0 3) true false := ⟨RX0, TX0, 14, tyX0, kX0, by decide, (x_gin (List.mem_append_right _ (tb_1 _ (List.mem_of_getElem? (i := 169) rfl))) rfl), rfl, rfl, fun h => by cases h⟩
set_option maxRecDepth 100000 in
theorem f_X0_63 : x_F RX0 63 0 4 (tyX0 4) false true := ⟨RX0, TX0, 14, tyX0, kX0, by decide, (x_gin (List.mem_append_right _ (tb_1 _ (List.mem_of_getElem? (i := 170) rfl))) rfl), rfl, rfl, fun _ => rfl⟩
set_option maxRecDepth 100000 in
theorem f_X1_64 : x_F RX1 64 0 4 (tyX0 4) false false := ⟨RX0, TX0, 14, tyX0, kX0, by decide, (x_gin (List.mem_append_right _ (tb_1 _ (List.mem_of_getElem? (i := 171) rfl))) rfl), rfl, rfl, fun h => by cases h⟩
set_option maxRecDepth 100000 in
theorem f_X10_108 : x_F RX10 108 0 4 (tyX0 4) false false := ⟨RX0, TX0, 14, tyX0, kX0, by decide, (x_gin (List.mem_append_right _ (tb_1 _ (List.mem_of_getElem? (i := 172) rfl))) rfl), rfl, rfl, fun h => by cases h⟩
set_option maxRecDepth 100000 in
theorem f_X0_32 : x_F RX0 32 0 5 (tyX0 5) true true := ⟨RX0, TX0, 14, tyX0, kX0, by decide, (x_gin (List.mem_append_right _ (tb_1 _ (List.mem_of_getElem? (i := 173) rfl))) rfl), rfl, rfl, fun _ => rfl⟩
set_option maxRecDepth 100000 in
theorem f_X10_122 : x_F RX10 122 0 5 (tyX0 5) true false := ⟨RX0, TX0, 14, tyX0, kX0, by decide, (x_gin (List.mem_append_right _ (tb_1 _ (List.mem_of_getElem? (i := 174) rfl))) rfl), rfl, rfl, fun h => by cases h⟩
set_option maxRecDepth 100000 in
theorem f_X0_35 : x_F RX0 35 0 6 (tyX0 6) true true := ⟨RX0, TX0, 14, tyX0, kX0, by decide, (x_gin (List.mem_append_right _ (tb_1 _ (List.mem_of_getElem? (i := 175) rfl))) rfl), rfl, rfl, fun _ => rfl⟩
set_option maxRecDepth 100000 in
theorem f_X1_92 : x_F RX1 92 0 6 (tyX0 6) true false := ⟨RX0, TX0, 14, tyX0, kX0, by decide, (x_gin (List.mem_append_right _ (tb_1 _ (List.mem_of_getElem? (i := 176) rfl))) rfl), rfl, rfl, fun h => by cases h⟩
set_option maxRecDepth 100000 in
theorem f_X10_179 : x_F RX10 179 0 6 (tyX0 6) true false := ⟨RX0, TX0, 14, tyX0, kX0, by decide, (x_gin (List.mem_append_right _ (tb_1 _ (List.mem_of_getElem? (i := 177) rfl))) rfl), rfl, rfl, fun h => by cases h⟩
set_option maxRecDepth 100000 in
theorem f_X0_38 : x_F RX0 38 0 7 (tyX0 7) true true := ⟨RX0, TX0, 14, tyX0, kX0, by decide, (x_gin (List.mem_append_right _ (tb_1 _ (List.mem_of_getElem? (i := 178) rfl))) rfl), rfl, rfl, fun _ => rfl⟩
set_option maxRecDepth 100000 in
theorem f_X10_216 : x_F RX10 216 0 7 (tyX0 7) true false := ⟨RX0, TX0, 14, tyX0, kX0, by decide, (x_gin (List.mem_append_right _ (tb_1 _ (List.mem_of_getElem? (i := 179) rfl))) rfl), rfl, rfl, fun h => by cases h⟩
set_option maxRecDepth 100000 in
theorem f_X0_41 : x_F RX0 41 0 8 (tyX0 8) true true := ⟨RX0, TX0, 14, tyX0, kX0, by decide, (x_gin (List.mem_append_right _ (tb_1 _ (List.mem_of_getElem? (i := 180) rfl))) rfl), rfl, rfl, fun _ => rfl⟩
set_option maxRecDepth 100000 in
theorem f_X10_219 : x_F RX10 219 0 8 (tyX0 8) true false := ⟨RX0, TX0, 14, tyX0, kX0, by decide, (x_gin (List.mem_append_right _ (tb_1 _ (List.mem_of_getElem? (i := 181) rfl))) rfl), rfl, rfl, fun h => by cases h⟩
set_option maxRecDepth 100000 in
theorem f_X0_44 : x_F RX0 44 0 9 (tyX0 9) true true := ⟨RX0, TX0, 14, tyX0, kX0, by decide, (x_gin (List.mem_append_right _ (tb_1 _ (List.mem_of_getElem? (i := 182) rfl))) rfl), rfl, rfl, fun _ => rfl⟩
set_option maxRecDepth 100000 in
theorem f_X10_225 : x_F RX10 225 0 9 (tyX0 9) true false := ⟨RX0, TX0, 14, tyX0, kX0, by decide, (x_gin (List.mem_append_right _ (tb_1 _ (List.mem_of_getElem? (i := 183) rfl))) rfl), rfl, rfl, fun h => by cases h⟩
set_option maxRecDepth 100000 in
theorem f_X0_47 : x_F RX0 47 0 10 (tyX0 10) true true := ⟨RX0, TX0, 14, tyX0, kX0, by decide, (x_gin (List.mem_append_right _ (tb_1 _ (List.mem_of_getElem? (i := 184) rfl))) rfl), rfl, rfl, fun _ => rfl⟩
set_option maxRecDepth 100000 in
theorem f_X10_256 : x_F RX10 256 0 10 (tyX0 10) true false := ⟨RX0, TX0, 14, tyX0, kX0, by decide, (x_gin (List.mem_append_right _ (tb_1 _ (List.mem_of_getElem? (i := 185) rfl))) rfl), rfl, rfl, fun h => by cases h⟩
set_option maxRecDepth 100000 in
theorem f_X0_50 : x_F RX0 50 0 11 (tyX0 11) true true := ⟨RX0, TX0, 14, tyX0, kX0, by decide, (x_gin (List.mem_append_right _ (tb_1 _ (List.mem_of_getElem? (i := 186) rfl))) rfl), rfl, rfl, fun _ => rfl⟩
set_option maxRecDepth 100000 in
theorem f_X3_43 : x_F RX3 43 0 11 (tyX0 11) true false := ⟨RX0, TX0, 14, tyX0, kX0, by decide, (x_gin (List.mem_append_right _ (tb_1 _ (List.mem_of_getElem? (i := 187) rfl))) rfl), rfl, rfl, fun h => by cases h⟩
set_option maxRecDepth 100000 in
theorem f_X10_268 : x_F RX10 268 0 11 (tyX0 11) true false := ⟨RX0, TX0, 14, tyX0, kX0, by decide, (x_gin (List.mem_append_right _ (tb_1 _ (List.mem_of_getElem? (i := 188) rfl))) rfl), rfl, rfl, fun h => by cases h⟩
set_option maxRecDepth 100000 in
theorem f_X0_100 : x_F RX0 100 0 12 (tyX0 12) false true := ⟨RX0, TX0, 14, tyX0, kX0, by decide, (x_gin (List.mem_append_right _ (tb_1 _ (List.mem_of_getElem? (i := 189) rfl))) rfl), rfl, rfl, fun _ => rfl⟩
set_option maxRecDepth 100000 in
theorem f_X10_253 : x_F RX10 253 0 12 (tyX0 12) false false := ⟨RX0, TX0, 14, tyX0, kX0, by decide, (x_gin (List.mem_append_right _ (tb_1 _ (List.mem_of_getElem? (i := 190) rfl))) rfl), rfl, rfl, fun h => by cases h⟩
set_option maxRecDepth 100000 in
theorem f_X3_62 : x_F RX3 62 0 13 (tyX0 13) false false := ⟨RX0, TX0, 14, tyX0, kX0, by decide, (x_gin (List.mem_append_right _ (tb_1 _ (List.mem_of_getElem? (i := 191) rfl))) rfl), rfl, rfl, fun h => by cases h⟩
set_option maxRecDepth 100000 in
theorem f_X0_103 : x_F RX0 103 0 13 (tyX0 13) false true := ⟨RX0, TX0, 14, tyX0, kX0, by decide, (x_gin (List.mem_append_right _ (tb_1 _ (List.mem_of_getElem? (i := 192) rfl))) rfl), rfl, rfl, fun _ => rfl⟩
set_option maxRecDepth 100000 in
theorem f_X10_271 : x_F RX10 271 0 13 (tyX0 13) false false := ⟨RX0, TX0, 14, tyX0, kX0, by decide, (x_gin (List.mem_append_right _ (tb_1 _ (List.mem_of_getElem? (i := 193) rfl))) rfl), rfl, rfl, fun h => by cases h⟩
set_option maxRecDepth 100000 in
theorem f_X6_27 : x_F RX6 27 6 0 (tyX6 0) false true := ⟨RX6, TX6, 9, tyX6, kX6, by decide, (x_gin (List.mem_append_right _ (tb_1 _ (List.mem_of_getElem? (i := 235) rfl))) rfl), rfl, rfl, fun _ => rfl⟩
set_option maxRecDepth 100000 in
theorem f_X1_82 : x_F RX1 82 6 0 (tyX6 0) false false := ⟨RX6, TX6, 9, tyX6, kX6, by decide, (x_gin (List.mem_append_right _ (tb_1 _ (List.mem_of_getElem? (i := 236) rfl))) rfl), rfl, rfl, fun h => by cases h⟩
set_option maxRecDepth 100000 in
theorem f_X10_146 : x_F RX10 146 6 0 (tyX6 0) false false := ⟨RX6, TX6, 9, tyX6, kX6, by decide, (x_gin (List.mem_append_right _ (tb_1 _ (List.mem_of_getElem? (i := 237) rfl))) rfl), rfl, rfl, fun h => by cases h⟩
set_option maxRecDepth 100000 in
theorem f_X6_31 : x_F RX6 31 6 1 (tyX6 1) false true := ⟨RX6, TX6, 9, tyX6, kX6, by decide, (x_gin (List.mem_append_right _ (tb_1 _ (List.mem_of_getElem? (i := 238) rfl))) rfl), rfl, rfl, fun _ => rfl⟩
set_option maxRecDepth 100000 in
theorem f_X10_158 : x_F RX10 158 6 1 (tyX6 1) false false := ⟨RX6, TX6, 9, tyX6, kX6, by decide, (x_gin (List.mem_append_right _ (tb_1 _ (List.mem_of_getElem? (i := 239) rfl))) rfl), rfl, rfl, fun h => by cases h⟩
set_option maxRecDepth 100000 in
theorem f_X6_34 : x_F RX6 34 6 2 (tyX6 2) false true := ⟨RX6, TX6, 9, tyX6, kX6, by decide, (x_gin (List.mem_append_right _ (tb_2 _ (List.mem_of_getElem? (i := 0) rfl))) rfl), rfl, rfl, fun _ => rfl⟩
set_option maxRecDepth 100000 in
theorem f_X10_161 : x_F RX10 161 6 2 (tyX6 2) false false := ⟨RX6, TX6, 9, tyX6, kX6, by decide, (x_gin (List.mem_append_right _ (tb_2 _ (List.mem_of_getElem? (i := 1) rfl))) rfl), rfl, rfl, fun h => by cases h⟩
set_option maxRecDepth 100000 in
theorem f_X6_9 : x_F RX6 9 6 3 (tyX6 3) true true := ⟨RX6, TX6, 9, tyX6, kX6, by decide, (x_gin (List.mem_append_right _ (tb_2 _ (List.mem_of_getElem? (i := 2) rfl))) rfl), rfl, rfl, fun _ => rfl⟩
set_option maxRecDepth 100000 in
theorem f_X1_111 : x_F RX1 111 6 3 (tyX6 3) true false := ⟨RX6, TX6, 9, tyX6, kX6, by decide, (x_gin (List.mem_append_right _ (tb_2 _ (List.mem_of_getElem? (i := 3) rfl))) rfl), rfl, rfl, fun h => by cases h⟩
set_option maxRecDepth 100000 in
theorem f_X6_15 : x_F RX6 15 6 4 (tyX6 4) true true := ⟨RX6, TX6, 9, tyX6, kX6, by decide, (x_gin (List.mem_append_right _ (tb_2 _ (List.mem_of_getElem? (i := 4) rfl))) rfl), rfl, rfl, fun _ => rfl⟩
set_option maxRecDepth 100000 in
theorem f_X6_18 : x_F RX6 18 6 5 (tyX6 5) true true := ⟨RX6, TX6, 9, tyX6, kX6, by decide, (x_gin (List.mem_append_right _ (tb_2 _ (List.mem_of_getElem? (i := 5) rfl))) rfl), rfl, rfl, fun _ => rfl⟩
set_option maxRecDepth 100000 in
theorem f_X6_21 : x_F RX6 21 6 6 (tyX6 6) true true := ⟨RX6, TX6, 9, tyX6, kX6, by decide, (x_gin (List.mem_append_right _ (tb_2 _ (List.mem_of_getElem? (i := 6) rfl))) rfl), rfl, rfl, fun _ => rfl⟩
set_option maxRecDepth 100000 in
theorem f_X6_24 : x_F RX6 24 6 7 (tyX6 7) true true := ⟨RX6, TX6, 9, tyX6, kX6, by decide, (x_gin (List.mem_append_right _ (tb_2 _ (List.mem_of_getElem? (i := 7) rfl))) rfl), rfl, rfl, fun _ => rfl⟩
set_option maxRecDepth 100000 in
theorem f_X1_89 : x_F RX1 89 6 8 (tyX6 8) false false := ⟨RX6, TX6, 9, tyX6, kX6, by decide, (x_gin (List.mem_append_right _ (tb_2 _ (List.mem_of_getElem? (i := 8) rfl))) rfl), rfl, rfl, fun h => by cases h⟩
set_option maxRecDepth 100000 in
theorem f_X6_65 : x_F RX6 65 6 8 (tyX6 8) false true := ⟨RX6, TX6, 9, tyX6, kX6, by decide, (x_gin (List.mem_append_right _ (tb_2 _ (List.mem_of_getElem? (i := 9) rfl))) rfl), rfl, rfl, fun _ => rfl⟩
set_option maxRecDepth 100000 in
theorem f_X1_37 : x_F RX1 37 1 0 (tyX1 0) true true := ⟨RX1, TX1, 8, tyX1, kX1, by decide, (x_gin (List.mem_append_right _ (tb_2 _ (List.mem_of_getElem? (i := 29) rfl))) rfl), rfl, rfl, fun _ => rfl⟩
set_option maxRecDepth 100000 in
theorem f_X1_12 : x_F RX1 12 1 1 (tyX1 1) true true := ⟨RX1, TX1, 8, tyX1, kX1, by decide, (x_gin (List.mem_append_right _ (tb_2 _ (List.mem_of_getElem? (i := 30) rfl))) rfl), rfl, rfl, fun _ => rfl⟩
set_option maxRecDepth 100000 in
theorem f_X10_132 : x_F RX10 132 1 1 (tyX1 1) true false := ⟨RX1, TX1, 8, tyX1, kX1, by decide, (x_gin (List.mem_append_right _ (tb_2 _ (List.mem_of_getElem? (i := 31) rfl))) rfl), rfl, rfl, fun h => by cases h⟩
set_option maxRecDepth 100000 in
theorem f_X1_18 : x_F RX1 18 1 2 (tyX1 2) true true := ⟨RX1, TX1, 8, tyX1, kX1, by decide, (x_gin (List.mem_append_right _ (tb_2 _ (List.mem_of_getElem? (i := 32) rfl))) rfl), rfl, rfl, fun _ => rfl⟩
set_option maxRecDepth 100000 in
theorem f_X1_22 : x_F RX1 22 1 3 (tyX1 3) true true := ⟨RX1, TX1, 8, tyX1, kX1, by decide, (x_gin (List.mem_append_right _ (tb_2 _ (List.mem_of_getElem? (i := 33) rfl))) rfl), rfl, rfl, fun _ => rfl⟩
set_option maxRecDepth 100000 in
theorem f_X1_25 : x_F RX1 25 1 4 (tyX1 4) true true := ⟨RX1, TX1, 8, tyX1, kX1, by decide, (x_gin (List.mem_append_right _ (tb_2 _ (List.mem_of_getElem? (i := 34) rfl))) rfl), rfl, rfl, fun _ => rfl⟩
set_option maxRecDepth 100000 in
theorem f_X1_28 : x_F RX1 28 1 5 (tyX1 5) true true := ⟨RX1, TX1, 8, tyX1, kX1, by decide, (x_gin (List.mem_append_right _ (tb_2 _ (List.mem_of_getElem? (i := 35) rfl))) rfl), rfl, rfl, fun _ => rfl⟩
set_option maxRecDepth 100000 in
theorem f_X1_31 : x_F RX1 31 1 6 (tyX1 6) true true := ⟨RX1, TX1, 8, tyX1, kX1, by decide, (x_gin (List.mem_append_right _ (tb_2 _ (List.mem_of_getElem? (i := 36) rfl))) rfl), rfl, rfl, fun _ => rfl⟩
set_option maxRecDepth 100000 in
theorem f_X1_34 : x_F RX1 34 1 7 (tyX1 7) true true := ⟨RX1, TX1, 8, tyX1, kX1, by decide, (x_gin (List.mem_append_right _ (tb_2 _ (List.mem_of_getElem? (i := 37) rfl))) rfl), rfl, rfl, fun _ => rfl⟩
set_option maxRecDepth 100000 in
theorem f_X3_18 : x_F RX3 18 3 0 (tyX3 0) true true := ⟨RX3, TX3, 3, tyX3, kX3, by decide, (x_gin (List.mem_append_right _ (tb_2 _ (List.mem_of_getElem? (i := 61) rfl))) rfl), rfl, rfl, fun _ => rfl⟩
set_option maxRecDepth 100000 in
theorem f_X3_11 : x_F RX3 11 3 1 (tyX3 1) true true := ⟨RX3, TX3, 3, tyX3, kX3, by decide, (x_gin (List.mem_append_right _ (tb_2 _ (List.mem_of_getElem? (i := 62) rfl))) rfl), rfl, rfl, fun _ => rfl⟩
set_option maxRecDepth 100000 in
theorem f_X3_15 : x_F RX3 15 3 2 (tyX3 2) true true := ⟨RX3, TX3, 3, tyX3, kX3, by decide, (x_gin (List.mem_append_right _ (tb_2 _ (List.mem_of_getElem? (i := 63) rfl))) rfl), rfl, rfl, fun _ => rfl⟩
set_option maxRecDepth 100000 in
theorem f_X10_9 : x_F RX10 9 9 0 (tyX10 0) true true := ⟨RX10, TX10, 11, tyX10, kX10, by decide, (x_gin (List.mem_append_right _ (tb_2 _ (List.mem_of_getElem? (i := 71) rfl))) rfl), rfl, rfl, fun _ => rfl⟩
set_option maxRecDepth 100000 in
theorem f_X10_57 : x_F RX10 57 9 1 (tyX10 1) false true := ⟨RX10, TX10, 11, tyX10, kX10, by decide, (x_gin (List.mem_append_right _ (tb_2 _ (List.mem_of_getElem? (i := 72) rfl))) rfl), rfl, rfl, fun _ => rfl⟩
set_option maxRecDepth 100000 in
theorem f_X10_16 : x_F RX10 16 9 2 (tyX10 2) true true := ⟨RX10, TX10, 11, tyX10, kX10, by decide, (x_gin (List.mem_append_right _ (tb_2 _ (List.mem_of_getElem? (i := 73) rfl))) rfl), rfl, rfl, fun _ => rfl⟩
set_option maxRecDepth 100000 in
theorem f_X10_23 : x_F RX10 23 9 3 (tyX10 3) true true := ⟨RX10, TX10, 11, tyX10, kX10, by decide, (x_gin (List.mem_append_right _ (tb_2 _ (List.mem_of_getElem? (i := 74) rfl))) rfl), rfl, rfl, fun _ => rfl⟩
set_option maxRecDepth 100000 in
theorem f_X10_27 : x_F RX10 27 9 4 (tyX10 4) true true := ⟨RX10, TX10, 11, tyX10, kX10, by decide, (x_gin (List.mem_append_right _ (tb_2 _ (List.mem_of_getElem? (i := 75) rfl))) rfl), rfl, rfl, fun _ => rfl⟩
set_option maxRecDepth 100000 in
theorem f_X10_303 : x_F RX10 303 9 5 (tyX10 5) false true := ⟨RX10, TX10, 11, tyX10, kX10, by decide, (x_gin (List.mem_append_right _ (tb_2 _ (List.mem_of_getElem? (i := 76) rfl))) rfl), rfl, rfl, fun _ => rfl⟩
set_option maxRecDepth 100000 in
theorem f_X10_35 : x_F RX10 35 9 6 (tyX10 6) true true := ⟨RX10, TX10, 11, tyX10, kX10, by decide, (x_gin (List.mem_append_right _ (tb_2 _ (List.mem_of_getElem? (i := 77) rfl))) rfl), rfl, rfl, fun _ => rfl⟩
set_option maxRecDepth 100000 in
theorem f_X10_42 : x_F RX10 42 9 7 (tyX10 7) true true := ⟨RX10, TX10, 11, tyX10, kX10, by decide, (x_gin (List.mem_append_right _ (tb_2 _ (List.mem_of_getElem? (i := 78) rfl))) rfl), rfl, rfl, fun _ => rfl⟩
set_option maxRecDepth 100000 in
theorem f_X10_46 : x_F RX10 46 9 8 (tyX10 8) true true := ⟨RX10, TX10, 11, tyX10, kX10, by decide, (x_gin (List.mem_append_right _ (tb_2 _ (List.mem_of_getElem? (i := 79) rfl))) rfl), rfl, rfl, fun _ => rfl⟩
set_option maxRecDepth 100000 in
theorem f_X10_50 : x_F RX10 50 9 9 (tyX10 9) true true := ⟨RX10, TX10, 11, tyX10, kX10, by decide, (x_gin (List.mem_append_right _ (tb_2 _ (List.mem_of_getElem? (i := 80) rfl))) rfl), rfl, rfl, fun _ => rfl⟩
set_option maxRecDepth 100000 in
theorem f_X10_54 : x_F RX10 54 9 10 (tyX10 10) true true := ⟨RX10, TX10, 11, tyX10, kX10, by decide, (x_gin (List.mem_append_right _ (tb_2 _ (List.mem_of_getElem? (i := 81) rfl))) rfl), rfl, rfl, fun _ => rfl⟩
set_option maxRecDepth 100000 in
theorem f_X11_3 : x_F RX11 3 10 0 (tyX11 0) false true := ⟨RX11, TX11, 30, tyX11, kX11, by decide, (x_gin (List.mem_append_right _ (tb_6 _ (List.mem_of_getElem? (i := 49) rfl))) rfl), rfl, rfl, fun _ => rfl⟩
set_option maxRecDepth 100000 in
theorem f_X11_13 : x_F RX11 13 10 1 (tyX11 1) true true := ⟨RX11, TX11, 30, tyX11, kX11, by decide, (x_gin (List.mem_append_right _ (tb_6 _ (List.mem_of_getElem? (i := 50) rfl))) rfl), rfl, rfl, fun _ => rfl⟩
set_option maxRecDepth 100000 in
theorem f_X11_17 : x_F RX11 17 10 2 (tyX11 2) true true := ⟨RX11, TX11, 30, tyX11, kX11, by decide, (x_gin (List.mem_append_right _ (tb_6 _ (List.mem_of_getElem? (i := 51) rfl))) rfl), rfl, rfl, fun _ => rfl⟩
set_option maxRecDepth 100000 in
theorem f_X11_77 : x_F RX11 77 10 3 (tyX11 3) false true := ⟨RX11, TX11, 30, tyX11, kX11, by decide, (x_gin (List.mem_append_right _ (tb_6 _ (List.mem_of_getElem? (i := 52) rfl))) rfl), rfl, rfl, fun _ => rfl⟩
set_option maxRecDepth 100000 in
theorem f_X11_20 : x_F RX11 20 10 4 (tyX11 4) true true := ⟨RX11, TX11, 30, tyX11, kX11, by decide, (x_gin (List.mem_append_right _ (tb_6 _ (List.mem_of_getElem? (i := 53) rfl))) rfl), rfl, rfl, fun _ => rfl⟩
set_option maxRecDepth 100000 in
theorem f_X11_93 : x_F RX11 93 10 5 (tyX11 5) false true := ⟨RX11, TX11, 30, tyX11, kX11, by decide, (x_gin (List.mem_append_right _ (tb_6 _ (List.mem_of_getElem? (i := 54) rfl))) rfl), rfl, rfl, fun _ => rfl⟩
set_option maxRecDepth 100000 in
theorem f_X11_99 : x_F RX11 99 10 6 (tyX11 6) false true := ⟨RX11, TX11, 30, tyX11, kX11, by decide, (x_gin (List.mem_append_right _ (tb_6 _ (List.mem_of_getElem? (i := 55) rfl))) rfl), rfl, rfl, fun _ => rfl⟩
set_option maxRecDepth 100000 in
theorem f_X11_96 : x_F RX11 96 10 7 (tyX11 7) false true := ⟨RX11, TX11, 30, tyX11, kX11, by decide, (x_gin (List.mem_append_right _ (tb_6 _ (List.mem_of_getElem? (i := 56) rfl))) rfl), rfl, rfl, fun _ => rfl⟩
set_option maxRecDepth 100000 in
theorem f_X11_109 : x_F RX11 109 10 8 (tyX11 8) false true := ⟨RX11, TX11, 30, tyX11, kX11, by decide, (x_gin (List.mem_append_right _ (tb_6 _ (List.mem_of_getElem? (i := 57) rfl))) rfl), rfl, rfl, fun _ => rfl⟩
set_option maxRecDepth 100000 in
theorem f_X11_178 : x_F RX11 178 10 9 (tyX11 9) false true := ⟨RX11, TX11, 30, tyX11, kX11, by decide, (x_gin (List.mem_append_right _ (tb_6 _ (List.mem_of_getElem? (i := 58) rfl))) rfl), rfl, rfl, fun _ => rfl⟩
set_option maxRecDepth 100000 in
theorem f_X11_24 : x_F RX11 24 10 10 (tyX11 10) false true := ⟨RX11, TX11, 30, tyX11, kX11, by decide, (x_gin (List.mem_append_right _ (tb_6 _ (List.mem_of_getElem? (i := 59) rfl))) rfl), rfl, rfl, fun _ => rfl⟩
set_option maxRecDepth 100000 in
theorem f_X11_27 : x_F RX11 27 10 11 (tyX11 11) true true := ⟨RX11, TX11, 30, tyX11, kX11, by decide, (x_gin (List.mem_append_right _ (tb_6 _ (List.mem_of_getElem? (i := 60) rfl))) rfl), rfl, rfl, fun _ => rfl⟩
set_option maxRecDepth 100000 in
theorem f_X11_102 : x_F RX11 102 10 12 (tyX11 12) false true := ⟨RX11, TX11, 30, tyX11, kX11, by decide, (x_gin (List.mem_append_right _ (tb_6 _ (List.mem_of_getElem? (i := 61) rfl))) rfl), rfl, rfl, fun _ => rfl⟩
set_option maxRecDepth 100000 in
theorem f_X11_249 : x_F RX11 249 10 13 (tyX11 13) false true := ⟨RX11, TX11, 30, tyX11, kX11, by decide, (x_gin (List.mem_append_right _ (tb_6 _ (List.mem_of_getElem? (i := 62) rfl))) rfl), rfl, rfl, fun _ => rfl⟩
set_option maxRecDepth 100000 in
theorem f_X11_30 : x_F RX11 30 10 14 (tyX11 14) true true := ⟨RX11, TX11, 30, tyX11, kX11, by decide, (x_gin (List.mem_append_right _ (tb_6 _ (List.mem_of_getElem? (i := 63) rfl))) rfl), rfl, rfl, fun _ => rfl⟩
set_option maxRecDepth 100000 in
theorem f_X11_34 : x_F RX11 34 10 15 (tyX11 15) true true := ⟨RX11, TX11, 30, tyX11, kX11, by decide, (x_gin (List.mem_append_right _ (tb_6 _ (List.mem_of_getElem? (i := 64) rfl))) rfl), rfl, rfl, fun _ => rfl⟩
set_option maxRecDepth 100000 in
theorem f_X11_37 : x_F RX11 37 10 16 (tyX11 16) true true := ⟨RX11, TX11, 30, tyX11, kX11, by decide, (x_gin (List.mem_append_right _ (tb_6 _ (List.mem_of_getElem? (i := 65) rfl))) rfl), rfl, rfl, fun _ => rfl⟩
set_option maxRecDepth 100000 in
theorem f_X11_40 : x_F RX11 40 10 17 (tyX11 17) true true := ⟨RX11, TX11, 30, tyX11, kX11, by decide, (x_gin (List.mem_append_right _ (tb_6 _ (List.mem_of_getElem? (i := 66) rfl))) rfl), rfl, rfl, fun _ => rfl⟩
set_option maxRecDepth 100000 in
theorem f_X11_43 : x_F RX11 43 10 18 (tyX11 18) true true := ⟨RX11, TX11, 30, tyX11, kX11, by decide, (x_gin (List.mem_append_right _ (tb_6 _ (List.mem_of_getElem? (i := 67) rfl))) rfl), rfl, rfl, fun _ => rfl⟩
set_option maxRecDepth 100000 in
theorem f_X11_46 : x_F RX11 46 10 19 (tyX11 19) true true := ⟨RX11, TX11, 30, tyX11, kX11, by decide, (x_gin (List.mem_append_right _ (tb_6 _ (List.mem_of_getElem? (i := 68) rfl))) rfl), rfl, rfl, fun _ => rfl⟩
set_option maxRecDepth 100000 in
theorem f_X11_49 : x_F RX11 49 10 20 (tyX11 20) true true := ⟨RX11, TX11, 30, tyX11, kX11, by decide, (x_gin (List.mem_append_right _ (tb_6 _ (List.mem_of_getElem? (i := 69) rfl))) rfl), rfl, rfl, fun _ => rfl⟩
set_option maxRecDepth 100000 in
theorem f_X11_52 : x_F RX11 52 10 21 (tyX11 21) true true := ⟨RX11, TX11, 30, tyX11, kX11, by decide, (x_gin (List.mem_append_right _ (tb_6 _ (List.mem_of_getElem? (i := 70) rfl))) rfl), rfl, rfl, fun _ => rfl⟩
set_option maxRecDepth 100000 in
theorem f_X11_55 : x_F RX11 55 10 22 (tyX11 22) true true := ⟨RX11, TX11, 30, tyX11, kX11, by decide, (x_gin (List.mem_append_right _ (tb_6 _ (List.mem_of_getElem? (i := 71) rfl))) rfl), rfl, rfl, fun _ => rfl⟩
set_option maxRecDepth 100000 in
theorem f_X11_296 : x_F RX11 296 10 23 (tyX11 23) false true := ⟨RX11, TX11, 30, tyX11, kX11, by decide, (x_gin (List.mem_append_right _ (tb_6 _ (List.mem_of_getElem? (i := 72) rfl))) rfl), rfl, rfl, fun _ => rfl⟩
set_option maxRecDepth 100000 in
theorem f_X11_58 : x_F RX11 58 10 24 (tyX11 24) true true := ⟨RX11, TX11, 30, tyX11, kX11, by decide, (x_gin (List.mem_append_right _ (tb_6 _ (List.mem_of_getElem? (i := 73) rfl))) rfl), rfl, rfl, fun _ => rfl⟩
set_option maxRecDepth 100000 in
theorem f_X11_61 : x_F RX11 61 10 25 (tyX11 25) true true := ⟨RX11, TX11, 30, tyX11, kX11, by decide, (x_gin (List.mem_append_right _ (tb_6 _ (List.mem_of_getElem? (i := 74) rfl))) rfl), rfl, rfl, fun _ => rfl⟩
set_option maxRecDepth 100000 in
theorem f_X11_64 : x_F RX11 64 10 26 (tyX11 26) true true := ⟨RX11, TX11, 30, tyX11, kX11, by decide, (x_gin (List.mem_append_right _ (tb_6 _ (List.mem_of_getElem? (i := 75) rfl))) rfl), rfl, rfl, fun _ => rfl⟩
set_option maxRecDepth 100000 in
theorem f_X11_67 : x_F RX11 67 10 27 (tyX11 27) true true := ⟨RX11, TX11, 30, tyX11, kX11, by decide, (x_gin (List.mem_append_right _ (tb_6 _ (List.mem_of_getElem? (i := 76) rfl))) rfl), rfl, rfl, fun _ => rfl⟩
set_option maxRecDepth 100000 in
theorem f_X11_71 : x_F RX11 71 10 28 (tyX11 28) true true := ⟨RX11, TX11, 30, tyX11, kX11, by decide, (x_gin (List.mem_append_right _ (tb_6 _ (List.mem_of_getElem? (i := 77) rfl))) rfl), rfl, rfl, fun _ => rfl⟩
set_option maxRecDepth 100000 in
theorem f_X11_74 : x_F RX11 74 10 29 (tyX11 29) true true := ⟨RX11, TX11, 30, tyX11, kX11, by decide, (x_gin (List.mem_append_right _ (tb_6 _ (List.mem_of_getElem? (i := 78) rfl))) rfl), rfl, rfl, fun _ => rfl⟩
set_option maxRecDepth 100000 in
theorem m_L_117 : Cond.methodLink RL 117 yX10_init ∈ gT := (x_gin (List.mem_append_right _ (tb_1 _ (List.mem_of_getElem? (i := 31) rfl))) rfl)
set_option maxRecDepth 100000 in
theorem m_X10_22 : Cond.methodLink RX10 22 yX0_init ∈ gT := (x_gin (List.mem_append_right _ (tb_1 _ (List.mem_of_getElem? (i := 101) rfl))) rfl)
set_option maxRecDepth 100000 in
theorem m_X0_11 : Cond.methodLink RX0 11 yX7_init ∈ gT := (x_gin (List.mem_append_right _ (tb_1 _ (List.mem_of_getElem? (i := 107) rfl))) rfl)
set_option maxRecDepth 100000 in
theorem m_X0_53 : Cond.methodLink RX0 53 yX4_init ∈ gT := (x_gin (List.mem_append_right _ (tb_1 _ (List.mem_of_getElem? (i := 129) rfl))) rfl)
set_option maxRecDepth 100000 in
theorem m_X0_56 : Cond.methodLink RX0 56 yX9_init ∈ gT := (x_gin (List.mem_append_right _ (tb_1 _ (List.mem_of_getElem? (i := 139) rfl))) rfl)
set_option maxRecDepth 100000 in
theorem m_X10_32 : Cond.methodLink RX10 32 yX1_init ∈ gT := (x_gin (List.mem_append_right _ (tb_1 _ (List.mem_of_getElem? (i := 225) rfl))) rfl)
set_option maxRecDepth 100000 in
theorem m_X10_41 : Cond.methodLink RX10 41 yX3_init ∈ gT := (x_gin (List.mem_append_right _ (tb_2 _ (List.mem_of_getElem? (i := 57) rfl))) rfl)
set_option maxRecDepth 100000 in
theorem m_L_121 : Cond.methodLink RL 121 yX10_feed ∈ gT := (x_gin (List.mem_append_right _ (tb_2 _ (List.mem_of_getElem? (i := 106) rfl))) rfl)
set_option maxRecDepth 100000 in
theorem m_X10_61 : Cond.methodLink RX10 61 yX10_putNumber ∈ gT := (x_gin (List.mem_append_right _ (tb_2 _ (List.mem_of_getElem? (i := 110) rfl))) rfl)
set_option maxRecDepth 100000 in
theorem m_L_125 : Cond.methodLink RL 125 yX10_end ∈ gT := (x_gin (List.mem_append_right _ (tb_2 _ (List.mem_of_getElem? (i := 114) rfl))) rfl)
set_option maxRecDepth 100000 in
theorem m_L_146 : Cond.methodLink RL 146 yX10_fault ∈ gT := (x_gin (List.mem_append_right _ (tb_2 _ (List.mem_of_getElem? (i := 118) rfl))) rfl)
set_option maxRecDepth 100000 in
theorem m_L_164 : Cond.methodLink RL 164 yX10_torn ∈ gT := (x_gin (List.mem_append_right _ (tb_2 _ (List.mem_of_getElem? (i := 122) rfl))) rfl)
set_option maxRecDepth 100000 in
theorem m_L_235 : Cond.methodLink RL 235 yX10_out ∈ gT := (x_gin (List.mem_append_right _ (tb_2 _ (List.mem_of_getElem? (i := 126) rfl))) rfl)
set_option maxRecDepth 100000 in
theorem m_X10_274 : Cond.methodLink RX10 274 yX3_fewestOutAndIn ∈ gT := (x_gin (List.mem_append_right _ (tb_2 _ (List.mem_of_getElem? (i := 130) rfl))) rfl)
set_option maxRecDepth 100000 in
theorem m_X3_27 : Cond.methodLink RX3 27 yX3_reckonSlacks ∈ gT := (x_gin (List.mem_append_right _ (tb_2 _ (List.mem_of_getElem? (i := 134) rfl))) rfl)
set_option maxRecDepth 100000 in
theorem m_X3_65 : Cond.methodLink RX3 65 yJ6_numberOfTrailingZeros_0f7a4 ∈ gT := (x_gin (List.mem_append_right _ (tb_2 _ (List.mem_of_getElem? (i := 138) rfl))) rfl)
set_option maxRecDepth 100000 in
theorem m_X3_55 : Cond.methodLink RX3 55 yX7_get ∈ gT := (x_gin (List.mem_append_right _ (tb_2 _ (List.mem_of_getElem? (i := 142) rfl))) rfl)
set_option maxRecDepth 100000 in
theorem m_X3_30 : Cond.methodLink RX3 30 yJ7_fill_53178 ∈ gT := (x_gin (List.mem_append_right _ (tb_2 _ (List.mem_of_getElem? (i := 147) rfl))) rfl)
set_option maxRecDepth 100000 in
theorem m_X3_36 : Cond.methodLink RX3 36 yX3_shorten ∈ gT := (x_gin (List.mem_append_right _ (tb_2 _ (List.mem_of_getElem? (i := 150) rfl))) rfl)
set_option maxRecDepth 100000 in
theorem m_X3_74 : Cond.methodLink RX3 74 yX3_secondsBy ∈ gT := (x_gin (List.mem_append_right _ (tb_2 _ (List.mem_of_getElem? (i := 154) rfl))) rfl)
set_option maxRecDepth 100000 in
theorem m_X3_59 : Cond.methodLink RX3 59 yX3_givesWay ∈ gT := (x_gin (List.mem_append_right _ (tb_2 _ (List.mem_of_getElem? (i := 158) rfl))) rfl)
set_option maxRecDepth 100000 in
theorem m_X3_39 : Cond.methodLink RX3 39 yX3_hasAll ∈ gT := (x_gin (List.mem_append_right _ (tb_2 _ (List.mem_of_getElem? (i := 165) rfl))) rfl)
set_option maxRecDepth 100000 in
theorem m_X10_277 : Cond.methodLink RX10 277 yX3_fewestOut ∈ gT := (x_gin (List.mem_append_right _ (tb_2 _ (List.mem_of_getElem? (i := 172) rfl))) rfl)
set_option maxRecDepth 100000 in
theorem m_X3_22 : Cond.methodLink RX3 22 yX3_reckonOut ∈ gT := (x_gin (List.mem_append_right _ (tb_2 _ (List.mem_of_getElem? (i := 176) rfl))) rfl)
set_option maxRecDepth 100000 in
theorem m_L_239 : Cond.methodLink RL 239 yX10_first ∈ gT := (x_gin (List.mem_append_right _ (tb_2 _ (List.mem_of_getElem? (i := 180) rfl))) rfl)
set_option maxRecDepth 100000 in
theorem m_X10_280 : Cond.methodLink RX10 280 yX3_firstToOpen ∈ gT := (x_gin (List.mem_append_right _ (tb_2 _ (List.mem_of_getElem? (i := 184) rfl))) rfl)
set_option maxRecDepth 100000 in
theorem m_L_249 : Cond.methodLink RL 249 yX10_image ∈ gT := (x_gin (List.mem_append_right _ (tb_2 _ (List.mem_of_getElem? (i := 188) rfl))) rfl)
set_option maxRecDepth 100000 in
theorem m_X10_300 : Cond.methodLink RX10 300 yX0_become ∈ gT := (x_gin (List.mem_append_right _ (tb_2 _ (List.mem_of_getElem? (i := 192) rfl))) rfl)
set_option maxRecDepth 100000 in
theorem m_X0_96 : Cond.methodLink RX0 96 yX7_become ∈ gT := (x_gin (List.mem_append_right _ (tb_2 _ (List.mem_of_getElem? (i := 196) rfl))) rfl)
set_option maxRecDepth 100000 in
theorem m_L_253 : Cond.methodLink RL 253 yX10_back ∈ gT := (x_gin (List.mem_append_right _ (tb_2 _ (List.mem_of_getElem? (i := 200) rfl))) rfl)
set_option maxRecDepth 100000 in
theorem m_X10_86 : Cond.methodLink RX10 86 yX1_forget ∈ gT := (x_gin (List.mem_append_right _ (tb_2 _ (List.mem_of_getElem? (i := 204) rfl))) rfl)
set_option maxRecDepth 100000 in
theorem m_X1_41 : Cond.methodLink RX1 41 yJ7_fill_53178 ∈ gT := (x_gin (List.mem_append_right _ (tb_2 _ (List.mem_of_getElem? (i := 208) rfl))) rfl)
set_option maxRecDepth 100000 in
theorem m_L_258 : Cond.methodLink RL 258 yX10_count ∈ gT := (x_gin (List.mem_append_right _ (tb_2 _ (List.mem_of_getElem? (i := 209) rfl))) rfl)
set_option maxRecDepth 100000 in
theorem m_L_130 : Cond.methodLink RL 130 yL_person ∈ gT := (x_gin (List.mem_append_right _ (tb_2 _ (List.mem_of_getElem? (i := 213) rfl))) rfl)
set_option maxRecDepth 100000 in
theorem m_L_7 : Cond.methodLink RL 7 yX10_person ∈ gT := (x_gin (List.mem_append_right _ (tb_2 _ (List.mem_of_getElem? (i := 218) rfl))) rfl)
set_option maxRecDepth 100000 in
theorem m_X10_65 : Cond.methodLink RX10 65 yX10_isBetween ∈ gT := (x_gin (List.mem_append_right _ (tb_2 _ (List.mem_of_getElem? (i := 222) rfl))) rfl)
set_option maxRecDepth 100000 in
theorem m_X10_69 : Cond.methodLink RX10 69 yX10_demand ∈ gT := (x_gin (List.mem_append_right _ (tb_2 _ (List.mem_of_getElem? (i := 225) rfl))) rfl)
set_option maxRecDepth 100000 in
theorem m_X10_77 : Cond.methodLink RX10 77 yX7_hasRoom ∈ gT := (x_gin (List.mem_append_right _ (tb_3 _ (List.mem_of_getElem? (i := 56) rfl))) rfl)
set_option maxRecDepth 100000 in
theorem m_X10_83 : Cond.methodLink RX10 83 yX10_demandRoom ∈ gT := (x_gin (List.mem_append_right _ (tb_3 _ (List.mem_of_getElem? (i := 60) rfl))) rfl)
set_option maxRecDepth 100000 in
theorem m_X10_89 : Cond.methodLink RX10 89 yX7_add ∈ gT := (x_gin (List.mem_append_right _ (tb_3 _ (List.mem_of_getElem? (i := 79) rfl))) rfl)
set_option maxRecDepth 100000 in
theorem m_X7_20 : Cond.methodLink RX7 20 yX7_put ∈ gT := (x_gin (List.mem_append_right _ (tb_3 _ (List.mem_of_getElem? (i := 83) rfl))) rfl)
set_option maxRecDepth 100000 in
theorem m_L_139 : Cond.methodLink RL 139 yL_rule ∈ gT := (x_gin (List.mem_append_right _ (tb_3 _ (List.mem_of_getElem? (i := 87) rfl))) rfl)
set_option maxRecDepth 100000 in
theorem m_L_17 : Cond.methodLink RL 17 yX10_rule ∈ gT := (x_gin (List.mem_append_right _ (tb_3 _ (List.mem_of_getElem? (i := 90) rfl))) rfl)
set_option maxRecDepth 100000 in
theorem m_X10_93 : Cond.methodLink RX10 93 yX2_readLines ∈ gT := (x_gin (List.mem_append_right _ (tb_3 _ (List.mem_of_getElem? (i := 94) rfl))) rfl)
set_option maxRecDepth 100000 in
theorem m_X2_31 : Cond.methodLink RX2 31 yX5_scan ∈ gT := (x_gin (List.mem_append_right _ (tb_3 _ (List.mem_of_getElem? (i := 98) rfl))) rfl)
set_option maxRecDepth 100000 in
theorem m_X5_25 : Cond.methodLink RX5 25 yX5_isLetter ∈ gT := (x_gin (List.mem_append_right _ (tb_3 _ (List.mem_of_getElem? (i := 102) rfl))) rfl)
set_option maxRecDepth 100000 in
theorem m_X5_29 : Cond.methodLink RX5 29 yX8_ofWord ∈ gT := (x_gin (List.mem_append_right _ (tb_3 _ (List.mem_of_getElem? (i := 105) rfl))) rfl)
set_option maxRecDepth 100000 in
theorem m_X8_11 : Cond.methodLink RX8 11 yJ0_length_8abf5 ∈ gT := (x_gin (List.mem_append_right _ (tb_3 _ (List.mem_of_getElem? (i := 109) rfl))) rfl)
set_option maxRecDepth 100000 in
theorem m_J0_335 : Cond.methodLink RJ0 335 yJ0_coder_7d493 ∈ gT := (x_gin (List.mem_append_right _ (tb_3 _ (List.mem_of_getElem? (i := 113) rfl))) rfl)
set_option maxRecDepth 100000 in
theorem m_X8_17 : Cond.methodLink RX8 17 yJ0_charAt_5068e ∈ gT := (x_gin (List.mem_append_right _ (tb_3 _ (List.mem_of_getElem? (i := 119) rfl))) rfl)
set_option maxRecDepth 100000 in
theorem m_J0_492 : Cond.methodLink RJ0 492 yJ0_isLatin1_aae02 ∈ gT := (x_gin (List.mem_append_right _ (tb_3 _ (List.mem_of_getElem? (i := 123) rfl))) rfl)
set_option maxRecDepth 100000 in
theorem m_J0_495 : Cond.methodLink RJ0 495 yJ1_charAt_3b067 ∈ gT := (x_gin (List.mem_append_right _ (tb_3 _ (List.mem_of_getElem? (i := 127) rfl))) rfl)
set_option maxRecDepth 100000 in
theorem m_J1_9 : Cond.methodLink RJ1 9 yJ0_checkIndex_df160 ∈ gT := (x_gin (List.mem_append_right _ (tb_3 _ (List.mem_of_getElem? (i := 130) rfl))) rfl)
set_option maxRecDepth 100000 in
theorem m_J0_1059 : Cond.methodLink RJ0 1059 yJ3_checkIndex_8e157 ∈ gT := (x_gin (List.mem_append_right _ (tb_3 _ (List.mem_of_getElem? (i := 135) rfl))) rfl)
set_option maxRecDepth 100000 in
theorem m_J0_498 : Cond.methodLink RJ0 498 yJ2_charAt_3b067 ∈ gT := (x_gin (List.mem_append_right _ (tb_3 _ (List.mem_of_getElem? (i := 138) rfl))) rfl)
set_option maxRecDepth 100000 in
theorem m_J2_67 : Cond.methodLink RJ2 67 yJ2_checkIndex_2214a ∈ gT := (x_gin (List.mem_append_right _ (tb_3 _ (List.mem_of_getElem? (i := 141) rfl))) rfl)
set_option maxRecDepth 100000 in
theorem m_J2_48 : Cond.methodLink RJ2 48 yJ2_length_9d52b ∈ gT := (x_gin (List.mem_append_right _ (tb_3 _ (List.mem_of_getElem? (i := 144) rfl))) rfl)
set_option maxRecDepth 100000 in
theorem m_J2_414 : Cond.methodLink RJ2 414 yJ0_checkIndex_df160 ∈ gT := (x_gin (List.mem_append_right _ (tb_3 _ (List.mem_of_getElem? (i := 147) rfl))) rfl)
set_option maxRecDepth 100000 in
theorem m_J2_71 : Cond.methodLink RJ2 71 yJ2_getChar_3b067 ∈ gT := (x_gin (List.mem_append_right _ (tb_3 _ (List.mem_of_getElem? (i := 148) rfl))) rfl)
set_option maxRecDepth 100000 in
theorem m_X8_21 : Cond.methodLink RX8 21 yX8_isSame ∈ gT := (x_gin (List.mem_append_right _ (tb_3 _ (List.mem_of_getElem? (i := 157) rfl))) rfl)
set_option maxRecDepth 100000 in
theorem m_X5_35 : Cond.methodLink RX5 35 yX5_put ∈ gT := (x_gin (List.mem_append_right _ (tb_3 _ (List.mem_of_getElem? (i := 160) rfl))) rfl)
set_option maxRecDepth 100000 in
theorem m_X5_39 : Cond.methodLink RX5 39 yX5_isDigit ∈ gT := (x_gin (List.mem_append_right _ (tb_3 _ (List.mem_of_getElem? (i := 164) rfl))) rfl)
set_option maxRecDepth 100000 in
theorem m_X5_42 : Cond.methodLink RX5 42 yX5_numberOf ∈ gT := (x_gin (List.mem_append_right _ (tb_3 _ (List.mem_of_getElem? (i := 167) rfl))) rfl)
set_option maxRecDepth 100000 in
theorem m_X5_45 : Cond.methodLink RX5 45 yX8_ofSign ∈ gT := (x_gin (List.mem_append_right _ (tb_3 _ (List.mem_of_getElem? (i := 170) rfl))) rfl)
set_option maxRecDepth 100000 in
theorem m_X8_27 : Cond.methodLink RX8 27 yJ0_indexOf_0f7a4 ∈ gT := (x_gin (List.mem_append_right _ (tb_3 _ (List.mem_of_getElem? (i := 174) rfl))) rfl)
set_option maxRecDepth 100000 in
theorem m_J0_633 : Cond.methodLink RJ0 633 yJ0_indexOf_7cf53 ∈ gT := (x_gin (List.mem_append_right _ (tb_3 _ (List.mem_of_getElem? (i := 178) rfl))) rfl)
set_option maxRecDepth 100000 in
theorem m_J0_505 : Cond.methodLink RJ0 505 yJ0_length_8abf5 ∈ gT := (x_gin (List.mem_append_right _ (tb_3 _ (List.mem_of_getElem? (i := 182) rfl))) rfl)
set_option maxRecDepth 100000 in
theorem m_J0_637 : Cond.methodLink RJ0 637 yJ1_indexOf_4cfef ∈ gT := (x_gin (List.mem_append_right _ (tb_3 _ (List.mem_of_getElem? (i := 183) rfl))) rfl)
set_option maxRecDepth 100000 in
theorem m_J1_88 : Cond.methodLink RJ1 88 yJ1_canEncode_9a6ad ∈ gT := (x_gin (List.mem_append_right _ (tb_3 _ (List.mem_of_getElem? (i := 186) rfl))) rfl)
set_option maxRecDepth 100000 in
theorem m_J1_92 : Cond.methodLink RJ1 92 yJ9_max_7cf53 ∈ gT := (x_gin (List.mem_append_right _ (tb_3 _ (List.mem_of_getElem? (i := 189) rfl))) rfl)
set_option maxRecDepth 100000 in
theorem m_J1_38 : Cond.methodLink RJ1 38 yJ9_min_7cf53 ∈ gT := (x_gin (List.mem_append_right _ (tb_3 _ (List.mem_of_getElem? (i := 192) rfl))) rfl)
set_option maxRecDepth 100000 in
theorem m_J1_95 : Cond.methodLink RJ1 95 yJ1_indexOfChar_4cfef ∈ gT := (x_gin (List.mem_append_right _ (tb_3 _ (List.mem_of_getElem? (i := 195) rfl))) rfl)
set_option maxRecDepth 100000 in
theorem m_J0_640 : Cond.methodLink RJ0 640 yJ2_indexOf_4cfef ∈ gT := (x_gin (List.mem_append_right _ (tb_3 _ (List.mem_of_getElem? (i := 198) rfl))) rfl)
set_option maxRecDepth 100000 in
theorem m_J2_224 : Cond.methodLink RJ2 224 yJ9_max_7cf53 ∈ gT := (x_gin (List.mem_append_right _ (tb_3 _ (List.mem_of_getElem? (i := 201) rfl))) rfl)
set_option maxRecDepth 100000 in
theorem m_J2_183 : Cond.methodLink RJ2 183 yJ9_min_7cf53 ∈ gT := (x_gin (List.mem_append_right _ (tb_3 _ (List.mem_of_getElem? (i := 202) rfl))) rfl)
set_option maxRecDepth 100000 in
theorem m_J2_228 : Cond.methodLink RJ2 228 yJ2_indexOfChar_4cfef ∈ gT := (x_gin (List.mem_append_right _ (tb_3 _ (List.mem_of_getElem? (i := 204) rfl))) rfl)
set_option maxRecDepth 100000 in
theorem m_J2_96 : Cond.methodLink RJ2 96 yJ2_checkBoundsBeginEnd_d044e ∈ gT := (x_gin (List.mem_append_right _ (tb_3 _ (List.mem_of_getElem? (i := 207) rfl))) rfl)
set_option maxRecDepth 100000 in
theorem m_J2_241 : Cond.methodLink RJ2 241 yJ0_checkBoundsBeginEnd_23922 ∈ gT := (x_gin (List.mem_append_right _ (tb_3 _ (List.mem_of_getElem? (i := 210) rfl))) rfl)
set_option maxRecDepth 100000 in
theorem m_J0_1062 : Cond.methodLink RJ0 1062 yJ3_checkFromToIndex_8c36e ∈ gT := (x_gin (List.mem_append_right _ (tb_3 _ (List.mem_of_getElem? (i := 213) rfl))) rfl)
set_option maxRecDepth 100000 in
theorem m_J2_244 : Cond.methodLink RJ2 244 yJ2_indexOfCharUnsafe_4cfef ∈ gT := (x_gin (List.mem_append_right _ (tb_3 _ (List.mem_of_getElem? (i := 216) rfl))) rfl)
set_option maxRecDepth 100000 in
theorem m_J2_232 : Cond.methodLink RJ2 232 yJ2_indexOfSupplementary_4cfef ∈ gT := (x_gin (List.mem_append_right _ (tb_3 _ (List.mem_of_getElem? (i := 219) rfl))) rfl)
set_option maxRecDepth 100000 in
theorem m_J2_164 : Cond.methodLink RJ2 164 yJ11_isValidCodePoint_9a6ad ∈ gT := (x_gin (List.mem_append_right _ (tb_3 _ (List.mem_of_getElem? (i := 222) rfl))) rfl)
set_option maxRecDepth 100000 in
theorem m_J2_157 : Cond.methodLink RJ2 157 yJ11_highSurrogate_5068e ∈ gT := (x_gin (List.mem_append_right _ (tb_3 _ (List.mem_of_getElem? (i := 225) rfl))) rfl)
set_option maxRecDepth 100000 in
theorem m_J2_161 : Cond.methodLink RJ2 161 yJ11_lowSurrogate_5068e ∈ gT := (x_gin (List.mem_append_right _ (tb_3 _ (List.mem_of_getElem? (i := 229) rfl))) rfl)
set_option maxRecDepth 100000 in
theorem m_X2_35 : Cond.methodLink RX2 35 yX2_startAnew ∈ gT := (x_gin (List.mem_append_right _ (tb_3 _ (List.mem_of_getElem? (i := 233) rfl))) rfl)
set_option maxRecDepth 100000 in
theorem m_X2_38 : Cond.methodLink RX2 38 yX2_token ∈ gT := (x_gin (List.mem_append_right _ (tb_3 _ (List.mem_of_getElem? (i := 237) rfl))) rfl)
set_option maxRecDepth 100000 in
theorem m_X2_42 : Cond.methodLink RX2 42 yX2_readRuleLine ∈ gT := (x_gin (List.mem_append_right _ (tb_4 _ (List.mem_of_getElem? (i := 1) rfl))) rfl)
set_option maxRecDepth 100000 in
theorem m_X2_99 : Cond.methodLink RX2 99 yX2_readPair ∈ gT := (x_gin (List.mem_append_right _ (tb_4 _ (List.mem_of_getElem? (i := 5) rfl))) rfl)
set_option maxRecDepth 100000 in
theorem m_X2_103 : Cond.methodLink RX2 103 yX2_number ∈ gT := (x_gin (List.mem_append_right _ (tb_4 _ (List.mem_of_getElem? (i := 9) rfl))) rfl)
set_option maxRecDepth 100000 in
theorem m_X2_51 : Cond.methodLink RX2 51 yX2_pass ∈ gT := (x_gin (List.mem_append_right _ (tb_4 _ (List.mem_of_getElem? (i := 13) rfl))) rfl)
set_option maxRecDepth 100000 in
theorem m_X2_55 : Cond.methodLink RX2 55 yX2_refuse ∈ gT := (x_gin (List.mem_append_right _ (tb_4 _ (List.mem_of_getElem? (i := 17) rfl))) rfl)
set_option maxRecDepth 100000 in
theorem m_X2_107 : Cond.methodLink RX2 107 yX2_keepLine ∈ gT := (x_gin (List.mem_append_right _ (tb_4 _ (List.mem_of_getElem? (i := 21) rfl))) rfl)
set_option maxRecDepth 100000 in
theorem m_X2_46 : Cond.methodLink RX2 46 yX2_readWayLine ∈ gT := (x_gin (List.mem_append_right _ (tb_4 _ (List.mem_of_getElem? (i := 25) rfl))) rfl)
set_option maxRecDepth 100000 in
theorem m_X2_111 : Cond.methodLink RX2 111 yX2_readCondition ∈ gT := (x_gin (List.mem_append_right _ (tb_4 _ (List.mem_of_getElem? (i := 29) rfl))) rfl)
set_option maxRecDepth 100000 in
theorem m_X2_118 : Cond.methodLink RX2 118 yX2_readAtom ∈ gT := (x_gin (List.mem_append_right _ (tb_4 _ (List.mem_of_getElem? (i := 33) rfl))) rfl)
set_option maxRecDepth 100000 in
theorem m_X2_114 : Cond.methodLink RX2 114 yX2_keepStep ∈ gT := (x_gin (List.mem_append_right _ (tb_4 _ (List.mem_of_getElem? (i := 37) rfl))) rfl)
set_option maxRecDepth 100000 in
theorem m_X2_121 : Cond.methodLink RX2 121 yX2_readComparison ∈ gT := (x_gin (List.mem_append_right _ (tb_4 _ (List.mem_of_getElem? (i := 41) rfl))) rfl)
set_option maxRecDepth 100000 in
theorem m_X2_124 : Cond.methodLink RX2 124 yX2_readSum ∈ gT := (x_gin (List.mem_append_right _ (tb_4 _ (List.mem_of_getElem? (i := 45) rfl))) rfl)
set_option maxRecDepth 100000 in
theorem m_X10_100 : Cond.methodLink RX10 100 yX2_ruleRead ∈ gT := (x_gin (List.mem_append_right _ (tb_4 _ (List.mem_of_getElem? (i := 49) rfl))) rfl)
set_option maxRecDepth 100000 in
theorem m_X2_61 : Cond.methodLink RX2 61 yJ7_copyOf_59c91 ∈ gT := (x_gin (List.mem_append_right _ (tb_4 _ (List.mem_of_getElem? (i := 54) rfl))) rfl)
set_option maxRecDepth 100000 in
theorem m_J7_304 : Cond.methodLink RJ7 304 yJ9_min_7cf53 ∈ gT := (x_gin (List.mem_append_right _ (tb_4 _ (List.mem_of_getElem? (i := 64) rfl))) rfl)
set_option maxRecDepth 100000 in
theorem m_X2_67 : Cond.methodLink RX2 67 yX4_init ∈ gT := (x_gin (List.mem_append_right _ (tb_4 _ (List.mem_of_getElem? (i := 68) rfl))) rfl)
set_option maxRecDepth 100000 in
theorem m_X10_104 : Cond.methodLink RX10 104 yX0_addRule ∈ gT := (x_gin (List.mem_append_right _ (tb_4 _ (List.mem_of_getElem? (i := 69) rfl))) rfl)
set_option maxRecDepth 100000 in
theorem m_L_143 : Cond.methodLink RL 143 yL_way ∈ gT := (x_gin (List.mem_append_right _ (tb_4 _ (List.mem_of_getElem? (i := 73) rfl))) rfl)
set_option maxRecDepth 100000 in
theorem m_L_21 : Cond.methodLink RL 21 yX10_way ∈ gT := (x_gin (List.mem_append_right _ (tb_4 _ (List.mem_of_getElem? (i := 76) rfl))) rfl)
set_option maxRecDepth 100000 in
theorem m_X10_111 : Cond.methodLink RX10 111 yX2_wayRead ∈ gT := (x_gin (List.mem_append_right _ (tb_4 _ (List.mem_of_getElem? (i := 80) rfl))) rfl)
set_option maxRecDepth 100000 in
theorem m_X2_84 : Cond.methodLink RX2 84 yX9_init ∈ gT := (x_gin (List.mem_append_right _ (tb_4 _ (List.mem_of_getElem? (i := 85) rfl))) rfl)
set_option maxRecDepth 100000 in
theorem m_X10_115 : Cond.methodLink RX10 115 yX0_addWay ∈ gT := (x_gin (List.mem_append_right _ (tb_4 _ (List.mem_of_getElem? (i := 86) rfl))) rfl)
set_option maxRecDepth 100000 in
theorem m_L_150 : Cond.methodLink RL 150 yL_thing ∈ gT := (x_gin (List.mem_append_right _ (tb_4 _ (List.mem_of_getElem? (i := 90) rfl))) rfl)
set_option maxRecDepth 100000 in
theorem m_L_24 : Cond.methodLink RL 24 yX10_thing ∈ gT := (x_gin (List.mem_append_right _ (tb_4 _ (List.mem_of_getElem? (i := 93) rfl))) rfl)
set_option maxRecDepth 100000 in
theorem m_L_154 : Cond.methodLink RL 154 yL_look ∈ gT := (x_gin (List.mem_append_right _ (tb_4 _ (List.mem_of_getElem? (i := 97) rfl))) rfl)
set_option maxRecDepth 100000 in
theorem m_L_28 : Cond.methodLink RL 28 yX10_look ∈ gT := (x_gin (List.mem_append_right _ (tb_4 _ (List.mem_of_getElem? (i := 102) rfl))) rfl)
set_option maxRecDepth 100000 in
theorem m_X10_125 : Cond.methodLink RX10 125 yX10_demandRow ∈ gT := (x_gin (List.mem_append_right _ (tb_4 _ (List.mem_of_getElem? (i := 106) rfl))) rfl)
set_option maxRecDepth 100000 in
theorem m_X10_129 : Cond.methodLink RX10 129 yX10_demandWhat ∈ gT := (x_gin (List.mem_append_right _ (tb_4 _ (List.mem_of_getElem? (i := 125) rfl))) rfl)
set_option maxRecDepth 100000 in
theorem m_X10_140 : Cond.methodLink RX10 140 yX6_settle ∈ gT := (x_gin (List.mem_append_right _ (tb_4 _ (List.mem_of_getElem? (i := 144) rfl))) rfl)
set_option maxRecDepth 100000 in
theorem m_X6_37 : Cond.methodLink RX6 37 yJ7_fill_53178 ∈ gT := (x_gin (List.mem_append_right _ (tb_4 _ (List.mem_of_getElem? (i := 148) rfl))) rfl)
set_option maxRecDepth 100000 in
theorem m_X6_43 : Cond.methodLink RX6 43 yX4_lineCount ∈ gT := (x_gin (List.mem_append_right _ (tb_4 _ (List.mem_of_getElem? (i := 149) rfl))) rfl)
set_option maxRecDepth 100000 in
theorem m_X6_52 : Cond.methodLink RX6 52 yX6_settleLine ∈ gT := (x_gin (List.mem_append_right _ (tb_4 _ (List.mem_of_getElem? (i := 153) rfl))) rfl)
set_option maxRecDepth 100000 in
theorem m_X6_58 : Cond.methodLink RX6 58 yX7_get ∈ gT := (x_gin (List.mem_append_right _ (tb_4 _ (List.mem_of_getElem? (i := 157) rfl))) rfl)
set_option maxRecDepth 100000 in
theorem m_X10_149 : Cond.methodLink RX10 149 yX6_litSeconds ∈ gT := (x_gin (List.mem_append_right _ (tb_4 _ (List.mem_of_getElem? (i := 158) rfl))) rfl)
set_option maxRecDepth 100000 in
theorem m_X10_153 : Cond.methodLink RX10 153 yX4_lineCount ∈ gT := (x_gin (List.mem_append_right _ (tb_4 _ (List.mem_of_getElem? (i := 162) rfl))) rfl)
set_option maxRecDepth 100000 in
theorem m_L_157 : Cond.methodLink RL 157 yL_needs ∈ gT := (x_gin (List.mem_append_right _ (tb_4 _ (List.mem_of_getElem? (i := 163) rfl))) rfl)
set_option maxRecDepth 100000 in
theorem m_L_35 : Cond.methodLink RL 35 yX10_needs ∈ gT := (x_gin (List.mem_append_right _ (tb_4 _ (List.mem_of_getElem? (i := 166) rfl))) rfl)
set_option maxRecDepth 100000 in
theorem m_X10_168 : Cond.methodLink RX10 168 yX6_setsThatMeet ∈ gT := (x_gin (List.mem_append_right _ (tb_4 _ (List.mem_of_getElem? (i := 170) rfl))) rfl)
set_option maxRecDepth 100000 in
theorem m_X6_77 : Cond.methodLink RX6 77 yJ9_min_7cf53 ∈ gT := (x_gin (List.mem_append_right _ (tb_4 _ (List.mem_of_getElem? (i := 175) rfl))) rfl)
set_option maxRecDepth 100000 in
theorem m_X6_82 : Cond.methodLink RX6 82 yX6_setsAboveZero ∈ gT := (x_gin (List.mem_append_right _ (tb_4 _ (List.mem_of_getElem? (i := 176) rfl))) rfl)
set_option maxRecDepth 100000 in
theorem m_X6_114 : Cond.methodLink RX6 114 yX6_secondsToTurn ∈ gT := (x_gin (List.mem_append_right _ (tb_4 _ (List.mem_of_getElem? (i := 182) rfl))) rfl)
set_option maxRecDepth 100000 in
theorem m_X6_86 : Cond.methodLink RX6 86 yJ9_max_7cf53 ∈ gT := (x_gin (List.mem_append_right _ (tb_4 _ (List.mem_of_getElem? (i := 185) rfl))) rfl)
set_option maxRecDepth 100000 in
theorem m_X6_89 : Cond.methodLink RX6 89 yX6_isTag ∈ gT := (x_gin (List.mem_append_right _ (tb_4 _ (List.mem_of_getElem? (i := 186) rfl))) rfl)
set_option maxRecDepth 100000 in
theorem m_X6_93 : Cond.methodLink RX6 93 yX6_setsOfTag ∈ gT := (x_gin (List.mem_append_right _ (tb_4 _ (List.mem_of_getElem? (i := 189) rfl))) rfl)
set_option maxRecDepth 100000 in
theorem m_X6_103 : Cond.methodLink RX6 103 yX6_litTurns ∈ gT := (x_gin (List.mem_append_right _ (tb_4 _ (List.mem_of_getElem? (i := 195) rfl))) rfl)
set_option maxRecDepth 100000 in
theorem m_X6_97 : Cond.methodLink RX6 97 yX6_partOf ∈ gT := (x_gin (List.mem_append_right _ (tb_4 _ (List.mem_of_getElem? (i := 200) rfl))) rfl)
set_option maxRecDepth 100000 in
theorem m_X10_172 : Cond.methodLink RX10 172 yX10_hasBit ∈ gT := (x_gin (List.mem_append_right _ (tb_4 _ (List.mem_of_getElem? (i := 204) rfl))) rfl)
set_option maxRecDepth 100000 in
theorem m_L_161 : Cond.methodLink RL 161 yL_note ∈ gT := (x_gin (List.mem_append_right _ (tb_4 _ (List.mem_of_getElem? (i := 205) rfl))) rfl)
set_option maxRecDepth 100000 in
theorem m_L_39 : Cond.methodLink RL 39 yX10_note ∈ gT := (x_gin (List.mem_append_right _ (tb_4 _ (List.mem_of_getElem? (i := 208) rfl))) rfl)
set_option maxRecDepth 100000 in
theorem m_L_168 : Cond.methodLink RL 168 yL_can ∈ gT := (x_gin (List.mem_append_right _ (tb_4 _ (List.mem_of_getElem? (i := 212) rfl))) rfl)
set_option maxRecDepth 100000 in
theorem m_L_42 : Cond.methodLink RL 42 yX10_can ∈ gT := (x_gin (List.mem_append_right _ (tb_4 _ (List.mem_of_getElem? (i := 215) rfl))) rfl)
set_option maxRecDepth 100000 in
theorem m_X10_182 : Cond.methodLink RX10 182 yX1_prepare ∈ gT := (x_gin (List.mem_append_right _ (tb_4 _ (List.mem_of_getElem? (i := 219) rfl))) rfl)
set_option maxRecDepth 100000 in
theorem m_X1_57 : Cond.methodLink RX1 57 yX6_settle ∈ gT := (x_gin (List.mem_append_right _ (tb_4 _ (List.mem_of_getElem? (i := 223) rfl))) rfl)
set_option maxRecDepth 100000 in
theorem m_X1_61 : Cond.methodLink RX1 61 yX1_allowUnseen ∈ gT := (x_gin (List.mem_append_right _ (tb_4 _ (List.mem_of_getElem? (i := 224) rfl))) rfl)
set_option maxRecDepth 100000 in
theorem m_X1_76 : Cond.methodLink RX1 76 yX9_setsItChanges ∈ gT := (x_gin (List.mem_append_right _ (tb_4 _ (List.mem_of_getElem? (i := 230) rfl))) rfl)
set_option maxRecDepth 100000 in
theorem m_X1_85 : Cond.methodLink RX1 85 yX6_setsThatMeet ∈ gT := (x_gin (List.mem_append_right _ (tb_4 _ (List.mem_of_getElem? (i := 237) rfl))) rfl)
set_option maxRecDepth 100000 in
theorem m_X10_186 : Cond.methodLink RX10 186 yX1_bringsAllNotes ∈ gT := (x_gin (List.mem_append_right _ (tb_4 _ (List.mem_of_getElem? (i := 238) rfl))) rfl)
set_option maxRecDepth 100000 in
theorem m_X1_100 : Cond.methodLink RX1 100 yX7_get ∈ gT := (x_gin (List.mem_append_right _ (tb_5 _ (List.mem_of_getElem? (i := 2) rfl))) rfl)
set_option maxRecDepth 100000 in
theorem m_X1_104 : Cond.methodLink RX1 104 yX0_setsFor ∈ gT := (x_gin (List.mem_append_right _ (tb_5 _ (List.mem_of_getElem? (i := 3) rfl))) rfl)
set_option maxRecDepth 100000 in
theorem m_X0_70 : Cond.methodLink RX0 70 yX7_get ∈ gT := (x_gin (List.mem_append_right _ (tb_5 _ (List.mem_of_getElem? (i := 7) rfl))) rfl)
set_option maxRecDepth 100000 in
theorem m_X0_74 : Cond.methodLink RX0 74 yX0_greatestReach ∈ gT := (x_gin (List.mem_append_right _ (tb_5 _ (List.mem_of_getElem? (i := 8) rfl))) rfl)
set_option maxRecDepth 100000 in
theorem m_X0_91 : Cond.methodLink RX0 91 yJ9_max_7cf53 ∈ gT := (x_gin (List.mem_append_right _ (tb_5 _ (List.mem_of_getElem? (i := 13) rfl))) rfl)
set_option maxRecDepth 100000 in
theorem m_X1_107 : Cond.methodLink RX1 107 yX1_walk ∈ gT := (x_gin (List.mem_append_right _ (tb_5 _ (List.mem_of_getElem? (i := 18) rfl))) rfl)
set_option maxRecDepth 100000 in
theorem m_X1_115 : Cond.methodLink RX1 115 yX1_withAllTheirParts ∈ gT := (x_gin (List.mem_append_right _ (tb_5 _ (List.mem_of_getElem? (i := 22) rfl))) rfl)
set_option maxRecDepth 100000 in
theorem m_X1_119 : Cond.methodLink RX1 119 yX1_freedBehind ∈ gT := (x_gin (List.mem_append_right _ (tb_5 _ (List.mem_of_getElem? (i := 26) rfl))) rfl)
set_option maxRecDepth 100000 in
theorem m_X1_128 : Cond.methodLink RX1 128 yJ9_max_7cf53 ∈ gT := (x_gin (List.mem_append_right _ (tb_5 _ (List.mem_of_getElem? (i := 30) rfl))) rfl)
set_option maxRecDepth 100000 in
theorem m_X1_133 : Cond.methodLink RX1 133 yX1_goneThrough ∈ gT := (x_gin (List.mem_append_right _ (tb_5 _ (List.mem_of_getElem? (i := 31) rfl))) rfl)
set_option maxRecDepth 100000 in
theorem m_X1_137 : Cond.methodLink RX1 137 yX9_freed ∈ gT := (x_gin (List.mem_append_right _ (tb_5 _ (List.mem_of_getElem? (i := 35) rfl))) rfl)
set_option maxRecDepth 100000 in
theorem m_L_172 : Cond.methodLink RL 172 yL_fewest ∈ gT := (x_gin (List.mem_append_right _ (tb_5 _ (List.mem_of_getElem? (i := 39) rfl))) rfl)
set_option maxRecDepth 100000 in
theorem m_L_46 : Cond.methodLink RL 46 yX10_fewest ∈ gT := (x_gin (List.mem_append_right _ (tb_5 _ (List.mem_of_getElem? (i := 42) rfl))) rfl)
set_option maxRecDepth 100000 in
theorem m_X10_190 : Cond.methodLink RX10 190 yX0_allWays ∈ gT := (x_gin (List.mem_append_right _ (tb_5 _ (List.mem_of_getElem? (i := 46) rfl))) rfl)
set_option maxRecDepth 100000 in
theorem m_X10_193 : Cond.methodLink RX10 193 yJ6_bitCount_0f7a4 ∈ gT := (x_gin (List.mem_append_right _ (tb_5 _ (List.mem_of_getElem? (i := 51) rfl))) rfl)
set_option maxRecDepth 100000 in
theorem m_L_176 : Cond.methodLink RL 176 yL_earliest ∈ gT := (x_gin (List.mem_append_right _ (tb_5 _ (List.mem_of_getElem? (i := 57) rfl))) rfl)
set_option maxRecDepth 100000 in
theorem m_L_50 : Cond.methodLink RL 50 yX10_earliest ∈ gT := (x_gin (List.mem_append_right _ (tb_5 _ (List.mem_of_getElem? (i := 60) rfl))) rfl)
set_option maxRecDepth 100000 in
theorem m_X10_199 : Cond.methodLink RX10 199 yX1_walk ∈ gT := (x_gin (List.mem_append_right _ (tb_5 _ (List.mem_of_getElem? (i := 64) rfl))) rfl)
set_option maxRecDepth 100000 in
theorem m_X10_202 : Cond.methodLink RX10 202 yX0_setsFor ∈ gT := (x_gin (List.mem_append_right _ (tb_5 _ (List.mem_of_getElem? (i := 65) rfl))) rfl)
set_option maxRecDepth 100000 in
theorem m_X10_206 : Cond.methodLink RX10 206 yX1_firstSecondOf ∈ gT := (x_gin (List.mem_append_right _ (tb_5 _ (List.mem_of_getElem? (i := 66) rfl))) rfl)
set_option maxRecDepth 100000 in
theorem m_L_180 : Cond.methodLink RL 180 yL_may ∈ gT := (x_gin (List.mem_append_right _ (tb_5 _ (List.mem_of_getElem? (i := 70) rfl))) rfl)
set_option maxRecDepth 100000 in
theorem m_L_54 : Cond.methodLink RL 54 yX10_may ∈ gT := (x_gin (List.mem_append_right _ (tb_5 _ (List.mem_of_getElem? (i := 73) rfl))) rfl)
set_option maxRecDepth 100000 in
theorem m_X10_209 : Cond.methodLink RX10 209 yX1_limbsAt ∈ gT := (x_gin (List.mem_append_right _ (tb_5 _ (List.mem_of_getElem? (i := 77) rfl))) rfl)
set_option maxRecDepth 100000 in
theorem m_L_183 : Cond.methodLink RL 183 yL_shut ∈ gT := (x_gin (List.mem_append_right _ (tb_5 _ (List.mem_of_getElem? (i := 81) rfl))) rfl)
set_option maxRecDepth 100000 in
theorem m_L_57 : Cond.methodLink RL 57 yX10_shut ∈ gT := (x_gin (List.mem_append_right _ (tb_5 _ (List.mem_of_getElem? (i := 84) rfl))) rfl)
set_option maxRecDepth 100000 in
theorem m_X10_212 : Cond.methodLink RX10 212 yX1_canEver ∈ gT := (x_gin (List.mem_append_right _ (tb_5 _ (List.mem_of_getElem? (i := 88) rfl))) rfl)
set_option maxRecDepth 100000 in
theorem m_X1_140 : Cond.methodLink RX1 140 yX0_allWays ∈ gT := (x_gin (List.mem_append_right _ (tb_5 _ (List.mem_of_getElem? (i := 92) rfl))) rfl)
set_option maxRecDepth 100000 in
theorem m_X1_143 : Cond.methodLink RX1 143 yX1_prepare ∈ gT := (x_gin (List.mem_append_right _ (tb_5 _ (List.mem_of_getElem? (i := 93) rfl))) rfl)
set_option maxRecDepth 100000 in
theorem m_L_187 : Cond.methodLink RL 187 yL_opens ∈ gT := (x_gin (List.mem_append_right _ (tb_5 _ (List.mem_of_getElem? (i := 94) rfl))) rfl)
set_option maxRecDepth 100000 in
theorem m_L_61 : Cond.methodLink RL 61 yX10_opens ∈ gT := (x_gin (List.mem_append_right _ (tb_5 _ (List.mem_of_getElem? (i := 97) rfl))) rfl)
set_option maxRecDepth 100000 in
theorem m_L_190 : Cond.methodLink RL 190 yL_trap ∈ gT := (x_gin (List.mem_append_right _ (tb_5 _ (List.mem_of_getElem? (i := 101) rfl))) rfl)
set_option maxRecDepth 100000 in
theorem m_L_64 : Cond.methodLink RL 64 yX10_trap ∈ gT := (x_gin (List.mem_append_right _ (tb_5 _ (List.mem_of_getElem? (i := 104) rfl))) rfl)
set_option maxRecDepth 100000 in
theorem m_L_193 : Cond.methodLink RL 193 yL_story ∈ gT := (x_gin (List.mem_append_right _ (tb_5 _ (List.mem_of_getElem? (i := 108) rfl))) rfl)
set_option maxRecDepth 100000 in
theorem m_L_67 : Cond.methodLink RL 67 yX10_story ∈ gT := (x_gin (List.mem_append_right _ (tb_5 _ (List.mem_of_getElem? (i := 111) rfl))) rfl)
set_option maxRecDepth 100000 in
theorem m_L_196 : Cond.methodLink RL 196 yL_night ∈ gT := (x_gin (List.mem_append_right _ (tb_5 _ (List.mem_of_getElem? (i := 115) rfl))) rfl)
set_option maxRecDepth 100000 in
theorem m_L_70 : Cond.methodLink RL 70 yX10_night ∈ gT := (x_gin (List.mem_append_right _ (tb_5 _ (List.mem_of_getElem? (i := 118) rfl))) rfl)
set_option maxRecDepth 100000 in
theorem m_X10_222 : Cond.methodLink RX10 222 yX10_isOfFirst ∈ gT := (x_gin (List.mem_append_right _ (tb_5 _ (List.mem_of_getElem? (i := 122) rfl))) rfl)
set_option maxRecDepth 100000 in
theorem m_X10_329 : Cond.methodLink RX10 329 yX10_firstBits ∈ gT := (x_gin (List.mem_append_right _ (tb_5 _ (List.mem_of_getElem? (i := 125) rfl))) rfl)
set_option maxRecDepth 100000 in
theorem m_L_200 : Cond.methodLink RL 200 yL_odds ∈ gT := (x_gin (List.mem_append_right _ (tb_5 _ (List.mem_of_getElem? (i := 126) rfl))) rfl)
set_option maxRecDepth 100000 in
theorem m_L_74 : Cond.methodLink RL 74 yX10_odds ∈ gT := (x_gin (List.mem_append_right _ (tb_5 _ (List.mem_of_getElem? (i := 129) rfl))) rfl)
set_option maxRecDepth 100000 in
theorem m_X10_228 : Cond.methodLink RX10 228 yX10_reckonOdds ∈ gT := (x_gin (List.mem_append_right _ (tb_5 _ (List.mem_of_getElem? (i := 133) rfl))) rfl)
set_option maxRecDepth 100000 in
theorem m_X10_246 : Cond.methodLink RX10 246 yX7_get ∈ gT := (x_gin (List.mem_append_right _ (tb_5 _ (List.mem_of_getElem? (i := 137) rfl))) rfl)
set_option maxRecDepth 100000 in
theorem m_X10_332 : Cond.methodLink RX10 332 yX10_sharesToOdds ∈ gT := (x_gin (List.mem_append_right _ (tb_5 _ (List.mem_of_getElem? (i := 138) rfl))) rfl)
set_option maxRecDepth 100000 in
theorem m_X10_231 : Cond.methodLink RX10 231 yX10_allFactors ∈ gT := (x_gin (List.mem_append_right _ (tb_5 _ (List.mem_of_getElem? (i := 143) rfl))) rfl)
set_option maxRecDepth 100000 in
theorem m_X10_341 : Cond.methodLink RX10 341 yX10_trapFactors ∈ gT := (x_gin (List.mem_append_right _ (tb_5 _ (List.mem_of_getElem? (i := 150) rfl))) rfl)
set_option maxRecDepth 100000 in
theorem m_X10_235 : Cond.methodLink RX10 235 yX10_springs ∈ gT := (x_gin (List.mem_append_right _ (tb_5 _ (List.mem_of_getElem? (i := 154) rfl))) rfl)
set_option maxRecDepth 100000 in
theorem m_L_203 : Cond.methodLink RL 203 yL_oddsBy ∈ gT := (x_gin (List.mem_append_right _ (tb_5 _ (List.mem_of_getElem? (i := 158) rfl))) rfl)
set_option maxRecDepth 100000 in
theorem m_L_77 : Cond.methodLink RL 77 yX10_oddsBy ∈ gT := (x_gin (List.mem_append_right _ (tb_5 _ (List.mem_of_getElem? (i := 161) rfl))) rfl)
set_option maxRecDepth 100000 in
theorem m_L_206 : Cond.methodLink RL 206 yL_factor ∈ gT := (x_gin (List.mem_append_right _ (tb_5 _ (List.mem_of_getElem? (i := 165) rfl))) rfl)
set_option maxRecDepth 100000 in
theorem m_L_80 : Cond.methodLink RL 80 yX10_factor ∈ gT := (x_gin (List.mem_append_right _ (tb_5 _ (List.mem_of_getElem? (i := 168) rfl))) rfl)
set_option maxRecDepth 100000 in
theorem m_L_209 : Cond.methodLink RL 209 yL_says ∈ gT := (x_gin (List.mem_append_right _ (tb_5 _ (List.mem_of_getElem? (i := 172) rfl))) rfl)
set_option maxRecDepth 100000 in
theorem m_L_84 : Cond.methodLink RL 84 yX10_says ∈ gT := (x_gin (List.mem_append_right _ (tb_5 _ (List.mem_of_getElem? (i := 175) rfl))) rfl)
set_option maxRecDepth 100000 in
theorem m_X10_240 : Cond.methodLink RX10 240 yJ9_abs_067f4 ∈ gT := (x_gin (List.mem_append_right _ (tb_5 _ (List.mem_of_getElem? (i := 179) rfl))) rfl)
set_option maxRecDepth 100000 in
theorem m_L_212 : Cond.methodLink RL 212 yL_with ∈ gT := (x_gin (List.mem_append_right _ (tb_5 _ (List.mem_of_getElem? (i := 182) rfl))) rfl)
set_option maxRecDepth 100000 in
theorem m_L_88 : Cond.methodLink RL 88 yX10_with ∈ gT := (x_gin (List.mem_append_right _ (tb_5 _ (List.mem_of_getElem? (i := 185) rfl))) rfl)
set_option maxRecDepth 100000 in
theorem m_X10_249 : Cond.methodLink RX10 249 yX10_choicesWithAtLeast ∈ gT := (x_gin (List.mem_append_right _ (tb_5 _ (List.mem_of_getElem? (i := 189) rfl))) rfl)
set_option maxRecDepth 100000 in
theorem m_X10_344 : Cond.methodLink RX10 344 yX10_choices ∈ gT := (x_gin (List.mem_append_right _ (tb_5 _ (List.mem_of_getElem? (i := 193) rfl))) rfl)
set_option maxRecDepth 100000 in
theorem m_L_215 : Cond.methodLink RL 215 yL_knew ∈ gT := (x_gin (List.mem_append_right _ (tb_5 _ (List.mem_of_getElem? (i := 196) rfl))) rfl)
set_option maxRecDepth 100000 in
theorem m_L_91 : Cond.methodLink RL 91 yX10_knew ∈ gT := (x_gin (List.mem_append_right _ (tb_5 _ (List.mem_of_getElem? (i := 199) rfl))) rfl)
set_option maxRecDepth 100000 in
theorem m_L_219 : Cond.methodLink RL 219 yL_told ∈ gT := (x_gin (List.mem_append_right _ (tb_5 _ (List.mem_of_getElem? (i := 203) rfl))) rfl)
set_option maxRecDepth 100000 in
theorem m_L_95 : Cond.methodLink RL 95 yX10_told ∈ gT := (x_gin (List.mem_append_right _ (tb_5 _ (List.mem_of_getElem? (i := 206) rfl))) rfl)
set_option maxRecDepth 100000 in
theorem m_L_222 : Cond.methodLink RL 222 yL_knows ∈ gT := (x_gin (List.mem_append_right _ (tb_5 _ (List.mem_of_getElem? (i := 210) rfl))) rfl)
set_option maxRecDepth 100000 in
theorem m_L_98 : Cond.methodLink RL 98 yX10_knows ∈ gT := (x_gin (List.mem_append_right _ (tb_5 _ (List.mem_of_getElem? (i := 213) rfl))) rfl)
set_option maxRecDepth 100000 in
theorem m_X10_259 : Cond.methodLink RX10 259 yX10_knowersOn ∈ gT := (x_gin (List.mem_append_right _ (tb_5 _ (List.mem_of_getElem? (i := 217) rfl))) rfl)
set_option maxRecDepth 100000 in
theorem m_X10_347 : Cond.methodLink RX10 347 yX10_spread ∈ gT := (x_gin (List.mem_append_right _ (tb_5 _ (List.mem_of_getElem? (i := 221) rfl))) rfl)
set_option maxRecDepth 100000 in
theorem m_L_225 : Cond.methodLink RL 225 yL_whence ∈ gT := (x_gin (List.mem_append_right _ (tb_5 _ (List.mem_of_getElem? (i := 225) rfl))) rfl)
set_option maxRecDepth 100000 in
theorem m_L_101 : Cond.methodLink RL 101 yX10_whence ∈ gT := (x_gin (List.mem_append_right _ (tb_5 _ (List.mem_of_getElem? (i := 228) rfl))) rfl)
set_option maxRecDepth 100000 in
theorem m_X10_262 : Cond.methodLink RX10 262 yX10_neededTellers ∈ gT := (x_gin (List.mem_append_right _ (tb_5 _ (List.mem_of_getElem? (i := 232) rfl))) rfl)
set_option maxRecDepth 100000 in
theorem m_X10_265 : Cond.methodLink RX10 265 yX10_sources ∈ gT := (x_gin (List.mem_append_right _ (tb_5 _ (List.mem_of_getElem? (i := 236) rfl))) rfl)
set_option maxRecDepth 100000 in
theorem m_L_228 : Cond.methodLink RL 228 yL_knot ∈ gT := (x_gin (List.mem_append_right _ (tb_6 _ (List.mem_of_getElem? (i := 0) rfl))) rfl)
set_option maxRecDepth 100000 in
theorem m_L_104 : Cond.methodLink RL 104 yX10_knot ∈ gT := (x_gin (List.mem_append_right _ (tb_6 _ (List.mem_of_getElem? (i := 3) rfl))) rfl)
set_option maxRecDepth 100000 in
theorem m_L_232 : Cond.methodLink RL 232 yL_rope ∈ gT := (x_gin (List.mem_append_right _ (tb_6 _ (List.mem_of_getElem? (i := 7) rfl))) rfl)
set_option maxRecDepth 100000 in
theorem m_L_108 : Cond.methodLink RL 108 yX10_rope ∈ gT := (x_gin (List.mem_append_right _ (tb_6 _ (List.mem_of_getElem? (i := 10) rfl))) rfl)
set_option maxRecDepth 100000 in
theorem m_L_243 : Cond.methodLink RL 243 yL_tale ∈ gT := (x_gin (List.mem_append_right _ (tb_6 _ (List.mem_of_getElem? (i := 14) rfl))) rfl)
set_option maxRecDepth 100000 in
theorem m_L_111 : Cond.methodLink RL 111 yX10_tale ∈ gT := (x_gin (List.mem_append_right _ (tb_6 _ (List.mem_of_getElem? (i := 17) rfl))) rfl)
set_option maxRecDepth 100000 in
theorem m_X10_289 : Cond.methodLink RX10 289 yJ9_min_f86c9 ∈ gT := (x_gin (List.mem_append_right _ (tb_6 _ (List.mem_of_getElem? (i := 24) rfl))) rfl)
set_option maxRecDepth 100000 in
theorem m_L_246 : Cond.methodLink RL 246 yL_cold ∈ gT := (x_gin (List.mem_append_right _ (tb_6 _ (List.mem_of_getElem? (i := 27) rfl))) rfl)
set_option maxRecDepth 100000 in
theorem m_L_114 : Cond.methodLink RL 114 yX10_cold ∈ gT := (x_gin (List.mem_append_right _ (tb_6 _ (List.mem_of_getElem? (i := 30) rfl))) rfl)
set_option maxRecDepth 100000 in
theorem m_X10_293 : Cond.methodLink RX10 293 yJ9_abs_0f7a4 ∈ gT := (x_gin (List.mem_append_right _ (tb_6 _ (List.mem_of_getElem? (i := 34) rfl))) rfl)
set_option maxRecDepth 100000 in
theorem m_X10_295 : Cond.methodLink RX10 295 yJ9_min_7cf53 ∈ gT := (x_gin (List.mem_append_right _ (tb_6 _ (List.mem_of_getElem? (i := 37) rfl))) rfl)
set_option maxRecDepth 100000 in
theorem m_X10_297 : Cond.methodLink RX10 297 yJ9_max_7cf53 ∈ gT := (x_gin (List.mem_append_right _ (tb_6 _ (List.mem_of_getElem? (i := 38) rfl))) rfl)
set_option maxRecDepth 100000 in
theorem m_L_136 : Cond.methodLink RL 136 yX11_thrown ∈ gT := (x_gin (List.mem_append_right _ (tb_6 _ (List.mem_of_getElem? (i := 39) rfl))) rfl)
set_option maxRecDepth 100000 in
theorem m_L_120 : Cond.methodLink RL 120 yX11_init ∈ gT := (x_gin (List.mem_append_right _ (tb_6 _ (List.mem_of_getElem? (i := 45) rfl))) rfl)
set_option maxRecDepth 100000 in
theorem m_L_252 : Cond.methodLink RL 252 yX11_image ∈ gT := (x_gin (List.mem_append_right _ (tb_6 _ (List.mem_of_getElem? (i := 141) rfl))) rfl)
set_option maxRecDepth 100000 in
theorem m_L_257 : Cond.methodLink RL 257 yX11_back ∈ gT := (x_gin (List.mem_append_right _ (tb_6 _ (List.mem_of_getElem? (i := 145) rfl))) rfl)
set_option maxRecDepth 100000 in
theorem m_L_135 : Cond.methodLink RL 135 yX11_person ∈ gT := (x_gin (List.mem_append_right _ (tb_6 _ (List.mem_of_getElem? (i := 149) rfl))) rfl)
set_option maxRecDepth 100000 in
theorem m_X11_81 : Cond.methodLink RX11 81 yX11_in ∈ gT := (x_gin (List.mem_append_right _ (tb_6 _ (List.mem_of_getElem? (i := 153) rfl))) rfl)
set_option maxRecDepth 100000 in
theorem m_X11_85 : Cond.methodLink RX11 85 yX11_throwsIf ∈ gT := (x_gin (List.mem_append_right _ (tb_6 _ (List.mem_of_getElem? (i := 156) rfl))) rfl)
set_option maxRecDepth 100000 in
theorem m_X11_89 : Cond.methodLink RX11 89 yX11_puts ∈ gT := (x_gin (List.mem_append_right _ (tb_6 _ (List.mem_of_getElem? (i := 160) rfl))) rfl)
set_option maxRecDepth 100000 in
theorem m_L_153 : Cond.methodLink RL 153 yX11_thing ∈ gT := (x_gin (List.mem_append_right _ (tb_6 _ (List.mem_of_getElem? (i := 164) rfl))) rfl)
set_option maxRecDepth 100000 in
theorem m_L_124 : Cond.methodLink RL 124 yX11_feed ∈ gT := (x_gin (List.mem_append_right _ (tb_6 _ (List.mem_of_getElem? (i := 168) rfl))) rfl)
set_option maxRecDepth 100000 in
theorem m_L_129 : Cond.methodLink RL 129 yX11_end ∈ gT := (x_gin (List.mem_append_right _ (tb_6 _ (List.mem_of_getElem? (i := 172) rfl))) rfl)
set_option maxRecDepth 100000 in
theorem m_L_149 : Cond.methodLink RL 149 yX11_fault ∈ gT := (x_gin (List.mem_append_right _ (tb_6 _ (List.mem_of_getElem? (i := 176) rfl))) rfl)
set_option maxRecDepth 100000 in
theorem m_L_142 : Cond.methodLink RL 142 yX11_rule ∈ gT := (x_gin (List.mem_append_right _ (tb_6 _ (List.mem_of_getElem? (i := 180) rfl))) rfl)
set_option maxRecDepth 100000 in
theorem m_X11_245 : Cond.methodLink RX11 245 yX11_keeps ∈ gT := (x_gin (List.mem_append_right _ (tb_6 _ (List.mem_of_getElem? (i := 184) rfl))) rfl)
set_option maxRecDepth 100000 in
theorem m_X11_238 : Cond.methodLink RX11 238 yX11_uses ∈ gT := (x_gin (List.mem_append_right _ (tb_6 _ (List.mem_of_getElem? (i := 188) rfl))) rfl)
set_option maxRecDepth 100000 in
theorem m_X11_241 : Cond.methodLink RX11 241 yX11_readAll ∈ gT := (x_gin (List.mem_append_right _ (tb_6 _ (List.mem_of_getElem? (i := 192) rfl))) rfl)
set_option maxRecDepth 100000 in
theorem m_X11_112 : Cond.methodLink RX11 112 yX11_blanks ∈ gT := (x_gin (List.mem_append_right _ (tb_6 _ (List.mem_of_getElem? (i := 196) rfl))) rfl)
set_option maxRecDepth 100000 in
theorem m_X11_105 : Cond.methodLink RX11 105 yX11_isAt ∈ gT := (x_gin (List.mem_append_right _ (tb_6 _ (List.mem_of_getElem? (i := 200) rfl))) rfl)
set_option maxRecDepth 100000 in
theorem m_X11_234 : Cond.methodLink RX11 234 yX11_readLine ∈ gT := (x_gin (List.mem_append_right _ (tb_6 _ (List.mem_of_getElem? (i := 204) rfl))) rfl)
set_option maxRecDepth 100000 in
theorem m_X11_125 : Cond.methodLink RX11 125 yX11_letters ∈ gT := (x_gin (List.mem_append_right _ (tb_6 _ (List.mem_of_getElem? (i := 208) rfl))) rfl)
set_option maxRecDepth 100000 in
theorem m_X11_136 : Cond.methodLink RX11 136 yX11_lineAt ∈ gT := (x_gin (List.mem_append_right _ (tb_6 _ (List.mem_of_getElem? (i := 212) rfl))) rfl)
set_option maxRecDepth 100000 in
theorem m_X11_132 : Cond.methodLink RX11 132 yX11_textAt ∈ gT := (x_gin (List.mem_append_right _ (tb_6 _ (List.mem_of_getElem? (i := 215) rfl))) rfl)
set_option maxRecDepth 100000 in
theorem m_X11_228 : Cond.methodLink RX11 228 yX11_readRule ∈ gT := (x_gin (List.mem_append_right _ (tb_6 _ (List.mem_of_getElem? (i := 218) rfl))) rfl)
set_option maxRecDepth 100000 in
theorem m_X11_128 : Cond.methodLink RX11 128 yX11_isWord ∈ gT := (x_gin (List.mem_append_right _ (tb_6 _ (List.mem_of_getElem? (i := 223) rfl))) rfl)
set_option maxRecDepth 100000 in
theorem m_X11_115 : Cond.methodLink RX11 115 yJ0_length_8abf5 ∈ gT := (x_gin (List.mem_append_right _ (tb_6 _ (List.mem_of_getElem? (i := 227) rfl))) rfl)
set_option maxRecDepth 100000 in
theorem m_X11_121 : Cond.methodLink RX11 121 yJ0_charAt_5068e ∈ gT := (x_gin (List.mem_append_right _ (tb_6 _ (List.mem_of_getElem? (i := 228) rfl))) rfl)
set_option maxRecDepth 100000 in
theorem m_X11_140 : Cond.methodLink RX11 140 yX11_number ∈ gT := (x_gin (List.mem_append_right _ (tb_6 _ (List.mem_of_getElem? (i := 232) rfl))) rfl)
set_option maxRecDepth 100000 in
theorem m_X11_211 : Cond.methodLink RX11 211 yX11_tells ∈ gT := (x_gin (List.mem_append_right _ (tb_6 _ (List.mem_of_getElem? (i := 236) rfl))) rfl)
set_option maxRecDepth 100000 in
theorem m_X11_215 : Cond.methodLink RX11 215 yX11_needsWord ∈ gT := (x_gin (List.mem_append_right _ (tb_7 _ (List.mem_of_getElem? (i := 1) rfl))) rfl)
set_option maxRecDepth 100000 in
theorem m_X11_231 : Cond.methodLink RX11 231 yX11_readWay ∈ gT := (x_gin (List.mem_append_right _ (tb_7 _ (List.mem_of_getElem? (i := 6) rfl))) rfl)
set_option maxRecDepth 100000 in
theorem m_X11_181 : Cond.methodLink RX11 181 yX11_readCond ∈ gT := (x_gin (List.mem_append_right _ (tb_7 _ (List.mem_of_getElem? (i := 14) rfl))) rfl)
set_option maxRecDepth 100000 in
theorem m_X11_200 : Cond.methodLink RX11 200 yX11_readAllOf ∈ gT := (x_gin (List.mem_append_right _ (tb_7 _ (List.mem_of_getElem? (i := 18) rfl))) rfl)
set_option maxRecDepth 100000 in
theorem m_X11_189 : Cond.methodLink RX11 189 yX11_readAtom ∈ gT := (x_gin (List.mem_append_right _ (tb_7 _ (List.mem_of_getElem? (i := 22) rfl))) rfl)
set_option maxRecDepth 100000 in
theorem m_X11_163 : Cond.methodLink RX11 163 yX11_sign ∈ gT := (x_gin (List.mem_append_right _ (tb_7 _ (List.mem_of_getElem? (i := 26) rfl))) rfl)
set_option maxRecDepth 100000 in
theorem m_X11_186 : Cond.methodLink RX11 186 yX11_passes ∈ gT := (x_gin (List.mem_append_right _ (tb_7 _ (List.mem_of_getElem? (i := 31) rfl))) rfl)
set_option maxRecDepth 100000 in
theorem m_X11_143 : Cond.methodLink RX11 143 yX11_emits ∈ gT := (x_gin (List.mem_append_right _ (tb_7 _ (List.mem_of_getElem? (i := 35) rfl))) rfl)
set_option maxRecDepth 100000 in
theorem m_X11_192 : Cond.methodLink RX11 192 yX11_tagAt ∈ gT := (x_gin (List.mem_append_right _ (tb_7 _ (List.mem_of_getElem? (i := 39) rfl))) rfl)
set_option maxRecDepth 100000 in
theorem m_X11_155 : Cond.methodLink RX11 155 yX11_emitsOf ∈ gT := (x_gin (List.mem_append_right _ (tb_7 _ (List.mem_of_getElem? (i := 49) rfl))) rfl)
set_option maxRecDepth 100000 in
theorem m_X11_195 : Cond.methodLink RX11 195 yX11_readSum ∈ gT := (x_gin (List.mem_append_right _ (tb_7 _ (List.mem_of_getElem? (i := 53) rfl))) rfl)
set_option maxRecDepth 100000 in
theorem m_X11_159 : Cond.methodLink RX11 159 yX11_readPart ∈ gT := (x_gin (List.mem_append_right _ (tb_7 _ (List.mem_of_getElem? (i := 57) rfl))) rfl)
set_option maxRecDepth 100000 in
theorem m_L_145 : Cond.methodLink RL 145 yX11_way ∈ gT := (x_gin (List.mem_append_right _ (tb_7 _ (List.mem_of_getElem? (i := 67) rfl))) rfl)
set_option maxRecDepth 100000 in
theorem m_L_156 : Cond.methodLink RL 156 yX11_look ∈ gT := (x_gin (List.mem_append_right _ (tb_7 _ (List.mem_of_getElem? (i := 71) rfl))) rfl)
set_option maxRecDepth 100000 in
theorem m_X11_262 : Cond.methodLink RX11 262 yX11_none ∈ gT := (x_gin (List.mem_append_right _ (tb_7 _ (List.mem_of_getElem? (i := 75) rfl))) rfl)
set_option maxRecDepth 100000 in
theorem m_X11_265 : Cond.methodLink RX11 265 yX11_laysOut ∈ gT := (x_gin (List.mem_append_right _ (tb_7 _ (List.mem_of_getElem? (i := 79) rfl))) rfl)
set_option maxRecDepth 100000 in
theorem m_X11_252 : Cond.methodLink RX11 252 yX11_lines ∈ gT := (x_gin (List.mem_append_right _ (tb_7 _ (List.mem_of_getElem? (i := 83) rfl))) rfl)
set_option maxRecDepth 100000 in
theorem m_X11_255 : Cond.methodLink RX11 255 yX11_of ∈ gT := (x_gin (List.mem_append_right _ (tb_7 _ (List.mem_of_getElem? (i := 87) rfl))) rfl)
set_option maxRecDepth 100000 in
theorem m_X11_259 : Cond.methodLink RX11 259 yX11_sortOf ∈ gT := (x_gin (List.mem_append_right _ (tb_7 _ (List.mem_of_getElem? (i := 91) rfl))) rfl)
set_option maxRecDepth 100000 in
theorem m_L_160 : Cond.methodLink RL 160 yX11_needs ∈ gT := (x_gin (List.mem_append_right _ (tb_7 _ (List.mem_of_getElem? (i := 95) rfl))) rfl)
set_option maxRecDepth 100000 in
theorem m_X11_284 : Cond.methodLink RX11 284 yX11_holdsAll ∈ gT := (x_gin (List.mem_append_right _ (tb_7 _ (List.mem_of_getElem? (i := 99) rfl))) rfl)
set_option maxRecDepth 100000 in
theorem m_X11_280 : Cond.methodLink RX11 280 yX11_holdsLine ∈ gT := (x_gin (List.mem_append_right _ (tb_7 _ (List.mem_of_getElem? (i := 103) rfl))) rfl)
set_option maxRecDepth 100000 in
theorem m_X11_276 : Cond.methodLink RX11 276 yX11_asked ∈ gT := (x_gin (List.mem_append_right _ (tb_7 _ (List.mem_of_getElem? (i := 107) rfl))) rfl)
set_option maxRecDepth 100000 in
theorem m_X11_268 : Cond.methodLink RX11 268 yJ6_bitCount_0f7a4 ∈ gT := (x_gin (List.mem_append_right _ (tb_7 _ (List.mem_of_getElem? (i := 111) rfl))) rfl)
set_option maxRecDepth 100000 in
theorem m_X11_273 : Cond.methodLink RX11 273 yX11_ofHolder ∈ gT := (x_gin (List.mem_append_right _ (tb_7 _ (List.mem_of_getElem? (i := 112) rfl))) rfl)
set_option maxRecDepth 100000 in
theorem m_L_163 : Cond.methodLink RL 163 yX11_note ∈ gT := (x_gin (List.mem_append_right _ (tb_7 _ (List.mem_of_getElem? (i := 116) rfl))) rfl)
set_option maxRecDepth 100000 in
theorem m_L_167 : Cond.methodLink RL 167 yX11_torn ∈ gT := (x_gin (List.mem_append_right _ (tb_7 _ (List.mem_of_getElem? (i := 120) rfl))) rfl)
set_option maxRecDepth 100000 in
theorem m_L_171 : Cond.methodLink RL 171 yX11_can ∈ gT := (x_gin (List.mem_append_right _ (tb_7 _ (List.mem_of_getElem? (i := 124) rfl))) rfl)
set_option maxRecDepth 100000 in
theorem m_X11_327 : Cond.methodLink RX11 327 yX11_canBy ∈ gT := (x_gin (List.mem_append_right _ (tb_7 _ (List.mem_of_getElem? (i := 128) rfl))) rfl)
set_option maxRecDepth 100000 in
theorem m_X11_317 : Cond.methodLink RX11 317 yX11_prepares ∈ gT := (x_gin (List.mem_append_right _ (tb_7 _ (List.mem_of_getElem? (i := 132) rfl))) rfl)
set_option maxRecDepth 100000 in
theorem m_X11_299 : Cond.methodLink RX11 299 yX11_at ∈ gT := (x_gin (List.mem_append_right _ (tb_7 _ (List.mem_of_getElem? (i := 136) rfl))) rfl)
set_option maxRecDepth 100000 in
theorem m_X11_302 : Cond.methodLink RX11 302 yX11_runAt ∈ gT := (x_gin (List.mem_append_right _ (tb_7 _ (List.mem_of_getElem? (i := 139) rfl))) rfl)
set_option maxRecDepth 100000 in
theorem m_X11_305 : Cond.methodLink RX11 305 yX11_reachOf ∈ gT := (x_gin (List.mem_append_right _ (tb_7 _ (List.mem_of_getElem? (i := 142) rfl))) rfl)
set_option maxRecDepth 100000 in
theorem m_X11_288 : Cond.methodLink RX11 288 yX11_lastOf ∈ gT := (x_gin (List.mem_append_right _ (tb_7 _ (List.mem_of_getElem? (i := 146) rfl))) rfl)
set_option maxRecDepth 100000 in
theorem m_X11_291 : Cond.methodLink RX11 291 yJ9_max_7cf53 ∈ gT := (x_gin (List.mem_append_right _ (tb_7 _ (List.mem_of_getElem? (i := 150) rfl))) rfl)
set_option maxRecDepth 100000 in
theorem m_X11_308 : Cond.methodLink RX11 308 yX11_canDo ∈ gT := (x_gin (List.mem_append_right _ (tb_7 _ (List.mem_of_getElem? (i := 151) rfl))) rfl)
set_option maxRecDepth 100000 in
theorem m_X11_321 : Cond.methodLink RX11 321 yX11_goesOnwards ∈ gT := (x_gin (List.mem_append_right _ (tb_7 _ (List.mem_of_getElem? (i := 155) rfl))) rfl)
set_option maxRecDepth 100000 in
theorem m_X11_314 : Cond.methodLink RX11 314 yX11_canGo ∈ gT := (x_gin (List.mem_append_right _ (tb_7 _ (List.mem_of_getElem? (i := 159) rfl))) rfl)
set_option maxRecDepth 100000 in
theorem m_X11_311 : Cond.methodLink RX11 311 yX11_freedBy ∈ gT := (x_gin (List.mem_append_right _ (tb_7 _ (List.mem_of_getElem? (i := 163) rfl))) rfl)
set_option maxRecDepth 100000 in
theorem m_L_175 : Cond.methodLink RL 175 yX11_fewest ∈ gT := (x_gin (List.mem_append_right _ (tb_7 _ (List.mem_of_getElem? (i := 167) rfl))) rfl)
set_option maxRecDepth 100000 in
theorem m_L_179 : Cond.methodLink RL 179 yX11_earliest ∈ gT := (x_gin (List.mem_append_right _ (tb_7 _ (List.mem_of_getElem? (i := 171) rfl))) rfl)
set_option maxRecDepth 100000 in
theorem m_X11_330 : Cond.methodLink RX11 330 yX11_meets ∈ gT := (x_gin (List.mem_append_right _ (tb_7 _ (List.mem_of_getElem? (i := 175) rfl))) rfl)
set_option maxRecDepth 100000 in
theorem m_X11_324 : Cond.methodLink RX11 324 yX11_goesBackwards ∈ gT := (x_gin (List.mem_append_right _ (tb_7 _ (List.mem_of_getElem? (i := 179) rfl))) rfl)
set_option maxRecDepth 100000 in
theorem m_X11_334 : Cond.methodLink RX11 334 yX11_earliestOf ∈ gT := (x_gin (List.mem_append_right _ (tb_7 _ (List.mem_of_getElem? (i := 183) rfl))) rfl)
set_option maxRecDepth 100000 in
theorem m_L_182 : Cond.methodLink RL 182 yX11_may ∈ gT := (x_gin (List.mem_append_right _ (tb_7 _ (List.mem_of_getElem? (i := 187) rfl))) rfl)
set_option maxRecDepth 100000 in
theorem m_L_186 : Cond.methodLink RL 186 yX11_shut ∈ gT := (x_gin (List.mem_append_right _ (tb_7 _ (List.mem_of_getElem? (i := 191) rfl))) rfl)
set_option maxRecDepth 100000 in
theorem m_X11_337 : Cond.methodLink RX11 337 yX11_isShut ∈ gT := (x_gin (List.mem_append_right _ (tb_7 _ (List.mem_of_getElem? (i := 195) rfl))) rfl)
set_option maxRecDepth 100000 in
theorem m_L_189 : Cond.methodLink RL 189 yX11_opens ∈ gT := (x_gin (List.mem_append_right _ (tb_7 _ (List.mem_of_getElem? (i := 199) rfl))) rfl)
set_option maxRecDepth 100000 in
theorem m_L_192 : Cond.methodLink RL 192 yX11_trap ∈ gT := (x_gin (List.mem_append_right _ (tb_7 _ (List.mem_of_getElem? (i := 203) rfl))) rfl)
set_option maxRecDepth 100000 in
theorem m_L_195 : Cond.methodLink RL 195 yX11_story ∈ gT := (x_gin (List.mem_append_right _ (tb_7 _ (List.mem_of_getElem? (i := 207) rfl))) rfl)
set_option maxRecDepth 100000 in
theorem m_L_199 : Cond.methodLink RL 199 yX11_night ∈ gT := (x_gin (List.mem_append_right _ (tb_7 _ (List.mem_of_getElem? (i := 211) rfl))) rfl)
set_option maxRecDepth 100000 in
theorem m_X11_340 : Cond.methodLink RX11 340 yX11_hasOthers ∈ gT := (x_gin (List.mem_append_right _ (tb_7 _ (List.mem_of_getElem? (i := 215) rfl))) rfl)
set_option maxRecDepth 100000 in
theorem m_L_202 : Cond.methodLink RL 202 yX11_odds ∈ gT := (x_gin (List.mem_append_right _ (tb_7 _ (List.mem_of_getElem? (i := 219) rfl))) rfl)
set_option maxRecDepth 100000 in
theorem m_X11_365 : Cond.methodLink RX11 365 yX11_forgets ∈ gT := (x_gin (List.mem_append_right _ (tb_7 _ (List.mem_of_getElem? (i := 223) rfl))) rfl)
set_option maxRecDepth 100000 in
theorem m_X11_368 : Cond.methodLink RX11 368 yX11_oddsAfter ∈ gT := (x_gin (List.mem_append_right _ (tb_7 _ (List.mem_of_getElem? (i := 227) rfl))) rfl)
set_option maxRecDepth 100000 in
theorem m_X11_358 : Cond.methodLink RX11 358 yX11_shares ∈ gT := (x_gin (List.mem_append_right _ (tb_7 _ (List.mem_of_getElem? (i := 231) rfl))) rfl)
set_option maxRecDepth 100000 in
theorem m_X11_361 : Cond.methodLink RX11 361 yX11_factorOf ∈ gT := (x_gin (List.mem_append_right _ (tb_7 _ (List.mem_of_getElem? (i := 236) rfl))) rfl)
set_option maxRecDepth 100000 in
theorem m_X11_343 : Cond.methodLink RX11 343 yX11_canBe ∈ gT := (x_gin (List.mem_append_right _ (tb_8 _ (List.mem_of_getElem? (i := 0) rfl))) rfl)
set_option maxRecDepth 100000 in
theorem m_X11_353 : Cond.methodLink RX11 353 yX11_springs ∈ gT := (x_gin (List.mem_append_right _ (tb_8 _ (List.mem_of_getElem? (i := 7) rfl))) rfl)
set_option maxRecDepth 100000 in
theorem m_L_205 : Cond.methodLink RL 205 yX11_oddsBy ∈ gT := (x_gin (List.mem_append_right _ (tb_8 _ (List.mem_of_getElem? (i := 11) rfl))) rfl)
set_option maxRecDepth 100000 in
theorem m_L_208 : Cond.methodLink RL 208 yX11_factor ∈ gT := (x_gin (List.mem_append_right _ (tb_8 _ (List.mem_of_getElem? (i := 15) rfl))) rfl)
set_option maxRecDepth 100000 in
theorem m_L_211 : Cond.methodLink RL 211 yX11_says ∈ gT := (x_gin (List.mem_append_right _ (tb_8 _ (List.mem_of_getElem? (i := 19) rfl))) rfl)
set_option maxRecDepth 100000 in
theorem m_X11_372 : Cond.methodLink RX11 372 yJ9_abs_067f4 ∈ gT := (x_gin (List.mem_append_right _ (tb_8 _ (List.mem_of_getElem? (i := 23) rfl))) rfl)
set_option maxRecDepth 100000 in
theorem m_L_214 : Cond.methodLink RL 214 yX11_with ∈ gT := (x_gin (List.mem_append_right _ (tb_8 _ (List.mem_of_getElem? (i := 24) rfl))) rfl)
set_option maxRecDepth 100000 in
theorem m_X11_376 : Cond.methodLink RX11 376 yX11_choices ∈ gT := (x_gin (List.mem_append_right _ (tb_8 _ (List.mem_of_getElem? (i := 28) rfl))) rfl)
set_option maxRecDepth 100000 in
theorem m_L_218 : Cond.methodLink RL 218 yX11_knew ∈ gT := (x_gin (List.mem_append_right _ (tb_8 _ (List.mem_of_getElem? (i := 31) rfl))) rfl)
set_option maxRecDepth 100000 in
theorem m_L_221 : Cond.methodLink RL 221 yX11_told ∈ gT := (x_gin (List.mem_append_right _ (tb_8 _ (List.mem_of_getElem? (i := 35) rfl))) rfl)
set_option maxRecDepth 100000 in
theorem m_L_224 : Cond.methodLink RL 224 yX11_knows ∈ gT := (x_gin (List.mem_append_right _ (tb_8 _ (List.mem_of_getElem? (i := 39) rfl))) rfl)
set_option maxRecDepth 100000 in
theorem m_X11_379 : Cond.methodLink RX11 379 yX11_knowing ∈ gT := (x_gin (List.mem_append_right _ (tb_8 _ (List.mem_of_getElem? (i := 43) rfl))) rfl)
set_option maxRecDepth 100000 in
theorem m_L_227 : Cond.methodLink RL 227 yX11_whence ∈ gT := (x_gin (List.mem_append_right _ (tb_8 _ (List.mem_of_getElem? (i := 47) rfl))) rfl)
set_option maxRecDepth 100000 in
theorem m_L_231 : Cond.methodLink RL 231 yX11_knot ∈ gT := (x_gin (List.mem_append_right _ (tb_8 _ (List.mem_of_getElem? (i := 51) rfl))) rfl)
set_option maxRecDepth 100000 in
theorem m_L_234 : Cond.methodLink RL 234 yX11_rope ∈ gT := (x_gin (List.mem_append_right _ (tb_8 _ (List.mem_of_getElem? (i := 55) rfl))) rfl)
set_option maxRecDepth 100000 in
theorem m_L_238 : Cond.methodLink RL 238 yX11_out ∈ gT := (x_gin (List.mem_append_right _ (tb_8 _ (List.mem_of_getElem? (i := 59) rfl))) rfl)
set_option maxRecDepth 100000 in
theorem m_X11_389 : Cond.methodLink RX11 389 yX11_spreads ∈ gT := (x_gin (List.mem_append_right _ (tb_8 _ (List.mem_of_getElem? (i := 63) rfl))) rfl)
set_option maxRecDepth 100000 in
theorem m_X11_383 : Cond.methodLink RX11 383 yX11_canTurn ∈ gT := (x_gin (List.mem_append_right _ (tb_8 _ (List.mem_of_getElem? (i := 68) rfl))) rfl)
set_option maxRecDepth 100000 in
theorem m_X11_386 : Cond.methodLink RX11 386 yJ9_min_7cf53 ∈ gT := (x_gin (List.mem_append_right _ (tb_8 _ (List.mem_of_getElem? (i := 72) rfl))) rfl)
set_option maxRecDepth 100000 in
theorem m_X11_392 : Cond.methodLink RX11 392 yX11_leastTo ∈ gT := (x_gin (List.mem_append_right _ (tb_8 _ (List.mem_of_getElem? (i := 73) rfl))) rfl)
set_option maxRecDepth 100000 in
theorem m_L_242 : Cond.methodLink RL 242 yX11_first ∈ gT := (x_gin (List.mem_append_right _ (tb_8 _ (List.mem_of_getElem? (i := 77) rfl))) rfl)
set_option maxRecDepth 100000 in
theorem m_L_245 : Cond.methodLink RL 245 yX11_tale ∈ gT := (x_gin (List.mem_append_right _ (tb_8 _ (List.mem_of_getElem? (i := 81) rfl))) rfl)
set_option maxRecDepth 100000 in
theorem m_X11_401 : Cond.methodLink RX11 401 yJ9_min_f86c9 ∈ gT := (x_gin (List.mem_append_right _ (tb_8 _ (List.mem_of_getElem? (i := 88) rfl))) rfl)
set_option maxRecDepth 100000 in
theorem m_L_248 : Cond.methodLink RL 248 yX11_cold ∈ gT := (x_gin (List.mem_append_right _ (tb_8 _ (List.mem_of_getElem? (i := 89) rfl))) rfl)
set_option maxRecDepth 100000 in
theorem m_X11_404 : Cond.methodLink RX11 404 yJ9_abs_0f7a4 ∈ gT := (x_gin (List.mem_append_right _ (tb_8 _ (List.mem_of_getElem? (i := 93) rfl))) rfl)
set_option maxRecDepth 100000 in
theorem m_L_261 : Cond.methodLink RL 261 yX11_count ∈ gT := (x_gin (List.mem_append_right _ (tb_8 _ (List.mem_of_getElem? (i := 94) rfl))) rfl)
set_option maxRecDepth 100000 in
theorem i_yX10_init : x_YI yX10_init cX10_init 1 0 := ⟨⟨(x_gin (List.mem_append_right _ (tb_1 _ (List.mem_of_getElem? (i := 33) rfl))) rfl), (x_gin (List.mem_append_right _ (tb_1 _ (List.mem_of_getElem? (i := 1) rfl))) rfl), by decide +kernel, by decide⟩, (x_gin (List.mem_append_right _ (tb_1 _ (List.mem_of_getElem? (i := 32) rfl))) rfl), rfl⟩
set_option maxRecDepth 100000 in
theorem i_yX2_init : x_YI yX2_init cX2_init 1 0 := ⟨⟨(x_gin (List.mem_append_right _ (tb_1 _ (List.mem_of_getElem? (i := 41) rfl))) rfl), (x_gin (List.mem_append_right _ (tb_1 _ (List.mem_of_getElem? (i := 2) rfl))) rfl), by decide +kernel, by decide⟩, (x_gin (List.mem_append_right _ (tb_1 _ (List.mem_of_getElem? (i := 40) rfl))) rfl), rfl⟩
set_option maxRecDepth 100000 in
theorem i_yX5_init : x_YI yX5_init cX5_init 1 0 := ⟨⟨(x_gin (List.mem_append_right _ (tb_1 _ (List.mem_of_getElem? (i := 47) rfl))) rfl), (x_gin (List.mem_append_right _ (tb_1 _ (List.mem_of_getElem? (i := 3) rfl))) rfl), by decide +kernel, by decide⟩, (x_gin (List.mem_append_right _ (tb_1 _ (List.mem_of_getElem? (i := 46) rfl))) rfl), rfl⟩
set_option maxRecDepth 100000 in
theorem i_yX0_init : x_YI yX0_init cX0_init 2 0 := ⟨⟨(x_gin (List.mem_append_right _ (tb_1 _ (List.mem_of_getElem? (i := 103) rfl))) rfl), (x_gin (List.mem_append_right _ (tb_1 _ (List.mem_of_getElem? (i := 4) rfl))) rfl), by decide +kernel, by decide⟩, (x_gin (List.mem_append_right _ (tb_1 _ (List.mem_of_getElem? (i := 102) rfl))) rfl), rfl⟩
set_option maxRecDepth 100000 in
theorem i_yX7_init : x_YI yX7_init cX7_init 3 2 := ⟨⟨(x_gin (List.mem_append_right _ (tb_1 _ (List.mem_of_getElem? (i := 109) rfl))) rfl), (x_gin (List.mem_append_right _ (tb_1 _ (List.mem_of_getElem? (i := 5) rfl))) rfl), by decide +kernel, by decide⟩, (x_gin (List.mem_append_right _ (tb_1 _ (List.mem_of_getElem? (i := 108) rfl))) rfl), rfl⟩
set_option maxRecDepth 100000 in
theorem i_yX4_init : x_YI yX4_init cX4_init 2 1 := ⟨⟨(x_gin (List.mem_append_right _ (tb_1 _ (List.mem_of_getElem? (i := 131) rfl))) rfl), (x_gin (List.mem_append_right _ (tb_1 _ (List.mem_of_getElem? (i := 6) rfl))) rfl), by decide +kernel, by decide⟩, (x_gin (List.mem_append_right _ (tb_1 _ (List.mem_of_getElem? (i := 130) rfl))) rfl), rfl⟩
set_option maxRecDepth 100000 in
theorem i_yX9_init : x_YI yX9_init cX9_init 5 4 := ⟨⟨(x_gin (List.mem_append_right _ (tb_1 _ (List.mem_of_getElem? (i := 141) rfl))) rfl), (x_gin (List.mem_append_right _ (tb_1 _ (List.mem_of_getElem? (i := 7) rfl))) rfl), by decide +kernel, by decide⟩, (x_gin (List.mem_append_right _ (tb_1 _ (List.mem_of_getElem? (i := 140) rfl))) rfl), rfl⟩
set_option maxRecDepth 100000 in
theorem i_yX1_init : x_YI yX1_init cX1_init 2 1 := ⟨⟨(x_gin (List.mem_append_right _ (tb_1 _ (List.mem_of_getElem? (i := 227) rfl))) rfl), (x_gin (List.mem_append_right _ (tb_1 _ (List.mem_of_getElem? (i := 8) rfl))) rfl), by decide +kernel, by decide⟩, (x_gin (List.mem_append_right _ (tb_1 _ (List.mem_of_getElem? (i := 226) rfl))) rfl), rfl⟩
set_option maxRecDepth 100000 in
theorem i_yX6_init : x_YI yX6_init cX6_init 1 0 := ⟨⟨(x_gin (List.mem_append_right _ (tb_1 _ (List.mem_of_getElem? (i := 233) rfl))) rfl), (x_gin (List.mem_append_right _ (tb_1 _ (List.mem_of_getElem? (i := 9) rfl))) rfl), by decide +kernel, by decide⟩, (x_gin (List.mem_append_right _ (tb_1 _ (List.mem_of_getElem? (i := 232) rfl))) rfl), rfl⟩
set_option maxRecDepth 100000 in
theorem i_yX3_init : x_YI yX3_init cX3_init 2 1 := ⟨⟨(x_gin (List.mem_append_right _ (tb_2 _ (List.mem_of_getElem? (i := 59) rfl))) rfl), (x_gin (List.mem_append_right _ (tb_1 _ (List.mem_of_getElem? (i := 10) rfl))) rfl), by decide +kernel, by decide⟩, (x_gin (List.mem_append_right _ (tb_2 _ (List.mem_of_getElem? (i := 58) rfl))) rfl), rfl⟩
set_option maxRecDepth 100000 in
theorem v_yX10_feed : x_YV yX10_feed cX10_feed 6 (some .int) 5 := ⟨⟨(x_gin (List.mem_append_right _ (tb_2 _ (List.mem_of_getElem? (i := 109) rfl))) rfl), (x_gin (List.mem_append_right _ (tb_1 _ (List.mem_of_getElem? (i := 1) rfl))) rfl), by decide +kernel, by decide⟩, (x_gin (List.mem_append_right _ (tb_2 _ (List.mem_of_getElem? (i := 107) rfl))) rfl), (x_gin (List.mem_append_right _ (tb_2 _ (List.mem_of_getElem? (i := 108) rfl))) rfl)⟩
set_option maxRecDepth 100000 in
theorem v_yX10_putNumber : x_YV yX10_putNumber cX10_putNumber 3 none 1 := ⟨⟨(x_gin (List.mem_append_right _ (tb_2 _ (List.mem_of_getElem? (i := 113) rfl))) rfl), (x_gin (List.mem_append_right _ (tb_1 _ (List.mem_of_getElem? (i := 1) rfl))) rfl), by decide +kernel, by decide⟩, (x_gin (List.mem_append_right _ (tb_2 _ (List.mem_of_getElem? (i := 112) rfl))) rfl), (x_gin (List.mem_append_left _ (List.mem_of_getElem? (i := 0) rfl)) rfl)⟩
set_option maxRecDepth 100000 in
theorem v_yX10_end : x_YV yX10_end cX10_end 2 (some .boolean) 1 := ⟨⟨(x_gin (List.mem_append_right _ (tb_2 _ (List.mem_of_getElem? (i := 117) rfl))) rfl), (x_gin (List.mem_append_right _ (tb_1 _ (List.mem_of_getElem? (i := 1) rfl))) rfl), by decide +kernel, by decide⟩, (x_gin (List.mem_append_right _ (tb_2 _ (List.mem_of_getElem? (i := 115) rfl))) rfl), (x_gin (List.mem_append_right _ (tb_2 _ (List.mem_of_getElem? (i := 116) rfl))) rfl)⟩
set_option maxRecDepth 100000 in
theorem v_yX10_fault : x_YV yX10_fault cX10_fault 1 (some .int) 0 := ⟨⟨(x_gin (List.mem_append_right _ (tb_2 _ (List.mem_of_getElem? (i := 121) rfl))) rfl), (x_gin (List.mem_append_right _ (tb_1 _ (List.mem_of_getElem? (i := 1) rfl))) rfl), by decide +kernel, by decide⟩, (x_gin (List.mem_append_right _ (tb_2 _ (List.mem_of_getElem? (i := 119) rfl))) rfl), (x_gin (List.mem_append_right _ (tb_2 _ (List.mem_of_getElem? (i := 120) rfl))) rfl)⟩
set_option maxRecDepth 100000 in
theorem v_yX10_torn : x_YV yX10_torn cX10_torn 2 (some .int) 0 := ⟨⟨(x_gin (List.mem_append_right _ (tb_2 _ (List.mem_of_getElem? (i := 125) rfl))) rfl), (x_gin (List.mem_append_right _ (tb_1 _ (List.mem_of_getElem? (i := 1) rfl))) rfl), by decide +kernel, by decide⟩, (x_gin (List.mem_append_right _ (tb_2 _ (List.mem_of_getElem? (i := 123) rfl))) rfl), (x_gin (List.mem_append_right _ (tb_2 _ (List.mem_of_getElem? (i := 124) rfl))) rfl)⟩
set_option maxRecDepth 100000 in
theorem v_yX10_out : x_YV yX10_out cX10_out 3 (some .int) 2 := ⟨⟨(x_gin (List.mem_append_right _ (tb_2 _ (List.mem_of_getElem? (i := 129) rfl))) rfl), (x_gin (List.mem_append_right _ (tb_1 _ (List.mem_of_getElem? (i := 1) rfl))) rfl), by decide +kernel, by decide⟩, (x_gin (List.mem_append_right _ (tb_2 _ (List.mem_of_getElem? (i := 127) rfl))) rfl), (x_gin (List.mem_append_right _ (tb_2 _ (List.mem_of_getElem? (i := 128) rfl))) rfl)⟩
set_option maxRecDepth 100000 in
theorem v_yX3_fewestOutAndIn : x_YV yX3_fewestOutAndIn cX3_fewestOutAndIn 3 (some .int) 1 := ⟨⟨(x_gin (List.mem_append_right _ (tb_2 _ (List.mem_of_getElem? (i := 133) rfl))) rfl), (x_gin (List.mem_append_right _ (tb_1 _ (List.mem_of_getElem? (i := 10) rfl))) rfl), by decide +kernel, by decide⟩, (x_gin (List.mem_append_right _ (tb_2 _ (List.mem_of_getElem? (i := 131) rfl))) rfl), (x_gin (List.mem_append_right _ (tb_2 _ (List.mem_of_getElem? (i := 132) rfl))) rfl)⟩
set_option maxRecDepth 100000 in
theorem v_yX3_reckonSlacks : x_YV yX3_reckonSlacks cX3_reckonSlacks 4 none 0 := ⟨⟨(x_gin (List.mem_append_right _ (tb_2 _ (List.mem_of_getElem? (i := 137) rfl))) rfl), (x_gin (List.mem_append_right _ (tb_1 _ (List.mem_of_getElem? (i := 10) rfl))) rfl), by decide +kernel, by decide⟩, (x_gin (List.mem_append_right _ (tb_2 _ (List.mem_of_getElem? (i := 136) rfl))) rfl), (x_gin (List.mem_append_left _ (List.mem_of_getElem? (i := 1) rfl)) rfl)⟩
set_option maxRecDepth 100000 in
theorem s_yJ6_numberOfTrailingZeros_0f7a4 : x_YS yJ6_numberOfTrailingZeros_0f7a4 cJ6_numberOfTrailingZeros_0f7a4 2 (some .int) 1 := ⟨⟨(x_gin (List.mem_append_right _ (tb_2 _ (List.mem_of_getElem? (i := 140) rfl))) rfl), (x_gin (List.mem_append_right _ (tb_1 _ (List.mem_of_getElem? (i := 28) rfl))) rfl), by decide +kernel, by decide⟩, (x_gin (List.mem_append_right _ (tb_2 _ (List.mem_of_getElem? (i := 139) rfl))) rfl)⟩
set_option maxRecDepth 100000 in
theorem v_yX7_get : x_YV yX7_get cX7_get 4 (some .int) 2 := ⟨⟨(x_gin (List.mem_append_right _ (tb_2 _ (List.mem_of_getElem? (i := 145) rfl))) rfl), (x_gin (List.mem_append_right _ (tb_1 _ (List.mem_of_getElem? (i := 5) rfl))) rfl), by decide +kernel, by decide⟩, (x_gin (List.mem_append_right _ (tb_2 _ (List.mem_of_getElem? (i := 143) rfl))) rfl), (x_gin (List.mem_append_right _ (tb_2 _ (List.mem_of_getElem? (i := 144) rfl))) rfl)⟩
set_option maxRecDepth 100000 in
theorem s_yJ7_fill_53178 : x_YS yJ7_fill_53178 cJ7_fill_53178 4 none 2 := ⟨⟨(x_gin (List.mem_append_right _ (tb_2 _ (List.mem_of_getElem? (i := 149) rfl))) rfl), (x_gin (List.mem_append_right _ (tb_1 _ (List.mem_of_getElem? (i := 17) rfl))) rfl), by decide +kernel, by decide⟩, (x_gin (List.mem_append_right _ (tb_2 _ (List.mem_of_getElem? (i := 148) rfl))) rfl)⟩
set_option maxRecDepth 100000 in
theorem v_yX3_shorten : x_YV yX3_shorten cX3_shorten 6 none 0 := ⟨⟨(x_gin (List.mem_append_right _ (tb_2 _ (List.mem_of_getElem? (i := 153) rfl))) rfl), (x_gin (List.mem_append_right _ (tb_1 _ (List.mem_of_getElem? (i := 10) rfl))) rfl), by decide +kernel, by decide⟩, (x_gin (List.mem_append_right _ (tb_2 _ (List.mem_of_getElem? (i := 152) rfl))) rfl), (x_gin (List.mem_append_left _ (List.mem_of_getElem? (i := 2) rfl)) rfl)⟩
set_option maxRecDepth 100000 in
theorem v_yX3_secondsBy : x_YV yX3_secondsBy cX3_secondsBy 5 (some .int) 2 := ⟨⟨(x_gin (List.mem_append_right _ (tb_2 _ (List.mem_of_getElem? (i := 157) rfl))) rfl), (x_gin (List.mem_append_right _ (tb_1 _ (List.mem_of_getElem? (i := 10) rfl))) rfl), by decide +kernel, by decide⟩, (x_gin (List.mem_append_right _ (tb_2 _ (List.mem_of_getElem? (i := 156) rfl))) rfl), (x_gin (List.mem_append_left _ (List.mem_of_getElem? (i := 3) rfl)) rfl)⟩
set_option maxRecDepth 100000 in
theorem v_yX3_givesWay : x_YV yX3_givesWay cX3_givesWay 3 (some .boolean) 2 := ⟨⟨(x_gin (List.mem_append_right _ (tb_2 _ (List.mem_of_getElem? (i := 161) rfl))) rfl), (x_gin (List.mem_append_right _ (tb_1 _ (List.mem_of_getElem? (i := 10) rfl))) rfl), by decide +kernel, by decide⟩, (x_gin (List.mem_append_right _ (tb_2 _ (List.mem_of_getElem? (i := 160) rfl))) rfl), (x_gin (List.mem_append_left _ (List.mem_of_getElem? (i := 4) rfl)) rfl)⟩
set_option maxRecDepth 100000 in
theorem s_yX10_hasBit : x_YS yX10_hasBit cX10_hasBit 2 (some .boolean) 2 := ⟨⟨(x_gin (List.mem_append_right _ (tb_2 _ (List.mem_of_getElem? (i := 164) rfl))) rfl), (x_gin (List.mem_append_right _ (tb_1 _ (List.mem_of_getElem? (i := 1) rfl))) rfl), by decide +kernel, by decide⟩, (x_gin (List.mem_append_right _ (tb_2 _ (List.mem_of_getElem? (i := 163) rfl))) rfl)⟩
set_option maxRecDepth 100000 in
theorem v_yX3_hasAll : x_YV yX3_hasAll cX3_hasAll 3 (some .boolean) 2 := ⟨⟨(x_gin (List.mem_append_right _ (tb_2 _ (List.mem_of_getElem? (i := 168) rfl))) rfl), (x_gin (List.mem_append_right _ (tb_1 _ (List.mem_of_getElem? (i := 10) rfl))) rfl), by decide +kernel, by decide⟩, (x_gin (List.mem_append_right _ (tb_2 _ (List.mem_of_getElem? (i := 167) rfl))) rfl), (x_gin (List.mem_append_left _ (List.mem_of_getElem? (i := 5) rfl)) rfl)⟩
set_option maxRecDepth 100000 in
theorem s_yX10_firstBits : x_YS yX10_firstBits cX10_firstBits 1 (some .int) 1 := ⟨⟨(x_gin (List.mem_append_right _ (tb_2 _ (List.mem_of_getElem? (i := 171) rfl))) rfl), (x_gin (List.mem_append_right _ (tb_1 _ (List.mem_of_getElem? (i := 1) rfl))) rfl), by decide +kernel, by decide⟩, (x_gin (List.mem_append_right _ (tb_2 _ (List.mem_of_getElem? (i := 170) rfl))) rfl)⟩
set_option maxRecDepth 100000 in
theorem v_yX3_fewestOut : x_YV yX3_fewestOut cX3_fewestOut 2 (some .int) 1 := ⟨⟨(x_gin (List.mem_append_right _ (tb_2 _ (List.mem_of_getElem? (i := 175) rfl))) rfl), (x_gin (List.mem_append_right _ (tb_1 _ (List.mem_of_getElem? (i := 10) rfl))) rfl), by decide +kernel, by decide⟩, (x_gin (List.mem_append_right _ (tb_2 _ (List.mem_of_getElem? (i := 173) rfl))) rfl), (x_gin (List.mem_append_right _ (tb_2 _ (List.mem_of_getElem? (i := 174) rfl))) rfl)⟩
set_option maxRecDepth 100000 in
theorem v_yX3_reckonOut : x_YV yX3_reckonOut cX3_reckonOut 3 none 1 := ⟨⟨(x_gin (List.mem_append_right _ (tb_2 _ (List.mem_of_getElem? (i := 179) rfl))) rfl), (x_gin (List.mem_append_right _ (tb_1 _ (List.mem_of_getElem? (i := 10) rfl))) rfl), by decide +kernel, by decide⟩, (x_gin (List.mem_append_right _ (tb_2 _ (List.mem_of_getElem? (i := 178) rfl))) rfl), (x_gin (List.mem_append_left _ (List.mem_of_getElem? (i := 6) rfl)) rfl)⟩
set_option maxRecDepth 100000 in
theorem v_yX10_first : x_YV yX10_first cX10_first 2 (some .int) 1 := ⟨⟨(x_gin (List.mem_append_right _ (tb_2 _ (List.mem_of_getElem? (i := 183) rfl))) rfl), (x_gin (List.mem_append_right _ (tb_1 _ (List.mem_of_getElem? (i := 1) rfl))) rfl), by decide +kernel, by decide⟩, (x_gin (List.mem_append_right _ (tb_2 _ (List.mem_of_getElem? (i := 181) rfl))) rfl), (x_gin (List.mem_append_right _ (tb_2 _ (List.mem_of_getElem? (i := 182) rfl))) rfl)⟩
set_option maxRecDepth 100000 in
theorem v_yX3_firstToOpen : x_YV yX3_firstToOpen cX3_firstToOpen 4 (some .int) 1 := ⟨⟨(x_gin (List.mem_append_right _ (tb_2 _ (List.mem_of_getElem? (i := 187) rfl))) rfl), (x_gin (List.mem_append_right _ (tb_1 _ (List.mem_of_getElem? (i := 10) rfl))) rfl), by decide +kernel, by decide⟩, (x_gin (List.mem_append_right _ (tb_2 _ (List.mem_of_getElem? (i := 185) rfl))) rfl), (x_gin (List.mem_append_right _ (tb_2 _ (List.mem_of_getElem? (i := 186) rfl))) rfl)⟩
set_option maxRecDepth 100000 in
theorem v_yX10_image : x_YV yX10_image cX10_image 1 none 0 := ⟨⟨(x_gin (List.mem_append_right _ (tb_2 _ (List.mem_of_getElem? (i := 191) rfl))) rfl), (x_gin (List.mem_append_right _ (tb_1 _ (List.mem_of_getElem? (i := 1) rfl))) rfl), by decide +kernel, by decide⟩, (x_gin (List.mem_append_right _ (tb_2 _ (List.mem_of_getElem? (i := 189) rfl))) rfl), (x_gin (List.mem_append_right _ (tb_2 _ (List.mem_of_getElem? (i := 190) rfl))) rfl)⟩
set_option maxRecDepth 100000 in
theorem v_yX0_become : x_YV yX0_become cX0_become 3 none 1 := ⟨⟨(x_gin (List.mem_append_right _ (tb_2 _ (List.mem_of_getElem? (i := 195) rfl))) rfl), (x_gin (List.mem_append_right _ (tb_1 _ (List.mem_of_getElem? (i := 4) rfl))) rfl), by decide +kernel, by decide⟩, (x_gin (List.mem_append_right _ (tb_2 _ (List.mem_of_getElem? (i := 193) rfl))) rfl), (x_gin (List.mem_append_right _ (tb_2 _ (List.mem_of_getElem? (i := 194) rfl))) rfl)⟩
set_option maxRecDepth 100000 in
theorem v_yX7_become : x_YV yX7_become cX7_become 3 none 1 := ⟨⟨(x_gin (List.mem_append_right _ (tb_2 _ (List.mem_of_getElem? (i := 199) rfl))) rfl), (x_gin (List.mem_append_right _ (tb_1 _ (List.mem_of_getElem? (i := 5) rfl))) rfl), by decide +kernel, by decide⟩, (x_gin (List.mem_append_right _ (tb_2 _ (List.mem_of_getElem? (i := 197) rfl))) rfl), (x_gin (List.mem_append_right _ (tb_2 _ (List.mem_of_getElem? (i := 198) rfl))) rfl)⟩
set_option maxRecDepth 100000 in
theorem v_yX10_back : x_YV yX10_back cX10_back 1 (some .boolean) 0 := ⟨⟨(x_gin (List.mem_append_right _ (tb_2 _ (List.mem_of_getElem? (i := 203) rfl))) rfl), (x_gin (List.mem_append_right _ (tb_1 _ (List.mem_of_getElem? (i := 1) rfl))) rfl), by decide +kernel, by decide⟩, (x_gin (List.mem_append_right _ (tb_2 _ (List.mem_of_getElem? (i := 201) rfl))) rfl), (x_gin (List.mem_append_right _ (tb_2 _ (List.mem_of_getElem? (i := 202) rfl))) rfl)⟩
set_option maxRecDepth 100000 in
theorem v_yX1_forget : x_YV yX1_forget cX1_forget 1 none 0 := ⟨⟨(x_gin (List.mem_append_right _ (tb_2 _ (List.mem_of_getElem? (i := 207) rfl))) rfl), (x_gin (List.mem_append_right _ (tb_1 _ (List.mem_of_getElem? (i := 8) rfl))) rfl), by decide +kernel, by decide⟩, (x_gin (List.mem_append_right _ (tb_2 _ (List.mem_of_getElem? (i := 205) rfl))) rfl), (x_gin (List.mem_append_right _ (tb_2 _ (List.mem_of_getElem? (i := 206) rfl))) rfl)⟩
set_option maxRecDepth 100000 in
theorem v_yX10_count : x_YV yX10_count cX10_count 2 (some .int) 1 := ⟨⟨(x_gin (List.mem_append_right _ (tb_2 _ (List.mem_of_getElem? (i := 212) rfl))) rfl), (x_gin (List.mem_append_right _ (tb_1 _ (List.mem_of_getElem? (i := 1) rfl))) rfl), by decide +kernel, by decide⟩, (x_gin (List.mem_append_right _ (tb_2 _ (List.mem_of_getElem? (i := 210) rfl))) rfl), (x_gin (List.mem_append_right _ (tb_2 _ (List.mem_of_getElem? (i := 211) rfl))) rfl)⟩
set_option maxRecDepth 100000 in
theorem v_yX10_person : x_YV yX10_person cX10_person 3 (some .int) 2 := ⟨⟨(x_gin (List.mem_append_right _ (tb_2 _ (List.mem_of_getElem? (i := 221) rfl))) rfl), (x_gin (List.mem_append_right _ (tb_1 _ (List.mem_of_getElem? (i := 1) rfl))) rfl), by decide +kernel, by decide⟩, (x_gin (List.mem_append_right _ (tb_2 _ (List.mem_of_getElem? (i := 219) rfl))) rfl), (x_gin (List.mem_append_right _ (tb_2 _ (List.mem_of_getElem? (i := 220) rfl))) rfl)⟩
set_option maxRecDepth 100000 in
theorem s_yX10_isBetween : x_YS yX10_isBetween cX10_isBetween 3 (some .boolean) 3 := ⟨⟨(x_gin (List.mem_append_right _ (tb_2 _ (List.mem_of_getElem? (i := 224) rfl))) rfl), (x_gin (List.mem_append_right _ (tb_1 _ (List.mem_of_getElem? (i := 1) rfl))) rfl), by decide +kernel, by decide⟩, (x_gin (List.mem_append_right _ (tb_2 _ (List.mem_of_getElem? (i := 223) rfl))) rfl)⟩
set_option maxRecDepth 100000 in
theorem s_yX10_demand : x_YS yX10_demand cX10_demand 1 none 1 := ⟨⟨(x_gin (List.mem_append_right _ (tb_2 _ (List.mem_of_getElem? (i := 227) rfl))) rfl), (x_gin (List.mem_append_right _ (tb_1 _ (List.mem_of_getElem? (i := 1) rfl))) rfl), by decide +kernel, by decide⟩, (x_gin (List.mem_append_right _ (tb_2 _ (List.mem_of_getElem? (i := 226) rfl))) rfl)⟩
set_option maxRecDepth 100000 in
theorem v_yX7_hasRoom : x_YV yX7_hasRoom cX7_hasRoom 1 (some .boolean) 0 := ⟨⟨(x_gin (List.mem_append_right _ (tb_3 _ (List.mem_of_getElem? (i := 59) rfl))) rfl), (x_gin (List.mem_append_right _ (tb_1 _ (List.mem_of_getElem? (i := 5) rfl))) rfl), by decide +kernel, by decide⟩, (x_gin (List.mem_append_right _ (tb_3 _ (List.mem_of_getElem? (i := 57) rfl))) rfl), (x_gin (List.mem_append_right _ (tb_3 _ (List.mem_of_getElem? (i := 58) rfl))) rfl)⟩
set_option maxRecDepth 100000 in
theorem s_yX10_demandRoom : x_YS yX10_demandRoom cX10_demandRoom 1 none 1 := ⟨⟨(x_gin (List.mem_append_right _ (tb_3 _ (List.mem_of_getElem? (i := 62) rfl))) rfl), (x_gin (List.mem_append_right _ (tb_1 _ (List.mem_of_getElem? (i := 1) rfl))) rfl), by decide +kernel, by decide⟩, (x_gin (List.mem_append_right _ (tb_3 _ (List.mem_of_getElem? (i := 61) rfl))) rfl)⟩
set_option maxRecDepth 100000 in
theorem v_yX7_add : x_YV yX7_add cX7_add 6 (some .int) 5 := ⟨⟨(x_gin (List.mem_append_right _ (tb_3 _ (List.mem_of_getElem? (i := 82) rfl))) rfl), (x_gin (List.mem_append_right _ (tb_1 _ (List.mem_of_getElem? (i := 5) rfl))) rfl), by decide +kernel, by decide⟩, (x_gin (List.mem_append_right _ (tb_3 _ (List.mem_of_getElem? (i := 80) rfl))) rfl), (x_gin (List.mem_append_right _ (tb_3 _ (List.mem_of_getElem? (i := 81) rfl))) rfl)⟩
set_option maxRecDepth 100000 in
theorem v_yX7_put : x_YV yX7_put cX7_put 4 none 2 := ⟨⟨(x_gin (List.mem_append_right _ (tb_3 _ (List.mem_of_getElem? (i := 86) rfl))) rfl), (x_gin (List.mem_append_right _ (tb_1 _ (List.mem_of_getElem? (i := 5) rfl))) rfl), by decide +kernel, by decide⟩, (x_gin (List.mem_append_right _ (tb_3 _ (List.mem_of_getElem? (i := 85) rfl))) rfl), (x_gin (List.mem_append_left _ (List.mem_of_getElem? (i := 8) rfl)) rfl)⟩
set_option maxRecDepth 100000 in
theorem v_yX10_rule : x_YV yX10_rule cX10_rule 2 (some .int) 0 := ⟨⟨(x_gin (List.mem_append_right _ (tb_3 _ (List.mem_of_getElem? (i := 93) rfl))) rfl), (x_gin (List.mem_append_right _ (tb_1 _ (List.mem_of_getElem? (i := 1) rfl))) rfl), by decide +kernel, by decide⟩, (x_gin (List.mem_append_right _ (tb_3 _ (List.mem_of_getElem? (i := 91) rfl))) rfl), (x_gin (List.mem_append_right _ (tb_3 _ (List.mem_of_getElem? (i := 92) rfl))) rfl)⟩
set_option maxRecDepth 100000 in
theorem v_yX2_readLines : x_YV yX2_readLines cX2_readLines 6 (some .boolean) 3 := ⟨⟨(x_gin (List.mem_append_right _ (tb_3 _ (List.mem_of_getElem? (i := 97) rfl))) rfl), (x_gin (List.mem_append_right _ (tb_1 _ (List.mem_of_getElem? (i := 2) rfl))) rfl), by decide +kernel, by decide⟩, (x_gin (List.mem_append_right _ (tb_3 _ (List.mem_of_getElem? (i := 95) rfl))) rfl), (x_gin (List.mem_append_right _ (tb_3 _ (List.mem_of_getElem? (i := 96) rfl))) rfl)⟩
set_option maxRecDepth 100000 in
theorem v_yX5_scan : x_YV yX5_scan cX5_scan 5 none 2 := ⟨⟨(x_gin (List.mem_append_right _ (tb_3 _ (List.mem_of_getElem? (i := 101) rfl))) rfl), (x_gin (List.mem_append_right _ (tb_1 _ (List.mem_of_getElem? (i := 3) rfl))) rfl), by decide +kernel, by decide⟩, (x_gin (List.mem_append_right _ (tb_3 _ (List.mem_of_getElem? (i := 99) rfl))) rfl), (x_gin (List.mem_append_right _ (tb_3 _ (List.mem_of_getElem? (i := 100) rfl))) rfl)⟩
set_option maxRecDepth 100000 in
theorem s_yX5_isLetter : x_YS yX5_isLetter cX5_isLetter 1 (some .boolean) 1 := ⟨⟨(x_gin (List.mem_append_right _ (tb_3 _ (List.mem_of_getElem? (i := 104) rfl))) rfl), (x_gin (List.mem_append_right _ (tb_1 _ (List.mem_of_getElem? (i := 3) rfl))) rfl), by decide +kernel, by decide⟩, (x_gin (List.mem_append_right _ (tb_3 _ (List.mem_of_getElem? (i := 103) rfl))) rfl)⟩
set_option maxRecDepth 100000 in
theorem s_yX8_ofWord : x_YS yX8_ofWord cX8_ofWord 6 (some .int) 3 := ⟨⟨(x_gin (List.mem_append_right _ (tb_3 _ (List.mem_of_getElem? (i := 107) rfl))) rfl), (x_gin (List.mem_append_right _ (tb_1 _ (List.mem_of_getElem? (i := 18) rfl))) rfl), by decide +kernel, by decide⟩, (x_gin (List.mem_append_right _ (tb_3 _ (List.mem_of_getElem? (i := 106) rfl))) rfl)⟩
set_option maxRecDepth 100000 in
theorem v_yJ0_length_8abf5 : x_YV yJ0_length_8abf5 cJ0_length_8abf5 1 (some .int) 0 := ⟨⟨(x_gin (List.mem_append_right _ (tb_3 _ (List.mem_of_getElem? (i := 112) rfl))) rfl), (x_gin (List.mem_append_right _ (tb_1 _ (List.mem_of_getElem? (i := 19) rfl))) rfl), by decide +kernel, by decide⟩, (x_gin (List.mem_append_right _ (tb_3 _ (List.mem_of_getElem? (i := 110) rfl))) rfl), (x_gin (List.mem_append_right _ (tb_3 _ (List.mem_of_getElem? (i := 111) rfl))) rfl)⟩
set_option maxRecDepth 100000 in
theorem v_yJ0_coder_7d493 : x_YV yJ0_coder_7d493 cJ0_coder_7d493 1 (some .byte) 0 := ⟨⟨(x_gin (List.mem_append_right _ (tb_3 _ (List.mem_of_getElem? (i := 116) rfl))) rfl), (x_gin (List.mem_append_right _ (tb_1 _ (List.mem_of_getElem? (i := 19) rfl))) rfl), by decide +kernel, by decide⟩, (x_gin (List.mem_append_right _ (tb_3 _ (List.mem_of_getElem? (i := 114) rfl))) rfl), (x_gin (List.mem_append_right _ (tb_3 _ (List.mem_of_getElem? (i := 115) rfl))) rfl)⟩
set_option maxRecDepth 100000 in
theorem v_yJ0_charAt_5068e : x_YV yJ0_charAt_5068e cJ0_charAt_5068e 2 (some .char) 1 := ⟨⟨(x_gin (List.mem_append_right _ (tb_3 _ (List.mem_of_getElem? (i := 122) rfl))) rfl), (x_gin (List.mem_append_right _ (tb_1 _ (List.mem_of_getElem? (i := 19) rfl))) rfl), by decide +kernel, by decide⟩, (x_gin (List.mem_append_right _ (tb_3 _ (List.mem_of_getElem? (i := 120) rfl))) rfl), (x_gin (List.mem_append_right _ (tb_3 _ (List.mem_of_getElem? (i := 121) rfl))) rfl)⟩
set_option maxRecDepth 100000 in
theorem v_yJ0_isLatin1_aae02 : x_YV yJ0_isLatin1_aae02 cJ0_isLatin1_aae02 1 (some .boolean) 0 := ⟨⟨(x_gin (List.mem_append_right _ (tb_3 _ (List.mem_of_getElem? (i := 126) rfl))) rfl), (x_gin (List.mem_append_right _ (tb_1 _ (List.mem_of_getElem? (i := 19) rfl))) rfl), by decide +kernel, by decide⟩, (x_gin (List.mem_append_right _ (tb_3 _ (List.mem_of_getElem? (i := 124) rfl))) rfl), (x_gin (List.mem_append_right _ (tb_3 _ (List.mem_of_getElem? (i := 125) rfl))) rfl)⟩
set_option maxRecDepth 100000 in
theorem s_yJ1_charAt_3b067 : x_YS yJ1_charAt_3b067 cJ1_charAt_3b067 2 (some .char) 2 := ⟨⟨(x_gin (List.mem_append_right _ (tb_3 _ (List.mem_of_getElem? (i := 129) rfl))) rfl), (x_gin (List.mem_append_right _ (tb_1 _ (List.mem_of_getElem? (i := 20) rfl))) rfl), by decide +kernel, by decide⟩, (x_gin (List.mem_append_right _ (tb_3 _ (List.mem_of_getElem? (i := 128) rfl))) rfl)⟩
set_option maxRecDepth 100000 in
theorem s_yJ0_checkIndex_df160 : x_YS yJ0_checkIndex_df160 cJ0_checkIndex_df160 2 none 2 := ⟨⟨(x_gin (List.mem_append_right _ (tb_3 _ (List.mem_of_getElem? (i := 132) rfl))) rfl), (x_gin (List.mem_append_right _ (tb_1 _ (List.mem_of_getElem? (i := 19) rfl))) rfl), by decide +kernel, by decide⟩, (x_gin (List.mem_append_right _ (tb_3 _ (List.mem_of_getElem? (i := 131) rfl))) rfl)⟩
set_option maxRecDepth 100000 in
theorem s_yJ3_checkIndex_8e157 : x_YS yJ3_checkIndex_8e157 cJ3_checkIndex_8e157 3 (some .int) 3 := ⟨⟨(x_gin (List.mem_append_right _ (tb_3 _ (List.mem_of_getElem? (i := 137) rfl))) rfl), (x_gin (List.mem_append_right _ (tb_1 _ (List.mem_of_getElem? (i := 21) rfl))) rfl), by decide +kernel, by decide⟩, (x_gin (List.mem_append_right _ (tb_3 _ (List.mem_of_getElem? (i := 136) rfl))) rfl)⟩
set_option maxRecDepth 100000 in
theorem s_yJ2_charAt_3b067 : x_YS yJ2_charAt_3b067 cJ2_charAt_3b067 2 (some .char) 2 := ⟨⟨(x_gin (List.mem_append_right _ (tb_3 _ (List.mem_of_getElem? (i := 140) rfl))) rfl), (x_gin (List.mem_append_right _ (tb_1 _ (List.mem_of_getElem? (i := 22) rfl))) rfl), by decide +kernel, by decide⟩, (x_gin (List.mem_append_right _ (tb_3 _ (List.mem_of_getElem? (i := 139) rfl))) rfl)⟩
set_option maxRecDepth 100000 in
theorem s_yJ2_checkIndex_2214a : x_YS yJ2_checkIndex_2214a cJ2_checkIndex_2214a 2 none 2 := ⟨⟨(x_gin (List.mem_append_right _ (tb_3 _ (List.mem_of_getElem? (i := 143) rfl))) rfl), (x_gin (List.mem_append_right _ (tb_1 _ (List.mem_of_getElem? (i := 22) rfl))) rfl), by decide +kernel, by decide⟩, (x_gin (List.mem_append_right _ (tb_3 _ (List.mem_of_getElem? (i := 142) rfl))) rfl)⟩
set_option maxRecDepth 100000 in
theorem s_yJ2_length_9d52b : x_YS yJ2_length_9d52b cJ2_length_9d52b 1 (some .int) 1 := ⟨⟨(x_gin (List.mem_append_right _ (tb_3 _ (List.mem_of_getElem? (i := 146) rfl))) rfl), (x_gin (List.mem_append_right _ (tb_1 _ (List.mem_of_getElem? (i := 22) rfl))) rfl), by decide +kernel, by decide⟩, (x_gin (List.mem_append_right _ (tb_3 _ (List.mem_of_getElem? (i := 145) rfl))) rfl)⟩
set_option maxRecDepth 100000 in
theorem s_yJ2_getChar_3b067 : x_YS yJ2_getChar_3b067 cJ2_getChar_3b067 2 (some .char) 2 := ⟨⟨(x_gin (List.mem_append_right _ (tb_3 _ (List.mem_of_getElem? (i := 150) rfl))) rfl), (x_gin (List.mem_append_right _ (tb_1 _ (List.mem_of_getElem? (i := 22) rfl))) rfl), by decide +kernel, by decide⟩, (x_gin (List.mem_append_right _ (tb_3 _ (List.mem_of_getElem? (i := 149) rfl))) rfl)⟩
set_option maxRecDepth 100000 in
theorem s_yX8_isSame : x_YS yX8_isSame cX8_isSame 6 (some .boolean) 5 := ⟨⟨(x_gin (List.mem_append_right _ (tb_3 _ (List.mem_of_getElem? (i := 159) rfl))) rfl), (x_gin (List.mem_append_right _ (tb_1 _ (List.mem_of_getElem? (i := 18) rfl))) rfl), by decide +kernel, by decide⟩, (x_gin (List.mem_append_right _ (tb_3 _ (List.mem_of_getElem? (i := 158) rfl))) rfl)⟩
set_option maxRecDepth 100000 in
theorem v_yX5_put : x_YV yX5_put cX5_put 4 none 3 := ⟨⟨(x_gin (List.mem_append_right _ (tb_3 _ (List.mem_of_getElem? (i := 163) rfl))) rfl), (x_gin (List.mem_append_right _ (tb_1 _ (List.mem_of_getElem? (i := 3) rfl))) rfl), by decide +kernel, by decide⟩, (x_gin (List.mem_append_right _ (tb_3 _ (List.mem_of_getElem? (i := 162) rfl))) rfl), (x_gin (List.mem_append_left _ (List.mem_of_getElem? (i := 9) rfl)) rfl)⟩
set_option maxRecDepth 100000 in
theorem s_yX5_isDigit : x_YS yX5_isDigit cX5_isDigit 1 (some .boolean) 1 := ⟨⟨(x_gin (List.mem_append_right _ (tb_3 _ (List.mem_of_getElem? (i := 166) rfl))) rfl), (x_gin (List.mem_append_right _ (tb_1 _ (List.mem_of_getElem? (i := 3) rfl))) rfl), by decide +kernel, by decide⟩, (x_gin (List.mem_append_right _ (tb_3 _ (List.mem_of_getElem? (i := 165) rfl))) rfl)⟩
set_option maxRecDepth 100000 in
theorem s_yX5_numberOf : x_YS yX5_numberOf cX5_numberOf 5 (some .int) 3 := ⟨⟨(x_gin (List.mem_append_right _ (tb_3 _ (List.mem_of_getElem? (i := 169) rfl))) rfl), (x_gin (List.mem_append_right _ (tb_1 _ (List.mem_of_getElem? (i := 3) rfl))) rfl), by decide +kernel, by decide⟩, (x_gin (List.mem_append_right _ (tb_3 _ (List.mem_of_getElem? (i := 168) rfl))) rfl)⟩
set_option maxRecDepth 100000 in
theorem s_yX8_ofSign : x_YS yX8_ofSign cX8_ofSign 2 (some .int) 1 := ⟨⟨(x_gin (List.mem_append_right _ (tb_3 _ (List.mem_of_getElem? (i := 172) rfl))) rfl), (x_gin (List.mem_append_right _ (tb_1 _ (List.mem_of_getElem? (i := 18) rfl))) rfl), by decide +kernel, by decide⟩, (x_gin (List.mem_append_right _ (tb_3 _ (List.mem_of_getElem? (i := 171) rfl))) rfl)⟩
set_option maxRecDepth 100000 in
theorem v_yJ0_indexOf_0f7a4 : x_YV yJ0_indexOf_0f7a4 cJ0_indexOf_0f7a4 2 (some .int) 1 := ⟨⟨(x_gin (List.mem_append_right _ (tb_3 _ (List.mem_of_getElem? (i := 177) rfl))) rfl), (x_gin (List.mem_append_right _ (tb_1 _ (List.mem_of_getElem? (i := 19) rfl))) rfl), by decide +kernel, by decide⟩, (x_gin (List.mem_append_right _ (tb_3 _ (List.mem_of_getElem? (i := 175) rfl))) rfl), (x_gin (List.mem_append_right _ (tb_3 _ (List.mem_of_getElem? (i := 176) rfl))) rfl)⟩
set_option maxRecDepth 100000 in
theorem v_yJ0_indexOf_7cf53 : x_YV yJ0_indexOf_7cf53 cJ0_indexOf_7cf53 3 (some .int) 2 := ⟨⟨(x_gin (List.mem_append_right _ (tb_3 _ (List.mem_of_getElem? (i := 181) rfl))) rfl), (x_gin (List.mem_append_right _ (tb_1 _ (List.mem_of_getElem? (i := 19) rfl))) rfl), by decide +kernel, by decide⟩, (x_gin (List.mem_append_right _ (tb_3 _ (List.mem_of_getElem? (i := 179) rfl))) rfl), (x_gin (List.mem_append_right _ (tb_3 _ (List.mem_of_getElem? (i := 180) rfl))) rfl)⟩
set_option maxRecDepth 100000 in
theorem s_yJ1_indexOf_4cfef : x_YS yJ1_indexOf_4cfef cJ1_indexOf_4cfef 4 (some .int) 4 := ⟨⟨(x_gin (List.mem_append_right _ (tb_3 _ (List.mem_of_getElem? (i := 185) rfl))) rfl), (x_gin (List.mem_append_right _ (tb_1 _ (List.mem_of_getElem? (i := 20) rfl))) rfl), by decide +kernel, by decide⟩, (x_gin (List.mem_append_right _ (tb_3 _ (List.mem_of_getElem? (i := 184) rfl))) rfl)⟩
set_option maxRecDepth 100000 in
theorem s_yJ1_canEncode_9a6ad : x_YS yJ1_canEncode_9a6ad cJ1_canEncode_9a6ad 1 (some .boolean) 1 := ⟨⟨(x_gin (List.mem_append_right _ (tb_3 _ (List.mem_of_getElem? (i := 188) rfl))) rfl), (x_gin (List.mem_append_right _ (tb_1 _ (List.mem_of_getElem? (i := 20) rfl))) rfl), by decide +kernel, by decide⟩, (x_gin (List.mem_append_right _ (tb_3 _ (List.mem_of_getElem? (i := 187) rfl))) rfl)⟩
set_option maxRecDepth 100000 in
theorem s_yJ9_max_7cf53 : x_YS yJ9_max_7cf53 cJ9_max_7cf53 2 (some .int) 2 := ⟨⟨(x_gin (List.mem_append_right _ (tb_3 _ (List.mem_of_getElem? (i := 191) rfl))) rfl), (x_gin (List.mem_append_right _ (tb_1 _ (List.mem_of_getElem? (i := 23) rfl))) rfl), by decide +kernel, by decide⟩, (x_gin (List.mem_append_right _ (tb_3 _ (List.mem_of_getElem? (i := 190) rfl))) rfl)⟩
set_option maxRecDepth 100000 in
theorem s_yJ9_min_7cf53 : x_YS yJ9_min_7cf53 cJ9_min_7cf53 2 (some .int) 2 := ⟨⟨(x_gin (List.mem_append_right _ (tb_3 _ (List.mem_of_getElem? (i := 194) rfl))) rfl), (x_gin (List.mem_append_right _ (tb_1 _ (List.mem_of_getElem? (i := 23) rfl))) rfl), by decide +kernel, by decide⟩, (x_gin (List.mem_append_right _ (tb_3 _ (List.mem_of_getElem? (i := 193) rfl))) rfl)⟩
set_option maxRecDepth 100000 in
theorem s_yJ1_indexOfChar_4cfef : x_YS yJ1_indexOfChar_4cfef cJ1_indexOfChar_4cfef 6 (some .int) 4 := ⟨⟨(x_gin (List.mem_append_right _ (tb_3 _ (List.mem_of_getElem? (i := 197) rfl))) rfl), (x_gin (List.mem_append_right _ (tb_1 _ (List.mem_of_getElem? (i := 20) rfl))) rfl), by decide +kernel, by decide⟩, (x_gin (List.mem_append_right _ (tb_3 _ (List.mem_of_getElem? (i := 196) rfl))) rfl)⟩
set_option maxRecDepth 100000 in
theorem s_yJ2_indexOf_4cfef : x_YS yJ2_indexOf_4cfef cJ2_indexOf_4cfef 4 (some .int) 4 := ⟨⟨(x_gin (List.mem_append_right _ (tb_3 _ (List.mem_of_getElem? (i := 200) rfl))) rfl), (x_gin (List.mem_append_right _ (tb_1 _ (List.mem_of_getElem? (i := 22) rfl))) rfl), by decide +kernel, by decide⟩, (x_gin (List.mem_append_right _ (tb_3 _ (List.mem_of_getElem? (i := 199) rfl))) rfl)⟩
set_option maxRecDepth 100000 in
theorem s_yJ2_indexOfChar_4cfef : x_YS yJ2_indexOfChar_4cfef cJ2_indexOfChar_4cfef 4 (some .int) 4 := ⟨⟨(x_gin (List.mem_append_right _ (tb_3 _ (List.mem_of_getElem? (i := 206) rfl))) rfl), (x_gin (List.mem_append_right _ (tb_1 _ (List.mem_of_getElem? (i := 22) rfl))) rfl), by decide +kernel, by decide⟩, (x_gin (List.mem_append_right _ (tb_3 _ (List.mem_of_getElem? (i := 205) rfl))) rfl)⟩
set_option maxRecDepth 100000 in
theorem s_yJ2_checkBoundsBeginEnd_d044e : x_YS yJ2_checkBoundsBeginEnd_d044e cJ2_checkBoundsBeginEnd_d044e 3 none 3 := ⟨⟨(x_gin (List.mem_append_right _ (tb_3 _ (List.mem_of_getElem? (i := 209) rfl))) rfl), (x_gin (List.mem_append_right _ (tb_1 _ (List.mem_of_getElem? (i := 22) rfl))) rfl), by decide +kernel, by decide⟩, (x_gin (List.mem_append_right _ (tb_3 _ (List.mem_of_getElem? (i := 208) rfl))) rfl)⟩
set_option maxRecDepth 100000 in
theorem s_yJ0_checkBoundsBeginEnd_23922 : x_YS yJ0_checkBoundsBeginEnd_23922 cJ0_checkBoundsBeginEnd_23922 3 none 3 := ⟨⟨(x_gin (List.mem_append_right _ (tb_3 _ (List.mem_of_getElem? (i := 212) rfl))) rfl), (x_gin (List.mem_append_right _ (tb_1 _ (List.mem_of_getElem? (i := 19) rfl))) rfl), by decide +kernel, by decide⟩, (x_gin (List.mem_append_right _ (tb_3 _ (List.mem_of_getElem? (i := 211) rfl))) rfl)⟩
set_option maxRecDepth 100000 in
theorem s_yJ3_checkFromToIndex_8c36e : x_YS yJ3_checkFromToIndex_8c36e cJ3_checkFromToIndex_8c36e 4 (some .int) 4 := ⟨⟨(x_gin (List.mem_append_right _ (tb_3 _ (List.mem_of_getElem? (i := 215) rfl))) rfl), (x_gin (List.mem_append_right _ (tb_1 _ (List.mem_of_getElem? (i := 21) rfl))) rfl), by decide +kernel, by decide⟩, (x_gin (List.mem_append_right _ (tb_3 _ (List.mem_of_getElem? (i := 214) rfl))) rfl)⟩
set_option maxRecDepth 100000 in
theorem s_yJ2_indexOfCharUnsafe_4cfef : x_YS yJ2_indexOfCharUnsafe_4cfef cJ2_indexOfCharUnsafe_4cfef 5 (some .int) 4 := ⟨⟨(x_gin (List.mem_append_right _ (tb_3 _ (List.mem_of_getElem? (i := 218) rfl))) rfl), (x_gin (List.mem_append_right _ (tb_1 _ (List.mem_of_getElem? (i := 22) rfl))) rfl), by decide +kernel, by decide⟩, (x_gin (List.mem_append_right _ (tb_3 _ (List.mem_of_getElem? (i := 217) rfl))) rfl)⟩
set_option maxRecDepth 100000 in
theorem s_yJ2_indexOfSupplementary_4cfef : x_YS yJ2_indexOfSupplementary_4cfef cJ2_indexOfSupplementary_4cfef 7 (some .int) 4 := ⟨⟨(x_gin (List.mem_append_right _ (tb_3 _ (List.mem_of_getElem? (i := 221) rfl))) rfl), (x_gin (List.mem_append_right _ (tb_1 _ (List.mem_of_getElem? (i := 22) rfl))) rfl), by decide +kernel, by decide⟩, (x_gin (List.mem_append_right _ (tb_3 _ (List.mem_of_getElem? (i := 220) rfl))) rfl)⟩
set_option maxRecDepth 100000 in
theorem s_yJ11_isValidCodePoint_9a6ad : x_YS yJ11_isValidCodePoint_9a6ad cJ11_isValidCodePoint_9a6ad 2 (some .boolean) 1 := ⟨⟨(x_gin (List.mem_append_right _ (tb_3 _ (List.mem_of_getElem? (i := 224) rfl))) rfl), (x_gin (List.mem_append_right _ (tb_1 _ (List.mem_of_getElem? (i := 24) rfl))) rfl), by decide +kernel, by decide⟩, (x_gin (List.mem_append_right _ (tb_3 _ (List.mem_of_getElem? (i := 223) rfl))) rfl)⟩
set_option maxRecDepth 100000 in
theorem s_yJ11_highSurrogate_5068e : x_YS yJ11_highSurrogate_5068e cJ11_highSurrogate_5068e 1 (some .char) 1 := ⟨⟨(x_gin (List.mem_append_right _ (tb_3 _ (List.mem_of_getElem? (i := 227) rfl))) rfl), (x_gin (List.mem_append_right _ (tb_1 _ (List.mem_of_getElem? (i := 24) rfl))) rfl), by decide +kernel, by decide⟩, (x_gin (List.mem_append_right _ (tb_3 _ (List.mem_of_getElem? (i := 226) rfl))) rfl)⟩
set_option maxRecDepth 100000 in
theorem s_yJ11_lowSurrogate_5068e : x_YS yJ11_lowSurrogate_5068e cJ11_lowSurrogate_5068e 1 (some .char) 1 := ⟨⟨(x_gin (List.mem_append_right _ (tb_3 _ (List.mem_of_getElem? (i := 231) rfl))) rfl), (x_gin (List.mem_append_right _ (tb_1 _ (List.mem_of_getElem? (i := 24) rfl))) rfl), by decide +kernel, by decide⟩, (x_gin (List.mem_append_right _ (tb_3 _ (List.mem_of_getElem? (i := 230) rfl))) rfl)⟩
set_option maxRecDepth 100000 in
theorem v_yX2_startAnew : x_YV yX2_startAnew cX2_startAnew 1 none 0 := ⟨⟨(x_gin (List.mem_append_right _ (tb_3 _ (List.mem_of_getElem? (i := 236) rfl))) rfl), (x_gin (List.mem_append_right _ (tb_1 _ (List.mem_of_getElem? (i := 2) rfl))) rfl), by decide +kernel, by decide⟩, (x_gin (List.mem_append_right _ (tb_3 _ (List.mem_of_getElem? (i := 235) rfl))) rfl), (x_gin (List.mem_append_left _ (List.mem_of_getElem? (i := 10) rfl)) rfl)⟩
set_option maxRecDepth 100000 in
theorem v_yX2_token : x_YV yX2_token cX2_token 1 (some .int) 0 := ⟨⟨(x_gin (List.mem_append_right _ (tb_4 _ (List.mem_of_getElem? (i := 0) rfl))) rfl), (x_gin (List.mem_append_right _ (tb_1 _ (List.mem_of_getElem? (i := 2) rfl))) rfl), by decide +kernel, by decide⟩, (x_gin (List.mem_append_right _ (tb_3 _ (List.mem_of_getElem? (i := 239) rfl))) rfl), (x_gin (List.mem_append_left _ (List.mem_of_getElem? (i := 11) rfl)) rfl)⟩
set_option maxRecDepth 100000 in
theorem v_yX2_readRuleLine : x_YV yX2_readRuleLine cX2_readRuleLine 1 (some .boolean) 0 := ⟨⟨(x_gin (List.mem_append_right _ (tb_4 _ (List.mem_of_getElem? (i := 4) rfl))) rfl), (x_gin (List.mem_append_right _ (tb_1 _ (List.mem_of_getElem? (i := 2) rfl))) rfl), by decide +kernel, by decide⟩, (x_gin (List.mem_append_right _ (tb_4 _ (List.mem_of_getElem? (i := 3) rfl))) rfl), (x_gin (List.mem_append_left _ (List.mem_of_getElem? (i := 12) rfl)) rfl)⟩
set_option maxRecDepth 100000 in
theorem v_yX2_readPair : x_YV yX2_readPair cX2_readPair 8 (some .boolean) 5 := ⟨⟨(x_gin (List.mem_append_right _ (tb_4 _ (List.mem_of_getElem? (i := 8) rfl))) rfl), (x_gin (List.mem_append_right _ (tb_1 _ (List.mem_of_getElem? (i := 2) rfl))) rfl), by decide +kernel, by decide⟩, (x_gin (List.mem_append_right _ (tb_4 _ (List.mem_of_getElem? (i := 7) rfl))) rfl), (x_gin (List.mem_append_left _ (List.mem_of_getElem? (i := 13) rfl)) rfl)⟩
set_option maxRecDepth 100000 in
theorem v_yX2_number : x_YV yX2_number cX2_number 4 (some .int) 2 := ⟨⟨(x_gin (List.mem_append_right _ (tb_4 _ (List.mem_of_getElem? (i := 12) rfl))) rfl), (x_gin (List.mem_append_right _ (tb_1 _ (List.mem_of_getElem? (i := 2) rfl))) rfl), by decide +kernel, by decide⟩, (x_gin (List.mem_append_right _ (tb_4 _ (List.mem_of_getElem? (i := 11) rfl))) rfl), (x_gin (List.mem_append_left _ (List.mem_of_getElem? (i := 14) rfl)) rfl)⟩
set_option maxRecDepth 100000 in
theorem v_yX2_pass : x_YV yX2_pass cX2_pass 2 (some .boolean) 1 := ⟨⟨(x_gin (List.mem_append_right _ (tb_4 _ (List.mem_of_getElem? (i := 16) rfl))) rfl), (x_gin (List.mem_append_right _ (tb_1 _ (List.mem_of_getElem? (i := 2) rfl))) rfl), by decide +kernel, by decide⟩, (x_gin (List.mem_append_right _ (tb_4 _ (List.mem_of_getElem? (i := 15) rfl))) rfl), (x_gin (List.mem_append_left _ (List.mem_of_getElem? (i := 15) rfl)) rfl)⟩
set_option maxRecDepth 100000 in
theorem v_yX2_refuse : x_YV yX2_refuse cX2_refuse 1 (some .boolean) 0 := ⟨⟨(x_gin (List.mem_append_right _ (tb_4 _ (List.mem_of_getElem? (i := 20) rfl))) rfl), (x_gin (List.mem_append_right _ (tb_1 _ (List.mem_of_getElem? (i := 2) rfl))) rfl), by decide +kernel, by decide⟩, (x_gin (List.mem_append_right _ (tb_4 _ (List.mem_of_getElem? (i := 19) rfl))) rfl), (x_gin (List.mem_append_left _ (List.mem_of_getElem? (i := 16) rfl)) rfl)⟩
set_option maxRecDepth 100000 in
theorem v_yX2_keepLine : x_YV yX2_keepLine cX2_keepLine 4 (some .boolean) 3 := ⟨⟨(x_gin (List.mem_append_right _ (tb_4 _ (List.mem_of_getElem? (i := 24) rfl))) rfl), (x_gin (List.mem_append_right _ (tb_1 _ (List.mem_of_getElem? (i := 2) rfl))) rfl), by decide +kernel, by decide⟩, (x_gin (List.mem_append_right _ (tb_4 _ (List.mem_of_getElem? (i := 23) rfl))) rfl), (x_gin (List.mem_append_left _ (List.mem_of_getElem? (i := 17) rfl)) rfl)⟩
set_option maxRecDepth 100000 in
theorem v_yX2_readWayLine : x_YV yX2_readWayLine cX2_readWayLine 2 (some .boolean) 0 := ⟨⟨(x_gin (List.mem_append_right _ (tb_4 _ (List.mem_of_getElem? (i := 28) rfl))) rfl), (x_gin (List.mem_append_right _ (tb_1 _ (List.mem_of_getElem? (i := 2) rfl))) rfl), by decide +kernel, by decide⟩, (x_gin (List.mem_append_right _ (tb_4 _ (List.mem_of_getElem? (i := 27) rfl))) rfl), (x_gin (List.mem_append_left _ (List.mem_of_getElem? (i := 18) rfl)) rfl)⟩
set_option maxRecDepth 100000 in
theorem v_yX2_readCondition : x_YV yX2_readCondition cX2_readCondition 6 (some .boolean) 1 := ⟨⟨(x_gin (List.mem_append_right _ (tb_4 _ (List.mem_of_getElem? (i := 32) rfl))) rfl), (x_gin (List.mem_append_right _ (tb_1 _ (List.mem_of_getElem? (i := 2) rfl))) rfl), by decide +kernel, by decide⟩, (x_gin (List.mem_append_right _ (tb_4 _ (List.mem_of_getElem? (i := 31) rfl))) rfl), (x_gin (List.mem_append_left _ (List.mem_of_getElem? (i := 19) rfl)) rfl)⟩
set_option maxRecDepth 100000 in
theorem v_yX2_readAtom : x_YV yX2_readAtom cX2_readAtom 3 (some .boolean) 1 := ⟨⟨(x_gin (List.mem_append_right _ (tb_4 _ (List.mem_of_getElem? (i := 36) rfl))) rfl), (x_gin (List.mem_append_right _ (tb_1 _ (List.mem_of_getElem? (i := 2) rfl))) rfl), by decide +kernel, by decide⟩, (x_gin (List.mem_append_right _ (tb_4 _ (List.mem_of_getElem? (i := 35) rfl))) rfl), (x_gin (List.mem_append_left _ (List.mem_of_getElem? (i := 20) rfl)) rfl)⟩
set_option maxRecDepth 100000 in
theorem v_yX2_keepStep : x_YV yX2_keepStep cX2_keepStep 3 (some .boolean) 2 := ⟨⟨(x_gin (List.mem_append_right _ (tb_4 _ (List.mem_of_getElem? (i := 40) rfl))) rfl), (x_gin (List.mem_append_right _ (tb_1 _ (List.mem_of_getElem? (i := 2) rfl))) rfl), by decide +kernel, by decide⟩, (x_gin (List.mem_append_right _ (tb_4 _ (List.mem_of_getElem? (i := 39) rfl))) rfl), (x_gin (List.mem_append_left _ (List.mem_of_getElem? (i := 21) rfl)) rfl)⟩
set_option maxRecDepth 100000 in
theorem v_yX2_readComparison : x_YV yX2_readComparison cX2_readComparison 2 (some .boolean) 0 := ⟨⟨(x_gin (List.mem_append_right _ (tb_4 _ (List.mem_of_getElem? (i := 44) rfl))) rfl), (x_gin (List.mem_append_right _ (tb_1 _ (List.mem_of_getElem? (i := 2) rfl))) rfl), by decide +kernel, by decide⟩, (x_gin (List.mem_append_right _ (tb_4 _ (List.mem_of_getElem? (i := 43) rfl))) rfl), (x_gin (List.mem_append_left _ (List.mem_of_getElem? (i := 22) rfl)) rfl)⟩
set_option maxRecDepth 100000 in
theorem v_yX2_readSum : x_YV yX2_readSum cX2_readSum 4 (some .boolean) 0 := ⟨⟨(x_gin (List.mem_append_right _ (tb_4 _ (List.mem_of_getElem? (i := 48) rfl))) rfl), (x_gin (List.mem_append_right _ (tb_1 _ (List.mem_of_getElem? (i := 2) rfl))) rfl), by decide +kernel, by decide⟩, (x_gin (List.mem_append_right _ (tb_4 _ (List.mem_of_getElem? (i := 47) rfl))) rfl), (x_gin (List.mem_append_left _ (List.mem_of_getElem? (i := 23) rfl)) rfl)⟩
set_option maxRecDepth 100000 in
theorem v_yX2_ruleRead : x_YV yX2_ruleRead cX2_ruleRead 1 (some (.object "DarkSitting$Rule")) 0 := ⟨⟨(x_gin (List.mem_append_right _ (tb_4 _ (List.mem_of_getElem? (i := 52) rfl))) rfl), (x_gin (List.mem_append_right _ (tb_1 _ (List.mem_of_getElem? (i := 2) rfl))) rfl), by decide +kernel, by decide⟩, (x_gin (List.mem_append_right _ (tb_4 _ (List.mem_of_getElem? (i := 50) rfl))) rfl), (x_gin (List.mem_append_right _ (tb_4 _ (List.mem_of_getElem? (i := 51) rfl))) rfl)⟩
set_option maxRecDepth 100000 in
theorem s_yJ7_copyOf_59c91 : x_YS yJ7_copyOf_59c91 cJ7_copyOf_59c91 3 (some (.array .int)) 2 := ⟨⟨(x_gin (List.mem_append_right _ (tb_4 _ (List.mem_of_getElem? (i := 56) rfl))) rfl), (x_gin (List.mem_append_right _ (tb_1 _ (List.mem_of_getElem? (i := 17) rfl))) rfl), by decide +kernel, by decide⟩, (x_gin (List.mem_append_right _ (tb_4 _ (List.mem_of_getElem? (i := 55) rfl))) rfl)⟩
set_option maxRecDepth 100000 in
theorem v_yX0_addRule : x_YV yX0_addRule cX0_addRule 2 (some .int) 1 := ⟨⟨(x_gin (List.mem_append_right _ (tb_4 _ (List.mem_of_getElem? (i := 72) rfl))) rfl), (x_gin (List.mem_append_right _ (tb_1 _ (List.mem_of_getElem? (i := 4) rfl))) rfl), by decide +kernel, by decide⟩, (x_gin (List.mem_append_right _ (tb_4 _ (List.mem_of_getElem? (i := 70) rfl))) rfl), (x_gin (List.mem_append_right _ (tb_4 _ (List.mem_of_getElem? (i := 71) rfl))) rfl)⟩
set_option maxRecDepth 100000 in
theorem v_yX10_way : x_YV yX10_way cX10_way 2 (some .int) 0 := ⟨⟨(x_gin (List.mem_append_right _ (tb_4 _ (List.mem_of_getElem? (i := 79) rfl))) rfl), (x_gin (List.mem_append_right _ (tb_1 _ (List.mem_of_getElem? (i := 1) rfl))) rfl), by decide +kernel, by decide⟩, (x_gin (List.mem_append_right _ (tb_4 _ (List.mem_of_getElem? (i := 77) rfl))) rfl), (x_gin (List.mem_append_right _ (tb_4 _ (List.mem_of_getElem? (i := 78) rfl))) rfl)⟩
set_option maxRecDepth 100000 in
theorem v_yX2_wayRead : x_YV yX2_wayRead cX2_wayRead 1 (some (.object "DarkSitting$Way")) 0 := ⟨⟨(x_gin (List.mem_append_right _ (tb_4 _ (List.mem_of_getElem? (i := 83) rfl))) rfl), (x_gin (List.mem_append_right _ (tb_1 _ (List.mem_of_getElem? (i := 2) rfl))) rfl), by decide +kernel, by decide⟩, (x_gin (List.mem_append_right _ (tb_4 _ (List.mem_of_getElem? (i := 81) rfl))) rfl), (x_gin (List.mem_append_right _ (tb_4 _ (List.mem_of_getElem? (i := 82) rfl))) rfl)⟩
set_option maxRecDepth 100000 in
theorem v_yX0_addWay : x_YV yX0_addWay cX0_addWay 2 (some .int) 1 := ⟨⟨(x_gin (List.mem_append_right _ (tb_4 _ (List.mem_of_getElem? (i := 89) rfl))) rfl), (x_gin (List.mem_append_right _ (tb_1 _ (List.mem_of_getElem? (i := 4) rfl))) rfl), by decide +kernel, by decide⟩, (x_gin (List.mem_append_right _ (tb_4 _ (List.mem_of_getElem? (i := 87) rfl))) rfl), (x_gin (List.mem_append_right _ (tb_4 _ (List.mem_of_getElem? (i := 88) rfl))) rfl)⟩
set_option maxRecDepth 100000 in
theorem v_yX10_thing : x_YV yX10_thing cX10_thing 4 (some .int) 3 := ⟨⟨(x_gin (List.mem_append_right _ (tb_4 _ (List.mem_of_getElem? (i := 96) rfl))) rfl), (x_gin (List.mem_append_right _ (tb_1 _ (List.mem_of_getElem? (i := 1) rfl))) rfl), by decide +kernel, by decide⟩, (x_gin (List.mem_append_right _ (tb_4 _ (List.mem_of_getElem? (i := 94) rfl))) rfl), (x_gin (List.mem_append_right _ (tb_4 _ (List.mem_of_getElem? (i := 95) rfl))) rfl)⟩
set_option maxRecDepth 100000 in
theorem v_yX10_look : x_YV yX10_look cX10_look 4 (some .int) 2 := ⟨⟨(x_gin (List.mem_append_right _ (tb_4 _ (List.mem_of_getElem? (i := 105) rfl))) rfl), (x_gin (List.mem_append_right _ (tb_1 _ (List.mem_of_getElem? (i := 1) rfl))) rfl), by decide +kernel, by decide⟩, (x_gin (List.mem_append_right _ (tb_4 _ (List.mem_of_getElem? (i := 103) rfl))) rfl), (x_gin (List.mem_append_right _ (tb_4 _ (List.mem_of_getElem? (i := 104) rfl))) rfl)⟩
set_option maxRecDepth 100000 in
theorem s_yX10_demandRow : x_YS yX10_demandRow cX10_demandRow 2 none 2 := ⟨⟨(x_gin (List.mem_append_right _ (tb_4 _ (List.mem_of_getElem? (i := 108) rfl))) rfl), (x_gin (List.mem_append_right _ (tb_1 _ (List.mem_of_getElem? (i := 1) rfl))) rfl), by decide +kernel, by decide⟩, (x_gin (List.mem_append_right _ (tb_4 _ (List.mem_of_getElem? (i := 107) rfl))) rfl)⟩
set_option maxRecDepth 100000 in
theorem s_yX10_demandWhat : x_YS yX10_demandWhat cX10_demandWhat 2 none 2 := ⟨⟨(x_gin (List.mem_append_right _ (tb_4 _ (List.mem_of_getElem? (i := 127) rfl))) rfl), (x_gin (List.mem_append_right _ (tb_1 _ (List.mem_of_getElem? (i := 1) rfl))) rfl), by decide +kernel, by decide⟩, (x_gin (List.mem_append_right _ (tb_4 _ (List.mem_of_getElem? (i := 126) rfl))) rfl)⟩
set_option maxRecDepth 100000 in
theorem v_yX6_settle : x_YV yX6_settle cX6_settle 6 none 3 := ⟨⟨(x_gin (List.mem_append_right _ (tb_4 _ (List.mem_of_getElem? (i := 147) rfl))) rfl), (x_gin (List.mem_append_right _ (tb_1 _ (List.mem_of_getElem? (i := 9) rfl))) rfl), by decide +kernel, by decide⟩, (x_gin (List.mem_append_right _ (tb_4 _ (List.mem_of_getElem? (i := 145) rfl))) rfl), (x_gin (List.mem_append_right _ (tb_4 _ (List.mem_of_getElem? (i := 146) rfl))) rfl)⟩
set_option maxRecDepth 100000 in
theorem v_yX4_lineCount : x_YV yX4_lineCount cX4_lineCount 1 (some .int) 0 := ⟨⟨(x_gin (List.mem_append_right _ (tb_4 _ (List.mem_of_getElem? (i := 152) rfl))) rfl), (x_gin (List.mem_append_right _ (tb_1 _ (List.mem_of_getElem? (i := 6) rfl))) rfl), by decide +kernel, by decide⟩, (x_gin (List.mem_append_right _ (tb_4 _ (List.mem_of_getElem? (i := 150) rfl))) rfl), (x_gin (List.mem_append_right _ (tb_4 _ (List.mem_of_getElem? (i := 151) rfl))) rfl)⟩
set_option maxRecDepth 100000 in
theorem v_yX6_settleLine : x_YV yX6_settleLine cX6_settleLine 6 none 4 := ⟨⟨(x_gin (List.mem_append_right _ (tb_4 _ (List.mem_of_getElem? (i := 156) rfl))) rfl), (x_gin (List.mem_append_right _ (tb_1 _ (List.mem_of_getElem? (i := 9) rfl))) rfl), by decide +kernel, by decide⟩, (x_gin (List.mem_append_right _ (tb_4 _ (List.mem_of_getElem? (i := 155) rfl))) rfl), (x_gin (List.mem_append_left _ (List.mem_of_getElem? (i := 24) rfl)) rfl)⟩
set_option maxRecDepth 100000 in
theorem v_yX6_litSeconds : x_YV yX6_litSeconds cX6_litSeconds 3 (some .int) 0 := ⟨⟨(x_gin (List.mem_append_right _ (tb_4 _ (List.mem_of_getElem? (i := 161) rfl))) rfl), (x_gin (List.mem_append_right _ (tb_1 _ (List.mem_of_getElem? (i := 9) rfl))) rfl), by decide +kernel, by decide⟩, (x_gin (List.mem_append_right _ (tb_4 _ (List.mem_of_getElem? (i := 159) rfl))) rfl), (x_gin (List.mem_append_right _ (tb_4 _ (List.mem_of_getElem? (i := 160) rfl))) rfl)⟩
set_option maxRecDepth 100000 in
theorem v_yX10_needs : x_YV yX10_needs cX10_needs 6 (some .boolean) 5 := ⟨⟨(x_gin (List.mem_append_right _ (tb_4 _ (List.mem_of_getElem? (i := 169) rfl))) rfl), (x_gin (List.mem_append_right _ (tb_1 _ (List.mem_of_getElem? (i := 1) rfl))) rfl), by decide +kernel, by decide⟩, (x_gin (List.mem_append_right _ (tb_4 _ (List.mem_of_getElem? (i := 167) rfl))) rfl), (x_gin (List.mem_append_right _ (tb_4 _ (List.mem_of_getElem? (i := 168) rfl))) rfl)⟩
set_option maxRecDepth 100000 in
theorem v_yX6_setsThatMeet : x_YV yX6_setsThatMeet cX6_setsThatMeet 15 (some .int) 3 := ⟨⟨(x_gin (List.mem_append_right _ (tb_4 _ (List.mem_of_getElem? (i := 173) rfl))) rfl), (x_gin (List.mem_append_right _ (tb_1 _ (List.mem_of_getElem? (i := 9) rfl))) rfl), by decide +kernel, by decide⟩, (x_gin (List.mem_append_right _ (tb_4 _ (List.mem_of_getElem? (i := 171) rfl))) rfl), (x_gin (List.mem_append_right _ (tb_4 _ (List.mem_of_getElem? (i := 172) rfl))) rfl)⟩
set_option maxRecDepth 100000 in
theorem v_yX6_setsAboveZero : x_YV yX6_setsAboveZero cX6_setsAboveZero 8 (some .int) 4 := ⟨⟨(x_gin (List.mem_append_right _ (tb_4 _ (List.mem_of_getElem? (i := 179) rfl))) rfl), (x_gin (List.mem_append_right _ (tb_1 _ (List.mem_of_getElem? (i := 9) rfl))) rfl), by decide +kernel, by decide⟩, (x_gin (List.mem_append_right _ (tb_4 _ (List.mem_of_getElem? (i := 178) rfl))) rfl), (x_gin (List.mem_append_left _ (List.mem_of_getElem? (i := 25) rfl)) rfl)⟩
set_option maxRecDepth 100000 in
theorem s_yX6_secondsToTurn : x_YS yX6_secondsToTurn cX6_secondsToTurn 2 (some .int) 2 := ⟨⟨(x_gin (List.mem_append_right _ (tb_4 _ (List.mem_of_getElem? (i := 184) rfl))) rfl), (x_gin (List.mem_append_right _ (tb_1 _ (List.mem_of_getElem? (i := 9) rfl))) rfl), by decide +kernel, by decide⟩, (x_gin (List.mem_append_right _ (tb_4 _ (List.mem_of_getElem? (i := 183) rfl))) rfl)⟩
set_option maxRecDepth 100000 in
theorem s_yX6_isTag : x_YS yX6_isTag cX6_isTag 1 (some .boolean) 1 := ⟨⟨(x_gin (List.mem_append_right _ (tb_4 _ (List.mem_of_getElem? (i := 188) rfl))) rfl), (x_gin (List.mem_append_right _ (tb_1 _ (List.mem_of_getElem? (i := 9) rfl))) rfl), by decide +kernel, by decide⟩, (x_gin (List.mem_append_right _ (tb_4 _ (List.mem_of_getElem? (i := 187) rfl))) rfl)⟩
set_option maxRecDepth 100000 in
theorem v_yX6_setsOfTag : x_YV yX6_setsOfTag cX6_setsOfTag 5 (some .int) 3 := ⟨⟨(x_gin (List.mem_append_right _ (tb_4 _ (List.mem_of_getElem? (i := 192) rfl))) rfl), (x_gin (List.mem_append_right _ (tb_1 _ (List.mem_of_getElem? (i := 9) rfl))) rfl), by decide +kernel, by decide⟩, (x_gin (List.mem_append_right _ (tb_4 _ (List.mem_of_getElem? (i := 191) rfl))) rfl), (x_gin (List.mem_append_left _ (List.mem_of_getElem? (i := 26) rfl)) rfl)⟩
set_option maxRecDepth 100000 in
theorem v_yX6_litTurns : x_YV yX6_litTurns cX6_litTurns 3 (some .int) 1 := ⟨⟨(x_gin (List.mem_append_right _ (tb_4 _ (List.mem_of_getElem? (i := 198) rfl))) rfl), (x_gin (List.mem_append_right _ (tb_1 _ (List.mem_of_getElem? (i := 9) rfl))) rfl), by decide +kernel, by decide⟩, (x_gin (List.mem_append_right _ (tb_4 _ (List.mem_of_getElem? (i := 197) rfl))) rfl), (x_gin (List.mem_append_left _ (List.mem_of_getElem? (i := 27) rfl)) rfl)⟩
set_option maxRecDepth 100000 in
theorem v_yX6_partOf : x_YV yX6_partOf cX6_partOf 4 (some .int) 3 := ⟨⟨(x_gin (List.mem_append_right _ (tb_4 _ (List.mem_of_getElem? (i := 203) rfl))) rfl), (x_gin (List.mem_append_right _ (tb_1 _ (List.mem_of_getElem? (i := 9) rfl))) rfl), by decide +kernel, by decide⟩, (x_gin (List.mem_append_right _ (tb_4 _ (List.mem_of_getElem? (i := 202) rfl))) rfl), (x_gin (List.mem_append_left _ (List.mem_of_getElem? (i := 28) rfl)) rfl)⟩
set_option maxRecDepth 100000 in
theorem v_yX10_note : x_YV yX10_note cX10_note 3 (some .int) 2 := ⟨⟨(x_gin (List.mem_append_right _ (tb_4 _ (List.mem_of_getElem? (i := 211) rfl))) rfl), (x_gin (List.mem_append_right _ (tb_1 _ (List.mem_of_getElem? (i := 1) rfl))) rfl), by decide +kernel, by decide⟩, (x_gin (List.mem_append_right _ (tb_4 _ (List.mem_of_getElem? (i := 209) rfl))) rfl), (x_gin (List.mem_append_right _ (tb_4 _ (List.mem_of_getElem? (i := 210) rfl))) rfl)⟩
set_option maxRecDepth 100000 in
theorem v_yX10_can : x_YV yX10_can cX10_can 4 (some .boolean) 3 := ⟨⟨(x_gin (List.mem_append_right _ (tb_4 _ (List.mem_of_getElem? (i := 218) rfl))) rfl), (x_gin (List.mem_append_right _ (tb_1 _ (List.mem_of_getElem? (i := 1) rfl))) rfl), by decide +kernel, by decide⟩, (x_gin (List.mem_append_right _ (tb_4 _ (List.mem_of_getElem? (i := 216) rfl))) rfl), (x_gin (List.mem_append_right _ (tb_4 _ (List.mem_of_getElem? (i := 217) rfl))) rfl)⟩
set_option maxRecDepth 100000 in
theorem v_yX1_prepare : x_YV yX1_prepare cX1_prepare 10 none 4 := ⟨⟨(x_gin (List.mem_append_right _ (tb_4 _ (List.mem_of_getElem? (i := 222) rfl))) rfl), (x_gin (List.mem_append_right _ (tb_1 _ (List.mem_of_getElem? (i := 8) rfl))) rfl), by decide +kernel, by decide⟩, (x_gin (List.mem_append_right _ (tb_4 _ (List.mem_of_getElem? (i := 220) rfl))) rfl), (x_gin (List.mem_append_right _ (tb_4 _ (List.mem_of_getElem? (i := 221) rfl))) rfl)⟩
set_option maxRecDepth 100000 in
theorem v_yX1_allowUnseen : x_YV yX1_allowUnseen cX1_allowUnseen 3 none 0 := ⟨⟨(x_gin (List.mem_append_right _ (tb_4 _ (List.mem_of_getElem? (i := 227) rfl))) rfl), (x_gin (List.mem_append_right _ (tb_1 _ (List.mem_of_getElem? (i := 8) rfl))) rfl), by decide +kernel, by decide⟩, (x_gin (List.mem_append_right _ (tb_4 _ (List.mem_of_getElem? (i := 226) rfl))) rfl), (x_gin (List.mem_append_left _ (List.mem_of_getElem? (i := 29) rfl)) rfl)⟩
set_option maxRecDepth 100000 in
theorem v_yX9_setsItChanges : x_YV yX9_setsItChanges cX9_setsItChanges 3 (some .int) 0 := ⟨⟨(x_gin (List.mem_append_right _ (tb_4 _ (List.mem_of_getElem? (i := 233) rfl))) rfl), (x_gin (List.mem_append_right _ (tb_1 _ (List.mem_of_getElem? (i := 7) rfl))) rfl), by decide +kernel, by decide⟩, (x_gin (List.mem_append_right _ (tb_4 _ (List.mem_of_getElem? (i := 231) rfl))) rfl), (x_gin (List.mem_append_right _ (tb_4 _ (List.mem_of_getElem? (i := 232) rfl))) rfl)⟩
set_option maxRecDepth 100000 in
theorem v_yX1_bringsAllNotes : x_YV yX1_bringsAllNotes cX1_bringsAllNotes 4 (some .boolean) 1 := ⟨⟨(x_gin (List.mem_append_right _ (tb_5 _ (List.mem_of_getElem? (i := 1) rfl))) rfl), (x_gin (List.mem_append_right _ (tb_1 _ (List.mem_of_getElem? (i := 8) rfl))) rfl), by decide +kernel, by decide⟩, (x_gin (List.mem_append_right _ (tb_4 _ (List.mem_of_getElem? (i := 239) rfl))) rfl), (x_gin (List.mem_append_right _ (tb_5 _ (List.mem_of_getElem? (i := 0) rfl))) rfl)⟩
set_option maxRecDepth 100000 in
theorem v_yX0_setsFor : x_YV yX0_setsFor cX0_setsFor 4 (some .int) 2 := ⟨⟨(x_gin (List.mem_append_right _ (tb_5 _ (List.mem_of_getElem? (i := 6) rfl))) rfl), (x_gin (List.mem_append_right _ (tb_1 _ (List.mem_of_getElem? (i := 4) rfl))) rfl), by decide +kernel, by decide⟩, (x_gin (List.mem_append_right _ (tb_5 _ (List.mem_of_getElem? (i := 4) rfl))) rfl), (x_gin (List.mem_append_right _ (tb_5 _ (List.mem_of_getElem? (i := 5) rfl))) rfl)⟩
set_option maxRecDepth 100000 in
theorem v_yX0_greatestReach : x_YV yX0_greatestReach cX0_greatestReach 4 (some .int) 1 := ⟨⟨(x_gin (List.mem_append_right _ (tb_5 _ (List.mem_of_getElem? (i := 11) rfl))) rfl), (x_gin (List.mem_append_right _ (tb_1 _ (List.mem_of_getElem? (i := 4) rfl))) rfl), by decide +kernel, by decide⟩, (x_gin (List.mem_append_right _ (tb_5 _ (List.mem_of_getElem? (i := 10) rfl))) rfl), (x_gin (List.mem_append_left _ (List.mem_of_getElem? (i := 30) rfl)) rfl)⟩
set_option maxRecDepth 100000 in
theorem v_yX1_walk : x_YV yX1_walk cX1_walk 5 none 1 := ⟨⟨(x_gin (List.mem_append_right _ (tb_5 _ (List.mem_of_getElem? (i := 21) rfl))) rfl), (x_gin (List.mem_append_right _ (tb_1 _ (List.mem_of_getElem? (i := 8) rfl))) rfl), by decide +kernel, by decide⟩, (x_gin (List.mem_append_right _ (tb_5 _ (List.mem_of_getElem? (i := 19) rfl))) rfl), (x_gin (List.mem_append_right _ (tb_5 _ (List.mem_of_getElem? (i := 20) rfl))) rfl)⟩
set_option maxRecDepth 100000 in
theorem s_yX1_withAllTheirParts : x_YS yX1_withAllTheirParts cX1_withAllTheirParts 3 (some .int) 1 := ⟨⟨(x_gin (List.mem_append_right _ (tb_5 _ (List.mem_of_getElem? (i := 24) rfl))) rfl), (x_gin (List.mem_append_right _ (tb_1 _ (List.mem_of_getElem? (i := 8) rfl))) rfl), by decide +kernel, by decide⟩, (x_gin (List.mem_append_right _ (tb_5 _ (List.mem_of_getElem? (i := 23) rfl))) rfl)⟩
set_option maxRecDepth 100000 in
theorem v_yX1_freedBehind : x_YV yX1_freedBehind cX1_freedBehind 5 (some .int) 2 := ⟨⟨(x_gin (List.mem_append_right _ (tb_5 _ (List.mem_of_getElem? (i := 29) rfl))) rfl), (x_gin (List.mem_append_right _ (tb_1 _ (List.mem_of_getElem? (i := 8) rfl))) rfl), by decide +kernel, by decide⟩, (x_gin (List.mem_append_right _ (tb_5 _ (List.mem_of_getElem? (i := 28) rfl))) rfl), (x_gin (List.mem_append_left _ (List.mem_of_getElem? (i := 31) rfl)) rfl)⟩
set_option maxRecDepth 100000 in
theorem v_yX1_goneThrough : x_YV yX1_goneThrough cX1_goneThrough 8 (some .int) 3 := ⟨⟨(x_gin (List.mem_append_right _ (tb_5 _ (List.mem_of_getElem? (i := 34) rfl))) rfl), (x_gin (List.mem_append_right _ (tb_1 _ (List.mem_of_getElem? (i := 8) rfl))) rfl), by decide +kernel, by decide⟩, (x_gin (List.mem_append_right _ (tb_5 _ (List.mem_of_getElem? (i := 33) rfl))) rfl), (x_gin (List.mem_append_left _ (List.mem_of_getElem? (i := 32) rfl)) rfl)⟩
set_option maxRecDepth 100000 in
theorem v_yX9_freed : x_YV yX9_freed cX9_freed 5 (some .int) 1 := ⟨⟨(x_gin (List.mem_append_right _ (tb_5 _ (List.mem_of_getElem? (i := 38) rfl))) rfl), (x_gin (List.mem_append_right _ (tb_1 _ (List.mem_of_getElem? (i := 7) rfl))) rfl), by decide +kernel, by decide⟩, (x_gin (List.mem_append_right _ (tb_5 _ (List.mem_of_getElem? (i := 36) rfl))) rfl), (x_gin (List.mem_append_right _ (tb_5 _ (List.mem_of_getElem? (i := 37) rfl))) rfl)⟩
set_option maxRecDepth 100000 in
theorem v_yX10_fewest : x_YV yX10_fewest cX10_fewest 6 (some .int) 2 := ⟨⟨(x_gin (List.mem_append_right _ (tb_5 _ (List.mem_of_getElem? (i := 45) rfl))) rfl), (x_gin (List.mem_append_right _ (tb_1 _ (List.mem_of_getElem? (i := 1) rfl))) rfl), by decide +kernel, by decide⟩, (x_gin (List.mem_append_right _ (tb_5 _ (List.mem_of_getElem? (i := 43) rfl))) rfl), (x_gin (List.mem_append_right _ (tb_5 _ (List.mem_of_getElem? (i := 44) rfl))) rfl)⟩
set_option maxRecDepth 100000 in
theorem v_yX0_allWays : x_YV yX0_allWays cX0_allWays 1 (some .int) 0 := ⟨⟨(x_gin (List.mem_append_right _ (tb_5 _ (List.mem_of_getElem? (i := 49) rfl))) rfl), (x_gin (List.mem_append_right _ (tb_1 _ (List.mem_of_getElem? (i := 4) rfl))) rfl), by decide +kernel, by decide⟩, (x_gin (List.mem_append_right _ (tb_5 _ (List.mem_of_getElem? (i := 47) rfl))) rfl), (x_gin (List.mem_append_right _ (tb_5 _ (List.mem_of_getElem? (i := 48) rfl))) rfl)⟩
set_option maxRecDepth 100000 in
theorem s_yJ6_bitCount_0f7a4 : x_YS yJ6_bitCount_0f7a4 cJ6_bitCount_0f7a4 1 (some .int) 1 := ⟨⟨(x_gin (List.mem_append_right _ (tb_5 _ (List.mem_of_getElem? (i := 53) rfl))) rfl), (x_gin (List.mem_append_right _ (tb_1 _ (List.mem_of_getElem? (i := 28) rfl))) rfl), by decide +kernel, by decide⟩, (x_gin (List.mem_append_right _ (tb_5 _ (List.mem_of_getElem? (i := 52) rfl))) rfl)⟩
set_option maxRecDepth 100000 in
theorem v_yX10_earliest : x_YV yX10_earliest cX10_earliest 5 (some .int) 4 := ⟨⟨(x_gin (List.mem_append_right _ (tb_5 _ (List.mem_of_getElem? (i := 63) rfl))) rfl), (x_gin (List.mem_append_right _ (tb_1 _ (List.mem_of_getElem? (i := 1) rfl))) rfl), by decide +kernel, by decide⟩, (x_gin (List.mem_append_right _ (tb_5 _ (List.mem_of_getElem? (i := 61) rfl))) rfl), (x_gin (List.mem_append_right _ (tb_5 _ (List.mem_of_getElem? (i := 62) rfl))) rfl)⟩
set_option maxRecDepth 100000 in
theorem v_yX1_firstSecondOf : x_YV yX1_firstSecondOf cX1_firstSecondOf 3 (some .int) 1 := ⟨⟨(x_gin (List.mem_append_right _ (tb_5 _ (List.mem_of_getElem? (i := 69) rfl))) rfl), (x_gin (List.mem_append_right _ (tb_1 _ (List.mem_of_getElem? (i := 8) rfl))) rfl), by decide +kernel, by decide⟩, (x_gin (List.mem_append_right _ (tb_5 _ (List.mem_of_getElem? (i := 67) rfl))) rfl), (x_gin (List.mem_append_right _ (tb_5 _ (List.mem_of_getElem? (i := 68) rfl))) rfl)⟩
set_option maxRecDepth 100000 in
theorem v_yX10_may : x_YV yX10_may cX10_may 5 (some .int) 4 := ⟨⟨(x_gin (List.mem_append_right _ (tb_5 _ (List.mem_of_getElem? (i := 76) rfl))) rfl), (x_gin (List.mem_append_right _ (tb_1 _ (List.mem_of_getElem? (i := 1) rfl))) rfl), by decide +kernel, by decide⟩, (x_gin (List.mem_append_right _ (tb_5 _ (List.mem_of_getElem? (i := 74) rfl))) rfl), (x_gin (List.mem_append_right _ (tb_5 _ (List.mem_of_getElem? (i := 75) rfl))) rfl)⟩
set_option maxRecDepth 100000 in
theorem v_yX1_limbsAt : x_YV yX1_limbsAt cX1_limbsAt 4 (some .int) 1 := ⟨⟨(x_gin (List.mem_append_right _ (tb_5 _ (List.mem_of_getElem? (i := 80) rfl))) rfl), (x_gin (List.mem_append_right _ (tb_1 _ (List.mem_of_getElem? (i := 8) rfl))) rfl), by decide +kernel, by decide⟩, (x_gin (List.mem_append_right _ (tb_5 _ (List.mem_of_getElem? (i := 78) rfl))) rfl), (x_gin (List.mem_append_right _ (tb_5 _ (List.mem_of_getElem? (i := 79) rfl))) rfl)⟩
set_option maxRecDepth 100000 in
theorem v_yX10_shut : x_YV yX10_shut cX10_shut 4 (some .int) 1 := ⟨⟨(x_gin (List.mem_append_right _ (tb_5 _ (List.mem_of_getElem? (i := 87) rfl))) rfl), (x_gin (List.mem_append_right _ (tb_1 _ (List.mem_of_getElem? (i := 1) rfl))) rfl), by decide +kernel, by decide⟩, (x_gin (List.mem_append_right _ (tb_5 _ (List.mem_of_getElem? (i := 85) rfl))) rfl), (x_gin (List.mem_append_right _ (tb_5 _ (List.mem_of_getElem? (i := 86) rfl))) rfl)⟩
set_option maxRecDepth 100000 in
theorem v_yX1_canEver : x_YV yX1_canEver cX1_canEver 8 (some .boolean) 4 := ⟨⟨(x_gin (List.mem_append_right _ (tb_5 _ (List.mem_of_getElem? (i := 91) rfl))) rfl), (x_gin (List.mem_append_right _ (tb_1 _ (List.mem_of_getElem? (i := 8) rfl))) rfl), by decide +kernel, by decide⟩, (x_gin (List.mem_append_right _ (tb_5 _ (List.mem_of_getElem? (i := 89) rfl))) rfl), (x_gin (List.mem_append_right _ (tb_5 _ (List.mem_of_getElem? (i := 90) rfl))) rfl)⟩
set_option maxRecDepth 100000 in
theorem v_yX10_opens : x_YV yX10_opens cX10_opens 6 (some .int) 2 := ⟨⟨(x_gin (List.mem_append_right _ (tb_5 _ (List.mem_of_getElem? (i := 100) rfl))) rfl), (x_gin (List.mem_append_right _ (tb_1 _ (List.mem_of_getElem? (i := 1) rfl))) rfl), by decide +kernel, by decide⟩, (x_gin (List.mem_append_right _ (tb_5 _ (List.mem_of_getElem? (i := 98) rfl))) rfl), (x_gin (List.mem_append_right _ (tb_5 _ (List.mem_of_getElem? (i := 99) rfl))) rfl)⟩
set_option maxRecDepth 100000 in
theorem v_yX10_trap : x_YV yX10_trap cX10_trap 4 (some .int) 3 := ⟨⟨(x_gin (List.mem_append_right _ (tb_5 _ (List.mem_of_getElem? (i := 107) rfl))) rfl), (x_gin (List.mem_append_right _ (tb_1 _ (List.mem_of_getElem? (i := 1) rfl))) rfl), by decide +kernel, by decide⟩, (x_gin (List.mem_append_right _ (tb_5 _ (List.mem_of_getElem? (i := 105) rfl))) rfl), (x_gin (List.mem_append_right _ (tb_5 _ (List.mem_of_getElem? (i := 106) rfl))) rfl)⟩
set_option maxRecDepth 100000 in
theorem v_yX10_story : x_YV yX10_story cX10_story 4 (some .int) 3 := ⟨⟨(x_gin (List.mem_append_right _ (tb_5 _ (List.mem_of_getElem? (i := 114) rfl))) rfl), (x_gin (List.mem_append_right _ (tb_1 _ (List.mem_of_getElem? (i := 1) rfl))) rfl), by decide +kernel, by decide⟩, (x_gin (List.mem_append_right _ (tb_5 _ (List.mem_of_getElem? (i := 112) rfl))) rfl), (x_gin (List.mem_append_right _ (tb_5 _ (List.mem_of_getElem? (i := 113) rfl))) rfl)⟩
set_option maxRecDepth 100000 in
theorem v_yX10_night : x_YV yX10_night cX10_night 6 (some .int) 5 := ⟨⟨(x_gin (List.mem_append_right _ (tb_5 _ (List.mem_of_getElem? (i := 121) rfl))) rfl), (x_gin (List.mem_append_right _ (tb_1 _ (List.mem_of_getElem? (i := 1) rfl))) rfl), by decide +kernel, by decide⟩, (x_gin (List.mem_append_right _ (tb_5 _ (List.mem_of_getElem? (i := 119) rfl))) rfl), (x_gin (List.mem_append_right _ (tb_5 _ (List.mem_of_getElem? (i := 120) rfl))) rfl)⟩
set_option maxRecDepth 100000 in
theorem s_yX10_isOfFirst : x_YS yX10_isOfFirst cX10_isOfFirst 2 (some .boolean) 2 := ⟨⟨(x_gin (List.mem_append_right _ (tb_5 _ (List.mem_of_getElem? (i := 124) rfl))) rfl), (x_gin (List.mem_append_right _ (tb_1 _ (List.mem_of_getElem? (i := 1) rfl))) rfl), by decide +kernel, by decide⟩, (x_gin (List.mem_append_right _ (tb_5 _ (List.mem_of_getElem? (i := 123) rfl))) rfl)⟩
set_option maxRecDepth 100000 in
theorem v_yX10_odds : x_YV yX10_odds cX10_odds 2 (some .int) 1 := ⟨⟨(x_gin (List.mem_append_right _ (tb_5 _ (List.mem_of_getElem? (i := 132) rfl))) rfl), (x_gin (List.mem_append_right _ (tb_1 _ (List.mem_of_getElem? (i := 1) rfl))) rfl), by decide +kernel, by decide⟩, (x_gin (List.mem_append_right _ (tb_5 _ (List.mem_of_getElem? (i := 130) rfl))) rfl), (x_gin (List.mem_append_right _ (tb_5 _ (List.mem_of_getElem? (i := 131) rfl))) rfl)⟩
set_option maxRecDepth 100000 in
theorem v_yX10_reckonOdds : x_YV yX10_reckonOdds cX10_reckonOdds 4 none 1 := ⟨⟨(x_gin (List.mem_append_right _ (tb_5 _ (List.mem_of_getElem? (i := 136) rfl))) rfl), (x_gin (List.mem_append_right _ (tb_1 _ (List.mem_of_getElem? (i := 1) rfl))) rfl), by decide +kernel, by decide⟩, (x_gin (List.mem_append_right _ (tb_5 _ (List.mem_of_getElem? (i := 135) rfl))) rfl), (x_gin (List.mem_append_left _ (List.mem_of_getElem? (i := 33) rfl)) rfl)⟩
set_option maxRecDepth 100000 in
theorem v_yX10_sharesToOdds : x_YV yX10_sharesToOdds cX10_sharesToOdds 6 none 0 := ⟨⟨(x_gin (List.mem_append_right _ (tb_5 _ (List.mem_of_getElem? (i := 141) rfl))) rfl), (x_gin (List.mem_append_right _ (tb_1 _ (List.mem_of_getElem? (i := 1) rfl))) rfl), by decide +kernel, by decide⟩, (x_gin (List.mem_append_right _ (tb_5 _ (List.mem_of_getElem? (i := 140) rfl))) rfl), (x_gin (List.mem_append_left _ (List.mem_of_getElem? (i := 34) rfl)) rfl)⟩
set_option maxRecDepth 100000 in
theorem v_yX10_allFactors : x_YV yX10_allFactors cX10_allFactors 11 (some .long) 2 := ⟨⟨(x_gin (List.mem_append_right _ (tb_5 _ (List.mem_of_getElem? (i := 146) rfl))) rfl), (x_gin (List.mem_append_right _ (tb_1 _ (List.mem_of_getElem? (i := 1) rfl))) rfl), by decide +kernel, by decide⟩, (x_gin (List.mem_append_right _ (tb_5 _ (List.mem_of_getElem? (i := 145) rfl))) rfl), (x_gin (List.mem_append_left _ (List.mem_of_getElem? (i := 35) rfl)) rfl)⟩
set_option maxRecDepth 100000 in
theorem v_yX10_trapFactors : x_YV yX10_trapFactors cX10_trapFactors 9 (some .long) 2 := ⟨⟨(x_gin (List.mem_append_right _ (tb_5 _ (List.mem_of_getElem? (i := 153) rfl))) rfl), (x_gin (List.mem_append_right _ (tb_1 _ (List.mem_of_getElem? (i := 1) rfl))) rfl), by decide +kernel, by decide⟩, (x_gin (List.mem_append_right _ (tb_5 _ (List.mem_of_getElem? (i := 152) rfl))) rfl), (x_gin (List.mem_append_left _ (List.mem_of_getElem? (i := 36) rfl)) rfl)⟩
set_option maxRecDepth 100000 in
theorem v_yX10_springs : x_YV yX10_springs cX10_springs 4 (some .int) 2 := ⟨⟨(x_gin (List.mem_append_right _ (tb_5 _ (List.mem_of_getElem? (i := 157) rfl))) rfl), (x_gin (List.mem_append_right _ (tb_1 _ (List.mem_of_getElem? (i := 1) rfl))) rfl), by decide +kernel, by decide⟩, (x_gin (List.mem_append_right _ (tb_5 _ (List.mem_of_getElem? (i := 156) rfl))) rfl), (x_gin (List.mem_append_left _ (List.mem_of_getElem? (i := 37) rfl)) rfl)⟩
set_option maxRecDepth 100000 in
theorem v_yX10_oddsBy : x_YV yX10_oddsBy cX10_oddsBy 3 (some .int) 2 := ⟨⟨(x_gin (List.mem_append_right _ (tb_5 _ (List.mem_of_getElem? (i := 164) rfl))) rfl), (x_gin (List.mem_append_right _ (tb_1 _ (List.mem_of_getElem? (i := 1) rfl))) rfl), by decide +kernel, by decide⟩, (x_gin (List.mem_append_right _ (tb_5 _ (List.mem_of_getElem? (i := 162) rfl))) rfl), (x_gin (List.mem_append_right _ (tb_5 _ (List.mem_of_getElem? (i := 163) rfl))) rfl)⟩
set_option maxRecDepth 100000 in
theorem v_yX10_factor : x_YV yX10_factor cX10_factor 3 (some .long) 2 := ⟨⟨(x_gin (List.mem_append_right _ (tb_5 _ (List.mem_of_getElem? (i := 171) rfl))) rfl), (x_gin (List.mem_append_right _ (tb_1 _ (List.mem_of_getElem? (i := 1) rfl))) rfl), by decide +kernel, by decide⟩, (x_gin (List.mem_append_right _ (tb_5 _ (List.mem_of_getElem? (i := 169) rfl))) rfl), (x_gin (List.mem_append_right _ (tb_5 _ (List.mem_of_getElem? (i := 170) rfl))) rfl)⟩
set_option maxRecDepth 100000 in
theorem v_yX10_says : x_YV yX10_says cX10_says 7 (some .long) 1 := ⟨⟨(x_gin (List.mem_append_right _ (tb_5 _ (List.mem_of_getElem? (i := 178) rfl))) rfl), (x_gin (List.mem_append_right _ (tb_1 _ (List.mem_of_getElem? (i := 1) rfl))) rfl), by decide +kernel, by decide⟩, (x_gin (List.mem_append_right _ (tb_5 _ (List.mem_of_getElem? (i := 176) rfl))) rfl), (x_gin (List.mem_append_right _ (tb_5 _ (List.mem_of_getElem? (i := 177) rfl))) rfl)⟩
set_option maxRecDepth 100000 in
theorem s_yJ9_abs_067f4 : x_YS yJ9_abs_067f4 cJ9_abs_067f4 2 (some .long) 1 := ⟨⟨(x_gin (List.mem_append_right _ (tb_5 _ (List.mem_of_getElem? (i := 181) rfl))) rfl), (x_gin (List.mem_append_right _ (tb_1 _ (List.mem_of_getElem? (i := 23) rfl))) rfl), by decide +kernel, by decide⟩, (x_gin (List.mem_append_right _ (tb_5 _ (List.mem_of_getElem? (i := 180) rfl))) rfl)⟩
set_option maxRecDepth 100000 in
theorem v_yX10_with : x_YV yX10_with cX10_with 9 (some .int) 2 := ⟨⟨(x_gin (List.mem_append_right _ (tb_5 _ (List.mem_of_getElem? (i := 188) rfl))) rfl), (x_gin (List.mem_append_right _ (tb_1 _ (List.mem_of_getElem? (i := 1) rfl))) rfl), by decide +kernel, by decide⟩, (x_gin (List.mem_append_right _ (tb_5 _ (List.mem_of_getElem? (i := 186) rfl))) rfl), (x_gin (List.mem_append_right _ (tb_5 _ (List.mem_of_getElem? (i := 187) rfl))) rfl)⟩
set_option maxRecDepth 100000 in
theorem v_yX10_choicesWithAtLeast : x_YV yX10_choicesWithAtLeast cX10_choicesWithAtLeast 7 (some .int) 3 := ⟨⟨(x_gin (List.mem_append_right _ (tb_5 _ (List.mem_of_getElem? (i := 192) rfl))) rfl), (x_gin (List.mem_append_right _ (tb_1 _ (List.mem_of_getElem? (i := 1) rfl))) rfl), by decide +kernel, by decide⟩, (x_gin (List.mem_append_right _ (tb_5 _ (List.mem_of_getElem? (i := 191) rfl))) rfl), (x_gin (List.mem_append_left _ (List.mem_of_getElem? (i := 38) rfl)) rfl)⟩
set_option maxRecDepth 100000 in
theorem s_yX10_choices : x_YS yX10_choices cX10_choices 4 (some .int) 2 := ⟨⟨(x_gin (List.mem_append_right _ (tb_5 _ (List.mem_of_getElem? (i := 195) rfl))) rfl), (x_gin (List.mem_append_right _ (tb_1 _ (List.mem_of_getElem? (i := 1) rfl))) rfl), by decide +kernel, by decide⟩, (x_gin (List.mem_append_right _ (tb_5 _ (List.mem_of_getElem? (i := 194) rfl))) rfl)⟩
set_option maxRecDepth 100000 in
theorem v_yX10_knew : x_YV yX10_knew cX10_knew 2 none 1 := ⟨⟨(x_gin (List.mem_append_right _ (tb_5 _ (List.mem_of_getElem? (i := 202) rfl))) rfl), (x_gin (List.mem_append_right _ (tb_1 _ (List.mem_of_getElem? (i := 1) rfl))) rfl), by decide +kernel, by decide⟩, (x_gin (List.mem_append_right _ (tb_5 _ (List.mem_of_getElem? (i := 200) rfl))) rfl), (x_gin (List.mem_append_right _ (tb_5 _ (List.mem_of_getElem? (i := 201) rfl))) rfl)⟩
set_option maxRecDepth 100000 in
theorem v_yX10_told : x_YV yX10_told cX10_told 4 (some .int) 3 := ⟨⟨(x_gin (List.mem_append_right _ (tb_5 _ (List.mem_of_getElem? (i := 209) rfl))) rfl), (x_gin (List.mem_append_right _ (tb_1 _ (List.mem_of_getElem? (i := 1) rfl))) rfl), by decide +kernel, by decide⟩, (x_gin (List.mem_append_right _ (tb_5 _ (List.mem_of_getElem? (i := 207) rfl))) rfl), (x_gin (List.mem_append_right _ (tb_5 _ (List.mem_of_getElem? (i := 208) rfl))) rfl)⟩
set_option maxRecDepth 100000 in
theorem v_yX10_knows : x_YV yX10_knows cX10_knows 2 (some .int) 1 := ⟨⟨(x_gin (List.mem_append_right _ (tb_5 _ (List.mem_of_getElem? (i := 216) rfl))) rfl), (x_gin (List.mem_append_right _ (tb_1 _ (List.mem_of_getElem? (i := 1) rfl))) rfl), by decide +kernel, by decide⟩, (x_gin (List.mem_append_right _ (tb_5 _ (List.mem_of_getElem? (i := 214) rfl))) rfl), (x_gin (List.mem_append_right _ (tb_5 _ (List.mem_of_getElem? (i := 215) rfl))) rfl)⟩
set_option maxRecDepth 100000 in
theorem v_yX10_knowersOn : x_YV yX10_knowersOn cX10_knowersOn 6 (some .int) 3 := ⟨⟨(x_gin (List.mem_append_right _ (tb_5 _ (List.mem_of_getElem? (i := 220) rfl))) rfl), (x_gin (List.mem_append_right _ (tb_1 _ (List.mem_of_getElem? (i := 1) rfl))) rfl), by decide +kernel, by decide⟩, (x_gin (List.mem_append_right _ (tb_5 _ (List.mem_of_getElem? (i := 219) rfl))) rfl), (x_gin (List.mem_append_left _ (List.mem_of_getElem? (i := 39) rfl)) rfl)⟩
set_option maxRecDepth 100000 in
theorem v_yX10_spread : x_YV yX10_spread cX10_spread 5 none 1 := ⟨⟨(x_gin (List.mem_append_right _ (tb_5 _ (List.mem_of_getElem? (i := 224) rfl))) rfl), (x_gin (List.mem_append_right _ (tb_1 _ (List.mem_of_getElem? (i := 1) rfl))) rfl), by decide +kernel, by decide⟩, (x_gin (List.mem_append_right _ (tb_5 _ (List.mem_of_getElem? (i := 223) rfl))) rfl), (x_gin (List.mem_append_left _ (List.mem_of_getElem? (i := 40) rfl)) rfl)⟩
set_option maxRecDepth 100000 in
theorem v_yX10_whence : x_YV yX10_whence cX10_whence 3 (some .int) 2 := ⟨⟨(x_gin (List.mem_append_right _ (tb_5 _ (List.mem_of_getElem? (i := 231) rfl))) rfl), (x_gin (List.mem_append_right _ (tb_1 _ (List.mem_of_getElem? (i := 1) rfl))) rfl), by decide +kernel, by decide⟩, (x_gin (List.mem_append_right _ (tb_5 _ (List.mem_of_getElem? (i := 229) rfl))) rfl), (x_gin (List.mem_append_right _ (tb_5 _ (List.mem_of_getElem? (i := 230) rfl))) rfl)⟩
set_option maxRecDepth 100000 in
theorem v_yX10_neededTellers : x_YV yX10_neededTellers cX10_neededTellers 4 (some .int) 1 := ⟨⟨(x_gin (List.mem_append_right _ (tb_5 _ (List.mem_of_getElem? (i := 235) rfl))) rfl), (x_gin (List.mem_append_right _ (tb_1 _ (List.mem_of_getElem? (i := 1) rfl))) rfl), by decide +kernel, by decide⟩, (x_gin (List.mem_append_right _ (tb_5 _ (List.mem_of_getElem? (i := 234) rfl))) rfl), (x_gin (List.mem_append_left _ (List.mem_of_getElem? (i := 41) rfl)) rfl)⟩
set_option maxRecDepth 100000 in
theorem v_yX10_sources : x_YV yX10_sources cX10_sources 4 (some .int) 1 := ⟨⟨(x_gin (List.mem_append_right _ (tb_5 _ (List.mem_of_getElem? (i := 239) rfl))) rfl), (x_gin (List.mem_append_right _ (tb_1 _ (List.mem_of_getElem? (i := 1) rfl))) rfl), by decide +kernel, by decide⟩, (x_gin (List.mem_append_right _ (tb_5 _ (List.mem_of_getElem? (i := 238) rfl))) rfl), (x_gin (List.mem_append_left _ (List.mem_of_getElem? (i := 42) rfl)) rfl)⟩
set_option maxRecDepth 100000 in
theorem v_yX10_knot : x_YV yX10_knot cX10_knot 5 (some .int) 4 := ⟨⟨(x_gin (List.mem_append_right _ (tb_6 _ (List.mem_of_getElem? (i := 6) rfl))) rfl), (x_gin (List.mem_append_right _ (tb_1 _ (List.mem_of_getElem? (i := 1) rfl))) rfl), by decide +kernel, by decide⟩, (x_gin (List.mem_append_right _ (tb_6 _ (List.mem_of_getElem? (i := 4) rfl))) rfl), (x_gin (List.mem_append_right _ (tb_6 _ (List.mem_of_getElem? (i := 5) rfl))) rfl)⟩
set_option maxRecDepth 100000 in
theorem v_yX10_rope : x_YV yX10_rope cX10_rope 2 none 1 := ⟨⟨(x_gin (List.mem_append_right _ (tb_6 _ (List.mem_of_getElem? (i := 13) rfl))) rfl), (x_gin (List.mem_append_right _ (tb_1 _ (List.mem_of_getElem? (i := 1) rfl))) rfl), by decide +kernel, by decide⟩, (x_gin (List.mem_append_right _ (tb_6 _ (List.mem_of_getElem? (i := 11) rfl))) rfl), (x_gin (List.mem_append_right _ (tb_6 _ (List.mem_of_getElem? (i := 12) rfl))) rfl)⟩
set_option maxRecDepth 100000 in
theorem v_yX10_tale : x_YV yX10_tale cX10_tale 7 (some .int) 3 := ⟨⟨(x_gin (List.mem_append_right _ (tb_6 _ (List.mem_of_getElem? (i := 20) rfl))) rfl), (x_gin (List.mem_append_right _ (tb_1 _ (List.mem_of_getElem? (i := 1) rfl))) rfl), by decide +kernel, by decide⟩, (x_gin (List.mem_append_right _ (tb_6 _ (List.mem_of_getElem? (i := 18) rfl))) rfl), (x_gin (List.mem_append_right _ (tb_6 _ (List.mem_of_getElem? (i := 19) rfl))) rfl)⟩
set_option maxRecDepth 100000 in
theorem s_yJ9_min_f86c9 : x_YS yJ9_min_f86c9 cJ9_min_f86c9 4 (some .long) 2 := ⟨⟨(x_gin (List.mem_append_right _ (tb_6 _ (List.mem_of_getElem? (i := 26) rfl))) rfl), (x_gin (List.mem_append_right _ (tb_1 _ (List.mem_of_getElem? (i := 23) rfl))) rfl), by decide +kernel, by decide⟩, (x_gin (List.mem_append_right _ (tb_6 _ (List.mem_of_getElem? (i := 25) rfl))) rfl)⟩
set_option maxRecDepth 100000 in
theorem v_yX10_cold : x_YV yX10_cold cX10_cold 7 (some .int) 3 := ⟨⟨(x_gin (List.mem_append_right _ (tb_6 _ (List.mem_of_getElem? (i := 33) rfl))) rfl), (x_gin (List.mem_append_right _ (tb_1 _ (List.mem_of_getElem? (i := 1) rfl))) rfl), by decide +kernel, by decide⟩, (x_gin (List.mem_append_right _ (tb_6 _ (List.mem_of_getElem? (i := 31) rfl))) rfl), (x_gin (List.mem_append_right _ (tb_6 _ (List.mem_of_getElem? (i := 32) rfl))) rfl)⟩
set_option maxRecDepth 100000 in
theorem s_yJ9_abs_0f7a4 : x_YS yJ9_abs_0f7a4 cJ9_abs_0f7a4 1 (some .int) 1 := ⟨⟨(x_gin (List.mem_append_right _ (tb_6 _ (List.mem_of_getElem? (i := 36) rfl))) rfl), (x_gin (List.mem_append_right _ (tb_1 _ (List.mem_of_getElem? (i := 23) rfl))) rfl), by decide +kernel, by decide⟩, (x_gin (List.mem_append_right _ (tb_6 _ (List.mem_of_getElem? (i := 35) rfl))) rfl)⟩
set_option maxRecDepth 100000 in
theorem v_yX11_thrown : x_YV yX11_thrown cX11_thrown 1 (some .int) 0 := ⟨⟨(x_gin (List.mem_append_right _ (tb_6 _ (List.mem_of_getElem? (i := 42) rfl))) rfl), (x_gin (List.mem_append_right _ (tb_1 _ (List.mem_of_getElem? (i := 11) rfl))) rfl), by decide +kernel, by decide⟩, (x_gin (List.mem_append_right _ (tb_6 _ (List.mem_of_getElem? (i := 40) rfl))) rfl), (x_gin (List.mem_append_right _ (tb_6 _ (List.mem_of_getElem? (i := 41) rfl))) rfl)⟩
set_option maxRecDepth 100000 in
theorem i_yX11_init : x_YI yX11_init cX11_init 1 0 := ⟨⟨(x_gin (List.mem_append_right _ (tb_6 _ (List.mem_of_getElem? (i := 47) rfl))) rfl), (x_gin (List.mem_append_right _ (tb_1 _ (List.mem_of_getElem? (i := 11) rfl))) rfl), by decide +kernel, by decide⟩, (x_gin (List.mem_append_right _ (tb_6 _ (List.mem_of_getElem? (i := 46) rfl))) rfl), rfl⟩
set_option maxRecDepth 100000 in
theorem v_yX11_image : x_YV yX11_image cX11_image 2 none 0 := ⟨⟨(x_gin (List.mem_append_right _ (tb_6 _ (List.mem_of_getElem? (i := 144) rfl))) rfl), (x_gin (List.mem_append_right _ (tb_1 _ (List.mem_of_getElem? (i := 11) rfl))) rfl), by decide +kernel, by decide⟩, (x_gin (List.mem_append_right _ (tb_6 _ (List.mem_of_getElem? (i := 142) rfl))) rfl), (x_gin (List.mem_append_right _ (tb_6 _ (List.mem_of_getElem? (i := 143) rfl))) rfl)⟩
set_option maxRecDepth 100000 in
theorem v_yX11_back : x_YV yX11_back cX11_back 2 (some .boolean) 0 := ⟨⟨(x_gin (List.mem_append_right _ (tb_6 _ (List.mem_of_getElem? (i := 148) rfl))) rfl), (x_gin (List.mem_append_right _ (tb_1 _ (List.mem_of_getElem? (i := 11) rfl))) rfl), by decide +kernel, by decide⟩, (x_gin (List.mem_append_right _ (tb_6 _ (List.mem_of_getElem? (i := 146) rfl))) rfl), (x_gin (List.mem_append_right _ (tb_6 _ (List.mem_of_getElem? (i := 147) rfl))) rfl)⟩
set_option maxRecDepth 100000 in
theorem v_yX11_person : x_YV yX11_person cX11_person 3 (some .int) 2 := ⟨⟨(x_gin (List.mem_append_right _ (tb_6 _ (List.mem_of_getElem? (i := 152) rfl))) rfl), (x_gin (List.mem_append_right _ (tb_1 _ (List.mem_of_getElem? (i := 11) rfl))) rfl), by decide +kernel, by decide⟩, (x_gin (List.mem_append_right _ (tb_6 _ (List.mem_of_getElem? (i := 150) rfl))) rfl), (x_gin (List.mem_append_right _ (tb_6 _ (List.mem_of_getElem? (i := 151) rfl))) rfl)⟩
set_option maxRecDepth 100000 in
theorem s_yX11_in : x_YS yX11_in cX11_in 3 (some .boolean) 3 := ⟨⟨(x_gin (List.mem_append_right _ (tb_6 _ (List.mem_of_getElem? (i := 155) rfl))) rfl), (x_gin (List.mem_append_right _ (tb_1 _ (List.mem_of_getElem? (i := 11) rfl))) rfl), by decide +kernel, by decide⟩, (x_gin (List.mem_append_right _ (tb_6 _ (List.mem_of_getElem? (i := 154) rfl))) rfl)⟩
set_option maxRecDepth 100000 in
theorem v_yX11_throwsIf : x_YV yX11_throwsIf cX11_throwsIf 3 (some .boolean) 2 := ⟨⟨(x_gin (List.mem_append_right _ (tb_6 _ (List.mem_of_getElem? (i := 159) rfl))) rfl), (x_gin (List.mem_append_right _ (tb_1 _ (List.mem_of_getElem? (i := 11) rfl))) rfl), by decide +kernel, by decide⟩, (x_gin (List.mem_append_right _ (tb_6 _ (List.mem_of_getElem? (i := 158) rfl))) rfl), (x_gin (List.mem_append_left _ (List.mem_of_getElem? (i := 43) rfl)) rfl)⟩
set_option maxRecDepth 100000 in
theorem v_yX11_puts : x_YV yX11_puts cX11_puts 8 (some .int) 6 := ⟨⟨(x_gin (List.mem_append_right _ (tb_6 _ (List.mem_of_getElem? (i := 163) rfl))) rfl), (x_gin (List.mem_append_right _ (tb_1 _ (List.mem_of_getElem? (i := 11) rfl))) rfl), by decide +kernel, by decide⟩, (x_gin (List.mem_append_right _ (tb_6 _ (List.mem_of_getElem? (i := 162) rfl))) rfl), (x_gin (List.mem_append_left _ (List.mem_of_getElem? (i := 44) rfl)) rfl)⟩
set_option maxRecDepth 100000 in
theorem v_yX11_thing : x_YV yX11_thing cX11_thing 4 (some .int) 3 := ⟨⟨(x_gin (List.mem_append_right _ (tb_6 _ (List.mem_of_getElem? (i := 167) rfl))) rfl), (x_gin (List.mem_append_right _ (tb_1 _ (List.mem_of_getElem? (i := 11) rfl))) rfl), by decide +kernel, by decide⟩, (x_gin (List.mem_append_right _ (tb_6 _ (List.mem_of_getElem? (i := 165) rfl))) rfl), (x_gin (List.mem_append_right _ (tb_6 _ (List.mem_of_getElem? (i := 166) rfl))) rfl)⟩
set_option maxRecDepth 100000 in
theorem v_yX11_feed : x_YV yX11_feed cX11_feed 7 (some .int) 5 := ⟨⟨(x_gin (List.mem_append_right _ (tb_6 _ (List.mem_of_getElem? (i := 171) rfl))) rfl), (x_gin (List.mem_append_right _ (tb_1 _ (List.mem_of_getElem? (i := 11) rfl))) rfl), by decide +kernel, by decide⟩, (x_gin (List.mem_append_right _ (tb_6 _ (List.mem_of_getElem? (i := 169) rfl))) rfl), (x_gin (List.mem_append_right _ (tb_6 _ (List.mem_of_getElem? (i := 170) rfl))) rfl)⟩
set_option maxRecDepth 100000 in
theorem v_yX11_end : x_YV yX11_end cX11_end 2 (some .boolean) 1 := ⟨⟨(x_gin (List.mem_append_right _ (tb_6 _ (List.mem_of_getElem? (i := 175) rfl))) rfl), (x_gin (List.mem_append_right _ (tb_1 _ (List.mem_of_getElem? (i := 11) rfl))) rfl), by decide +kernel, by decide⟩, (x_gin (List.mem_append_right _ (tb_6 _ (List.mem_of_getElem? (i := 173) rfl))) rfl), (x_gin (List.mem_append_right _ (tb_6 _ (List.mem_of_getElem? (i := 174) rfl))) rfl)⟩
set_option maxRecDepth 100000 in
theorem v_yX11_fault : x_YV yX11_fault cX11_fault 1 (some .int) 0 := ⟨⟨(x_gin (List.mem_append_right _ (tb_6 _ (List.mem_of_getElem? (i := 179) rfl))) rfl), (x_gin (List.mem_append_right _ (tb_1 _ (List.mem_of_getElem? (i := 11) rfl))) rfl), by decide +kernel, by decide⟩, (x_gin (List.mem_append_right _ (tb_6 _ (List.mem_of_getElem? (i := 177) rfl))) rfl), (x_gin (List.mem_append_right _ (tb_6 _ (List.mem_of_getElem? (i := 178) rfl))) rfl)⟩
set_option maxRecDepth 100000 in
theorem v_yX11_rule : x_YV yX11_rule cX11_rule 1 (some .int) 0 := ⟨⟨(x_gin (List.mem_append_right _ (tb_6 _ (List.mem_of_getElem? (i := 183) rfl))) rfl), (x_gin (List.mem_append_right _ (tb_1 _ (List.mem_of_getElem? (i := 11) rfl))) rfl), by decide +kernel, by decide⟩, (x_gin (List.mem_append_right _ (tb_6 _ (List.mem_of_getElem? (i := 181) rfl))) rfl), (x_gin (List.mem_append_right _ (tb_6 _ (List.mem_of_getElem? (i := 182) rfl))) rfl)⟩
set_option maxRecDepth 100000 in
theorem v_yX11_keeps : x_YV yX11_keeps cX11_keeps 8 (some .int) 4 := ⟨⟨(x_gin (List.mem_append_right _ (tb_6 _ (List.mem_of_getElem? (i := 187) rfl))) rfl), (x_gin (List.mem_append_right _ (tb_1 _ (List.mem_of_getElem? (i := 11) rfl))) rfl), by decide +kernel, by decide⟩, (x_gin (List.mem_append_right _ (tb_6 _ (List.mem_of_getElem? (i := 186) rfl))) rfl), (x_gin (List.mem_append_left _ (List.mem_of_getElem? (i := 45) rfl)) rfl)⟩
set_option maxRecDepth 100000 in
theorem v_yX11_uses : x_YV yX11_uses cX11_uses 1 none 0 := ⟨⟨(x_gin (List.mem_append_right _ (tb_6 _ (List.mem_of_getElem? (i := 191) rfl))) rfl), (x_gin (List.mem_append_right _ (tb_1 _ (List.mem_of_getElem? (i := 11) rfl))) rfl), by decide +kernel, by decide⟩, (x_gin (List.mem_append_right _ (tb_6 _ (List.mem_of_getElem? (i := 190) rfl))) rfl), (x_gin (List.mem_append_left _ (List.mem_of_getElem? (i := 46) rfl)) rfl)⟩
set_option maxRecDepth 100000 in
theorem v_yX11_readAll : x_YV yX11_readAll cX11_readAll 3 (some .int) 1 := ⟨⟨(x_gin (List.mem_append_right _ (tb_6 _ (List.mem_of_getElem? (i := 195) rfl))) rfl), (x_gin (List.mem_append_right _ (tb_1 _ (List.mem_of_getElem? (i := 11) rfl))) rfl), by decide +kernel, by decide⟩, (x_gin (List.mem_append_right _ (tb_6 _ (List.mem_of_getElem? (i := 194) rfl))) rfl), (x_gin (List.mem_append_left _ (List.mem_of_getElem? (i := 47) rfl)) rfl)⟩
set_option maxRecDepth 100000 in
theorem v_yX11_blanks : x_YV yX11_blanks cX11_blanks 1 none 0 := ⟨⟨(x_gin (List.mem_append_right _ (tb_6 _ (List.mem_of_getElem? (i := 199) rfl))) rfl), (x_gin (List.mem_append_right _ (tb_1 _ (List.mem_of_getElem? (i := 11) rfl))) rfl), by decide +kernel, by decide⟩, (x_gin (List.mem_append_right _ (tb_6 _ (List.mem_of_getElem? (i := 198) rfl))) rfl), (x_gin (List.mem_append_left _ (List.mem_of_getElem? (i := 48) rfl)) rfl)⟩
set_option maxRecDepth 100000 in
theorem v_yX11_isAt : x_YV yX11_isAt cX11_isAt 3 (some .boolean) 2 := ⟨⟨(x_gin (List.mem_append_right _ (tb_6 _ (List.mem_of_getElem? (i := 203) rfl))) rfl), (x_gin (List.mem_append_right _ (tb_1 _ (List.mem_of_getElem? (i := 11) rfl))) rfl), by decide +kernel, by decide⟩, (x_gin (List.mem_append_right _ (tb_6 _ (List.mem_of_getElem? (i := 202) rfl))) rfl), (x_gin (List.mem_append_left _ (List.mem_of_getElem? (i := 49) rfl)) rfl)⟩
set_option maxRecDepth 100000 in
theorem v_yX11_readLine : x_YV yX11_readLine cX11_readLine 5 (some .boolean) 2 := ⟨⟨(x_gin (List.mem_append_right _ (tb_6 _ (List.mem_of_getElem? (i := 207) rfl))) rfl), (x_gin (List.mem_append_right _ (tb_1 _ (List.mem_of_getElem? (i := 11) rfl))) rfl), by decide +kernel, by decide⟩, (x_gin (List.mem_append_right _ (tb_6 _ (List.mem_of_getElem? (i := 206) rfl))) rfl), (x_gin (List.mem_append_left _ (List.mem_of_getElem? (i := 50) rfl)) rfl)⟩
set_option maxRecDepth 100000 in
theorem v_yX11_letters : x_YV yX11_letters cX11_letters 1 none 0 := ⟨⟨(x_gin (List.mem_append_right _ (tb_6 _ (List.mem_of_getElem? (i := 211) rfl))) rfl), (x_gin (List.mem_append_right _ (tb_1 _ (List.mem_of_getElem? (i := 11) rfl))) rfl), by decide +kernel, by decide⟩, (x_gin (List.mem_append_right _ (tb_6 _ (List.mem_of_getElem? (i := 210) rfl))) rfl), (x_gin (List.mem_append_left _ (List.mem_of_getElem? (i := 51) rfl)) rfl)⟩
set_option maxRecDepth 100000 in
theorem s_yX11_lineAt : x_YS yX11_lineAt cX11_lineAt 2 (some .int) 2 := ⟨⟨(x_gin (List.mem_append_right _ (tb_6 _ (List.mem_of_getElem? (i := 214) rfl))) rfl), (x_gin (List.mem_append_right _ (tb_1 _ (List.mem_of_getElem? (i := 11) rfl))) rfl), by decide +kernel, by decide⟩, (x_gin (List.mem_append_right _ (tb_6 _ (List.mem_of_getElem? (i := 213) rfl))) rfl)⟩
set_option maxRecDepth 100000 in
theorem s_yX11_textAt : x_YS yX11_textAt cX11_textAt 1 (some .int) 1 := ⟨⟨(x_gin (List.mem_append_right _ (tb_6 _ (List.mem_of_getElem? (i := 217) rfl))) rfl), (x_gin (List.mem_append_right _ (tb_1 _ (List.mem_of_getElem? (i := 11) rfl))) rfl), by decide +kernel, by decide⟩, (x_gin (List.mem_append_right _ (tb_6 _ (List.mem_of_getElem? (i := 216) rfl))) rfl)⟩
set_option maxRecDepth 100000 in
theorem v_yX11_readRule : x_YV yX11_readRule cX11_readRule 3 (some .boolean) 1 := ⟨⟨(x_gin (List.mem_append_right _ (tb_6 _ (List.mem_of_getElem? (i := 221) rfl))) rfl), (x_gin (List.mem_append_right _ (tb_1 _ (List.mem_of_getElem? (i := 11) rfl))) rfl), by decide +kernel, by decide⟩, (x_gin (List.mem_append_right _ (tb_6 _ (List.mem_of_getElem? (i := 220) rfl))) rfl), (x_gin (List.mem_append_left _ (List.mem_of_getElem? (i := 52) rfl)) rfl)⟩
set_option maxRecDepth 100000 in
theorem v_yX11_isWord : x_YV yX11_isWord cX11_isWord 4 (some .boolean) 1 := ⟨⟨(x_gin (List.mem_append_right _ (tb_6 _ (List.mem_of_getElem? (i := 226) rfl))) rfl), (x_gin (List.mem_append_right _ (tb_1 _ (List.mem_of_getElem? (i := 11) rfl))) rfl), by decide +kernel, by decide⟩, (x_gin (List.mem_append_right _ (tb_6 _ (List.mem_of_getElem? (i := 225) rfl))) rfl), (x_gin (List.mem_append_left _ (List.mem_of_getElem? (i := 53) rfl)) rfl)⟩
set_option maxRecDepth 100000 in
theorem v_yX11_number : x_YV yX11_number cX11_number 4 (some .int) 2 := ⟨⟨(x_gin (List.mem_append_right _ (tb_6 _ (List.mem_of_getElem? (i := 235) rfl))) rfl), (x_gin (List.mem_append_right _ (tb_1 _ (List.mem_of_getElem? (i := 11) rfl))) rfl), by decide +kernel, by decide⟩, (x_gin (List.mem_append_right _ (tb_6 _ (List.mem_of_getElem? (i := 234) rfl))) rfl), (x_gin (List.mem_append_left _ (List.mem_of_getElem? (i := 54) rfl)) rfl)⟩
set_option maxRecDepth 100000 in
theorem v_yX11_tells : x_YV yX11_tells cX11_tells 3 (some .boolean) 2 := ⟨⟨(x_gin (List.mem_append_right _ (tb_6 _ (List.mem_of_getElem? (i := 239) rfl))) rfl), (x_gin (List.mem_append_right _ (tb_1 _ (List.mem_of_getElem? (i := 11) rfl))) rfl), by decide +kernel, by decide⟩, (x_gin (List.mem_append_right _ (tb_6 _ (List.mem_of_getElem? (i := 238) rfl))) rfl), (x_gin (List.mem_append_left _ (List.mem_of_getElem? (i := 55) rfl)) rfl)⟩
set_option maxRecDepth 100000 in
theorem v_yX11_needsWord : x_YV yX11_needsWord cX11_needsWord 2 (some .boolean) 1 := ⟨⟨(x_gin (List.mem_append_right _ (tb_7 _ (List.mem_of_getElem? (i := 4) rfl))) rfl), (x_gin (List.mem_append_right _ (tb_1 _ (List.mem_of_getElem? (i := 11) rfl))) rfl), by decide +kernel, by decide⟩, (x_gin (List.mem_append_right _ (tb_7 _ (List.mem_of_getElem? (i := 3) rfl))) rfl), (x_gin (List.mem_append_left _ (List.mem_of_getElem? (i := 56) rfl)) rfl)⟩
set_option maxRecDepth 100000 in
theorem v_yX11_readWay : x_YV yX11_readWay cX11_readWay 3 (some .boolean) 1 := ⟨⟨(x_gin (List.mem_append_right _ (tb_7 _ (List.mem_of_getElem? (i := 9) rfl))) rfl), (x_gin (List.mem_append_right _ (tb_1 _ (List.mem_of_getElem? (i := 11) rfl))) rfl), by decide +kernel, by decide⟩, (x_gin (List.mem_append_right _ (tb_7 _ (List.mem_of_getElem? (i := 8) rfl))) rfl), (x_gin (List.mem_append_left _ (List.mem_of_getElem? (i := 57) rfl)) rfl)⟩
set_option maxRecDepth 100000 in
theorem v_yX11_readCond : x_YV yX11_readCond cX11_readCond 1 (some .boolean) 0 := ⟨⟨(x_gin (List.mem_append_right _ (tb_7 _ (List.mem_of_getElem? (i := 17) rfl))) rfl), (x_gin (List.mem_append_right _ (tb_1 _ (List.mem_of_getElem? (i := 11) rfl))) rfl), by decide +kernel, by decide⟩, (x_gin (List.mem_append_right _ (tb_7 _ (List.mem_of_getElem? (i := 16) rfl))) rfl), (x_gin (List.mem_append_left _ (List.mem_of_getElem? (i := 58) rfl)) rfl)⟩
set_option maxRecDepth 100000 in
theorem v_yX11_readAllOf : x_YV yX11_readAllOf cX11_readAllOf 1 (some .boolean) 0 := ⟨⟨(x_gin (List.mem_append_right _ (tb_7 _ (List.mem_of_getElem? (i := 21) rfl))) rfl), (x_gin (List.mem_append_right _ (tb_1 _ (List.mem_of_getElem? (i := 11) rfl))) rfl), by decide +kernel, by decide⟩, (x_gin (List.mem_append_right _ (tb_7 _ (List.mem_of_getElem? (i := 20) rfl))) rfl), (x_gin (List.mem_append_left _ (List.mem_of_getElem? (i := 59) rfl)) rfl)⟩
set_option maxRecDepth 100000 in
theorem v_yX11_readAtom : x_YV yX11_readAtom cX11_readAtom 3 (some .boolean) 0 := ⟨⟨(x_gin (List.mem_append_right _ (tb_7 _ (List.mem_of_getElem? (i := 25) rfl))) rfl), (x_gin (List.mem_append_right _ (tb_1 _ (List.mem_of_getElem? (i := 11) rfl))) rfl), by decide +kernel, by decide⟩, (x_gin (List.mem_append_right _ (tb_7 _ (List.mem_of_getElem? (i := 24) rfl))) rfl), (x_gin (List.mem_append_left _ (List.mem_of_getElem? (i := 60) rfl)) rfl)⟩
set_option maxRecDepth 100000 in
theorem v_yX11_sign : x_YV yX11_sign cX11_sign 2 (some .boolean) 1 := ⟨⟨(x_gin (List.mem_append_right _ (tb_7 _ (List.mem_of_getElem? (i := 29) rfl))) rfl), (x_gin (List.mem_append_right _ (tb_1 _ (List.mem_of_getElem? (i := 11) rfl))) rfl), by decide +kernel, by decide⟩, (x_gin (List.mem_append_right _ (tb_7 _ (List.mem_of_getElem? (i := 28) rfl))) rfl), (x_gin (List.mem_append_left _ (List.mem_of_getElem? (i := 61) rfl)) rfl)⟩
set_option maxRecDepth 100000 in
theorem v_yX11_passes : x_YV yX11_passes cX11_passes 2 (some .boolean) 1 := ⟨⟨(x_gin (List.mem_append_right _ (tb_7 _ (List.mem_of_getElem? (i := 34) rfl))) rfl), (x_gin (List.mem_append_right _ (tb_1 _ (List.mem_of_getElem? (i := 11) rfl))) rfl), by decide +kernel, by decide⟩, (x_gin (List.mem_append_right _ (tb_7 _ (List.mem_of_getElem? (i := 33) rfl))) rfl), (x_gin (List.mem_append_left _ (List.mem_of_getElem? (i := 62) rfl)) rfl)⟩
set_option maxRecDepth 100000 in
theorem v_yX11_emits : x_YV yX11_emits cX11_emits 4 none 2 := ⟨⟨(x_gin (List.mem_append_right _ (tb_7 _ (List.mem_of_getElem? (i := 38) rfl))) rfl), (x_gin (List.mem_append_right _ (tb_1 _ (List.mem_of_getElem? (i := 11) rfl))) rfl), by decide +kernel, by decide⟩, (x_gin (List.mem_append_right _ (tb_7 _ (List.mem_of_getElem? (i := 37) rfl))) rfl), (x_gin (List.mem_append_left _ (List.mem_of_getElem? (i := 63) rfl)) rfl)⟩
set_option maxRecDepth 100000 in
theorem v_yX11_tagAt : x_YV yX11_tagAt cX11_tagAt 1 (some .int) 0 := ⟨⟨(x_gin (List.mem_append_right _ (tb_7 _ (List.mem_of_getElem? (i := 42) rfl))) rfl), (x_gin (List.mem_append_right _ (tb_1 _ (List.mem_of_getElem? (i := 11) rfl))) rfl), by decide +kernel, by decide⟩, (x_gin (List.mem_append_right _ (tb_7 _ (List.mem_of_getElem? (i := 41) rfl))) rfl), (x_gin (List.mem_append_left _ (List.mem_of_getElem? (i := 64) rfl)) rfl)⟩
set_option maxRecDepth 100000 in
theorem v_yX11_emitsOf : x_YV yX11_emitsOf cX11_emitsOf 3 (some .boolean) 1 := ⟨⟨(x_gin (List.mem_append_right _ (tb_7 _ (List.mem_of_getElem? (i := 52) rfl))) rfl), (x_gin (List.mem_append_right _ (tb_1 _ (List.mem_of_getElem? (i := 11) rfl))) rfl), by decide +kernel, by decide⟩, (x_gin (List.mem_append_right _ (tb_7 _ (List.mem_of_getElem? (i := 51) rfl))) rfl), (x_gin (List.mem_append_left _ (List.mem_of_getElem? (i := 65) rfl)) rfl)⟩
set_option maxRecDepth 100000 in
theorem v_yX11_readSum : x_YV yX11_readSum cX11_readSum 1 (some .boolean) 0 := ⟨⟨(x_gin (List.mem_append_right _ (tb_7 _ (List.mem_of_getElem? (i := 56) rfl))) rfl), (x_gin (List.mem_append_right _ (tb_1 _ (List.mem_of_getElem? (i := 11) rfl))) rfl), by decide +kernel, by decide⟩, (x_gin (List.mem_append_right _ (tb_7 _ (List.mem_of_getElem? (i := 55) rfl))) rfl), (x_gin (List.mem_append_left _ (List.mem_of_getElem? (i := 66) rfl)) rfl)⟩
set_option maxRecDepth 100000 in
theorem v_yX11_readPart : x_YV yX11_readPart cX11_readPart 2 (some .boolean) 0 := ⟨⟨(x_gin (List.mem_append_right _ (tb_7 _ (List.mem_of_getElem? (i := 60) rfl))) rfl), (x_gin (List.mem_append_right _ (tb_1 _ (List.mem_of_getElem? (i := 11) rfl))) rfl), by decide +kernel, by decide⟩, (x_gin (List.mem_append_right _ (tb_7 _ (List.mem_of_getElem? (i := 59) rfl))) rfl), (x_gin (List.mem_append_left _ (List.mem_of_getElem? (i := 67) rfl)) rfl)⟩
set_option maxRecDepth 100000 in
theorem v_yX11_way : x_YV yX11_way cX11_way 1 (some .int) 0 := ⟨⟨(x_gin (List.mem_append_right _ (tb_7 _ (List.mem_of_getElem? (i := 70) rfl))) rfl), (x_gin (List.mem_append_right _ (tb_1 _ (List.mem_of_getElem? (i := 11) rfl))) rfl), by decide +kernel, by decide⟩, (x_gin (List.mem_append_right _ (tb_7 _ (List.mem_of_getElem? (i := 68) rfl))) rfl), (x_gin (List.mem_append_right _ (tb_7 _ (List.mem_of_getElem? (i := 69) rfl))) rfl)⟩
set_option maxRecDepth 100000 in
theorem v_yX11_look : x_YV yX11_look cX11_look 5 (some .int) 2 := ⟨⟨(x_gin (List.mem_append_right _ (tb_7 _ (List.mem_of_getElem? (i := 74) rfl))) rfl), (x_gin (List.mem_append_right _ (tb_1 _ (List.mem_of_getElem? (i := 11) rfl))) rfl), by decide +kernel, by decide⟩, (x_gin (List.mem_append_right _ (tb_7 _ (List.mem_of_getElem? (i := 72) rfl))) rfl), (x_gin (List.mem_append_right _ (tb_7 _ (List.mem_of_getElem? (i := 73) rfl))) rfl)⟩
set_option maxRecDepth 100000 in
theorem v_yX11_none : x_YV yX11_none cX11_none 3 (some .boolean) 2 := ⟨⟨(x_gin (List.mem_append_right _ (tb_7 _ (List.mem_of_getElem? (i := 78) rfl))) rfl), (x_gin (List.mem_append_right _ (tb_1 _ (List.mem_of_getElem? (i := 11) rfl))) rfl), by decide +kernel, by decide⟩, (x_gin (List.mem_append_right _ (tb_7 _ (List.mem_of_getElem? (i := 77) rfl))) rfl), (x_gin (List.mem_append_left _ (List.mem_of_getElem? (i := 68) rfl)) rfl)⟩
set_option maxRecDepth 100000 in
theorem v_yX11_laysOut : x_YV yX11_laysOut cX11_laysOut 7 none 2 := ⟨⟨(x_gin (List.mem_append_right _ (tb_7 _ (List.mem_of_getElem? (i := 82) rfl))) rfl), (x_gin (List.mem_append_right _ (tb_1 _ (List.mem_of_getElem? (i := 11) rfl))) rfl), by decide +kernel, by decide⟩, (x_gin (List.mem_append_right _ (tb_7 _ (List.mem_of_getElem? (i := 81) rfl))) rfl), (x_gin (List.mem_append_left _ (List.mem_of_getElem? (i := 69) rfl)) rfl)⟩
set_option maxRecDepth 100000 in
theorem v_yX11_lines : x_YV yX11_lines cX11_lines 2 (some .int) 1 := ⟨⟨(x_gin (List.mem_append_right _ (tb_7 _ (List.mem_of_getElem? (i := 86) rfl))) rfl), (x_gin (List.mem_append_right _ (tb_1 _ (List.mem_of_getElem? (i := 11) rfl))) rfl), by decide +kernel, by decide⟩, (x_gin (List.mem_append_right _ (tb_7 _ (List.mem_of_getElem? (i := 85) rfl))) rfl), (x_gin (List.mem_append_left _ (List.mem_of_getElem? (i := 70) rfl)) rfl)⟩
set_option maxRecDepth 100000 in
theorem v_yX11_of : x_YV yX11_of cX11_of 4 (some .int) 3 := ⟨⟨(x_gin (List.mem_append_right _ (tb_7 _ (List.mem_of_getElem? (i := 90) rfl))) rfl), (x_gin (List.mem_append_right _ (tb_1 _ (List.mem_of_getElem? (i := 11) rfl))) rfl), by decide +kernel, by decide⟩, (x_gin (List.mem_append_right _ (tb_7 _ (List.mem_of_getElem? (i := 89) rfl))) rfl), (x_gin (List.mem_append_left _ (List.mem_of_getElem? (i := 71) rfl)) rfl)⟩
set_option maxRecDepth 100000 in
theorem v_yX11_sortOf : x_YV yX11_sortOf cX11_sortOf 3 (some .int) 2 := ⟨⟨(x_gin (List.mem_append_right _ (tb_7 _ (List.mem_of_getElem? (i := 94) rfl))) rfl), (x_gin (List.mem_append_right _ (tb_1 _ (List.mem_of_getElem? (i := 11) rfl))) rfl), by decide +kernel, by decide⟩, (x_gin (List.mem_append_right _ (tb_7 _ (List.mem_of_getElem? (i := 93) rfl))) rfl), (x_gin (List.mem_append_left _ (List.mem_of_getElem? (i := 72) rfl)) rfl)⟩
set_option maxRecDepth 100000 in
theorem v_yX11_needs : x_YV yX11_needs cX11_needs 6 (some .boolean) 5 := ⟨⟨(x_gin (List.mem_append_right _ (tb_7 _ (List.mem_of_getElem? (i := 98) rfl))) rfl), (x_gin (List.mem_append_right _ (tb_1 _ (List.mem_of_getElem? (i := 11) rfl))) rfl), by decide +kernel, by decide⟩, (x_gin (List.mem_append_right _ (tb_7 _ (List.mem_of_getElem? (i := 96) rfl))) rfl), (x_gin (List.mem_append_right _ (tb_7 _ (List.mem_of_getElem? (i := 97) rfl))) rfl)⟩
set_option maxRecDepth 100000 in
theorem v_yX11_holdsAll : x_YV yX11_holdsAll cX11_holdsAll 8 (some .boolean) 4 := ⟨⟨(x_gin (List.mem_append_right _ (tb_7 _ (List.mem_of_getElem? (i := 102) rfl))) rfl), (x_gin (List.mem_append_right _ (tb_1 _ (List.mem_of_getElem? (i := 11) rfl))) rfl), by decide +kernel, by decide⟩, (x_gin (List.mem_append_right _ (tb_7 _ (List.mem_of_getElem? (i := 101) rfl))) rfl), (x_gin (List.mem_append_left _ (List.mem_of_getElem? (i := 73) rfl)) rfl)⟩
set_option maxRecDepth 100000 in
theorem v_yX11_holdsLine : x_YV yX11_holdsLine cX11_holdsLine 12 (some .boolean) 5 := ⟨⟨(x_gin (List.mem_append_right _ (tb_7 _ (List.mem_of_getElem? (i := 106) rfl))) rfl), (x_gin (List.mem_append_right _ (tb_1 _ (List.mem_of_getElem? (i := 11) rfl))) rfl), by decide +kernel, by decide⟩, (x_gin (List.mem_append_right _ (tb_7 _ (List.mem_of_getElem? (i := 105) rfl))) rfl), (x_gin (List.mem_append_left _ (List.mem_of_getElem? (i := 74) rfl)) rfl)⟩
set_option maxRecDepth 100000 in
theorem v_yX11_asked : x_YV yX11_asked cX11_asked 7 (some .int) 5 := ⟨⟨(x_gin (List.mem_append_right _ (tb_7 _ (List.mem_of_getElem? (i := 110) rfl))) rfl), (x_gin (List.mem_append_right _ (tb_1 _ (List.mem_of_getElem? (i := 11) rfl))) rfl), by decide +kernel, by decide⟩, (x_gin (List.mem_append_right _ (tb_7 _ (List.mem_of_getElem? (i := 109) rfl))) rfl), (x_gin (List.mem_append_left _ (List.mem_of_getElem? (i := 75) rfl)) rfl)⟩
set_option maxRecDepth 100000 in
theorem v_yX11_ofHolder : x_YV yX11_ofHolder cX11_ofHolder 3 (some .int) 2 := ⟨⟨(x_gin (List.mem_append_right _ (tb_7 _ (List.mem_of_getElem? (i := 115) rfl))) rfl), (x_gin (List.mem_append_right _ (tb_1 _ (List.mem_of_getElem? (i := 11) rfl))) rfl), by decide +kernel, by decide⟩, (x_gin (List.mem_append_right _ (tb_7 _ (List.mem_of_getElem? (i := 114) rfl))) rfl), (x_gin (List.mem_append_left _ (List.mem_of_getElem? (i := 76) rfl)) rfl)⟩
set_option maxRecDepth 100000 in
theorem v_yX11_note : x_YV yX11_note cX11_note 3 (some .int) 2 := ⟨⟨(x_gin (List.mem_append_right _ (tb_7 _ (List.mem_of_getElem? (i := 119) rfl))) rfl), (x_gin (List.mem_append_right _ (tb_1 _ (List.mem_of_getElem? (i := 11) rfl))) rfl), by decide +kernel, by decide⟩, (x_gin (List.mem_append_right _ (tb_7 _ (List.mem_of_getElem? (i := 117) rfl))) rfl), (x_gin (List.mem_append_right _ (tb_7 _ (List.mem_of_getElem? (i := 118) rfl))) rfl)⟩
set_option maxRecDepth 100000 in
theorem v_yX11_torn : x_YV yX11_torn cX11_torn 2 (some .int) 0 := ⟨⟨(x_gin (List.mem_append_right _ (tb_7 _ (List.mem_of_getElem? (i := 123) rfl))) rfl), (x_gin (List.mem_append_right _ (tb_1 _ (List.mem_of_getElem? (i := 11) rfl))) rfl), by decide +kernel, by decide⟩, (x_gin (List.mem_append_right _ (tb_7 _ (List.mem_of_getElem? (i := 121) rfl))) rfl), (x_gin (List.mem_append_right _ (tb_7 _ (List.mem_of_getElem? (i := 122) rfl))) rfl)⟩
set_option maxRecDepth 100000 in
theorem v_yX11_can : x_YV yX11_can cX11_can 4 (some .boolean) 3 := ⟨⟨(x_gin (List.mem_append_right _ (tb_7 _ (List.mem_of_getElem? (i := 127) rfl))) rfl), (x_gin (List.mem_append_right _ (tb_1 _ (List.mem_of_getElem? (i := 11) rfl))) rfl), by decide +kernel, by decide⟩, (x_gin (List.mem_append_right _ (tb_7 _ (List.mem_of_getElem? (i := 125) rfl))) rfl), (x_gin (List.mem_append_right _ (tb_7 _ (List.mem_of_getElem? (i := 126) rfl))) rfl)⟩
set_option maxRecDepth 100000 in
theorem v_yX11_canBy : x_YV yX11_canBy cX11_canBy 3 (some .boolean) 2 := ⟨⟨(x_gin (List.mem_append_right _ (tb_7 _ (List.mem_of_getElem? (i := 131) rfl))) rfl), (x_gin (List.mem_append_right _ (tb_1 _ (List.mem_of_getElem? (i := 11) rfl))) rfl), by decide +kernel, by decide⟩, (x_gin (List.mem_append_right _ (tb_7 _ (List.mem_of_getElem? (i := 130) rfl))) rfl), (x_gin (List.mem_append_left _ (List.mem_of_getElem? (i := 77) rfl)) rfl)⟩
set_option maxRecDepth 100000 in
theorem v_yX11_prepares : x_YV yX11_prepares cX11_prepares 9 (some .boolean) 3 := ⟨⟨(x_gin (List.mem_append_right _ (tb_7 _ (List.mem_of_getElem? (i := 135) rfl))) rfl), (x_gin (List.mem_append_right _ (tb_1 _ (List.mem_of_getElem? (i := 11) rfl))) rfl), by decide +kernel, by decide⟩, (x_gin (List.mem_append_right _ (tb_7 _ (List.mem_of_getElem? (i := 134) rfl))) rfl), (x_gin (List.mem_append_left _ (List.mem_of_getElem? (i := 78) rfl)) rfl)⟩
set_option maxRecDepth 100000 in
theorem s_yX11_at : x_YS yX11_at cX11_at 2 (some .int) 2 := ⟨⟨(x_gin (List.mem_append_right _ (tb_7 _ (List.mem_of_getElem? (i := 138) rfl))) rfl), (x_gin (List.mem_append_right _ (tb_1 _ (List.mem_of_getElem? (i := 11) rfl))) rfl), by decide +kernel, by decide⟩, (x_gin (List.mem_append_right _ (tb_7 _ (List.mem_of_getElem? (i := 137) rfl))) rfl)⟩
set_option maxRecDepth 100000 in
theorem s_yX11_runAt : x_YS yX11_runAt cX11_runAt 3 (some .int) 3 := ⟨⟨(x_gin (List.mem_append_right _ (tb_7 _ (List.mem_of_getElem? (i := 141) rfl))) rfl), (x_gin (List.mem_append_right _ (tb_1 _ (List.mem_of_getElem? (i := 11) rfl))) rfl), by decide +kernel, by decide⟩, (x_gin (List.mem_append_right _ (tb_7 _ (List.mem_of_getElem? (i := 140) rfl))) rfl)⟩
set_option maxRecDepth 100000 in
theorem v_yX11_reachOf : x_YV yX11_reachOf cX11_reachOf 4 (some .int) 1 := ⟨⟨(x_gin (List.mem_append_right _ (tb_7 _ (List.mem_of_getElem? (i := 145) rfl))) rfl), (x_gin (List.mem_append_right _ (tb_1 _ (List.mem_of_getElem? (i := 11) rfl))) rfl), by decide +kernel, by decide⟩, (x_gin (List.mem_append_right _ (tb_7 _ (List.mem_of_getElem? (i := 144) rfl))) rfl), (x_gin (List.mem_append_left _ (List.mem_of_getElem? (i := 79) rfl)) rfl)⟩
set_option maxRecDepth 100000 in
theorem v_yX11_lastOf : x_YV yX11_lastOf cX11_lastOf 6 (some .int) 3 := ⟨⟨(x_gin (List.mem_append_right _ (tb_7 _ (List.mem_of_getElem? (i := 149) rfl))) rfl), (x_gin (List.mem_append_right _ (tb_1 _ (List.mem_of_getElem? (i := 11) rfl))) rfl), by decide +kernel, by decide⟩, (x_gin (List.mem_append_right _ (tb_7 _ (List.mem_of_getElem? (i := 148) rfl))) rfl), (x_gin (List.mem_append_left _ (List.mem_of_getElem? (i := 80) rfl)) rfl)⟩
set_option maxRecDepth 100000 in
theorem v_yX11_canDo : x_YV yX11_canDo cX11_canDo 5 (some .boolean) 3 := ⟨⟨(x_gin (List.mem_append_right _ (tb_7 _ (List.mem_of_getElem? (i := 154) rfl))) rfl), (x_gin (List.mem_append_right _ (tb_1 _ (List.mem_of_getElem? (i := 11) rfl))) rfl), by decide +kernel, by decide⟩, (x_gin (List.mem_append_right _ (tb_7 _ (List.mem_of_getElem? (i := 153) rfl))) rfl), (x_gin (List.mem_append_left _ (List.mem_of_getElem? (i := 81) rfl)) rfl)⟩
set_option maxRecDepth 100000 in
theorem v_yX11_goesOnwards : x_YV yX11_goesOnwards cX11_goesOnwards 4 none 0 := ⟨⟨(x_gin (List.mem_append_right _ (tb_7 _ (List.mem_of_getElem? (i := 158) rfl))) rfl), (x_gin (List.mem_append_right _ (tb_1 _ (List.mem_of_getElem? (i := 11) rfl))) rfl), by decide +kernel, by decide⟩, (x_gin (List.mem_append_right _ (tb_7 _ (List.mem_of_getElem? (i := 157) rfl))) rfl), (x_gin (List.mem_append_left _ (List.mem_of_getElem? (i := 82) rfl)) rfl)⟩
set_option maxRecDepth 100000 in
theorem v_yX11_canGo : x_YV yX11_canGo cX11_canGo 7 (some .boolean) 3 := ⟨⟨(x_gin (List.mem_append_right _ (tb_7 _ (List.mem_of_getElem? (i := 162) rfl))) rfl), (x_gin (List.mem_append_right _ (tb_1 _ (List.mem_of_getElem? (i := 11) rfl))) rfl), by decide +kernel, by decide⟩, (x_gin (List.mem_append_right _ (tb_7 _ (List.mem_of_getElem? (i := 161) rfl))) rfl), (x_gin (List.mem_append_left _ (List.mem_of_getElem? (i := 83) rfl)) rfl)⟩
set_option maxRecDepth 100000 in
theorem v_yX11_freedBy : x_YV yX11_freedBy cX11_freedBy 4 (some .int) 1 := ⟨⟨(x_gin (List.mem_append_right _ (tb_7 _ (List.mem_of_getElem? (i := 166) rfl))) rfl), (x_gin (List.mem_append_right _ (tb_1 _ (List.mem_of_getElem? (i := 11) rfl))) rfl), by decide +kernel, by decide⟩, (x_gin (List.mem_append_right _ (tb_7 _ (List.mem_of_getElem? (i := 165) rfl))) rfl), (x_gin (List.mem_append_left _ (List.mem_of_getElem? (i := 84) rfl)) rfl)⟩
set_option maxRecDepth 100000 in
theorem v_yX11_fewest : x_YV yX11_fewest cX11_fewest 5 (some .int) 2 := ⟨⟨(x_gin (List.mem_append_right _ (tb_7 _ (List.mem_of_getElem? (i := 170) rfl))) rfl), (x_gin (List.mem_append_right _ (tb_1 _ (List.mem_of_getElem? (i := 11) rfl))) rfl), by decide +kernel, by decide⟩, (x_gin (List.mem_append_right _ (tb_7 _ (List.mem_of_getElem? (i := 168) rfl))) rfl), (x_gin (List.mem_append_right _ (tb_7 _ (List.mem_of_getElem? (i := 169) rfl))) rfl)⟩
set_option maxRecDepth 100000 in
theorem v_yX11_earliest : x_YV yX11_earliest cX11_earliest 5 (some .int) 4 := ⟨⟨(x_gin (List.mem_append_right _ (tb_7 _ (List.mem_of_getElem? (i := 174) rfl))) rfl), (x_gin (List.mem_append_right _ (tb_1 _ (List.mem_of_getElem? (i := 11) rfl))) rfl), by decide +kernel, by decide⟩, (x_gin (List.mem_append_right _ (tb_7 _ (List.mem_of_getElem? (i := 172) rfl))) rfl), (x_gin (List.mem_append_right _ (tb_7 _ (List.mem_of_getElem? (i := 173) rfl))) rfl)⟩
set_option maxRecDepth 100000 in
theorem v_yX11_meets : x_YV yX11_meets cX11_meets 9 none 2 := ⟨⟨(x_gin (List.mem_append_right _ (tb_7 _ (List.mem_of_getElem? (i := 178) rfl))) rfl), (x_gin (List.mem_append_right _ (tb_1 _ (List.mem_of_getElem? (i := 11) rfl))) rfl), by decide +kernel, by decide⟩, (x_gin (List.mem_append_right _ (tb_7 _ (List.mem_of_getElem? (i := 177) rfl))) rfl), (x_gin (List.mem_append_left _ (List.mem_of_getElem? (i := 85) rfl)) rfl)⟩
set_option maxRecDepth 100000 in
theorem v_yX11_goesBackwards : x_YV yX11_goesBackwards cX11_goesBackwards 5 none 0 := ⟨⟨(x_gin (List.mem_append_right _ (tb_7 _ (List.mem_of_getElem? (i := 182) rfl))) rfl), (x_gin (List.mem_append_right _ (tb_1 _ (List.mem_of_getElem? (i := 11) rfl))) rfl), by decide +kernel, by decide⟩, (x_gin (List.mem_append_right _ (tb_7 _ (List.mem_of_getElem? (i := 181) rfl))) rfl), (x_gin (List.mem_append_left _ (List.mem_of_getElem? (i := 86) rfl)) rfl)⟩
set_option maxRecDepth 100000 in
theorem v_yX11_earliestOf : x_YV yX11_earliestOf cX11_earliestOf 5 (some .int) 2 := ⟨⟨(x_gin (List.mem_append_right _ (tb_7 _ (List.mem_of_getElem? (i := 186) rfl))) rfl), (x_gin (List.mem_append_right _ (tb_1 _ (List.mem_of_getElem? (i := 11) rfl))) rfl), by decide +kernel, by decide⟩, (x_gin (List.mem_append_right _ (tb_7 _ (List.mem_of_getElem? (i := 185) rfl))) rfl), (x_gin (List.mem_append_left _ (List.mem_of_getElem? (i := 87) rfl)) rfl)⟩
set_option maxRecDepth 100000 in
theorem v_yX11_may : x_YV yX11_may cX11_may 7 (some .int) 4 := ⟨⟨(x_gin (List.mem_append_right _ (tb_7 _ (List.mem_of_getElem? (i := 190) rfl))) rfl), (x_gin (List.mem_append_right _ (tb_1 _ (List.mem_of_getElem? (i := 11) rfl))) rfl), by decide +kernel, by decide⟩, (x_gin (List.mem_append_right _ (tb_7 _ (List.mem_of_getElem? (i := 188) rfl))) rfl), (x_gin (List.mem_append_right _ (tb_7 _ (List.mem_of_getElem? (i := 189) rfl))) rfl)⟩
set_option maxRecDepth 100000 in
theorem v_yX11_shut : x_YV yX11_shut cX11_shut 4 (some .int) 1 := ⟨⟨(x_gin (List.mem_append_right _ (tb_7 _ (List.mem_of_getElem? (i := 194) rfl))) rfl), (x_gin (List.mem_append_right _ (tb_1 _ (List.mem_of_getElem? (i := 11) rfl))) rfl), by decide +kernel, by decide⟩, (x_gin (List.mem_append_right _ (tb_7 _ (List.mem_of_getElem? (i := 192) rfl))) rfl), (x_gin (List.mem_append_right _ (tb_7 _ (List.mem_of_getElem? (i := 193) rfl))) rfl)⟩
set_option maxRecDepth 100000 in
theorem v_yX11_isShut : x_YV yX11_isShut cX11_isShut 4 (some .boolean) 3 := ⟨⟨(x_gin (List.mem_append_right _ (tb_7 _ (List.mem_of_getElem? (i := 198) rfl))) rfl), (x_gin (List.mem_append_right _ (tb_1 _ (List.mem_of_getElem? (i := 11) rfl))) rfl), by decide +kernel, by decide⟩, (x_gin (List.mem_append_right _ (tb_7 _ (List.mem_of_getElem? (i := 197) rfl))) rfl), (x_gin (List.mem_append_left _ (List.mem_of_getElem? (i := 88) rfl)) rfl)⟩
set_option maxRecDepth 100000 in
theorem v_yX11_opens : x_YV yX11_opens cX11_opens 5 (some .int) 2 := ⟨⟨(x_gin (List.mem_append_right _ (tb_7 _ (List.mem_of_getElem? (i := 202) rfl))) rfl), (x_gin (List.mem_append_right _ (tb_1 _ (List.mem_of_getElem? (i := 11) rfl))) rfl), by decide +kernel, by decide⟩, (x_gin (List.mem_append_right _ (tb_7 _ (List.mem_of_getElem? (i := 200) rfl))) rfl), (x_gin (List.mem_append_right _ (tb_7 _ (List.mem_of_getElem? (i := 201) rfl))) rfl)⟩
set_option maxRecDepth 100000 in
theorem v_yX11_trap : x_YV yX11_trap cX11_trap 4 (some .int) 3 := ⟨⟨(x_gin (List.mem_append_right _ (tb_7 _ (List.mem_of_getElem? (i := 206) rfl))) rfl), (x_gin (List.mem_append_right _ (tb_1 _ (List.mem_of_getElem? (i := 11) rfl))) rfl), by decide +kernel, by decide⟩, (x_gin (List.mem_append_right _ (tb_7 _ (List.mem_of_getElem? (i := 204) rfl))) rfl), (x_gin (List.mem_append_right _ (tb_7 _ (List.mem_of_getElem? (i := 205) rfl))) rfl)⟩
set_option maxRecDepth 100000 in
theorem v_yX11_story : x_YV yX11_story cX11_story 4 (some .int) 3 := ⟨⟨(x_gin (List.mem_append_right _ (tb_7 _ (List.mem_of_getElem? (i := 210) rfl))) rfl), (x_gin (List.mem_append_right _ (tb_1 _ (List.mem_of_getElem? (i := 11) rfl))) rfl), by decide +kernel, by decide⟩, (x_gin (List.mem_append_right _ (tb_7 _ (List.mem_of_getElem? (i := 208) rfl))) rfl), (x_gin (List.mem_append_right _ (tb_7 _ (List.mem_of_getElem? (i := 209) rfl))) rfl)⟩
set_option maxRecDepth 100000 in
theorem v_yX11_night : x_YV yX11_night cX11_night 8 (some .int) 5 := ⟨⟨(x_gin (List.mem_append_right _ (tb_7 _ (List.mem_of_getElem? (i := 214) rfl))) rfl), (x_gin (List.mem_append_right _ (tb_1 _ (List.mem_of_getElem? (i := 11) rfl))) rfl), by decide +kernel, by decide⟩, (x_gin (List.mem_append_right _ (tb_7 _ (List.mem_of_getElem? (i := 212) rfl))) rfl), (x_gin (List.mem_append_right _ (tb_7 _ (List.mem_of_getElem? (i := 213) rfl))) rfl)⟩
set_option maxRecDepth 100000 in
theorem v_yX11_hasOthers : x_YV yX11_hasOthers cX11_hasOthers 3 (some .boolean) 2 := ⟨⟨(x_gin (List.mem_append_right _ (tb_7 _ (List.mem_of_getElem? (i := 218) rfl))) rfl), (x_gin (List.mem_append_right _ (tb_1 _ (List.mem_of_getElem? (i := 11) rfl))) rfl), by decide +kernel, by decide⟩, (x_gin (List.mem_append_right _ (tb_7 _ (List.mem_of_getElem? (i := 217) rfl))) rfl), (x_gin (List.mem_append_left _ (List.mem_of_getElem? (i := 89) rfl)) rfl)⟩
set_option maxRecDepth 100000 in
theorem v_yX11_odds : x_YV yX11_odds cX11_odds 2 (some .int) 1 := ⟨⟨(x_gin (List.mem_append_right _ (tb_7 _ (List.mem_of_getElem? (i := 222) rfl))) rfl), (x_gin (List.mem_append_right _ (tb_1 _ (List.mem_of_getElem? (i := 11) rfl))) rfl), by decide +kernel, by decide⟩, (x_gin (List.mem_append_right _ (tb_7 _ (List.mem_of_getElem? (i := 220) rfl))) rfl), (x_gin (List.mem_append_right _ (tb_7 _ (List.mem_of_getElem? (i := 221) rfl))) rfl)⟩
set_option maxRecDepth 100000 in
theorem v_yX11_forgets : x_YV yX11_forgets cX11_forgets 2 none 0 := ⟨⟨(x_gin (List.mem_append_right _ (tb_7 _ (List.mem_of_getElem? (i := 226) rfl))) rfl), (x_gin (List.mem_append_right _ (tb_1 _ (List.mem_of_getElem? (i := 11) rfl))) rfl), by decide +kernel, by decide⟩, (x_gin (List.mem_append_right _ (tb_7 _ (List.mem_of_getElem? (i := 225) rfl))) rfl), (x_gin (List.mem_append_left _ (List.mem_of_getElem? (i := 90) rfl)) rfl)⟩
set_option maxRecDepth 100000 in
theorem v_yX11_oddsAfter : x_YV yX11_oddsAfter cX11_oddsAfter 4 none 1 := ⟨⟨(x_gin (List.mem_append_right _ (tb_7 _ (List.mem_of_getElem? (i := 230) rfl))) rfl), (x_gin (List.mem_append_right _ (tb_1 _ (List.mem_of_getElem? (i := 11) rfl))) rfl), by decide +kernel, by decide⟩, (x_gin (List.mem_append_right _ (tb_7 _ (List.mem_of_getElem? (i := 229) rfl))) rfl), (x_gin (List.mem_append_left _ (List.mem_of_getElem? (i := 91) rfl)) rfl)⟩
set_option maxRecDepth 100000 in
theorem v_yX11_shares : x_YV yX11_shares cX11_shares 7 none 0 := ⟨⟨(x_gin (List.mem_append_right _ (tb_7 _ (List.mem_of_getElem? (i := 234) rfl))) rfl), (x_gin (List.mem_append_right _ (tb_1 _ (List.mem_of_getElem? (i := 11) rfl))) rfl), by decide +kernel, by decide⟩, (x_gin (List.mem_append_right _ (tb_7 _ (List.mem_of_getElem? (i := 233) rfl))) rfl), (x_gin (List.mem_append_left _ (List.mem_of_getElem? (i := 92) rfl)) rfl)⟩
set_option maxRecDepth 100000 in
theorem v_yX11_factorOf : x_YV yX11_factorOf cX11_factorOf 10 (some .long) 2 := ⟨⟨(x_gin (List.mem_append_right _ (tb_7 _ (List.mem_of_getElem? (i := 239) rfl))) rfl), (x_gin (List.mem_append_right _ (tb_1 _ (List.mem_of_getElem? (i := 11) rfl))) rfl), by decide +kernel, by decide⟩, (x_gin (List.mem_append_right _ (tb_7 _ (List.mem_of_getElem? (i := 238) rfl))) rfl), (x_gin (List.mem_append_left _ (List.mem_of_getElem? (i := 93) rfl)) rfl)⟩
set_option maxRecDepth 100000 in
theorem v_yX11_canBe : x_YV yX11_canBe cX11_canBe 7 (some .int) 3 := ⟨⟨(x_gin (List.mem_append_right _ (tb_8 _ (List.mem_of_getElem? (i := 3) rfl))) rfl), (x_gin (List.mem_append_right _ (tb_1 _ (List.mem_of_getElem? (i := 11) rfl))) rfl), by decide +kernel, by decide⟩, (x_gin (List.mem_append_right _ (tb_8 _ (List.mem_of_getElem? (i := 2) rfl))) rfl), (x_gin (List.mem_append_left _ (List.mem_of_getElem? (i := 94) rfl)) rfl)⟩
set_option maxRecDepth 100000 in
theorem v_yX11_springs : x_YV yX11_springs cX11_springs 3 (some .int) 2 := ⟨⟨(x_gin (List.mem_append_right _ (tb_8 _ (List.mem_of_getElem? (i := 10) rfl))) rfl), (x_gin (List.mem_append_right _ (tb_1 _ (List.mem_of_getElem? (i := 11) rfl))) rfl), by decide +kernel, by decide⟩, (x_gin (List.mem_append_right _ (tb_8 _ (List.mem_of_getElem? (i := 9) rfl))) rfl), (x_gin (List.mem_append_left _ (List.mem_of_getElem? (i := 95) rfl)) rfl)⟩
set_option maxRecDepth 100000 in
theorem v_yX11_oddsBy : x_YV yX11_oddsBy cX11_oddsBy 3 (some .int) 2 := ⟨⟨(x_gin (List.mem_append_right _ (tb_8 _ (List.mem_of_getElem? (i := 14) rfl))) rfl), (x_gin (List.mem_append_right _ (tb_1 _ (List.mem_of_getElem? (i := 11) rfl))) rfl), by decide +kernel, by decide⟩, (x_gin (List.mem_append_right _ (tb_8 _ (List.mem_of_getElem? (i := 12) rfl))) rfl), (x_gin (List.mem_append_right _ (tb_8 _ (List.mem_of_getElem? (i := 13) rfl))) rfl)⟩
set_option maxRecDepth 100000 in
theorem v_yX11_factor : x_YV yX11_factor cX11_factor 3 (some .long) 2 := ⟨⟨(x_gin (List.mem_append_right _ (tb_8 _ (List.mem_of_getElem? (i := 18) rfl))) rfl), (x_gin (List.mem_append_right _ (tb_1 _ (List.mem_of_getElem? (i := 11) rfl))) rfl), by decide +kernel, by decide⟩, (x_gin (List.mem_append_right _ (tb_8 _ (List.mem_of_getElem? (i := 16) rfl))) rfl), (x_gin (List.mem_append_right _ (tb_8 _ (List.mem_of_getElem? (i := 17) rfl))) rfl)⟩
set_option maxRecDepth 100000 in
theorem v_yX11_says : x_YV yX11_says cX11_says 7 (some .long) 1 := ⟨⟨(x_gin (List.mem_append_right _ (tb_8 _ (List.mem_of_getElem? (i := 22) rfl))) rfl), (x_gin (List.mem_append_right _ (tb_1 _ (List.mem_of_getElem? (i := 11) rfl))) rfl), by decide +kernel, by decide⟩, (x_gin (List.mem_append_right _ (tb_8 _ (List.mem_of_getElem? (i := 20) rfl))) rfl), (x_gin (List.mem_append_right _ (tb_8 _ (List.mem_of_getElem? (i := 21) rfl))) rfl)⟩
set_option maxRecDepth 100000 in
theorem v_yX11_with : x_YV yX11_with cX11_with 9 (some .int) 2 := ⟨⟨(x_gin (List.mem_append_right _ (tb_8 _ (List.mem_of_getElem? (i := 27) rfl))) rfl), (x_gin (List.mem_append_right _ (tb_1 _ (List.mem_of_getElem? (i := 11) rfl))) rfl), by decide +kernel, by decide⟩, (x_gin (List.mem_append_right _ (tb_8 _ (List.mem_of_getElem? (i := 25) rfl))) rfl), (x_gin (List.mem_append_right _ (tb_8 _ (List.mem_of_getElem? (i := 26) rfl))) rfl)⟩
set_option maxRecDepth 100000 in
theorem s_yX11_choices : x_YS yX11_choices cX11_choices 4 (some .int) 2 := ⟨⟨(x_gin (List.mem_append_right _ (tb_8 _ (List.mem_of_getElem? (i := 30) rfl))) rfl), (x_gin (List.mem_append_right _ (tb_1 _ (List.mem_of_getElem? (i := 11) rfl))) rfl), by decide +kernel, by decide⟩, (x_gin (List.mem_append_right _ (tb_8 _ (List.mem_of_getElem? (i := 29) rfl))) rfl)⟩
set_option maxRecDepth 100000 in
theorem v_yX11_knew : x_YV yX11_knew cX11_knew 2 none 1 := ⟨⟨(x_gin (List.mem_append_right _ (tb_8 _ (List.mem_of_getElem? (i := 34) rfl))) rfl), (x_gin (List.mem_append_right _ (tb_1 _ (List.mem_of_getElem? (i := 11) rfl))) rfl), by decide +kernel, by decide⟩, (x_gin (List.mem_append_right _ (tb_8 _ (List.mem_of_getElem? (i := 32) rfl))) rfl), (x_gin (List.mem_append_right _ (tb_8 _ (List.mem_of_getElem? (i := 33) rfl))) rfl)⟩
set_option maxRecDepth 100000 in
theorem v_yX11_told : x_YV yX11_told cX11_told 4 (some .int) 3 := ⟨⟨(x_gin (List.mem_append_right _ (tb_8 _ (List.mem_of_getElem? (i := 38) rfl))) rfl), (x_gin (List.mem_append_right _ (tb_1 _ (List.mem_of_getElem? (i := 11) rfl))) rfl), by decide +kernel, by decide⟩, (x_gin (List.mem_append_right _ (tb_8 _ (List.mem_of_getElem? (i := 36) rfl))) rfl), (x_gin (List.mem_append_right _ (tb_8 _ (List.mem_of_getElem? (i := 37) rfl))) rfl)⟩
set_option maxRecDepth 100000 in
theorem v_yX11_knows : x_YV yX11_knows cX11_knows 2 (some .int) 1 := ⟨⟨(x_gin (List.mem_append_right _ (tb_8 _ (List.mem_of_getElem? (i := 42) rfl))) rfl), (x_gin (List.mem_append_right _ (tb_1 _ (List.mem_of_getElem? (i := 11) rfl))) rfl), by decide +kernel, by decide⟩, (x_gin (List.mem_append_right _ (tb_8 _ (List.mem_of_getElem? (i := 40) rfl))) rfl), (x_gin (List.mem_append_right _ (tb_8 _ (List.mem_of_getElem? (i := 41) rfl))) rfl)⟩
set_option maxRecDepth 100000 in
theorem v_yX11_knowing : x_YV yX11_knowing cX11_knowing 9 (some .int) 3 := ⟨⟨(x_gin (List.mem_append_right _ (tb_8 _ (List.mem_of_getElem? (i := 46) rfl))) rfl), (x_gin (List.mem_append_right _ (tb_1 _ (List.mem_of_getElem? (i := 11) rfl))) rfl), by decide +kernel, by decide⟩, (x_gin (List.mem_append_right _ (tb_8 _ (List.mem_of_getElem? (i := 45) rfl))) rfl), (x_gin (List.mem_append_left _ (List.mem_of_getElem? (i := 96) rfl)) rfl)⟩
set_option maxRecDepth 100000 in
theorem v_yX11_whence : x_YV yX11_whence cX11_whence 7 (some .int) 2 := ⟨⟨(x_gin (List.mem_append_right _ (tb_8 _ (List.mem_of_getElem? (i := 50) rfl))) rfl), (x_gin (List.mem_append_right _ (tb_1 _ (List.mem_of_getElem? (i := 11) rfl))) rfl), by decide +kernel, by decide⟩, (x_gin (List.mem_append_right _ (tb_8 _ (List.mem_of_getElem? (i := 48) rfl))) rfl), (x_gin (List.mem_append_right _ (tb_8 _ (List.mem_of_getElem? (i := 49) rfl))) rfl)⟩
set_option maxRecDepth 100000 in
theorem v_yX11_knot : x_YV yX11_knot cX11_knot 6 (some .int) 4 := ⟨⟨(x_gin (List.mem_append_right _ (tb_8 _ (List.mem_of_getElem? (i := 54) rfl))) rfl), (x_gin (List.mem_append_right _ (tb_1 _ (List.mem_of_getElem? (i := 11) rfl))) rfl), by decide +kernel, by decide⟩, (x_gin (List.mem_append_right _ (tb_8 _ (List.mem_of_getElem? (i := 52) rfl))) rfl), (x_gin (List.mem_append_right _ (tb_8 _ (List.mem_of_getElem? (i := 53) rfl))) rfl)⟩
set_option maxRecDepth 100000 in
theorem v_yX11_rope : x_YV yX11_rope cX11_rope 2 none 1 := ⟨⟨(x_gin (List.mem_append_right _ (tb_8 _ (List.mem_of_getElem? (i := 58) rfl))) rfl), (x_gin (List.mem_append_right _ (tb_1 _ (List.mem_of_getElem? (i := 11) rfl))) rfl), by decide +kernel, by decide⟩, (x_gin (List.mem_append_right _ (tb_8 _ (List.mem_of_getElem? (i := 56) rfl))) rfl), (x_gin (List.mem_append_right _ (tb_8 _ (List.mem_of_getElem? (i := 57) rfl))) rfl)⟩
set_option maxRecDepth 100000 in
theorem v_yX11_out : x_YV yX11_out cX11_out 7 (some .int) 2 := ⟨⟨(x_gin (List.mem_append_right _ (tb_8 _ (List.mem_of_getElem? (i := 62) rfl))) rfl), (x_gin (List.mem_append_right _ (tb_1 _ (List.mem_of_getElem? (i := 11) rfl))) rfl), by decide +kernel, by decide⟩, (x_gin (List.mem_append_right _ (tb_8 _ (List.mem_of_getElem? (i := 60) rfl))) rfl), (x_gin (List.mem_append_right _ (tb_8 _ (List.mem_of_getElem? (i := 61) rfl))) rfl)⟩
set_option maxRecDepth 100000 in
theorem v_yX11_spreads : x_YV yX11_spreads cX11_spreads 7 none 1 := ⟨⟨(x_gin (List.mem_append_right _ (tb_8 _ (List.mem_of_getElem? (i := 66) rfl))) rfl), (x_gin (List.mem_append_right _ (tb_1 _ (List.mem_of_getElem? (i := 11) rfl))) rfl), by decide +kernel, by decide⟩, (x_gin (List.mem_append_right _ (tb_8 _ (List.mem_of_getElem? (i := 65) rfl))) rfl), (x_gin (List.mem_append_left _ (List.mem_of_getElem? (i := 97) rfl)) rfl)⟩
set_option maxRecDepth 100000 in
theorem v_yX11_canTurn : x_YV yX11_canTurn cX11_canTurn 5 (some .boolean) 2 := ⟨⟨(x_gin (List.mem_append_right _ (tb_8 _ (List.mem_of_getElem? (i := 71) rfl))) rfl), (x_gin (List.mem_append_right _ (tb_1 _ (List.mem_of_getElem? (i := 11) rfl))) rfl), by decide +kernel, by decide⟩, (x_gin (List.mem_append_right _ (tb_8 _ (List.mem_of_getElem? (i := 70) rfl))) rfl), (x_gin (List.mem_append_left _ (List.mem_of_getElem? (i := 98) rfl)) rfl)⟩
set_option maxRecDepth 100000 in
theorem v_yX11_leastTo : x_YV yX11_leastTo cX11_leastTo 4 (some .int) 1 := ⟨⟨(x_gin (List.mem_append_right _ (tb_8 _ (List.mem_of_getElem? (i := 76) rfl))) rfl), (x_gin (List.mem_append_right _ (tb_1 _ (List.mem_of_getElem? (i := 11) rfl))) rfl), by decide +kernel, by decide⟩, (x_gin (List.mem_append_right _ (tb_8 _ (List.mem_of_getElem? (i := 75) rfl))) rfl), (x_gin (List.mem_append_left _ (List.mem_of_getElem? (i := 99) rfl)) rfl)⟩
set_option maxRecDepth 100000 in
theorem v_yX11_first : x_YV yX11_first cX11_first 5 (some .int) 1 := ⟨⟨(x_gin (List.mem_append_right _ (tb_8 _ (List.mem_of_getElem? (i := 80) rfl))) rfl), (x_gin (List.mem_append_right _ (tb_1 _ (List.mem_of_getElem? (i := 11) rfl))) rfl), by decide +kernel, by decide⟩, (x_gin (List.mem_append_right _ (tb_8 _ (List.mem_of_getElem? (i := 78) rfl))) rfl), (x_gin (List.mem_append_right _ (tb_8 _ (List.mem_of_getElem? (i := 79) rfl))) rfl)⟩
set_option maxRecDepth 100000 in
theorem v_yX11_tale : x_YV yX11_tale cX11_tale 7 (some .int) 3 := ⟨⟨(x_gin (List.mem_append_right _ (tb_8 _ (List.mem_of_getElem? (i := 84) rfl))) rfl), (x_gin (List.mem_append_right _ (tb_1 _ (List.mem_of_getElem? (i := 11) rfl))) rfl), by decide +kernel, by decide⟩, (x_gin (List.mem_append_right _ (tb_8 _ (List.mem_of_getElem? (i := 82) rfl))) rfl), (x_gin (List.mem_append_right _ (tb_8 _ (List.mem_of_getElem? (i := 83) rfl))) rfl)⟩
set_option maxRecDepth 100000 in
theorem v_yX11_cold : x_YV yX11_cold cX11_cold 7 (some .int) 3 := ⟨⟨(x_gin (List.mem_append_right _ (tb_8 _ (List.mem_of_getElem? (i := 92) rfl))) rfl), (x_gin (List.mem_append_right _ (tb_1 _ (List.mem_of_getElem? (i := 11) rfl))) rfl), by decide +kernel, by decide⟩, (x_gin (List.mem_append_right _ (tb_8 _ (List.mem_of_getElem? (i := 90) rfl))) rfl), (x_gin (List.mem_append_right _ (tb_8 _ (List.mem_of_getElem? (i := 91) rfl))) rfl)⟩
set_option maxRecDepth 100000 in
theorem v_yX11_count : x_YV yX11_count cX11_count 2 (some .int) 1 := ⟨⟨(x_gin (List.mem_append_right _ (tb_8 _ (List.mem_of_getElem? (i := 97) rfl))) rfl), (x_gin (List.mem_append_right _ (tb_1 _ (List.mem_of_getElem? (i := 11) rfl))) rfl), by decide +kernel, by decide⟩, (x_gin (List.mem_append_right _ (tb_8 _ (List.mem_of_getElem? (i := 95) rfl))) rfl), (x_gin (List.mem_append_right _ (tb_8 _ (List.mem_of_getElem? (i := 96) rfl))) rfl)⟩
