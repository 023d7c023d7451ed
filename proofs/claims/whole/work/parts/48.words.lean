theorem tx_63 : Cond.instanceMethod Lib.objectInit ∈ tb_w := tb_in (List.mem_of_getElem? (i := 63) (by decide +kernel)) (by first | rfl | decide +kernel)
set_option maxRecDepth 20000 in
theorem tx_64 : Cond.code Lib.objectInit ⟨#[0xb1]⟩ 1 none ∈ tb_w := tb_in (List.mem_of_getElem? (i := 64) rfl) (by first | rfl | decide +kernel)
theorem tx_94 : Cond.arrayClass .int ∈ tb_w := tb_in (List.mem_of_getElem? (i := 94) (by decide +kernel)) (by first | rfl | decide +kernel)
theorem tx_702 : Cond.arrayClass .byte ∈ tb_w := tb_in (List.mem_of_getElem? (i := 702) (by decide +kernel)) (by first | rfl | decide +kernel)
theorem tx_72 : Cond.methodLink RX0 3 Lib.objectInit ∈ tb_w := tb_in (List.mem_of_getElem? (i := 72) (by decide +kernel)) (by first | rfl | decide +kernel)
theorem tx_68 : Cond.instantiable RX0 5 ∈ tb_w := tb_in (List.mem_of_getElem? (i := 68) (by decide +kernel)) (by first | rfl | decide +kernel)
theorem tx_49 : Cond.initialized RX0 ∈ tb_w := tb_in (List.mem_of_getElem? (i := 49) (by decide +kernel)) (by first | rfl | decide +kernel)
theorem tx_70 : Cond.instanceMethod yX0_init ∈ tb_w := tb_in (List.mem_of_getElem? (i := 70) (by decide +kernel)) (by first | rfl | decide +kernel)
set_option maxRecDepth 20000 in
theorem tx_71 : Cond.code yX0_init cX0_init 1 none ∈ tb_w := tb_in (List.mem_of_getElem? (i := 71) rfl) (by first | rfl | decide +kernel)
theorem tx_127 : Cond.methodLink RX1 3 Lib.objectInit ∈ tb_w := tb_in (List.mem_of_getElem? (i := 127) (by decide +kernel)) (by first | rfl | decide +kernel)
theorem tx_123 : Cond.instantiable RX1 3 ∈ tb_w := tb_in (List.mem_of_getElem? (i := 123) (by decide +kernel)) (by first | rfl | decide +kernel)
theorem tx_51 : Cond.initialized RX1 ∈ tb_w := tb_in (List.mem_of_getElem? (i := 51) (by decide +kernel)) (by first | rfl | decide +kernel)
theorem tx_125 : Cond.instanceMethod yX1_init ∈ tb_w := tb_in (List.mem_of_getElem? (i := 125) (by decide +kernel)) (by first | rfl | decide +kernel)
set_option maxRecDepth 20000 in
theorem tx_126 : Cond.code yX1_init cX1_init 1 none ∈ tb_w := tb_in (List.mem_of_getElem? (i := 126) rfl) (by first | rfl | decide +kernel)
theorem tx_147 : Cond.methodLink RX2 3 Lib.objectInit ∈ tb_w := tb_in (List.mem_of_getElem? (i := 147) (by decide +kernel)) (by first | rfl | decide +kernel)
theorem tx_143 : Cond.instantiable RX2 2 ∈ tb_w := tb_in (List.mem_of_getElem? (i := 143) (by decide +kernel)) (by first | rfl | decide +kernel)
theorem tx_52 : Cond.initialized RX2 ∈ tb_w := tb_in (List.mem_of_getElem? (i := 52) (by decide +kernel)) (by first | rfl | decide +kernel)
theorem tx_145 : Cond.instanceMethod yX2_init ∈ tb_w := tb_in (List.mem_of_getElem? (i := 145) (by decide +kernel)) (by first | rfl | decide +kernel)
set_option maxRecDepth 20000 in
theorem tx_146 : Cond.code yX2_init cX2_init 1 none ∈ tb_w := tb_in (List.mem_of_getElem? (i := 146) rfl) (by first | rfl | decide +kernel)
theorem tx_100 : Cond.methodLink RX3 3 Lib.objectInit ∈ tb_w := tb_in (List.mem_of_getElem? (i := 100) (by decide +kernel)) (by first | rfl | decide +kernel)
theorem tx_96 : Cond.instantiable RX3 5 ∈ tb_w := tb_in (List.mem_of_getElem? (i := 96) (by decide +kernel)) (by first | rfl | decide +kernel)
theorem tx_50 : Cond.initialized RX3 ∈ tb_w := tb_in (List.mem_of_getElem? (i := 50) (by decide +kernel)) (by first | rfl | decide +kernel)
theorem tx_98 : Cond.instanceMethod yX3_init ∈ tb_w := tb_in (List.mem_of_getElem? (i := 98) (by decide +kernel)) (by first | rfl | decide +kernel)
set_option maxRecDepth 20000 in
theorem tx_99 : Cond.code yX3_init cX3_init 1 none ∈ tb_w := tb_in (List.mem_of_getElem? (i := 99) rfl) (by first | rfl | decide +kernel)
theorem tx_62 : Cond.methodLink RX4 1 Lib.objectInit ∈ tb_w := tb_in (List.mem_of_getElem? (i := 62) (by decide +kernel)) (by first | rfl | decide +kernel)
theorem tx_58 : Cond.instantiable RX4 14 ∈ tb_w := tb_in (List.mem_of_getElem? (i := 58) (by decide +kernel)) (by first | rfl | decide +kernel)
theorem tx_48 : Cond.initialized RX4 ∈ tb_w := tb_in (List.mem_of_getElem? (i := 48) (by decide +kernel)) (by first | rfl | decide +kernel)
theorem tx_60 : Cond.instanceMethod yX4_init ∈ tb_w := tb_in (List.mem_of_getElem? (i := 60) (by decide +kernel)) (by first | rfl | decide +kernel)
set_option maxRecDepth 20000 in
theorem tx_61 : Cond.code yX4_init cX4_init 2 none ∈ tb_w := tb_in (List.mem_of_getElem? (i := 61) rfl) (by first | rfl | decide +kernel)
theorem tx_634 : Cond.methodLink RX5 1 Lib.objectInit ∈ tb_w := tb_in (List.mem_of_getElem? (i := 634) (by decide +kernel)) (by first | rfl | decide +kernel)
theorem tx_630 : Cond.instantiable RX5 22 ∈ tb_w := tb_in (List.mem_of_getElem? (i := 630) (by decide +kernel)) (by first | rfl | decide +kernel)
theorem tx_53 : Cond.initialized RX5 ∈ tb_w := tb_in (List.mem_of_getElem? (i := 53) (by decide +kernel)) (by first | rfl | decide +kernel)
theorem tx_632 : Cond.instanceMethod yX5_init ∈ tb_w := tb_in (List.mem_of_getElem? (i := 632) (by decide +kernel)) (by first | rfl | decide +kernel)
set_option maxRecDepth 20000 in
theorem tx_633 : Cond.code yX5_init cX5_init 2 none ∈ tb_w := tb_in (List.mem_of_getElem? (i := 633) rfl) (by first | rfl | decide +kernel)
theorem tx_65 : Cond.classLink RX4 9 RX2 ∈ tb_w := tb_in (List.mem_of_getElem? (i := 65) (by decide +kernel)) (by first | rfl | decide +kernel)
theorem nwX4_9 : nx_N RX4 9 2 2 [.null, .int 0] := ⟨RX2, TX2, tyX2, rfl, wsX2_tb, tyX2_ok, tx_65, tx_143, tx_52, fun j hj => by rcases (show j = 0 ∨ j = 1 by omega) with rfl | rfl <;> rfl, fun _ => rfl⟩
theorem tx_67 : Cond.classLink RX4 18 RX0 ∈ tb_w := tb_in (List.mem_of_getElem? (i := 67) (by decide +kernel)) (by first | rfl | decide +kernel)
theorem nwX4_18 : nx_N RX4 18 0 5 [.null, .null, .null, .int 0, .int 0] := ⟨RX0, TX0, tyX0, rfl, wsX0_tb, tyX0_ok, tx_67, tx_68, tx_49, fun j hj => by rcases (show j = 0 ∨ j = 1 ∨ j = 2 ∨ j = 3 ∨ j = 4 by omega) with rfl | rfl | rfl | rfl | rfl <;> rfl, fun _ => rfl⟩
theorem tx_95 : Cond.classLink RX4 25 RX3 ∈ tb_w := tb_in (List.mem_of_getElem? (i := 95) (by decide +kernel)) (by first | rfl | decide +kernel)
theorem nwX4_25 : nx_N RX4 25 3 5 [.int 0, .int 0, .int 0, .int 0, .int 0] := ⟨RX3, TX3, tyX3, rfl, wsX3_tb, tyX3_ok, tx_95, tx_96, tx_50, fun j hj => by rcases (show j = 0 ∨ j = 1 ∨ j = 2 ∨ j = 3 ∨ j = 4 by omega) with rfl | rfl | rfl | rfl | rfl <;> rfl, fun _ => rfl⟩
theorem tx_122 : Cond.classLink RX4 32 RX1 ∈ tb_w := tb_in (List.mem_of_getElem? (i := 122) (by decide +kernel)) (by first | rfl | decide +kernel)
theorem nwX4_32 : nx_N RX4 32 1 3 [.null, .null, .int 0] := ⟨RX1, TX1, tyX1, rfl, wsX1_tb, tyX1_ok, tx_122, tx_123, tx_51, fun j hj => by rcases (show j = 0 ∨ j = 1 ∨ j = 2 by omega) with rfl | rfl | rfl <;> rfl, fun _ => rfl⟩
theorem niX4_20 : nx_I RX4 mX0_init 20 := ⟨⟨RX4, by decide +kernel⟩, rfl, tx_70, tx_49, tx_71, rfl, ⟨by decide +kernel, by decide +kernel, by decide +kernel⟩, by decide⟩
theorem niX4_27 : nx_I RX4 mX3_init 27 := ⟨⟨RX4, by decide +kernel⟩, rfl, tx_98, tx_50, tx_99, rfl, ⟨by decide +kernel, by decide +kernel, by decide +kernel⟩, by decide⟩
theorem niX4_34 : nx_I RX4 mX1_init 34 := ⟨⟨RX4, by decide +kernel⟩, rfl, tx_125, tx_51, tx_126, rfl, ⟨by decide +kernel, by decide +kernel, by decide +kernel⟩, by decide⟩
theorem niX4_71 : nx_I RX4 mX2_init 71 := ⟨⟨RX4, by decide +kernel⟩, rfl, tx_145, tx_52, tx_146, rfl, ⟨by decide +kernel, by decide +kernel, by decide +kernel⟩, by decide⟩
theorem tx_73 : Cond.fieldLink RX0 9 (TX0 0).1 (TX0 0).2.1 (TX0 0).2.2.1 ∈ tb_w := tb_in (List.mem_of_getElem? (i := 73) (by decide +kernel)) (by first | rfl | decide +kernel)
theorem nfX0_9 : nx_F RX0 9 0 0 := ⟨RX0, TX0, 5, tyX0, tyX0 0, rfl, wsX0_tb, by decide, tx_73, by decide, tyX0_ok, nmX0, rfl, rfl, tyX0_ok 0 (by decide), fun _ => rfl, fun _ => rfl⟩
theorem tx_75 : Cond.fieldLink RX0 15 (TX0 1).1 (TX0 1).2.1 (TX0 1).2.2.1 ∈ tb_w := tb_in (List.mem_of_getElem? (i := 75) (by decide +kernel)) (by first | rfl | decide +kernel)
theorem nfX0_15 : nx_F RX0 15 0 1 := ⟨RX0, TX0, 5, tyX0, tyX0 1, rfl, wsX0_tb, by decide, tx_75, by decide, tyX0_ok, nmX0, rfl, rfl, tyX0_ok 1 (by decide), fun _ => rfl, fun _ => rfl⟩
theorem tx_77 : Cond.fieldLink RX0 18 (TX0 2).1 (TX0 2).2.1 (TX0 2).2.2.1 ∈ tb_w := tb_in (List.mem_of_getElem? (i := 77) (by decide +kernel)) (by first | rfl | decide +kernel)
theorem nfX0_18 : nx_F RX0 18 0 2 := ⟨RX0, TX0, 5, tyX0, tyX0 2, rfl, wsX0_tb, by decide, tx_77, by decide, tyX0_ok, nmX0, rfl, rfl, tyX0_ok 2 (by decide), fun _ => rfl, fun _ => rfl⟩
theorem tx_128 : Cond.fieldLink RX1 9 (TX1 0).1 (TX1 0).2.1 (TX1 0).2.2.1 ∈ tb_w := tb_in (List.mem_of_getElem? (i := 128) (by decide +kernel)) (by first | rfl | decide +kernel)
theorem nfX1_9 : nx_F RX1 9 1 0 := ⟨RX1, TX1, 3, tyX1, tyX1 0, rfl, wsX1_tb, by decide, tx_128, by decide, tyX1_ok, nmX1, rfl, rfl, tyX1_ok 0 (by decide), fun _ => rfl, fun _ => rfl⟩
theorem tx_130 : Cond.fieldLink RX1 15 (TX1 1).1 (TX1 1).2.1 (TX1 1).2.2.1 ∈ tb_w := tb_in (List.mem_of_getElem? (i := 130) (by decide +kernel)) (by first | rfl | decide +kernel)
theorem nfX1_15 : nx_F RX1 15 1 1 := ⟨RX1, TX1, 3, tyX1, tyX1 1, rfl, wsX1_tb, by decide, tx_130, by decide, tyX1_ok, nmX1, rfl, rfl, tyX1_ok 1 (by decide), fun _ => rfl, fun _ => rfl⟩
theorem tx_148 : Cond.fieldLink RX2 9 (TX2 0).1 (TX2 0).2.1 (TX2 0).2.2.1 ∈ tb_w := tb_in (List.mem_of_getElem? (i := 148) (by decide +kernel)) (by first | rfl | decide +kernel)
theorem nfX2_9 : nx_F RX2 9 2 0 := ⟨RX2, TX2, 2, tyX2, tyX2 0, rfl, wsX2_tb, by decide, tx_148, by decide, tyX2_ok, nmX2, rfl, rfl, tyX2_ok 0 (by decide), fun _ => rfl, fun _ => rfl⟩
theorem tx_159 : Cond.fieldLink RX4 11 (TX4 0).1 (TX4 0).2.1 (TX4 0).2.2.1 ∈ tb_w := tb_in (List.mem_of_getElem? (i := 159) (by decide +kernel)) (by first | rfl | decide +kernel)
theorem nfX4_11 : nx_F RX4 11 4 0 := ⟨RX4, TX4, 14, tyX4, tyX4 0, rfl, wsX4_tb, by decide, tx_159, by decide, tyX4_ok, nmX4, rfl, rfl, tyX4_ok 0 (by decide), fun _ => rfl, fun _ => rfl⟩
theorem tx_160 : Cond.fieldLink RX4 15 (TX4 1).1 (TX4 1).2.1 (TX4 1).2.2.1 ∈ tb_w := tb_in (List.mem_of_getElem? (i := 160) (by decide +kernel)) (by first | rfl | decide +kernel)
theorem nfX4_15 : nx_F RX4 15 4 1 := ⟨RX4, TX4, 14, tyX4, tyX4 1, rfl, wsX4_tb, by decide, tx_160, by decide, tyX4_ok, nmX4, rfl, rfl, tyX4_ok 1 (by decide), fun _ => rfl, fun _ => rfl⟩
theorem tx_161 : Cond.fieldLink RX4 21 (TX4 2).1 (TX4 2).2.1 (TX4 2).2.2.1 ∈ tb_w := tb_in (List.mem_of_getElem? (i := 161) (by decide +kernel)) (by first | rfl | decide +kernel)
theorem nfX4_21 : nx_F RX4 21 4 2 := ⟨RX4, TX4, 14, tyX4, tyX4 2, rfl, wsX4_tb, by decide, tx_161, by decide, tyX4_ok, nmX4, rfl, rfl, tyX4_ok 2 (by decide), fun _ => rfl, fun _ => rfl⟩
theorem tx_162 : Cond.fieldLink RX4 28 (TX4 3).1 (TX4 3).2.1 (TX4 3).2.2.1 ∈ tb_w := tb_in (List.mem_of_getElem? (i := 162) (by decide +kernel)) (by first | rfl | decide +kernel)
theorem nfX4_28 : nx_F RX4 28 4 3 := ⟨RX4, TX4, 14, tyX4, tyX4 3, rfl, wsX4_tb, by decide, tx_162, by decide, tyX4_ok, nmX4, rfl, rfl, tyX4_ok 3 (by decide), fun _ => rfl, fun _ => rfl⟩
theorem tx_163 : Cond.fieldLink RX4 35 (TX4 4).1 (TX4 4).2.1 (TX4 4).2.2.1 ∈ tb_w := tb_in (List.mem_of_getElem? (i := 163) (by decide +kernel)) (by first | rfl | decide +kernel)
theorem nfX4_35 : nx_F RX4 35 4 4 := ⟨RX4, TX4, 14, tyX4, tyX4 4, rfl, wsX4_tb, by decide, tx_163, by decide, tyX4_ok, nmX4, rfl, rfl, tyX4_ok 4 (by decide), fun _ => rfl, fun _ => rfl⟩
theorem tx_164 : Cond.fieldLink RX4 39 (TX4 5).1 (TX4 5).2.1 (TX4 5).2.2.1 ∈ tb_w := tb_in (List.mem_of_getElem? (i := 164) (by decide +kernel)) (by first | rfl | decide +kernel)
theorem nfX4_39 : nx_F RX4 39 4 5 := ⟨RX4, TX4, 14, tyX4, tyX4 5, rfl, wsX4_tb, by decide, tx_164, by decide, tyX4_ok, nmX4, rfl, rfl, tyX4_ok 5 (by decide), fun _ => rfl, fun _ => rfl⟩
theorem tx_165 : Cond.fieldLink RX4 43 (TX4 6).1 (TX4 6).2.1 (TX4 6).2.2.1 ∈ tb_w := tb_in (List.mem_of_getElem? (i := 165) (by decide +kernel)) (by first | rfl | decide +kernel)
theorem nfX4_43 : nx_F RX4 43 4 6 := ⟨RX4, TX4, 14, tyX4, tyX4 6, rfl, wsX4_tb, by decide, tx_165, by decide, tyX4_ok, nmX4, rfl, rfl, tyX4_ok 6 (by decide), fun _ => rfl, fun _ => rfl⟩
theorem tx_166 : Cond.fieldLink RX4 46 (TX4 7).1 (TX4 7).2.1 (TX4 7).2.2.1 ∈ tb_w := tb_in (List.mem_of_getElem? (i := 166) (by decide +kernel)) (by first | rfl | decide +kernel)
theorem nfX4_46 : nx_F RX4 46 4 7 := ⟨RX4, TX4, 14, tyX4, tyX4 7, rfl, wsX4_tb, by decide, tx_166, by decide, tyX4_ok, nmX4, rfl, rfl, tyX4_ok 7 (by decide), fun _ => rfl, fun _ => rfl⟩
theorem tx_167 : Cond.fieldLink RX4 49 (TX4 8).1 (TX4 8).2.1 (TX4 8).2.2.1 ∈ tb_w := tb_in (List.mem_of_getElem? (i := 167) (by decide +kernel)) (by first | rfl | decide +kernel)
theorem nfX4_49 : nx_F RX4 49 4 8 := ⟨RX4, TX4, 14, tyX4, tyX4 8, rfl, wsX4_tb, by decide, tx_167, by decide, tyX4_ok, nmX4, rfl, rfl, tyX4_ok 8 (by decide), fun _ => rfl, fun _ => rfl⟩
theorem tx_172 : Cond.fieldLink RX4 67 (TX4 13).1 (TX4 13).2.1 (TX4 13).2.2.1 ∈ tb_w := tb_in (List.mem_of_getElem? (i := 172) (by decide +kernel)) (by first | rfl | decide +kernel)
theorem nfX4_67 : nx_F RX4 67 4 13 := ⟨RX4, TX4, 14, tyX4, tyX4 13, rfl, wsX4_tb, by decide, tx_172, by decide, tyX4_ok, nmX4, rfl, rfl, tyX4_ok 13 (by decide), fun _ => rfl, fun _ => rfl⟩
theorem tx_635 : Cond.fieldLink RX5 7 (TX5 0).1 (TX5 0).2.1 (TX5 0).2.2.1 ∈ tb_w := tb_in (List.mem_of_getElem? (i := 635) (by decide +kernel)) (by first | rfl | decide +kernel)
theorem nfX5_7 : nx_F RX5 7 5 0 := ⟨RX5, TX5, 22, tyX5, tyX5 0, rfl, wsX5_tb, by decide, tx_635, by decide, tyX5_ok, nmX5, rfl, rfl, tyX5_ok 0 (by decide), fun _ => rfl, fun _ => rfl⟩
theorem tx_636 : Cond.fieldLink RX5 13 (TX5 1).1 (TX5 1).2.1 (TX5 1).2.2.1 ∈ tb_w := tb_in (List.mem_of_getElem? (i := 636) (by decide +kernel)) (by first | rfl | decide +kernel)
theorem nfX5_13 : nx_F RX5 13 5 1 := ⟨RX5, TX5, 22, tyX5, tyX5 1, rfl, wsX5_tb, by decide, tx_636, by decide, tyX5_ok, nmX5, rfl, rfl, tyX5_ok 1 (by decide), fun _ => rfl, fun _ => rfl⟩
theorem tx_637 : Cond.fieldLink RX5 16 (TX5 2).1 (TX5 2).2.1 (TX5 2).2.2.1 ∈ tb_w := tb_in (List.mem_of_getElem? (i := 637) (by decide +kernel)) (by first | rfl | decide +kernel)
theorem nfX5_16 : nx_F RX5 16 5 2 := ⟨RX5, TX5, 22, tyX5, tyX5 2, rfl, wsX5_tb, by decide, tx_637, by decide, tyX5_ok, nmX5, rfl, rfl, tyX5_ok 2 (by decide), fun _ => rfl, fun _ => rfl⟩
theorem tx_638 : Cond.fieldLink RX5 19 (TX5 3).1 (TX5 3).2.1 (TX5 3).2.2.1 ∈ tb_w := tb_in (List.mem_of_getElem? (i := 638) (by decide +kernel)) (by first | rfl | decide +kernel)
theorem nfX5_19 : nx_F RX5 19 5 3 := ⟨RX5, TX5, 22, tyX5, tyX5 3, rfl, wsX5_tb, by decide, tx_638, by decide, tyX5_ok, nmX5, rfl, rfl, tyX5_ok 3 (by decide), fun _ => rfl, fun _ => rfl⟩
theorem tx_640 : Cond.fieldLink RX5 23 (TX5 5).1 (TX5 5).2.1 (TX5 5).2.2.1 ∈ tb_w := tb_in (List.mem_of_getElem? (i := 640) (by decide +kernel)) (by first | rfl | decide +kernel)
theorem nfX5_23 : nx_F RX5 23 5 5 := ⟨RX5, TX5, 22, tyX5, tyX5 5, rfl, wsX5_tb, by decide, tx_640, by decide, tyX5_ok, nmX5, rfl, rfl, tyX5_ok 5 (by decide), fun _ => rfl, fun _ => rfl⟩
theorem tx_641 : Cond.fieldLink RX5 26 (TX5 6).1 (TX5 6).2.1 (TX5 6).2.2.1 ∈ tb_w := tb_in (List.mem_of_getElem? (i := 641) (by decide +kernel)) (by first | rfl | decide +kernel)
theorem nfX5_26 : nx_F RX5 26 5 6 := ⟨RX5, TX5, 22, tyX5, tyX5 6, rfl, wsX5_tb, by decide, tx_641, by decide, tyX5_ok, nmX5, rfl, rfl, tyX5_ok 6 (by decide), fun _ => rfl, fun _ => rfl⟩
theorem tx_642 : Cond.fieldLink RX5 29 (TX5 7).1 (TX5 7).2.1 (TX5 7).2.2.1 ∈ tb_w := tb_in (List.mem_of_getElem? (i := 642) (by decide +kernel)) (by first | rfl | decide +kernel)
theorem nfX5_29 : nx_F RX5 29 5 7 := ⟨RX5, TX5, 22, tyX5, tyX5 7, rfl, wsX5_tb, by decide, tx_642, by decide, tyX5_ok, nmX5, rfl, rfl, tyX5_ok 7 (by decide), fun _ => rfl, fun _ => rfl⟩
theorem tx_643 : Cond.fieldLink RX5 32 (TX5 8).1 (TX5 8).2.1 (TX5 8).2.2.1 ∈ tb_w := tb_in (List.mem_of_getElem? (i := 643) (by decide +kernel)) (by first | rfl | decide +kernel)
theorem nfX5_32 : nx_F RX5 32 5 8 := ⟨RX5, TX5, 22, tyX5, tyX5 8, rfl, wsX5_tb, by decide, tx_643, by decide, tyX5_ok, nmX5, rfl, rfl, tyX5_ok 8 (by decide), fun _ => rfl, fun _ => rfl⟩
theorem tx_644 : Cond.fieldLink RX5 35 (TX5 9).1 (TX5 9).2.1 (TX5 9).2.2.1 ∈ tb_w := tb_in (List.mem_of_getElem? (i := 644) (by decide +kernel)) (by first | rfl | decide +kernel)
theorem nfX5_35 : nx_F RX5 35 5 9 := ⟨RX5, TX5, 22, tyX5, tyX5 9, rfl, wsX5_tb, by decide, tx_644, by decide, tyX5_ok, nmX5, rfl, rfl, tyX5_ok 9 (by decide), fun _ => rfl, fun _ => rfl⟩
theorem tx_645 : Cond.fieldLink RX5 38 (TX5 10).1 (TX5 10).2.1 (TX5 10).2.2.1 ∈ tb_w := tb_in (List.mem_of_getElem? (i := 645) (by decide +kernel)) (by first | rfl | decide +kernel)
theorem nfX5_38 : nx_F RX5 38 5 10 := ⟨RX5, TX5, 22, tyX5, tyX5 10, rfl, wsX5_tb, by decide, tx_645, by decide, tyX5_ok, nmX5, rfl, rfl, tyX5_ok 10 (by decide), fun _ => rfl, fun _ => rfl⟩
theorem tx_647 : Cond.fieldLink RX5 41 (TX5 12).1 (TX5 12).2.1 (TX5 12).2.2.1 ∈ tb_w := tb_in (List.mem_of_getElem? (i := 647) (by decide +kernel)) (by first | rfl | decide +kernel)
theorem nfX5_41 : nx_F RX5 41 5 12 := ⟨RX5, TX5, 22, tyX5, tyX5 12, rfl, wsX5_tb, by decide, tx_647, by decide, tyX5_ok, nmX5, rfl, rfl, tyX5_ok 12 (by decide), fun _ => rfl, fun _ => rfl⟩
theorem tx_649 : Cond.fieldLink RX5 44 (TX5 14).1 (TX5 14).2.1 (TX5 14).2.2.1 ∈ tb_w := tb_in (List.mem_of_getElem? (i := 649) (by decide +kernel)) (by first | rfl | decide +kernel)
theorem nfX5_44 : nx_F RX5 44 5 14 := ⟨RX5, TX5, 22, tyX5, tyX5 14, rfl, wsX5_tb, by decide, tx_649, by decide, tyX5_ok, nmX5, rfl, rfl, tyX5_ok 14 (by decide), fun _ => rfl, fun _ => rfl⟩
theorem tx_654 : Cond.fieldLink RX5 51 (TX5 19).1 (TX5 19).2.1 (TX5 19).2.2.1 ∈ tb_w := tb_in (List.mem_of_getElem? (i := 654) (by decide +kernel)) (by first | rfl | decide +kernel)
theorem nfX5_51 : nx_F RX5 51 5 19 := ⟨RX5, TX5, 22, tyX5, tyX5 19, rfl, wsX5_tb, by decide, tx_654, by decide, tyX5_ok, nmX5, rfl, rfl, tyX5_ok 19 (by decide), fun _ => rfl, fun _ => rfl⟩
theorem tx_656 : Cond.fieldLink RX5 54 (TX5 21).1 (TX5 21).2.1 (TX5 21).2.2.1 ∈ tb_w := tb_in (List.mem_of_getElem? (i := 656) (by decide +kernel)) (by first | rfl | decide +kernel)
theorem nfX5_54 : nx_F RX5 54 5 21 := ⟨RX5, TX5, 22, tyX5, tyX5 21, rfl, wsX5_tb, by decide, tx_656, by decide, tyX5_ok, nmX5, rfl, rfl, tyX5_ok 21 (by decide), fun _ => rfl, fun _ => rfl⟩
section NC
variable {y z : mt_I} {dom0 ord0 dom ord : List Nat} {ms k n d pc : Nat} {L : List (Option Value)} {st : List Value} {h : mh_H} {Q : mh_H → Prop}
theorem nt_call0 {idx a d' msz : Nat} {h1 : mh_H} (hs : nx_I y.1.cls z idx) (hd : decode y.2.1 pc = .ok (.invokespecial idx, 3)) (hdd : d' + 1 ≤ d) (hcat : (st.map fun v => v.category).sum ≤ 8) (hM : Nm z dom [] msz d' [.ref a] h (fun h' => h' = h1)) (hk : k ≤ ord0.length) (hn : n + msz ≤ ms) (K : Nt y dom0 ord0 ms dom ord k (n + msz) d (pc + 3) L st h1 Q) : Nt y dom0 ord0 ms dom ord k n d pc L (.ref a :: st) h Q := nt_call (ordc := []) hs hd hdd hcat hM hk hn (fun h' hq => by subst hq; rw [List.append_nil]; exact K)
theorem nt_call1 {idx a d' msz b : Nat} {h1 : mh_H} (hs : nx_I y.1.cls z idx) (hd : decode y.2.1 pc = .ok (.invokespecial idx, 3)) (hdd : d' + 1 ≤ d) (hcat : (st.map fun v => v.category).sum ≤ 8) (hM : Nm z dom [b] msz d' [.ref a] h (fun h' => h' = h1)) (hk : k + 1 ≤ ord0.length) (hn : n + msz ≤ ms) (K : Nt y dom0 ord0 ms (dom ++ [b]) ord (k + 1) (n + msz) d (pc + 3) L st h1 Q) : Nt y dom0 ord0 ms dom (b :: ord) k n d pc L (.ref a :: st) h Q := nt_call (ordc := [b]) hs hd hdd hcat hM hk hn (fun h' hq => by subst hq; exact K)
theorem nt_call2 {idx a d' msz b c : Nat} {h1 : mh_H} (hs : nx_I y.1.cls z idx) (hd : decode y.2.1 pc = .ok (.invokespecial idx, 3)) (hdd : d' + 1 ≤ d) (hcat : (st.map fun v => v.category).sum ≤ 8) (hM : Nm z dom [b, c] msz d' [.ref a] h (fun h' => h' = h1)) (hk : k + 2 ≤ ord0.length) (hn : n + msz ≤ ms) (K : Nt y dom0 ord0 ms (dom ++ [b, c]) ord (k + 2) (n + msz) d (pc + 3) L st h1 Q) : Nt y dom0 ord0 ms dom (b :: c :: ord) k n d pc L (.ref a :: st) h Q := nt_call (ordc := [b, c]) hs hd hdd hcat hM hk hn (fun h' hq => by subst hq; exact K)
theorem nt_call3 {idx a d' msz b c g : Nat} {h1 : mh_H} (hs : nx_I y.1.cls z idx) (hd : decode y.2.1 pc = .ok (.invokespecial idx, 3)) (hdd : d' + 1 ≤ d) (hcat : (st.map fun v => v.category).sum ≤ 8) (hM : Nm z dom [b, c, g] msz d' [.ref a] h (fun h' => h' = h1)) (hk : k + 3 ≤ ord0.length) (hn : n + msz ≤ ms) (K : Nt y dom0 ord0 ms (dom ++ [b, c, g]) ord (k + 3) (n + msz) d (pc + 3) L st h1 Q) : Nt y dom0 ord0 ms dom (b :: c :: g :: ord) k n d pc L (.ref a :: st) h Q := nt_call (ordc := [b, c, g]) hs hd hdd hcat hM hk hn (fun h' hq => by subst hq; exact K)
end NC
