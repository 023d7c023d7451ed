theorem tw_83 : u_lay RX0 TX0 0 ∈ tb_w := tb_in (List.mem_of_getElem? (i := 83) (by decide +kernel)) (by first | rfl | decide +kernel)
theorem tw_85 : u_lay RX0 TX0 1 ∈ tb_w := tb_in (List.mem_of_getElem? (i := 85) (by decide +kernel)) (by first | rfl | decide +kernel)
theorem tw_87 : u_lay RX0 TX0 2 ∈ tb_w := tb_in (List.mem_of_getElem? (i := 87) (by decide +kernel)) (by first | rfl | decide +kernel)
theorem tw_89 : u_lay RX0 TX0 3 ∈ tb_w := tb_in (List.mem_of_getElem? (i := 89) (by decide +kernel)) (by first | rfl | decide +kernel)
theorem tw_91 : u_lay RX0 TX0 4 ∈ tb_w := tb_in (List.mem_of_getElem? (i := 91) (by decide +kernel)) (by first | rfl | decide +kernel)
theorem wsX0_tb : ∀ w ∈ u_ws RX0 TX0 5, w ∈ tb_w := by
  intro w hw
  obtain ⟨k, hk, rfl⟩ := List.mem_map.mp hw
  have hk := List.mem_range.mp hk
  rcases (show k = 0 ∨ k = 1 ∨ k = 2 ∨ k = 3 ∨ k = 4 by omega) with rfl | rfl | rfl | rfl | rfl
  · exact tw_83
  · exact tw_85
  · exact tw_87
  · exact tw_89
  · exact tw_91
theorem tw_134 : u_lay RX1 TX1 0 ∈ tb_w := tb_in (List.mem_of_getElem? (i := 134) (by decide +kernel)) (by first | rfl | decide +kernel)
theorem tw_136 : u_lay RX1 TX1 1 ∈ tb_w := tb_in (List.mem_of_getElem? (i := 136) (by decide +kernel)) (by first | rfl | decide +kernel)
theorem tw_138 : u_lay RX1 TX1 2 ∈ tb_w := tb_in (List.mem_of_getElem? (i := 138) (by decide +kernel)) (by first | rfl | decide +kernel)
theorem wsX1_tb : ∀ w ∈ u_ws RX1 TX1 3, w ∈ tb_w := by
  intro w hw
  obtain ⟨k, hk, rfl⟩ := List.mem_map.mp hw
  have hk := List.mem_range.mp hk
  rcases (show k = 0 ∨ k = 1 ∨ k = 2 by omega) with rfl | rfl | rfl
  · exact tw_134
  · exact tw_136
  · exact tw_138
theorem tw_154 : u_lay RX2 TX2 0 ∈ tb_w := tb_in (List.mem_of_getElem? (i := 154) (by decide +kernel)) (by first | rfl | decide +kernel)
theorem tw_156 : u_lay RX2 TX2 1 ∈ tb_w := tb_in (List.mem_of_getElem? (i := 156) (by decide +kernel)) (by first | rfl | decide +kernel)
theorem wsX2_tb : ∀ w ∈ u_ws RX2 TX2 2, w ∈ tb_w := by
  intro w hw
  obtain ⟨k, hk, rfl⟩ := List.mem_map.mp hw
  have hk := List.mem_range.mp hk
  rcases (show k = 0 ∨ k = 1 by omega) with rfl | rfl
  · exact tw_154
  · exact tw_156
theorem tw_111 : u_lay RX3 TX3 0 ∈ tb_w := tb_in (List.mem_of_getElem? (i := 111) (by decide +kernel)) (by first | rfl | decide +kernel)
theorem tw_113 : u_lay RX3 TX3 1 ∈ tb_w := tb_in (List.mem_of_getElem? (i := 113) (by decide +kernel)) (by first | rfl | decide +kernel)
theorem tw_115 : u_lay RX3 TX3 2 ∈ tb_w := tb_in (List.mem_of_getElem? (i := 115) (by decide +kernel)) (by first | rfl | decide +kernel)
theorem tw_117 : u_lay RX3 TX3 3 ∈ tb_w := tb_in (List.mem_of_getElem? (i := 117) (by decide +kernel)) (by first | rfl | decide +kernel)
theorem tw_119 : u_lay RX3 TX3 4 ∈ tb_w := tb_in (List.mem_of_getElem? (i := 119) (by decide +kernel)) (by first | rfl | decide +kernel)
theorem wsX3_tb : ∀ w ∈ u_ws RX3 TX3 5, w ∈ tb_w := by
  intro w hw
  obtain ⟨k, hk, rfl⟩ := List.mem_map.mp hw
  have hk := List.mem_range.mp hk
  rcases (show k = 0 ∨ k = 1 ∨ k = 2 ∨ k = 3 ∨ k = 4 by omega) with rfl | rfl | rfl | rfl | rfl
  · exact tw_111
  · exact tw_113
  · exact tw_115
  · exact tw_117
  · exact tw_119
theorem tw_173 : u_lay RX4 TX4 0 ∈ tb_w := tb_in (List.mem_of_getElem? (i := 173) (by decide +kernel)) (by first | rfl | decide +kernel)
theorem tw_175 : u_lay RX4 TX4 1 ∈ tb_w := tb_in (List.mem_of_getElem? (i := 175) (by decide +kernel)) (by first | rfl | decide +kernel)
theorem tw_177 : u_lay RX4 TX4 2 ∈ tb_w := tb_in (List.mem_of_getElem? (i := 177) (by decide +kernel)) (by first | rfl | decide +kernel)
theorem tw_179 : u_lay RX4 TX4 3 ∈ tb_w := tb_in (List.mem_of_getElem? (i := 179) (by decide +kernel)) (by first | rfl | decide +kernel)
theorem tw_181 : u_lay RX4 TX4 4 ∈ tb_w := tb_in (List.mem_of_getElem? (i := 181) (by decide +kernel)) (by first | rfl | decide +kernel)
theorem tw_183 : u_lay RX4 TX4 5 ∈ tb_w := tb_in (List.mem_of_getElem? (i := 183) (by decide +kernel)) (by first | rfl | decide +kernel)
theorem tw_185 : u_lay RX4 TX4 6 ∈ tb_w := tb_in (List.mem_of_getElem? (i := 185) (by decide +kernel)) (by first | rfl | decide +kernel)
theorem tw_187 : u_lay RX4 TX4 7 ∈ tb_w := tb_in (List.mem_of_getElem? (i := 187) (by decide +kernel)) (by first | rfl | decide +kernel)
theorem tw_189 : u_lay RX4 TX4 8 ∈ tb_w := tb_in (List.mem_of_getElem? (i := 189) (by decide +kernel)) (by first | rfl | decide +kernel)
theorem tw_191 : u_lay RX4 TX4 9 ∈ tb_w := tb_in (List.mem_of_getElem? (i := 191) (by decide +kernel)) (by first | rfl | decide +kernel)
theorem tw_193 : u_lay RX4 TX4 10 ∈ tb_w := tb_in (List.mem_of_getElem? (i := 193) (by decide +kernel)) (by first | rfl | decide +kernel)
theorem tw_195 : u_lay RX4 TX4 11 ∈ tb_w := tb_in (List.mem_of_getElem? (i := 195) (by decide +kernel)) (by first | rfl | decide +kernel)
theorem tw_197 : u_lay RX4 TX4 12 ∈ tb_w := tb_in (List.mem_of_getElem? (i := 197) (by decide +kernel)) (by first | rfl | decide +kernel)
theorem tw_199 : u_lay RX4 TX4 13 ∈ tb_w := tb_in (List.mem_of_getElem? (i := 199) (by decide +kernel)) (by first | rfl | decide +kernel)
theorem wsX4_tb : ∀ w ∈ u_ws RX4 TX4 14, w ∈ tb_w := by
  intro w hw
  obtain ⟨k, hk, rfl⟩ := List.mem_map.mp hw
  have hk := List.mem_range.mp hk
  rcases (show k = 0 ∨ k = 1 ∨ k = 2 ∨ k = 3 ∨ k = 4 ∨ k = 5 ∨ k = 6 ∨ k = 7 ∨ k = 8 ∨ k = 9 ∨ k = 10 ∨ k = 11 ∨ k = 12 ∨ k = 13 by omega) with rfl | rfl | rfl | rfl | rfl | rfl | rfl | rfl | rfl | rfl | rfl | rfl | rfl | rfl
  · exact tw_173
  · exact tw_175
  · exact tw_177
  · exact tw_179
  · exact tw_181
  · exact tw_183
  · exact tw_185
  · exact tw_187
  · exact tw_189
  · exact tw_191
  · exact tw_193
  · exact tw_195
  · exact tw_197
  · exact tw_199
theorem tw_657 : u_lay RX5 TX5 0 ∈ tb_w := tb_in (List.mem_of_getElem? (i := 657) (by decide +kernel)) (by first | rfl | decide +kernel)
theorem tw_659 : u_lay RX5 TX5 1 ∈ tb_w := tb_in (List.mem_of_getElem? (i := 659) (by decide +kernel)) (by first | rfl | decide +kernel)
theorem tw_661 : u_lay RX5 TX5 2 ∈ tb_w := tb_in (List.mem_of_getElem? (i := 661) (by decide +kernel)) (by first | rfl | decide +kernel)
theorem tw_663 : u_lay RX5 TX5 3 ∈ tb_w := tb_in (List.mem_of_getElem? (i := 663) (by decide +kernel)) (by first | rfl | decide +kernel)
theorem tw_665 : u_lay RX5 TX5 4 ∈ tb_w := tb_in (List.mem_of_getElem? (i := 665) (by decide +kernel)) (by first | rfl | decide +kernel)
theorem tw_667 : u_lay RX5 TX5 5 ∈ tb_w := tb_in (List.mem_of_getElem? (i := 667) (by decide +kernel)) (by first | rfl | decide +kernel)
theorem tw_669 : u_lay RX5 TX5 6 ∈ tb_w := tb_in (List.mem_of_getElem? (i := 669) (by decide +kernel)) (by first | rfl | decide +kernel)
theorem tw_671 : u_lay RX5 TX5 7 ∈ tb_w := tb_in (List.mem_of_getElem? (i := 671) (by decide +kernel)) (by first | rfl | decide +kernel)
theorem tw_673 : u_lay RX5 TX5 8 ∈ tb_w := tb_in (List.mem_of_getElem? (i := 673) (by decide +kernel)) (by first | rfl | decide +kernel)
theorem tw_675 : u_lay RX5 TX5 9 ∈ tb_w := tb_in (List.mem_of_getElem? (i := 675) (by decide +kernel)) (by first | rfl | decide +kernel)
theorem tw_677 : u_lay RX5 TX5 10 ∈ tb_w := tb_in (List.mem_of_getElem? (i := 677) (by decide +kernel)) (by first | rfl | decide +kernel)
theorem tw_679 : u_lay RX5 TX5 11 ∈ tb_w := tb_in (List.mem_of_getElem? (i := 679) (by decide +kernel)) (by first | rfl | decide +kernel)
theorem tw_681 : u_lay RX5 TX5 12 ∈ tb_w := tb_in (List.mem_of_getElem? (i := 681) (by decide +kernel)) (by first | rfl | decide +kernel)
theorem tw_683 : u_lay RX5 TX5 13 ∈ tb_w := tb_in (List.mem_of_getElem? (i := 683) (by decide +kernel)) (by first | rfl | decide +kernel)
theorem tw_685 : u_lay RX5 TX5 14 ∈ tb_w := tb_in (List.mem_of_getElem? (i := 685) (by decide +kernel)) (by first | rfl | decide +kernel)
theorem tw_687 : u_lay RX5 TX5 15 ∈ tb_w := tb_in (List.mem_of_getElem? (i := 687) (by decide +kernel)) (by first | rfl | decide +kernel)
theorem tw_689 : u_lay RX5 TX5 16 ∈ tb_w := tb_in (List.mem_of_getElem? (i := 689) (by decide +kernel)) (by first | rfl | decide +kernel)
theorem tw_691 : u_lay RX5 TX5 17 ∈ tb_w := tb_in (List.mem_of_getElem? (i := 691) (by decide +kernel)) (by first | rfl | decide +kernel)
theorem tw_693 : u_lay RX5 TX5 18 ∈ tb_w := tb_in (List.mem_of_getElem? (i := 693) (by decide +kernel)) (by first | rfl | decide +kernel)
theorem tw_695 : u_lay RX5 TX5 19 ∈ tb_w := tb_in (List.mem_of_getElem? (i := 695) (by decide +kernel)) (by first | rfl | decide +kernel)
theorem tw_697 : u_lay RX5 TX5 20 ∈ tb_w := tb_in (List.mem_of_getElem? (i := 697) (by decide +kernel)) (by first | rfl | decide +kernel)
theorem tw_699 : u_lay RX5 TX5 21 ∈ tb_w := tb_in (List.mem_of_getElem? (i := 699) (by decide +kernel)) (by first | rfl | decide +kernel)
theorem wsX5_tb : ∀ w ∈ u_ws RX5 TX5 22, w ∈ tb_w := by
  intro w hw
  obtain ⟨k, hk, rfl⟩ := List.mem_map.mp hw
  have hk := List.mem_range.mp hk
  rcases (show k = 0 ∨ k = 1 ∨ k = 2 ∨ k = 3 ∨ k = 4 ∨ k = 5 ∨ k = 6 ∨ k = 7 ∨ k = 8 ∨ k = 9 ∨ k = 10 ∨ k = 11 ∨ k = 12 ∨ k = 13 ∨ k = 14 ∨ k = 15 ∨ k = 16 ∨ k = 17 ∨ k = 18 ∨ k = 19 ∨ k = 20 ∨ k = 21 by omega) with rfl | rfl | rfl | rfl | rfl | rfl | rfl | rfl | rfl | rfl | rfl | rfl | rfl | rfl | rfl | rfl | rfl | rfl | rfl | rfl | rfl | rfl
  · exact tw_657
  · exact tw_659
  · exact tw_661
  · exact tw_663
  · exact tw_665
  · exact tw_667
  · exact tw_669
  · exact tw_671
  · exact tw_673
  · exact tw_675
  · exact tw_677
  · exact tw_679
  · exact tw_681
  · exact tw_683
  · exact tw_685
  · exact tw_687
  · exact tw_689
  · exact tw_691
  · exact tw_693
  · exact tw_695
  · exact tw_697
  · exact tw_699
theorem tw_73 : Cond.fieldLink RX0 9 (TX0 0).1 (TX0 0).2.1 (TX0 0).2.2.1 ∈ tb_w := tb_in (List.mem_of_getElem? (i := 73) (by decide +kernel)) (by first | rfl | decide +kernel)
theorem fX0_9 : mx_F RX0 9 0 0 := ⟨RX0, TX0, 5, rfl, wsX0_tb, by decide, tw_73, by decide⟩
theorem tw_74 : Cond.fieldLink RX4 141 (TX0 0).1 (TX0 0).2.1 (TX0 0).2.2.1 ∈ tb_w := tb_in (List.mem_of_getElem? (i := 74) (by decide +kernel)) (by first | rfl | decide +kernel)
theorem fX4_141 : mx_F RX4 141 0 0 := ⟨RX0, TX0, 5, rfl, wsX0_tb, by decide, tw_74, by decide⟩
theorem tw_75 : Cond.fieldLink RX0 15 (TX0 1).1 (TX0 1).2.1 (TX0 1).2.2.1 ∈ tb_w := tb_in (List.mem_of_getElem? (i := 75) (by decide +kernel)) (by first | rfl | decide +kernel)
theorem fX0_15 : mx_F RX0 15 0 1 := ⟨RX0, TX0, 5, rfl, wsX0_tb, by decide, tw_75, by decide⟩
theorem tw_76 : Cond.fieldLink RX4 221 (TX0 1).1 (TX0 1).2.1 (TX0 1).2.2.1 ∈ tb_w := tb_in (List.mem_of_getElem? (i := 76) (by decide +kernel)) (by first | rfl | decide +kernel)
theorem fX4_221 : mx_F RX4 221 0 1 := ⟨RX0, TX0, 5, rfl, wsX0_tb, by decide, tw_76, by decide⟩
theorem tw_77 : Cond.fieldLink RX0 18 (TX0 2).1 (TX0 2).2.1 (TX0 2).2.2.1 ∈ tb_w := tb_in (List.mem_of_getElem? (i := 77) (by decide +kernel)) (by first | rfl | decide +kernel)
theorem fX0_18 : mx_F RX0 18 0 2 := ⟨RX0, TX0, 5, rfl, wsX0_tb, by decide, tw_77, by decide⟩
theorem tw_78 : Cond.fieldLink RX0 21 (TX0 3).1 (TX0 3).2.1 (TX0 3).2.2.1 ∈ tb_w := tb_in (List.mem_of_getElem? (i := 78) (by decide +kernel)) (by first | rfl | decide +kernel)
theorem fX0_21 : mx_F RX0 21 0 3 := ⟨RX0, TX0, 5, rfl, wsX0_tb, by decide, tw_78, by decide⟩
theorem gX0_21 : mx_G RX0 21 0 3 .int := ⟨RX0, TX0, 5, tyX0, rfl, wsX0_tb, by decide, tw_78, by decide, tyX0_ok, nmX0, rfl, by decide +kernel⟩
theorem tw_79 : Cond.fieldLink RX3 47 (TX0 3).1 (TX0 3).2.1 (TX0 3).2.2.1 ∈ tb_w := tb_in (List.mem_of_getElem? (i := 79) (by decide +kernel)) (by first | rfl | decide +kernel)
theorem fX3_47 : mx_F RX3 47 0 3 := ⟨RX0, TX0, 5, rfl, wsX0_tb, by decide, tw_79, by decide⟩
theorem gX3_47 : mx_G RX3 47 0 3 .int := ⟨RX0, TX0, 5, tyX0, rfl, wsX0_tb, by decide, tw_79, by decide, tyX0_ok, nmX0, rfl, by decide +kernel⟩
theorem tw_80 : Cond.fieldLink RX4 129 (TX0 3).1 (TX0 3).2.1 (TX0 3).2.2.1 ∈ tb_w := tb_in (List.mem_of_getElem? (i := 80) (by decide +kernel)) (by first | rfl | decide +kernel)
theorem fX4_129 : mx_F RX4 129 0 3 := ⟨RX0, TX0, 5, rfl, wsX0_tb, by decide, tw_80, by decide⟩
theorem gX4_129 : mx_G RX4 129 0 3 .int := ⟨RX0, TX0, 5, tyX0, rfl, wsX0_tb, by decide, tw_80, by decide, tyX0_ok, nmX0, rfl, by decide +kernel⟩
theorem tw_81 : Cond.fieldLink RX0 25 (TX0 4).1 (TX0 4).2.1 (TX0 4).2.2.1 ∈ tb_w := tb_in (List.mem_of_getElem? (i := 81) (by decide +kernel)) (by first | rfl | decide +kernel)
theorem fX0_25 : mx_F RX0 25 0 4 := ⟨RX0, TX0, 5, rfl, wsX0_tb, by decide, tw_81, by decide⟩
theorem gX0_25 : mx_G RX0 25 0 4 .int := ⟨RX0, TX0, 5, tyX0, rfl, wsX0_tb, by decide, tw_81, by decide, tyX0_ok, nmX0, rfl, by decide +kernel⟩
theorem tw_82 : Cond.fieldLink RX4 256 (TX0 4).1 (TX0 4).2.1 (TX0 4).2.2.1 ∈ tb_w := tb_in (List.mem_of_getElem? (i := 82) (by decide +kernel)) (by first | rfl | decide +kernel)
theorem fX4_256 : mx_F RX4 256 0 4 := ⟨RX0, TX0, 5, rfl, wsX0_tb, by decide, tw_82, by decide⟩
theorem gX4_256 : mx_G RX4 256 0 4 .int := ⟨RX0, TX0, 5, tyX0, rfl, wsX0_tb, by decide, tw_82, by decide, tyX0_ok, nmX0, rfl, by decide +kernel⟩
theorem tw_101 : Cond.fieldLink RX3 9 (TX3 0).1 (TX3 0).2.1 (TX3 0).2.2.1 ∈ tb_w := tb_in (List.mem_of_getElem? (i := 101) (by decide +kernel)) (by first | rfl | decide +kernel)
theorem fX3_9 : mx_F RX3 9 3 0 := ⟨RX3, TX3, 5, rfl, wsX3_tb, by decide, tw_101, by decide⟩
theorem gX3_9 : mx_G RX3 9 3 0 .int := ⟨RX3, TX3, 5, tyX3, rfl, wsX3_tb, by decide, tw_101, by decide, tyX3_ok, nmX3, rfl, by decide +kernel⟩
theorem tw_102 : Cond.fieldLink RX4 163 (TX3 0).1 (TX3 0).2.1 (TX3 0).2.2.1 ∈ tb_w := tb_in (List.mem_of_getElem? (i := 102) (by decide +kernel)) (by first | rfl | decide +kernel)
theorem fX4_163 : mx_F RX4 163 3 0 := ⟨RX3, TX3, 5, rfl, wsX3_tb, by decide, tw_102, by decide⟩
theorem gX4_163 : mx_G RX4 163 3 0 .int := ⟨RX3, TX3, 5, tyX3, rfl, wsX3_tb, by decide, tw_102, by decide, tyX3_ok, nmX3, rfl, by decide +kernel⟩
theorem tw_103 : Cond.fieldLink RX3 15 (TX3 1).1 (TX3 1).2.1 (TX3 1).2.2.1 ∈ tb_w := tb_in (List.mem_of_getElem? (i := 103) (by decide +kernel)) (by first | rfl | decide +kernel)
theorem fX3_15 : mx_F RX3 15 3 1 := ⟨RX3, TX3, 5, rfl, wsX3_tb, by decide, tw_103, by decide⟩
theorem gX3_15 : mx_G RX3 15 3 1 .int := ⟨RX3, TX3, 5, tyX3, rfl, wsX3_tb, by decide, tw_103, by decide, tyX3_ok, nmX3, rfl, by decide +kernel⟩
theorem tw_104 : Cond.fieldLink RX4 166 (TX3 1).1 (TX3 1).2.1 (TX3 1).2.2.1 ∈ tb_w := tb_in (List.mem_of_getElem? (i := 104) (by decide +kernel)) (by first | rfl | decide +kernel)
theorem fX4_166 : mx_F RX4 166 3 1 := ⟨RX3, TX3, 5, rfl, wsX3_tb, by decide, tw_104, by decide⟩
theorem gX4_166 : mx_G RX4 166 3 1 .int := ⟨RX3, TX3, 5, tyX3, rfl, wsX3_tb, by decide, tw_104, by decide, tyX3_ok, nmX3, rfl, by decide +kernel⟩
theorem tw_105 : Cond.fieldLink RX3 18 (TX3 2).1 (TX3 2).2.1 (TX3 2).2.2.1 ∈ tb_w := tb_in (List.mem_of_getElem? (i := 105) (by decide +kernel)) (by first | rfl | decide +kernel)
theorem fX3_18 : mx_F RX3 18 3 2 := ⟨RX3, TX3, 5, rfl, wsX3_tb, by decide, tw_105, by decide⟩
theorem gX3_18 : mx_G RX3 18 3 2 .int := ⟨RX3, TX3, 5, tyX3, rfl, wsX3_tb, by decide, tw_105, by decide, tyX3_ok, nmX3, rfl, by decide +kernel⟩
theorem tw_106 : Cond.fieldLink RX4 169 (TX3 2).1 (TX3 2).2.1 (TX3 2).2.2.1 ∈ tb_w := tb_in (List.mem_of_getElem? (i := 106) (by decide +kernel)) (by first | rfl | decide +kernel)
theorem fX4_169 : mx_F RX4 169 3 2 := ⟨RX3, TX3, 5, rfl, wsX3_tb, by decide, tw_106, by decide⟩
theorem gX4_169 : mx_G RX4 169 3 2 .int := ⟨RX3, TX3, 5, tyX3, rfl, wsX3_tb, by decide, tw_106, by decide, tyX3_ok, nmX3, rfl, by decide +kernel⟩
theorem tw_107 : Cond.fieldLink RX3 21 (TX3 3).1 (TX3 3).2.1 (TX3 3).2.2.1 ∈ tb_w := tb_in (List.mem_of_getElem? (i := 107) (by decide +kernel)) (by first | rfl | decide +kernel)
theorem fX3_21 : mx_F RX3 21 3 3 := ⟨RX3, TX3, 5, rfl, wsX3_tb, by decide, tw_107, by decide⟩
theorem gX3_21 : mx_G RX3 21 3 3 .boolean := ⟨RX3, TX3, 5, tyX3, rfl, wsX3_tb, by decide, tw_107, by decide, tyX3_ok, nmX3, rfl, by decide +kernel⟩
theorem tw_108 : Cond.fieldLink RX4 252 (TX3 3).1 (TX3 3).2.1 (TX3 3).2.2.1 ∈ tb_w := tb_in (List.mem_of_getElem? (i := 108) (by decide +kernel)) (by first | rfl | decide +kernel)
theorem fX4_252 : mx_F RX4 252 3 3 := ⟨RX3, TX3, 5, rfl, wsX3_tb, by decide, tw_108, by decide⟩
theorem gX4_252 : mx_G RX4 252 3 3 .boolean := ⟨RX3, TX3, 5, tyX3, rfl, wsX3_tb, by decide, tw_108, by decide, tyX3_ok, nmX3, rfl, by decide +kernel⟩
theorem tw_109 : Cond.fieldLink RX3 25 (TX3 4).1 (TX3 4).2.1 (TX3 4).2.2.1 ∈ tb_w := tb_in (List.mem_of_getElem? (i := 109) (by decide +kernel)) (by first | rfl | decide +kernel)
theorem fX3_25 : mx_F RX3 25 3 4 := ⟨RX3, TX3, 5, rfl, wsX3_tb, by decide, tw_109, by decide⟩
theorem gX3_25 : mx_G RX3 25 3 4 .int := ⟨RX3, TX3, 5, tyX3, rfl, wsX3_tb, by decide, tw_109, by decide, tyX3_ok, nmX3, rfl, by decide +kernel⟩
theorem tw_110 : Cond.fieldLink RX4 196 (TX3 4).1 (TX3 4).2.1 (TX3 4).2.2.1 ∈ tb_w := tb_in (List.mem_of_getElem? (i := 110) (by decide +kernel)) (by first | rfl | decide +kernel)
theorem fX4_196 : mx_F RX4 196 3 4 := ⟨RX3, TX3, 5, rfl, wsX3_tb, by decide, tw_110, by decide⟩
theorem gX4_196 : mx_G RX4 196 3 4 .int := ⟨RX3, TX3, 5, tyX3, rfl, wsX3_tb, by decide, tw_110, by decide, tyX3_ok, nmX3, rfl, by decide +kernel⟩
theorem tw_128 : Cond.fieldLink RX1 9 (TX1 0).1 (TX1 0).2.1 (TX1 0).2.2.1 ∈ tb_w := tb_in (List.mem_of_getElem? (i := 128) (by decide +kernel)) (by first | rfl | decide +kernel)
theorem fX1_9 : mx_F RX1 9 1 0 := ⟨RX1, TX1, 3, rfl, wsX1_tb, by decide, tw_128, by decide⟩
theorem tw_129 : Cond.fieldLink RX4 307 (TX1 0).1 (TX1 0).2.1 (TX1 0).2.2.1 ∈ tb_w := tb_in (List.mem_of_getElem? (i := 129) (by decide +kernel)) (by first | rfl | decide +kernel)
theorem fX4_307 : mx_F RX4 307 1 0 := ⟨RX1, TX1, 3, rfl, wsX1_tb, by decide, tw_129, by decide⟩
theorem tw_130 : Cond.fieldLink RX1 15 (TX1 1).1 (TX1 1).2.1 (TX1 1).2.2.1 ∈ tb_w := tb_in (List.mem_of_getElem? (i := 130) (by decide +kernel)) (by first | rfl | decide +kernel)
theorem fX1_15 : mx_F RX1 15 1 1 := ⟨RX1, TX1, 3, rfl, wsX1_tb, by decide, tw_130, by decide⟩
theorem tw_131 : Cond.fieldLink RX4 310 (TX1 1).1 (TX1 1).2.1 (TX1 1).2.2.1 ∈ tb_w := tb_in (List.mem_of_getElem? (i := 131) (by decide +kernel)) (by first | rfl | decide +kernel)
theorem fX4_310 : mx_F RX4 310 1 1 := ⟨RX1, TX1, 3, rfl, wsX1_tb, by decide, tw_131, by decide⟩
theorem tw_132 : Cond.fieldLink RX1 18 (TX1 2).1 (TX1 2).2.1 (TX1 2).2.2.1 ∈ tb_w := tb_in (List.mem_of_getElem? (i := 132) (by decide +kernel)) (by first | rfl | decide +kernel)
theorem fX1_18 : mx_F RX1 18 1 2 := ⟨RX1, TX1, 3, rfl, wsX1_tb, by decide, tw_132, by decide⟩
theorem gX1_18 : mx_G RX1 18 1 2 .int := ⟨RX1, TX1, 3, tyX1, rfl, wsX1_tb, by decide, tw_132, by decide, tyX1_ok, nmX1, rfl, by decide +kernel⟩
theorem tw_133 : Cond.fieldLink RX4 72 (TX1 2).1 (TX1 2).2.1 (TX1 2).2.2.1 ∈ tb_w := tb_in (List.mem_of_getElem? (i := 133) (by decide +kernel)) (by first | rfl | decide +kernel)
theorem fX4_72 : mx_F RX4 72 1 2 := ⟨RX1, TX1, 3, rfl, wsX1_tb, by decide, tw_133, by decide⟩
theorem gX4_72 : mx_G RX4 72 1 2 .int := ⟨RX1, TX1, 3, tyX1, rfl, wsX1_tb, by decide, tw_133, by decide, tyX1_ok, nmX1, rfl, by decide +kernel⟩
theorem tw_148 : Cond.fieldLink RX2 9 (TX2 0).1 (TX2 0).2.1 (TX2 0).2.2.1 ∈ tb_w := tb_in (List.mem_of_getElem? (i := 148) (by decide +kernel)) (by first | rfl | decide +kernel)
theorem fX2_9 : mx_F RX2 9 2 0 := ⟨RX2, TX2, 2, rfl, wsX2_tb, by decide, tw_148, by decide⟩
theorem tw_149 : Cond.fieldLink RX0 31 (TX2 0).1 (TX2 0).2.1 (TX2 0).2.2.1 ∈ tb_w := tb_in (List.mem_of_getElem? (i := 149) (by decide +kernel)) (by first | rfl | decide +kernel)
theorem fX0_31 : mx_F RX0 31 2 0 := ⟨RX2, TX2, 2, rfl, wsX2_tb, by decide, tw_149, by decide⟩
theorem tw_150 : Cond.fieldLink RX4 91 (TX2 0).1 (TX2 0).2.1 (TX2 0).2.2.1 ∈ tb_w := tb_in (List.mem_of_getElem? (i := 150) (by decide +kernel)) (by first | rfl | decide +kernel)
theorem fX4_91 : mx_F RX4 91 2 0 := ⟨RX2, TX2, 2, rfl, wsX2_tb, by decide, tw_150, by decide⟩
theorem tw_151 : Cond.fieldLink RX2 15 (TX2 1).1 (TX2 1).2.1 (TX2 1).2.2.1 ∈ tb_w := tb_in (List.mem_of_getElem? (i := 151) (by decide +kernel)) (by first | rfl | decide +kernel)
theorem fX2_15 : mx_F RX2 15 2 1 := ⟨RX2, TX2, 2, rfl, wsX2_tb, by decide, tw_151, by decide⟩
theorem gX2_15 : mx_G RX2 15 2 1 .int := ⟨RX2, TX2, 2, tyX2, rfl, wsX2_tb, by decide, tw_151, by decide, tyX2_ok, nmX2, rfl, by decide +kernel⟩
theorem tw_152 : Cond.fieldLink RX0 28 (TX2 1).1 (TX2 1).2.1 (TX2 1).2.2.1 ∈ tb_w := tb_in (List.mem_of_getElem? (i := 152) (by decide +kernel)) (by first | rfl | decide +kernel)
theorem fX0_28 : mx_F RX0 28 2 1 := ⟨RX2, TX2, 2, rfl, wsX2_tb, by decide, tw_152, by decide⟩
theorem gX0_28 : mx_G RX0 28 2 1 .int := ⟨RX2, TX2, 2, tyX2, rfl, wsX2_tb, by decide, tw_152, by decide, tyX2_ok, nmX2, rfl, by decide +kernel⟩
theorem tw_153 : Cond.fieldLink RX4 98 (TX2 1).1 (TX2 1).2.1 (TX2 1).2.2.1 ∈ tb_w := tb_in (List.mem_of_getElem? (i := 153) (by decide +kernel)) (by first | rfl | decide +kernel)
theorem fX4_98 : mx_F RX4 98 2 1 := ⟨RX2, TX2, 2, rfl, wsX2_tb, by decide, tw_153, by decide⟩
theorem gX4_98 : mx_G RX4 98 2 1 .int := ⟨RX2, TX2, 2, tyX2, rfl, wsX2_tb, by decide, tw_153, by decide, tyX2_ok, nmX2, rfl, by decide +kernel⟩
theorem tw_159 : Cond.fieldLink RX4 11 (TX4 0).1 (TX4 0).2.1 (TX4 0).2.2.1 ∈ tb_w := tb_in (List.mem_of_getElem? (i := 159) (by decide +kernel)) (by first | rfl | decide +kernel)
theorem fX4_11 : mx_F RX4 11 4 0 := ⟨RX4, TX4, 14, rfl, wsX4_tb, by decide, tw_159, by decide⟩
theorem tw_160 : Cond.fieldLink RX4 15 (TX4 1).1 (TX4 1).2.1 (TX4 1).2.2.1 ∈ tb_w := tb_in (List.mem_of_getElem? (i := 160) (by decide +kernel)) (by first | rfl | decide +kernel)
theorem fX4_15 : mx_F RX4 15 4 1 := ⟨RX4, TX4, 14, rfl, wsX4_tb, by decide, tw_160, by decide⟩
theorem tw_161 : Cond.fieldLink RX4 21 (TX4 2).1 (TX4 2).2.1 (TX4 2).2.2.1 ∈ tb_w := tb_in (List.mem_of_getElem? (i := 161) (by decide +kernel)) (by first | rfl | decide +kernel)
theorem fX4_21 : mx_F RX4 21 4 2 := ⟨RX4, TX4, 14, rfl, wsX4_tb, by decide, tw_161, by decide⟩
theorem tw_162 : Cond.fieldLink RX4 28 (TX4 3).1 (TX4 3).2.1 (TX4 3).2.2.1 ∈ tb_w := tb_in (List.mem_of_getElem? (i := 162) (by decide +kernel)) (by first | rfl | decide +kernel)
theorem fX4_28 : mx_F RX4 28 4 3 := ⟨RX4, TX4, 14, rfl, wsX4_tb, by decide, tw_162, by decide⟩
theorem tw_163 : Cond.fieldLink RX4 35 (TX4 4).1 (TX4 4).2.1 (TX4 4).2.2.1 ∈ tb_w := tb_in (List.mem_of_getElem? (i := 163) (by decide +kernel)) (by first | rfl | decide +kernel)
theorem fX4_35 : mx_F RX4 35 4 4 := ⟨RX4, TX4, 14, rfl, wsX4_tb, by decide, tw_163, by decide⟩
theorem tw_164 : Cond.fieldLink RX4 39 (TX4 5).1 (TX4 5).2.1 (TX4 5).2.2.1 ∈ tb_w := tb_in (List.mem_of_getElem? (i := 164) (by decide +kernel)) (by first | rfl | decide +kernel)
theorem fX4_39 : mx_F RX4 39 4 5 := ⟨RX4, TX4, 14, rfl, wsX4_tb, by decide, tw_164, by decide⟩
theorem tw_165 : Cond.fieldLink RX4 43 (TX4 6).1 (TX4 6).2.1 (TX4 6).2.2.1 ∈ tb_w := tb_in (List.mem_of_getElem? (i := 165) (by decide +kernel)) (by first | rfl | decide +kernel)
theorem fX4_43 : mx_F RX4 43 4 6 := ⟨RX4, TX4, 14, rfl, wsX4_tb, by decide, tw_165, by decide⟩
theorem tw_166 : Cond.fieldLink RX4 46 (TX4 7).1 (TX4 7).2.1 (TX4 7).2.2.1 ∈ tb_w := tb_in (List.mem_of_getElem? (i := 166) (by decide +kernel)) (by first | rfl | decide +kernel)
theorem fX4_46 : mx_F RX4 46 4 7 := ⟨RX4, TX4, 14, rfl, wsX4_tb, by decide, tw_166, by decide⟩
theorem tw_167 : Cond.fieldLink RX4 49 (TX4 8).1 (TX4 8).2.1 (TX4 8).2.2.1 ∈ tb_w := tb_in (List.mem_of_getElem? (i := 167) (by decide +kernel)) (by first | rfl | decide +kernel)
theorem fX4_49 : mx_F RX4 49 4 8 := ⟨RX4, TX4, 14, rfl, wsX4_tb, by decide, tw_167, by decide⟩
theorem tw_168 : Cond.fieldLink RX4 53 (TX4 9).1 (TX4 9).2.1 (TX4 9).2.2.1 ∈ tb_w := tb_in (List.mem_of_getElem? (i := 168) (by decide +kernel)) (by first | rfl | decide +kernel)
theorem fX4_53 : mx_F RX4 53 4 9 := ⟨RX4, TX4, 14, rfl, wsX4_tb, by decide, tw_168, by decide⟩
theorem gX4_53 : mx_G RX4 53 4 9 .int := ⟨RX4, TX4, 14, tyX4, rfl, wsX4_tb, by decide, tw_168, by decide, tyX4_ok, nmX4, rfl, by decide +kernel⟩
theorem tw_169 : Cond.fieldLink RX4 57 (TX4 10).1 (TX4 10).2.1 (TX4 10).2.2.1 ∈ tb_w := tb_in (List.mem_of_getElem? (i := 169) (by decide +kernel)) (by first | rfl | decide +kernel)
theorem fX4_57 : mx_F RX4 57 4 10 := ⟨RX4, TX4, 14, rfl, wsX4_tb, by decide, tw_169, by decide⟩
theorem gX4_57 : mx_G RX4 57 4 10 .long := ⟨RX4, TX4, 14, tyX4, rfl, wsX4_tb, by decide, tw_169, by decide, tyX4_ok, nmX4, rfl, by decide +kernel⟩
theorem tw_170 : Cond.fieldLink RX4 61 (TX4 11).1 (TX4 11).2.1 (TX4 11).2.2.1 ∈ tb_w := tb_in (List.mem_of_getElem? (i := 170) (by decide +kernel)) (by first | rfl | decide +kernel)
theorem fX4_61 : mx_F RX4 61 4 11 := ⟨RX4, TX4, 14, rfl, wsX4_tb, by decide, tw_170, by decide⟩
theorem gX4_61 : mx_G RX4 61 4 11 .long := ⟨RX4, TX4, 14, tyX4, rfl, wsX4_tb, by decide, tw_170, by decide, tyX4_ok, nmX4, rfl, by decide +kernel⟩
theorem tw_171 : Cond.fieldLink RX4 64 (TX4 12).1 (TX4 12).2.1 (TX4 12).2.2.1 ∈ tb_w := tb_in (List.mem_of_getElem? (i := 171) (by decide +kernel)) (by first | rfl | decide +kernel)
theorem fX4_64 : mx_F RX4 64 4 12 := ⟨RX4, TX4, 14, rfl, wsX4_tb, by decide, tw_171, by decide⟩
theorem gX4_64 : mx_G RX4 64 4 12 .int := ⟨RX4, TX4, 14, tyX4, rfl, wsX4_tb, by decide, tw_171, by decide, tyX4_ok, nmX4, rfl, by decide +kernel⟩
theorem tw_172 : Cond.fieldLink RX4 67 (TX4 13).1 (TX4 13).2.1 (TX4 13).2.2.1 ∈ tb_w := tb_in (List.mem_of_getElem? (i := 172) (by decide +kernel)) (by first | rfl | decide +kernel)
theorem fX4_67 : mx_F RX4 67 4 13 := ⟨RX4, TX4, 14, rfl, wsX4_tb, by decide, tw_172, by decide⟩
set_option maxRecDepth 20000 in
theorem tw_205 : Cond.code yX4_row cX4_row 3 (some .int) ∈ tb_w := tb_in (List.mem_of_getElem? (i := 205) rfl) (by first | rfl | decide +kernel)
theorem tw_202 : Cond.methodLink RL 13 yX4_row ∈ tb_w := tb_in (List.mem_of_getElem? (i := 202) (by decide +kernel)) (by first | rfl | decide +kernel)
theorem tw_48 : Cond.initialized RX4 ∈ tb_w := tb_in (List.mem_of_getElem? (i := 48) (by decide +kernel)) (by first | rfl | decide +kernel)
theorem tw_203 : Cond.instanceMethod yX4_row ∈ tb_w := tb_in (List.mem_of_getElem? (i := 203) (by decide +kernel)) (by first | rfl | decide +kernel)
theorem tw_204 : Cond.selects RX4 yX4_row yX4_row ∈ tb_w := tb_in (List.mem_of_getElem? (i := 204) (by decide +kernel)) (by first | rfl | decide +kernel)
theorem vL_13 : mx_V RL mX4_row 13 4 2 := ⟨tw_202, tw_203, tw_204, tw_48, tw_205, ⟨by decide +kernel, by decide +kernel, by decide +kernel⟩, by decide, by decide, _, rfl, rfl⟩
set_option maxRecDepth 20000 in
theorem tw_208 : Cond.code yX4_isRow cX4_isRow 1 (some .boolean) ∈ tb_w := tb_in (List.mem_of_getElem? (i := 208) rfl) (by first | rfl | decide +kernel)
theorem tw_206 : Cond.methodLink RX4 75 yX4_isRow ∈ tb_w := tb_in (List.mem_of_getElem? (i := 206) (by decide +kernel)) (by first | rfl | decide +kernel)
theorem tw_207 : Cond.static yX4_isRow ∈ tb_w := tb_in (List.mem_of_getElem? (i := 207) (by decide +kernel)) (by first | rfl | decide +kernel)
theorem sX4_75 : mx_S RX4 mX4_isRow 75 1 := ⟨tw_206, tw_207, tw_48, tw_208, ⟨by decide +kernel, by decide +kernel, by decide +kernel⟩, by decide⟩
set_option maxRecDepth 20000 in
theorem tw_211 : Cond.code yX4_within cX4_within 3 (some .boolean) ∈ tb_w := tb_in (List.mem_of_getElem? (i := 211) rfl) (by first | rfl | decide +kernel)
theorem tw_209 : Cond.methodLink RX4 133 yX4_within ∈ tb_w := tb_in (List.mem_of_getElem? (i := 209) (by decide +kernel)) (by first | rfl | decide +kernel)
theorem tw_210 : Cond.static yX4_within ∈ tb_w := tb_in (List.mem_of_getElem? (i := 210) (by decide +kernel)) (by first | rfl | decide +kernel)
theorem sX4_133 : mx_S RX4 mX4_within 133 3 := ⟨tw_209, tw_210, tw_48, tw_211, ⟨by decide +kernel, by decide +kernel, by decide +kernel⟩, by decide⟩
set_option maxRecDepth 20000 in
theorem tw_215 : Cond.code yX4_found cX4_found 2 (some .int) ∈ tb_w := tb_in (List.mem_of_getElem? (i := 215) rfl) (by first | rfl | decide +kernel)
theorem tw_212 : Cond.methodLink RX4 79 yX4_found ∈ tb_w := tb_in (List.mem_of_getElem? (i := 212) (by decide +kernel)) (by first | rfl | decide +kernel)
theorem tw_214 : Cond.instanceMethod yX4_found ∈ tb_w := tb_in (List.mem_of_getElem? (i := 214) (by decide +kernel)) (by first | rfl | decide +kernel)
theorem tw_0 : Cond.selects RX4 yX4_found yX4_found ∈ tb_w := tb_in (List.mem_of_getElem? (i := 0) (by decide +kernel)) (by first | rfl | decide +kernel)
theorem vX4_79 : mx_V RX4 mX4_found 79 4 1 := ⟨tw_212, tw_214, tw_0, tw_48, tw_215, ⟨by decide +kernel, by decide +kernel, by decide +kernel⟩, by decide, by decide, _, rfl, rfl⟩
set_option maxRecDepth 20000 in
theorem tw_219 : Cond.code yX2_make cX2_make 4 none ∈ tb_w := tb_in (List.mem_of_getElem? (i := 219) rfl) (by first | rfl | decide +kernel)
theorem tw_216 : Cond.methodLink RX4 83 yX2_make ∈ tb_w := tb_in (List.mem_of_getElem? (i := 216) (by decide +kernel)) (by first | rfl | decide +kernel)
theorem tw_52 : Cond.initialized RX2 ∈ tb_w := tb_in (List.mem_of_getElem? (i := 52) (by decide +kernel)) (by first | rfl | decide +kernel)
theorem tw_217 : Cond.instanceMethod yX2_make ∈ tb_w := tb_in (List.mem_of_getElem? (i := 217) (by decide +kernel)) (by first | rfl | decide +kernel)
theorem tw_218 : Cond.selects RX2 yX2_make yX2_make ∈ tb_w := tb_in (List.mem_of_getElem? (i := 218) (by decide +kernel)) (by first | rfl | decide +kernel)
theorem vX4_83 : mx_V RX4 mX2_make 83 2 2 := ⟨tw_216, tw_217, tw_218, tw_52, tw_219, ⟨by decide +kernel, by decide +kernel, by decide +kernel⟩, by decide, by decide, _, rfl, rfl⟩
set_option maxRecDepth 20000 in
theorem tw_223 : Cond.code yX4_lay cX4_lay 5 (some .int) ∈ tb_w := tb_in (List.mem_of_getElem? (i := 223) rfl) (by first | rfl | decide +kernel)
theorem tw_220 : Cond.methodLink RL 18 yX4_lay ∈ tb_w := tb_in (List.mem_of_getElem? (i := 220) (by decide +kernel)) (by first | rfl | decide +kernel)
theorem tw_221 : Cond.instanceMethod yX4_lay ∈ tb_w := tb_in (List.mem_of_getElem? (i := 221) (by decide +kernel)) (by first | rfl | decide +kernel)
theorem tw_222 : Cond.selects RX4 yX4_lay yX4_lay ∈ tb_w := tb_in (List.mem_of_getElem? (i := 222) (by decide +kernel)) (by first | rfl | decide +kernel)
theorem vL_18 : mx_V RL mX4_lay 18 4 3 := ⟨tw_220, tw_221, tw_222, tw_48, tw_223, ⟨by decide +kernel, by decide +kernel, by decide +kernel⟩, by decide, by decide, _, rfl, rfl⟩
set_option maxRecDepth 20000 in
theorem tw_226 : Cond.code yX4_missingPlace cX4_missingPlace 2 (some .int) ∈ tb_w := tb_in (List.mem_of_getElem? (i := 226) rfl) (by first | rfl | decide +kernel)
theorem tw_224 : Cond.methodLink RX4 87 yX4_missingPlace ∈ tb_w := tb_in (List.mem_of_getElem? (i := 224) (by decide +kernel)) (by first | rfl | decide +kernel)
theorem tw_225 : Cond.static yX4_missingPlace ∈ tb_w := tb_in (List.mem_of_getElem? (i := 225) (by decide +kernel)) (by first | rfl | decide +kernel)
theorem sX4_87 : mx_S RX4 mX4_missingPlace 87 2 := ⟨tw_224, tw_225, tw_48, tw_226, ⟨by decide +kernel, by decide +kernel, by decide +kernel⟩, by decide⟩
set_option maxRecDepth 20000 in
theorem tw_230 : Cond.code yX2_isThere cX2_isThere 1 (some .boolean) ∈ tb_w := tb_in (List.mem_of_getElem? (i := 230) rfl) (by first | rfl | decide +kernel)
theorem tw_227 : Cond.methodLink RX4 94 yX2_isThere ∈ tb_w := tb_in (List.mem_of_getElem? (i := 227) (by decide +kernel)) (by first | rfl | decide +kernel)
theorem tw_228 : Cond.instanceMethod yX2_isThere ∈ tb_w := tb_in (List.mem_of_getElem? (i := 228) (by decide +kernel)) (by first | rfl | decide +kernel)
theorem tw_229 : Cond.selects RX2 yX2_isThere yX2_isThere ∈ tb_w := tb_in (List.mem_of_getElem? (i := 229) (by decide +kernel)) (by first | rfl | decide +kernel)
theorem vX4_94 : mx_V RX4 mX2_isThere 94 2 0 := ⟨tw_227, tw_228, tw_229, tw_52, tw_230, ⟨by decide +kernel, by decide +kernel, by decide +kernel⟩, by decide, by decide, _, rfl, rfl⟩
set_option maxRecDepth 20000 in
theorem tw_234 : Cond.code yX2_hasFrom cX2_hasFrom 3 (some .boolean) ∈ tb_w := tb_in (List.mem_of_getElem? (i := 234) rfl) (by first | rfl | decide +kernel)
theorem tw_231 : Cond.methodLink RX4 101 yX2_hasFrom ∈ tb_w := tb_in (List.mem_of_getElem? (i := 231) (by decide +kernel)) (by first | rfl | decide +kernel)
theorem tw_232 : Cond.instanceMethod yX2_hasFrom ∈ tb_w := tb_in (List.mem_of_getElem? (i := 232) (by decide +kernel)) (by first | rfl | decide +kernel)
theorem tw_233 : Cond.selects RX2 yX2_hasFrom yX2_hasFrom ∈ tb_w := tb_in (List.mem_of_getElem? (i := 233) (by decide +kernel)) (by first | rfl | decide +kernel)
theorem vX4_101 : mx_V RX4 mX2_hasFrom 101 2 2 := ⟨tw_231, tw_232, tw_233, tw_52, tw_234, ⟨by decide +kernel, by decide +kernel, by decide +kernel⟩, by decide, by decide, _, rfl, rfl⟩
set_option maxRecDepth 20000 in
theorem tw_238 : Cond.code yX4_at cX4_at 4 (some .int) ∈ tb_w := tb_in (List.mem_of_getElem? (i := 238) rfl) (by first | rfl | decide +kernel)
theorem tw_235 : Cond.methodLink RL 23 yX4_at ∈ tb_w := tb_in (List.mem_of_getElem? (i := 235) (by decide +kernel)) (by first | rfl | decide +kernel)
theorem tw_236 : Cond.instanceMethod yX4_at ∈ tb_w := tb_in (List.mem_of_getElem? (i := 236) (by decide +kernel)) (by first | rfl | decide +kernel)
theorem tw_237 : Cond.selects RX4 yX4_at yX4_at ∈ tb_w := tb_in (List.mem_of_getElem? (i := 237) (by decide +kernel)) (by first | rfl | decide +kernel)
theorem vL_23 : mx_V RL mX4_at 23 4 2 := ⟨tw_235, tw_236, tw_237, tw_48, tw_238, ⟨by decide +kernel, by decide +kernel, by decide +kernel⟩, by decide, by decide, _, rfl, rfl⟩
set_option maxRecDepth 20000 in
theorem tw_242 : Cond.code yX4_tear cX4_tear 2 (some .int) ∈ tb_w := tb_in (List.mem_of_getElem? (i := 242) rfl) (by first | rfl | decide +kernel)
theorem tw_239 : Cond.methodLink RL 27 yX4_tear ∈ tb_w := tb_in (List.mem_of_getElem? (i := 239) (by decide +kernel)) (by first | rfl | decide +kernel)
theorem tw_240 : Cond.instanceMethod yX4_tear ∈ tb_w := tb_in (List.mem_of_getElem? (i := 240) (by decide +kernel)) (by first | rfl | decide +kernel)
theorem tw_241 : Cond.selects RX4 yX4_tear yX4_tear ∈ tb_w := tb_in (List.mem_of_getElem? (i := 241) (by decide +kernel)) (by first | rfl | decide +kernel)
theorem vL_27 : mx_V RL mX4_tear 27 4 1 := ⟨tw_239, tw_240, tw_241, tw_48, tw_242, ⟨by decide +kernel, by decide +kernel, by decide +kernel⟩, by decide, by decide, _, rfl, rfl⟩
set_option maxRecDepth 20000 in
theorem tw_246 : Cond.code yX4_copy cX4_copy 6 (some .int) ∈ tb_w := tb_in (List.mem_of_getElem? (i := 246) rfl) (by first | rfl | decide +kernel)
theorem tw_243 : Cond.methodLink RL 32 yX4_copy ∈ tb_w := tb_in (List.mem_of_getElem? (i := 243) (by decide +kernel)) (by first | rfl | decide +kernel)
theorem tw_244 : Cond.instanceMethod yX4_copy ∈ tb_w := tb_in (List.mem_of_getElem? (i := 244) (by decide +kernel)) (by first | rfl | decide +kernel)
theorem tw_245 : Cond.selects RX4 yX4_copy yX4_copy ∈ tb_w := tb_in (List.mem_of_getElem? (i := 245) (by decide +kernel)) (by first | rfl | decide +kernel)
theorem vL_32 : mx_V RL mX4_copy 32 4 5 := ⟨tw_243, tw_244, tw_245, tw_48, tw_246, ⟨by decide +kernel, by decide +kernel, by decide +kernel⟩, by decide, by decide, _, rfl, rfl⟩
theorem tw_247 : Cond.methodLink RX4 105 arraycopyName ∈ tb_w := tb_in (List.mem_of_getElem? (i := 247) (by decide +kernel)) (by first | rfl | decide +kernel)
set_option maxRecDepth 20000 in
theorem tw_253 : Cond.code yX4_mean cX4_mean 2 (some .int) ∈ tb_w := tb_in (List.mem_of_getElem? (i := 253) rfl) (by first | rfl | decide +kernel)
theorem tw_250 : Cond.methodLink RL 37 yX4_mean ∈ tb_w := tb_in (List.mem_of_getElem? (i := 250) (by decide +kernel)) (by first | rfl | decide +kernel)
theorem tw_251 : Cond.instanceMethod yX4_mean ∈ tb_w := tb_in (List.mem_of_getElem? (i := 251) (by decide +kernel)) (by first | rfl | decide +kernel)
theorem tw_252 : Cond.selects RX4 yX4_mean yX4_mean ∈ tb_w := tb_in (List.mem_of_getElem? (i := 252) (by decide +kernel)) (by first | rfl | decide +kernel)
theorem vL_37 : mx_V RL mX4_mean 37 4 1 := ⟨tw_250, tw_251, tw_252, tw_48, tw_253, ⟨by decide +kernel, by decide +kernel, by decide +kernel⟩, by decide, by decide, _, rfl, rfl⟩
set_option maxRecDepth 20000 in
theorem tw_257 : Cond.code yX2_sum cX2_sum 4 (some .long) ∈ tb_w := tb_in (List.mem_of_getElem? (i := 257) rfl) (by first | rfl | decide +kernel)
theorem tw_254 : Cond.methodLink RX4 111 yX2_sum ∈ tb_w := tb_in (List.mem_of_getElem? (i := 254) (by decide +kernel)) (by first | rfl | decide +kernel)
theorem tw_255 : Cond.instanceMethod yX2_sum ∈ tb_w := tb_in (List.mem_of_getElem? (i := 255) (by decide +kernel)) (by first | rfl | decide +kernel)
theorem tw_256 : Cond.selects RX2 yX2_sum yX2_sum ∈ tb_w := tb_in (List.mem_of_getElem? (i := 256) (by decide +kernel)) (by first | rfl | decide +kernel)
theorem vX4_111 : mx_V RX4 mX2_sum 111 2 0 := ⟨tw_254, tw_255, tw_256, tw_52, tw_257, ⟨by decide +kernel, by decide +kernel, by decide +kernel⟩, by decide, by decide, _, rfl, rfl⟩
set_option maxRecDepth 20000 in
theorem tw_261 : Cond.code yX4_text cX4_text 3 (some .int) ∈ tb_w := tb_in (List.mem_of_getElem? (i := 261) rfl) (by first | rfl | decide +kernel)
theorem tw_258 : Cond.methodLink RL 41 yX4_text ∈ tb_w := tb_in (List.mem_of_getElem? (i := 258) (by decide +kernel)) (by first | rfl | decide +kernel)
theorem tw_259 : Cond.instanceMethod yX4_text ∈ tb_w := tb_in (List.mem_of_getElem? (i := 259) (by decide +kernel)) (by first | rfl | decide +kernel)
theorem tw_260 : Cond.selects RX4 yX4_text yX4_text ∈ tb_w := tb_in (List.mem_of_getElem? (i := 260) (by decide +kernel)) (by first | rfl | decide +kernel)
theorem vL_41 : mx_V RL mX4_text 41 4 2 := ⟨tw_258, tw_259, tw_260, tw_48, tw_261, ⟨by decide +kernel, by decide +kernel, by decide +kernel⟩, by decide, by decide, _, rfl, rfl⟩
set_option maxRecDepth 20000 in
theorem tw_264 : Cond.code yX4_isText cX4_isText 1 (some .boolean) ∈ tb_w := tb_in (List.mem_of_getElem? (i := 264) rfl) (by first | rfl | decide +kernel)
theorem tw_262 : Cond.methodLink RX4 115 yX4_isText ∈ tb_w := tb_in (List.mem_of_getElem? (i := 262) (by decide +kernel)) (by first | rfl | decide +kernel)
theorem tw_263 : Cond.static yX4_isText ∈ tb_w := tb_in (List.mem_of_getElem? (i := 263) (by decide +kernel)) (by first | rfl | decide +kernel)
theorem sX4_115 : mx_S RX4 mX4_isText 115 1 := ⟨tw_262, tw_263, tw_48, tw_264, ⟨by decide +kernel, by decide +kernel, by decide +kernel⟩, by decide⟩
set_option maxRecDepth 20000 in
theorem tw_268 : Cond.code yX4_put cX4_put 6 (some .int) ∈ tb_w := tb_in (List.mem_of_getElem? (i := 268) rfl) (by first | rfl | decide +kernel)
theorem tw_265 : Cond.methodLink RL 45 yX4_put ∈ tb_w := tb_in (List.mem_of_getElem? (i := 265) (by decide +kernel)) (by first | rfl | decide +kernel)
theorem tw_266 : Cond.instanceMethod yX4_put ∈ tb_w := tb_in (List.mem_of_getElem? (i := 266) (by decide +kernel)) (by first | rfl | decide +kernel)
theorem tw_267 : Cond.selects RX4 yX4_put yX4_put ∈ tb_w := tb_in (List.mem_of_getElem? (i := 267) (by decide +kernel)) (by first | rfl | decide +kernel)
theorem vL_45 : mx_V RL mX4_put 45 4 3 := ⟨tw_265, tw_266, tw_267, tw_48, tw_268, ⟨by decide +kernel, by decide +kernel, by decide +kernel⟩, by decide, by decide, _, rfl, rfl⟩
set_option maxRecDepth 20000 in
theorem tw_272 : Cond.code yX4_fault cX4_fault 2 (some .int) ∈ tb_w := tb_in (List.mem_of_getElem? (i := 272) rfl) (by first | rfl | decide +kernel)
theorem tw_269 : Cond.methodLink RL 49 yX4_fault ∈ tb_w := tb_in (List.mem_of_getElem? (i := 269) (by decide +kernel)) (by first | rfl | decide +kernel)
theorem tw_270 : Cond.instanceMethod yX4_fault ∈ tb_w := tb_in (List.mem_of_getElem? (i := 270) (by decide +kernel)) (by first | rfl | decide +kernel)
theorem tw_271 : Cond.selects RX4 yX4_fault yX4_fault ∈ tb_w := tb_in (List.mem_of_getElem? (i := 271) (by decide +kernel)) (by first | rfl | decide +kernel)
theorem vL_49 : mx_V RL mX4_fault 49 4 1 := ⟨tw_269, tw_270, tw_271, tw_48, tw_272, ⟨by decide +kernel, by decide +kernel, by decide +kernel⟩, by decide, by decide, _, rfl, rfl⟩
set_option maxRecDepth 20000 in
theorem tw_275 : Cond.code yX4_faultOf cX4_faultOf 4 (some .int) ∈ tb_w := tb_in (List.mem_of_getElem? (i := 275) rfl) (by first | rfl | decide +kernel)
theorem tw_273 : Cond.methodLink RX4 118 yX4_faultOf ∈ tb_w := tb_in (List.mem_of_getElem? (i := 273) (by decide +kernel)) (by first | rfl | decide +kernel)
theorem tw_274 : Cond.static yX4_faultOf ∈ tb_w := tb_in (List.mem_of_getElem? (i := 274) (by decide +kernel)) (by first | rfl | decide +kernel)
theorem sX4_118 : mx_S RX4 mX4_faultOf 118 1 := ⟨tw_273, tw_274, tw_48, tw_275, ⟨by decide +kernel, by decide +kernel, by decide +kernel⟩, by decide⟩
set_option maxRecDepth 20000 in
theorem tw_278 : Cond.code yX4_faultOfItem cX4_faultOfItem 3 (some .int) ∈ tb_w := tb_in (List.mem_of_getElem? (i := 278) rfl) (by first | rfl | decide +kernel)
theorem tw_276 : Cond.methodLink RX4 280 yX4_faultOfItem ∈ tb_w := tb_in (List.mem_of_getElem? (i := 276) (by decide +kernel)) (by first | rfl | decide +kernel)
theorem tw_277 : Cond.static yX4_faultOfItem ∈ tb_w := tb_in (List.mem_of_getElem? (i := 277) (by decide +kernel)) (by first | rfl | decide +kernel)
theorem sX4_280 : mx_S RX4 mX4_faultOfItem 280 2 := ⟨tw_276, tw_277, tw_48, tw_278, ⟨by decide +kernel, by decide +kernel, by decide +kernel⟩, by decide⟩
set_option maxRecDepth 20000 in
theorem tw_281 : Cond.code yX4_kindByLetter cX4_kindByLetter 1 (some .int) ∈ tb_w := tb_in (List.mem_of_getElem? (i := 281) rfl) (by first | rfl | decide +kernel)
theorem tw_279 : Cond.methodLink RX4 283 yX4_kindByLetter ∈ tb_w := tb_in (List.mem_of_getElem? (i := 279) (by decide +kernel)) (by first | rfl | decide +kernel)
theorem tw_280 : Cond.static yX4_kindByLetter ∈ tb_w := tb_in (List.mem_of_getElem? (i := 280) (by decide +kernel)) (by first | rfl | decide +kernel)
theorem sX4_283 : mx_S RX4 mX4_kindByLetter 283 1 := ⟨tw_279, tw_280, tw_48, tw_281, ⟨by decide +kernel, by decide +kernel, by decide +kernel⟩, by decide⟩
set_option maxRecDepth 20000 in
theorem tw_285 : Cond.code yX4_leat cX4_leat 3 (some .int) ∈ tb_w := tb_in (List.mem_of_getElem? (i := 285) rfl) (by first | rfl | decide +kernel)
theorem tw_282 : Cond.methodLink RL 53 yX4_leat ∈ tb_w := tb_in (List.mem_of_getElem? (i := 282) (by decide +kernel)) (by first | rfl | decide +kernel)
theorem tw_283 : Cond.instanceMethod yX4_leat ∈ tb_w := tb_in (List.mem_of_getElem? (i := 283) (by decide +kernel)) (by first | rfl | decide +kernel)
theorem tw_284 : Cond.selects RX4 yX4_leat yX4_leat ∈ tb_w := tb_in (List.mem_of_getElem? (i := 284) (by decide +kernel)) (by first | rfl | decide +kernel)
theorem vL_53 : mx_V RL mX4_leat 53 4 1 := ⟨tw_282, tw_283, tw_284, tw_48, tw_285, ⟨by decide +kernel, by decide +kernel, by decide +kernel⟩, by decide, by decide, _, rfl, rfl⟩
set_option maxRecDepth 20000 in
theorem tw_289 : Cond.code yX0_read cX0_read 3 none ∈ tb_w := tb_in (List.mem_of_getElem? (i := 289) rfl) (by first | rfl | decide +kernel)
theorem tw_286 : Cond.methodLink RX4 122 yX0_read ∈ tb_w := tb_in (List.mem_of_getElem? (i := 286) (by decide +kernel)) (by first | rfl | decide +kernel)
theorem tw_49 : Cond.initialized RX0 ∈ tb_w := tb_in (List.mem_of_getElem? (i := 49) (by decide +kernel)) (by first | rfl | decide +kernel)
theorem tw_287 : Cond.instanceMethod yX0_read ∈ tb_w := tb_in (List.mem_of_getElem? (i := 287) (by decide +kernel)) (by first | rfl | decide +kernel)
theorem tw_288 : Cond.selects RX0 yX0_read yX0_read ∈ tb_w := tb_in (List.mem_of_getElem? (i := 288) (by decide +kernel)) (by first | rfl | decide +kernel)
theorem vX4_122 : mx_V RX4 mX0_read 122 0 1 := ⟨tw_286, tw_287, tw_288, tw_49, tw_289, ⟨by decide +kernel, by decide +kernel, by decide +kernel⟩, by decide, by decide, _, rfl, rfl⟩
theorem nX0_34 : mx_N RX0 mX4_kindByLetter 34 1 := ⟨⟨RX4, by decide +kernel⟩, tw_280, tw_48, tw_281, ⟨by decide +kernel, by decide +kernel, by decide +kernel⟩, by decide⟩
set_option maxRecDepth 20000 in
theorem tw_294 : Cond.code yX4_doAgain cX4_doAgain 2 none ∈ tb_w := tb_in (List.mem_of_getElem? (i := 294) rfl) (by first | rfl | decide +kernel)
theorem tw_291 : Cond.methodLink RX4 126 yX4_doAgain ∈ tb_w := tb_in (List.mem_of_getElem? (i := 291) (by decide +kernel)) (by first | rfl | decide +kernel)
theorem tw_293 : Cond.instanceMethod yX4_doAgain ∈ tb_w := tb_in (List.mem_of_getElem? (i := 293) (by decide +kernel)) (by first | rfl | decide +kernel)
theorem tw_1 : Cond.selects RX4 yX4_doAgain yX4_doAgain ∈ tb_w := tb_in (List.mem_of_getElem? (i := 1) (by decide +kernel)) (by first | rfl | decide +kernel)
theorem vX4_126 : mx_V RX4 mX4_doAgain 126 4 0 := ⟨tw_291, tw_293, tw_1, tw_48, tw_294, ⟨by decide +kernel, by decide +kernel, by decide +kernel⟩, by decide, by decide, _, rfl, rfl⟩
set_option maxRecDepth 20000 in
theorem tw_298 : Cond.code yX3_start cX3_start 1 none ∈ tb_w := tb_in (List.mem_of_getElem? (i := 298) rfl) (by first | rfl | decide +kernel)
theorem tw_295 : Cond.methodLink RX4 304 yX3_start ∈ tb_w := tb_in (List.mem_of_getElem? (i := 295) (by decide +kernel)) (by first | rfl | decide +kernel)
theorem tw_50 : Cond.initialized RX3 ∈ tb_w := tb_in (List.mem_of_getElem? (i := 50) (by decide +kernel)) (by first | rfl | decide +kernel)
theorem tw_296 : Cond.instanceMethod yX3_start ∈ tb_w := tb_in (List.mem_of_getElem? (i := 296) (by decide +kernel)) (by first | rfl | decide +kernel)
theorem tw_297 : Cond.selects RX3 yX3_start yX3_start ∈ tb_w := tb_in (List.mem_of_getElem? (i := 297) (by decide +kernel)) (by first | rfl | decide +kernel)
theorem vX4_304 : mx_V RX4 mX3_start 304 3 0 := ⟨tw_295, tw_296, tw_297, tw_50, tw_298, ⟨by decide +kernel, by decide +kernel, by decide +kernel⟩, by decide, by decide, _, rfl, rfl⟩
set_option maxRecDepth 20000 in
theorem tw_302 : Cond.code yX4_apply cX4_apply 4 (some .int) ∈ tb_w := tb_in (List.mem_of_getElem? (i := 302) rfl) (by first | rfl | decide +kernel)
theorem tw_299 : Cond.methodLink RX4 301 yX4_apply ∈ tb_w := tb_in (List.mem_of_getElem? (i := 299) (by decide +kernel)) (by first | rfl | decide +kernel)
theorem tw_301 : Cond.instanceMethod yX4_apply ∈ tb_w := tb_in (List.mem_of_getElem? (i := 301) (by decide +kernel)) (by first | rfl | decide +kernel)
theorem tw_2 : Cond.selects RX4 yX4_apply yX4_apply ∈ tb_w := tb_in (List.mem_of_getElem? (i := 2) (by decide +kernel)) (by first | rfl | decide +kernel)
theorem vX4_301 : mx_V RX4 mX4_apply 301 4 2 := ⟨tw_299, tw_301, tw_2, tw_48, tw_302, ⟨by decide +kernel, by decide +kernel, by decide +kernel⟩, by decide, by decide, _, rfl, rfl⟩
set_option maxRecDepth 20000 in
theorem tw_306 : Cond.code yX0_drift cX0_drift 2 (some .int) ∈ tb_w := tb_in (List.mem_of_getElem? (i := 306) rfl) (by first | rfl | decide +kernel)
theorem tw_303 : Cond.methodLink RX4 295 yX0_drift ∈ tb_w := tb_in (List.mem_of_getElem? (i := 303) (by decide +kernel)) (by first | rfl | decide +kernel)
theorem tw_304 : Cond.instanceMethod yX0_drift ∈ tb_w := tb_in (List.mem_of_getElem? (i := 304) (by decide +kernel)) (by first | rfl | decide +kernel)
theorem tw_305 : Cond.selects RX0 yX0_drift yX0_drift ∈ tb_w := tb_in (List.mem_of_getElem? (i := 305) (by decide +kernel)) (by first | rfl | decide +kernel)
theorem vX4_295 : mx_V RX4 mX0_drift 295 0 1 := ⟨tw_303, tw_304, tw_305, tw_49, tw_306, ⟨by decide +kernel, by decide +kernel, by decide +kernel⟩, by decide, by decide, _, rfl, rfl⟩
set_option maxRecDepth 20000 in
theorem tw_310 : Cond.code yX0_setFished cX0_setFished 2 none ∈ tb_w := tb_in (List.mem_of_getElem? (i := 310) rfl) (by first | rfl | decide +kernel)
theorem tw_307 : Cond.methodLink RX4 210 yX0_setFished ∈ tb_w := tb_in (List.mem_of_getElem? (i := 307) (by decide +kernel)) (by first | rfl | decide +kernel)
theorem tw_308 : Cond.instanceMethod yX0_setFished ∈ tb_w := tb_in (List.mem_of_getElem? (i := 308) (by decide +kernel)) (by first | rfl | decide +kernel)
theorem tw_309 : Cond.selects RX0 yX0_setFished yX0_setFished ∈ tb_w := tb_in (List.mem_of_getElem? (i := 309) (by decide +kernel)) (by first | rfl | decide +kernel)
theorem vX4_210 : mx_V RX4 mX0_setFished 210 0 1 := ⟨tw_307, tw_308, tw_309, tw_49, tw_310, ⟨by decide +kernel, by decide +kernel, by decide +kernel⟩, by decide, by decide, _, rfl, rfl⟩
set_option maxRecDepth 20000 in
theorem tw_314 : Cond.code yX3_goRound cX3_goRound 3 (some .int) ∈ tb_w := tb_in (List.mem_of_getElem? (i := 314) rfl) (by first | rfl | decide +kernel)
theorem tw_311 : Cond.methodLink RX4 189 yX3_goRound ∈ tb_w := tb_in (List.mem_of_getElem? (i := 311) (by decide +kernel)) (by first | rfl | decide +kernel)
theorem tw_312 : Cond.instanceMethod yX3_goRound ∈ tb_w := tb_in (List.mem_of_getElem? (i := 312) (by decide +kernel)) (by first | rfl | decide +kernel)
theorem tw_313 : Cond.selects RX3 yX3_goRound yX3_goRound ∈ tb_w := tb_in (List.mem_of_getElem? (i := 313) (by decide +kernel)) (by first | rfl | decide +kernel)
theorem vX4_189 : mx_V RX4 mX3_goRound 189 3 1 := ⟨tw_311, tw_312, tw_313, tw_50, tw_314, ⟨by decide +kernel, by decide +kernel, by decide +kernel⟩, by decide, by decide, _, rfl, rfl⟩
set_option maxRecDepth 20000 in
theorem tw_318 : Cond.code yX0_flour cX0_flour 5 (some .int) ∈ tb_w := tb_in (List.mem_of_getElem? (i := 318) rfl) (by first | rfl | decide +kernel)
theorem tw_315 : Cond.methodLink RX3 28 yX0_flour ∈ tb_w := tb_in (List.mem_of_getElem? (i := 315) (by decide +kernel)) (by first | rfl | decide +kernel)
theorem tw_316 : Cond.instanceMethod yX0_flour ∈ tb_w := tb_in (List.mem_of_getElem? (i := 316) (by decide +kernel)) (by first | rfl | decide +kernel)
theorem tw_317 : Cond.selects RX0 yX0_flour yX0_flour ∈ tb_w := tb_in (List.mem_of_getElem? (i := 317) (by decide +kernel)) (by first | rfl | decide +kernel)
theorem vX3_28 : mx_V RX3 mX0_flour 28 0 3 := ⟨tw_315, tw_316, tw_317, tw_49, tw_318, ⟨by decide +kernel, by decide +kernel, by decide +kernel⟩, by decide, by decide, _, rfl, rfl⟩
theorem tw_319 : Cond.methodLink RX0 38 Lib.Math.max.name ∈ tb_w := tb_in (List.mem_of_getElem? (i := 319) (by decide +kernel)) (by first | rfl | decide +kernel)
theorem tw_322 : Cond.methodLink RX0 44 Lib.Math.min.name ∈ tb_w := tb_in (List.mem_of_getElem? (i := 322) (by decide +kernel)) (by first | rfl | decide +kernel)
theorem tw_325 : Cond.methodLink RX0 47 yX0_drift ∈ tb_w := tb_in (List.mem_of_getElem? (i := 325) (by decide +kernel)) (by first | rfl | decide +kernel)
theorem vX0_47 : mx_V RX0 mX0_drift 47 0 1 := ⟨tw_325, tw_304, tw_305, tw_49, tw_306, ⟨by decide +kernel, by decide +kernel, by decide +kernel⟩, by decide, by decide, _, rfl, rfl⟩
set_option maxRecDepth 20000 in
theorem tw_329 : Cond.code yX0_litter cX0_litter 3 (some .int) ∈ tb_w := tb_in (List.mem_of_getElem? (i := 329) rfl) (by first | rfl | decide +kernel)
theorem tw_326 : Cond.methodLink RX3 34 yX0_litter ∈ tb_w := tb_in (List.mem_of_getElem? (i := 326) (by decide +kernel)) (by first | rfl | decide +kernel)
theorem tw_327 : Cond.instanceMethod yX0_litter ∈ tb_w := tb_in (List.mem_of_getElem? (i := 327) (by decide +kernel)) (by first | rfl | decide +kernel)
theorem tw_328 : Cond.selects RX0 yX0_litter yX0_litter ∈ tb_w := tb_in (List.mem_of_getElem? (i := 328) (by decide +kernel)) (by first | rfl | decide +kernel)
theorem vX3_34 : mx_V RX3 mX0_litter 34 0 1 := ⟨tw_326, tw_327, tw_328, tw_49, tw_329, ⟨by decide +kernel, by decide +kernel, by decide +kernel⟩, by decide, by decide, _, rfl, rfl⟩
theorem tw_330 : Cond.methodLink RX3 38 Lib.Math.min.name ∈ tb_w := tb_in (List.mem_of_getElem? (i := 330) (by decide +kernel)) (by first | rfl | decide +kernel)
set_option maxRecDepth 20000 in
theorem tw_334 : Cond.code yX3_turn cX3_turn 1 none ∈ tb_w := tb_in (List.mem_of_getElem? (i := 334) rfl) (by first | rfl | decide +kernel)
theorem tw_331 : Cond.methodLink RX3 44 yX3_turn ∈ tb_w := tb_in (List.mem_of_getElem? (i := 331) (by decide +kernel)) (by first | rfl | decide +kernel)
theorem tw_332 : Cond.instanceMethod yX3_turn ∈ tb_w := tb_in (List.mem_of_getElem? (i := 332) (by decide +kernel)) (by first | rfl | decide +kernel)
theorem tw_333 : Cond.selects RX3 yX3_turn yX3_turn ∈ tb_w := tb_in (List.mem_of_getElem? (i := 333) (by decide +kernel)) (by first | rfl | decide +kernel)
theorem vX3_44 : mx_V RX3 mX3_turn 44 3 0 := ⟨tw_331, tw_332, tw_333, tw_50, tw_334, ⟨by decide +kernel, by decide +kernel, by decide +kernel⟩, by decide, by decide, _, rfl, rfl⟩
set_option maxRecDepth 20000 in
theorem tw_338 : Cond.code yX3_pass cX3_pass 2 none ∈ tb_w := tb_in (List.mem_of_getElem? (i := 338) rfl) (by first | rfl | decide +kernel)
theorem tw_335 : Cond.methodLink RX3 50 yX3_pass ∈ tb_w := tb_in (List.mem_of_getElem? (i := 335) (by decide +kernel)) (by first | rfl | decide +kernel)
theorem tw_336 : Cond.instanceMethod yX3_pass ∈ tb_w := tb_in (List.mem_of_getElem? (i := 336) (by decide +kernel)) (by first | rfl | decide +kernel)
theorem tw_337 : Cond.selects RX3 yX3_pass yX3_pass ∈ tb_w := tb_in (List.mem_of_getElem? (i := 337) (by decide +kernel)) (by first | rfl | decide +kernel)
theorem vX3_50 : mx_V RX3 mX3_pass 50 3 1 := ⟨tw_335, tw_336, tw_337, tw_50, tw_338, ⟨by decide +kernel, by decide +kernel, by decide +kernel⟩, by decide, by decide, _, rfl, rfl⟩
set_option maxRecDepth 20000 in
theorem tw_342 : Cond.code yX4_day cX4_day 3 (some .int) ∈ tb_w := tb_in (List.mem_of_getElem? (i := 342) rfl) (by first | rfl | decide +kernel)
theorem tw_339 : Cond.methodLink RL 57 yX4_day ∈ tb_w := tb_in (List.mem_of_getElem? (i := 339) (by decide +kernel)) (by first | rfl | decide +kernel)
theorem tw_340 : Cond.instanceMethod yX4_day ∈ tb_w := tb_in (List.mem_of_getElem? (i := 340) (by decide +kernel)) (by first | rfl | decide +kernel)
theorem tw_341 : Cond.selects RX4 yX4_day yX4_day ∈ tb_w := tb_in (List.mem_of_getElem? (i := 341) (by decide +kernel)) (by first | rfl | decide +kernel)
theorem vL_57 : mx_V RL mX4_day 57 4 2 := ⟨tw_339, tw_340, tw_341, tw_48, tw_342, ⟨by decide +kernel, by decide +kernel, by decide +kernel⟩, by decide, by decide, _, rfl, rfl⟩
set_option maxRecDepth 20000 in
theorem tw_346 : Cond.code yX4_isDay cX4_isDay 2 (some .boolean) ∈ tb_w := tb_in (List.mem_of_getElem? (i := 346) rfl) (by first | rfl | decide +kernel)
theorem tw_343 : Cond.methodLink RX4 130 yX4_isDay ∈ tb_w := tb_in (List.mem_of_getElem? (i := 343) (by decide +kernel)) (by first | rfl | decide +kernel)
theorem tw_345 : Cond.instanceMethod yX4_isDay ∈ tb_w := tb_in (List.mem_of_getElem? (i := 345) (by decide +kernel)) (by first | rfl | decide +kernel)
theorem tw_3 : Cond.selects RX4 yX4_isDay yX4_isDay ∈ tb_w := tb_in (List.mem_of_getElem? (i := 3) (by decide +kernel)) (by first | rfl | decide +kernel)
theorem vX4_130 : mx_V RX4 mX4_isDay 130 4 1 := ⟨tw_343, tw_345, tw_3, tw_48, tw_346, ⟨by decide +kernel, by decide +kernel, by decide +kernel⟩, by decide, by decide, _, rfl, rfl⟩
set_option maxRecDepth 20000 in
theorem tw_350 : Cond.code yX4_toldOfDay cX4_toldOfDay 3 (some .int) ∈ tb_w := tb_in (List.mem_of_getElem? (i := 350) rfl) (by first | rfl | decide +kernel)
theorem tw_347 : Cond.methodLink RX4 137 yX4_toldOfDay ∈ tb_w := tb_in (List.mem_of_getElem? (i := 347) (by decide +kernel)) (by first | rfl | decide +kernel)
theorem tw_349 : Cond.instanceMethod yX4_toldOfDay ∈ tb_w := tb_in (List.mem_of_getElem? (i := 349) (by decide +kernel)) (by first | rfl | decide +kernel)
theorem tw_4 : Cond.selects RX4 yX4_toldOfDay yX4_toldOfDay ∈ tb_w := tb_in (List.mem_of_getElem? (i := 4) (by decide +kernel)) (by first | rfl | decide +kernel)
theorem vX4_137 : mx_V RX4 mX4_toldOfDay 137 4 2 := ⟨tw_347, tw_349, tw_4, tw_48, tw_350, ⟨by decide +kernel, by decide +kernel, by decide +kernel⟩, by decide, by decide, _, rfl, rfl⟩
theorem tw_351 : Cond.methodLink RX4 150 yX0_flour ∈ tb_w := tb_in (List.mem_of_getElem? (i := 351) (by decide +kernel)) (by first | rfl | decide +kernel)
theorem vX4_150 : mx_V RX4 mX0_flour 150 0 3 := ⟨tw_351, tw_316, tw_317, tw_49, tw_318, ⟨by decide +kernel, by decide +kernel, by decide +kernel⟩, by decide, by decide, _, rfl, rfl⟩
theorem tw_352 : Cond.methodLink RX4 292 yX0_litter ∈ tb_w := tb_in (List.mem_of_getElem? (i := 352) (by decide +kernel)) (by first | rfl | decide +kernel)
theorem vX4_292 : mx_V RX4 mX0_litter 292 0 1 := ⟨tw_352, tw_327, tw_328, tw_49, tw_329, ⟨by decide +kernel, by decide +kernel, by decide +kernel⟩, by decide, by decide, _, rfl, rfl⟩
set_option maxRecDepth 20000 in
theorem tw_356 : Cond.code yX0_wasFished cX0_wasFished 2 (some .boolean) ∈ tb_w := tb_in (List.mem_of_getElem? (i := 356) rfl) (by first | rfl | decide +kernel)
theorem tw_353 : Cond.methodLink RX4 172 yX0_wasFished ∈ tb_w := tb_in (List.mem_of_getElem? (i := 353) (by decide +kernel)) (by first | rfl | decide +kernel)
theorem tw_354 : Cond.instanceMethod yX0_wasFished ∈ tb_w := tb_in (List.mem_of_getElem? (i := 354) (by decide +kernel)) (by first | rfl | decide +kernel)
theorem tw_355 : Cond.selects RX0 yX0_wasFished yX0_wasFished ∈ tb_w := tb_in (List.mem_of_getElem? (i := 355) (by decide +kernel)) (by first | rfl | decide +kernel)
theorem vX4_172 : mx_V RX4 mX0_wasFished 172 0 1 := ⟨tw_353, tw_354, tw_355, tw_49, tw_356, ⟨by decide +kernel, by decide +kernel, by decide +kernel⟩, by decide, by decide, _, rfl, rfl⟩
set_option maxRecDepth 20000 in
theorem tw_360 : Cond.code yX4_mark cX4_mark 3 (some .int) ∈ tb_w := tb_in (List.mem_of_getElem? (i := 360) rfl) (by first | rfl | decide +kernel)
theorem tw_357 : Cond.methodLink RL 61 yX4_mark ∈ tb_w := tb_in (List.mem_of_getElem? (i := 357) (by decide +kernel)) (by first | rfl | decide +kernel)
theorem tw_358 : Cond.instanceMethod yX4_mark ∈ tb_w := tb_in (List.mem_of_getElem? (i := 358) (by decide +kernel)) (by first | rfl | decide +kernel)
theorem tw_359 : Cond.selects RX4 yX4_mark yX4_mark ∈ tb_w := tb_in (List.mem_of_getElem? (i := 359) (by decide +kernel)) (by first | rfl | decide +kernel)
theorem vL_61 : mx_V RL mX4_mark 61 4 2 := ⟨tw_357, tw_358, tw_359, tw_48, tw_360, ⟨by decide +kernel, by decide +kernel, by decide +kernel⟩, by decide, by decide, _, rfl, rfl⟩
set_option maxRecDepth 20000 in
theorem tw_363 : Cond.code yX4_isOfKind cX4_isOfKind 2 (some .boolean) ∈ tb_w := tb_in (List.mem_of_getElem? (i := 363) rfl) (by first | rfl | decide +kernel)
theorem tw_361 : Cond.methodLink RX4 144 yX4_isOfKind ∈ tb_w := tb_in (List.mem_of_getElem? (i := 361) (by decide +kernel)) (by first | rfl | decide +kernel)
theorem tw_362 : Cond.static yX4_isOfKind ∈ tb_w := tb_in (List.mem_of_getElem? (i := 362) (by decide +kernel)) (by first | rfl | decide +kernel)
theorem sX4_144 : mx_S RX4 mX4_isOfKind 144 2 := ⟨tw_361, tw_362, tw_48, tw_363, ⟨by decide +kernel, by decide +kernel, by decide +kernel⟩, by decide⟩
set_option maxRecDepth 20000 in
theorem tw_367 : Cond.code yX4_markOf cX4_markOf 3 (some .int) ∈ tb_w := tb_in (List.mem_of_getElem? (i := 367) rfl) (by first | rfl | decide +kernel)
theorem tw_364 : Cond.methodLink RX4 147 yX4_markOf ∈ tb_w := tb_in (List.mem_of_getElem? (i := 364) (by decide +kernel)) (by first | rfl | decide +kernel)
theorem tw_366 : Cond.instanceMethod yX4_markOf ∈ tb_w := tb_in (List.mem_of_getElem? (i := 366) (by decide +kernel)) (by first | rfl | decide +kernel)
theorem tw_5 : Cond.selects RX4 yX4_markOf yX4_markOf ∈ tb_w := tb_in (List.mem_of_getElem? (i := 5) (by decide +kernel)) (by first | rfl | decide +kernel)
theorem vX4_147 : mx_V RX4 mX4_markOf 147 4 2 := ⟨tw_364, tw_366, tw_5, tw_48, tw_367, ⟨by decide +kernel, by decide +kernel, by decide +kernel⟩, by decide, by decide, _, rfl, rfl⟩
set_option maxRecDepth 20000 in
theorem tw_371 : Cond.code yX4_leavesMoreThan cX4_leavesMoreThan 3 (some .int) ∈ tb_w := tb_in (List.mem_of_getElem? (i := 371) rfl) (by first | rfl | decide +kernel)
theorem tw_368 : Cond.methodLink RX4 286 yX4_leavesMoreThan ∈ tb_w := tb_in (List.mem_of_getElem? (i := 368) (by decide +kernel)) (by first | rfl | decide +kernel)
theorem tw_370 : Cond.instanceMethod yX4_leavesMoreThan ∈ tb_w := tb_in (List.mem_of_getElem? (i := 370) (by decide +kernel)) (by first | rfl | decide +kernel)
theorem tw_6 : Cond.selects RX4 yX4_leavesMoreThan yX4_leavesMoreThan ∈ tb_w := tb_in (List.mem_of_getElem? (i := 6) (by decide +kernel)) (by first | rfl | decide +kernel)
theorem vX4_286 : mx_V RX4 mX4_leavesMoreThan 286 4 2 := ⟨tw_368, tw_370, tw_6, tw_48, tw_371, ⟨by decide +kernel, by decide +kernel, by decide +kernel⟩, by decide, by decide, _, rfl, rfl⟩
set_option maxRecDepth 20000 in
theorem tw_375 : Cond.code yX0_copyOf cX0_copyOf 3 none ∈ tb_w := tb_in (List.mem_of_getElem? (i := 375) rfl) (by first | rfl | decide +kernel)
theorem tw_372 : Cond.methodLink RX4 207 yX0_copyOf ∈ tb_w := tb_in (List.mem_of_getElem? (i := 372) (by decide +kernel)) (by first | rfl | decide +kernel)
theorem tw_373 : Cond.instanceMethod yX0_copyOf ∈ tb_w := tb_in (List.mem_of_getElem? (i := 373) (by decide +kernel)) (by first | rfl | decide +kernel)
theorem tw_374 : Cond.selects RX0 yX0_copyOf yX0_copyOf ∈ tb_w := tb_in (List.mem_of_getElem? (i := 374) (by decide +kernel)) (by first | rfl | decide +kernel)
theorem vX4_207 : mx_V RX4 mX0_copyOf 207 0 1 := ⟨tw_372, tw_373, tw_374, tw_49, tw_375, ⟨by decide +kernel, by decide +kernel, by decide +kernel⟩, by decide, by decide, _, rfl, rfl⟩
set_option maxRecDepth 20000 in
theorem tw_379 : Cond.code yX4_grindsMoreThan cX4_grindsMoreThan 3 (some .int) ∈ tb_w := tb_in (List.mem_of_getElem? (i := 379) rfl) (by first | rfl | decide +kernel)
theorem tw_376 : Cond.methodLink RX4 289 yX4_grindsMoreThan ∈ tb_w := tb_in (List.mem_of_getElem? (i := 376) (by decide +kernel)) (by first | rfl | decide +kernel)
theorem tw_378 : Cond.instanceMethod yX4_grindsMoreThan ∈ tb_w := tb_in (List.mem_of_getElem? (i := 378) (by decide +kernel)) (by first | rfl | decide +kernel)
theorem tw_7 : Cond.selects RX4 yX4_grindsMoreThan yX4_grindsMoreThan ∈ tb_w := tb_in (List.mem_of_getElem? (i := 7) (by decide +kernel)) (by first | rfl | decide +kernel)
theorem vX4_289 : mx_V RX4 mX4_grindsMoreThan 289 4 2 := ⟨tw_376, tw_378, tw_7, tw_48, tw_379, ⟨by decide +kernel, by decide +kernel, by decide +kernel⟩, by decide, by decide, _, rfl, rfl⟩
set_option maxRecDepth 20000 in
theorem tw_383 : Cond.code yX4_grinds cX4_grinds 4 (some .int) ∈ tb_w := tb_in (List.mem_of_getElem? (i := 383) rfl) (by first | rfl | decide +kernel)
theorem tw_380 : Cond.methodLink RL 65 yX4_grinds ∈ tb_w := tb_in (List.mem_of_getElem? (i := 380) (by decide +kernel)) (by first | rfl | decide +kernel)
theorem tw_381 : Cond.instanceMethod yX4_grinds ∈ tb_w := tb_in (List.mem_of_getElem? (i := 381) (by decide +kernel)) (by first | rfl | decide +kernel)
theorem tw_382 : Cond.selects RX4 yX4_grinds yX4_grinds ∈ tb_w := tb_in (List.mem_of_getElem? (i := 382) (by decide +kernel)) (by first | rfl | decide +kernel)
theorem vL_65 : mx_V RL mX4_grinds 65 4 3 := ⟨tw_380, tw_381, tw_382, tw_48, tw_383, ⟨by decide +kernel, by decide +kernel, by decide +kernel⟩, by decide, by decide, _, rfl, rfl⟩
set_option maxRecDepth 20000 in
theorem tw_387 : Cond.code yX4_step cX4_step 2 (some .int) ∈ tb_w := tb_in (List.mem_of_getElem? (i := 387) rfl) (by first | rfl | decide +kernel)
theorem tw_384 : Cond.methodLink RL 69 yX4_step ∈ tb_w := tb_in (List.mem_of_getElem? (i := 384) (by decide +kernel)) (by first | rfl | decide +kernel)
theorem tw_385 : Cond.instanceMethod yX4_step ∈ tb_w := tb_in (List.mem_of_getElem? (i := 385) (by decide +kernel)) (by first | rfl | decide +kernel)
theorem tw_386 : Cond.selects RX4 yX4_step yX4_step ∈ tb_w := tb_in (List.mem_of_getElem? (i := 386) (by decide +kernel)) (by first | rfl | decide +kernel)
theorem vL_69 : mx_V RL mX4_step 69 4 0 := ⟨tw_384, tw_385, tw_386, tw_48, tw_387, ⟨by decide +kernel, by decide +kernel, by decide +kernel⟩, by decide, by decide, _, rfl, rfl⟩
set_option maxRecDepth 20000 in
theorem tw_391 : Cond.code yX4_noDays cX4_noDays 1 (some .boolean) ∈ tb_w := tb_in (List.mem_of_getElem? (i := 391) rfl) (by first | rfl | decide +kernel)
theorem tw_388 : Cond.methodLink RX4 154 yX4_noDays ∈ tb_w := tb_in (List.mem_of_getElem? (i := 388) (by decide +kernel)) (by first | rfl | decide +kernel)
theorem tw_390 : Cond.instanceMethod yX4_noDays ∈ tb_w := tb_in (List.mem_of_getElem? (i := 390) (by decide +kernel)) (by first | rfl | decide +kernel)
theorem tw_8 : Cond.selects RX4 yX4_noDays yX4_noDays ∈ tb_w := tb_in (List.mem_of_getElem? (i := 8) (by decide +kernel)) (by first | rfl | decide +kernel)
theorem vX4_154 : mx_V RX4 mX4_noDays 154 4 0 := ⟨tw_388, tw_390, tw_8, tw_48, tw_391, ⟨by decide +kernel, by decide +kernel, by decide +kernel⟩, by decide, by decide, _, rfl, rfl⟩
set_option maxRecDepth 20000 in
theorem tw_395 : Cond.code yX1_isFull cX1_isFull 1 (some .boolean) ∈ tb_w := tb_in (List.mem_of_getElem? (i := 395) rfl) (by first | rfl | decide +kernel)
theorem tw_392 : Cond.methodLink RX4 157 yX1_isFull ∈ tb_w := tb_in (List.mem_of_getElem? (i := 392) (by decide +kernel)) (by first | rfl | decide +kernel)
theorem tw_51 : Cond.initialized RX1 ∈ tb_w := tb_in (List.mem_of_getElem? (i := 51) (by decide +kernel)) (by first | rfl | decide +kernel)
theorem tw_393 : Cond.instanceMethod yX1_isFull ∈ tb_w := tb_in (List.mem_of_getElem? (i := 393) (by decide +kernel)) (by first | rfl | decide +kernel)
theorem tw_394 : Cond.selects RX1 yX1_isFull yX1_isFull ∈ tb_w := tb_in (List.mem_of_getElem? (i := 394) (by decide +kernel)) (by first | rfl | decide +kernel)
theorem vX4_157 : mx_V RX4 mX1_isFull 157 1 0 := ⟨tw_392, tw_393, tw_394, tw_51, tw_395, ⟨by decide +kernel, by decide +kernel, by decide +kernel⟩, by decide, by decide, _, rfl, rfl⟩
set_option maxRecDepth 20000 in
theorem tw_399 : Cond.code yX4_doDeed cX4_doDeed 3 (some .int) ∈ tb_w := tb_in (List.mem_of_getElem? (i := 399) rfl) (by first | rfl | decide +kernel)
theorem tw_396 : Cond.methodLink RX4 160 yX4_doDeed ∈ tb_w := tb_in (List.mem_of_getElem? (i := 396) (by decide +kernel)) (by first | rfl | decide +kernel)
theorem tw_398 : Cond.instanceMethod yX4_doDeed ∈ tb_w := tb_in (List.mem_of_getElem? (i := 398) (by decide +kernel)) (by first | rfl | decide +kernel)
theorem tw_9 : Cond.selects RX4 yX4_doDeed yX4_doDeed ∈ tb_w := tb_in (List.mem_of_getElem? (i := 9) (by decide +kernel)) (by first | rfl | decide +kernel)
theorem vX4_160 : mx_V RX4 mX4_doDeed 160 4 2 := ⟨tw_396, tw_398, tw_9, tw_48, tw_399, ⟨by decide +kernel, by decide +kernel, by decide +kernel⟩, by decide, by decide, _, rfl, rfl⟩
set_option maxRecDepth 20000 in
theorem tw_403 : Cond.code yX1_add cX1_add 3 none ∈ tb_w := tb_in (List.mem_of_getElem? (i := 403) rfl) (by first | rfl | decide +kernel)
theorem tw_400 : Cond.methodLink RX4 298 yX1_add ∈ tb_w := tb_in (List.mem_of_getElem? (i := 400) (by decide +kernel)) (by first | rfl | decide +kernel)
theorem tw_401 : Cond.instanceMethod yX1_add ∈ tb_w := tb_in (List.mem_of_getElem? (i := 401) (by decide +kernel)) (by first | rfl | decide +kernel)
theorem tw_402 : Cond.selects RX1 yX1_add yX1_add ∈ tb_w := tb_in (List.mem_of_getElem? (i := 402) (by decide +kernel)) (by first | rfl | decide +kernel)
theorem vX4_298 : mx_V RX4 mX1_add 298 1 2 := ⟨tw_400, tw_401, tw_402, tw_51, tw_403, ⟨by decide +kernel, by decide +kernel, by decide +kernel⟩, by decide, by decide, _, rfl, rfl⟩
theorem tw_404 : Cond.methodLink RX1 22 yX1_isFull ∈ tb_w := tb_in (List.mem_of_getElem? (i := 404) (by decide +kernel)) (by first | rfl | decide +kernel)
theorem vX1_22 : mx_V RX1 mX1_isFull 22 1 0 := ⟨tw_404, tw_393, tw_394, tw_51, tw_395, ⟨by decide +kernel, by decide +kernel, by decide +kernel⟩, by decide, by decide, _, rfl, rfl⟩
set_option maxRecDepth 20000 in
theorem tw_408 : Cond.code yX4_hatch cX4_hatch 2 (some .int) ∈ tb_w := tb_in (List.mem_of_getElem? (i := 408) rfl) (by first | rfl | decide +kernel)
theorem tw_405 : Cond.methodLink RL 74 yX4_hatch ∈ tb_w := tb_in (List.mem_of_getElem? (i := 405) (by decide +kernel)) (by first | rfl | decide +kernel)
theorem tw_406 : Cond.instanceMethod yX4_hatch ∈ tb_w := tb_in (List.mem_of_getElem? (i := 406) (by decide +kernel)) (by first | rfl | decide +kernel)
theorem tw_407 : Cond.selects RX4 yX4_hatch yX4_hatch ∈ tb_w := tb_in (List.mem_of_getElem? (i := 407) (by decide +kernel)) (by first | rfl | decide +kernel)
theorem vL_74 : mx_V RL mX4_hatch 74 4 1 := ⟨tw_405, tw_406, tw_407, tw_48, tw_408, ⟨by decide +kernel, by decide +kernel, by decide +kernel⟩, by decide, by decide, _, rfl, rfl⟩
set_option maxRecDepth 20000 in
theorem tw_412 : Cond.code yX4_rake cX4_rake 1 (some .int) ∈ tb_w := tb_in (List.mem_of_getElem? (i := 412) rfl) (by first | rfl | decide +kernel)
theorem tw_409 : Cond.methodLink RL 78 yX4_rake ∈ tb_w := tb_in (List.mem_of_getElem? (i := 409) (by decide +kernel)) (by first | rfl | decide +kernel)
theorem tw_410 : Cond.instanceMethod yX4_rake ∈ tb_w := tb_in (List.mem_of_getElem? (i := 410) (by decide +kernel)) (by first | rfl | decide +kernel)
theorem tw_411 : Cond.selects RX4 yX4_rake yX4_rake ∈ tb_w := tb_in (List.mem_of_getElem? (i := 411) (by decide +kernel)) (by first | rfl | decide +kernel)
theorem vL_78 : mx_V RL mX4_rake 78 4 0 := ⟨tw_409, tw_410, tw_411, tw_48, tw_412, ⟨by decide +kernel, by decide +kernel, by decide +kernel⟩, by decide, by decide, _, rfl, rfl⟩
set_option maxRecDepth 20000 in
theorem tw_416 : Cond.code yX4_fish cX4_fish 2 (some .int) ∈ tb_w := tb_in (List.mem_of_getElem? (i := 416) rfl) (by first | rfl | decide +kernel)
theorem tw_413 : Cond.methodLink RL 82 yX4_fish ∈ tb_w := tb_in (List.mem_of_getElem? (i := 413) (by decide +kernel)) (by first | rfl | decide +kernel)
theorem tw_414 : Cond.instanceMethod yX4_fish ∈ tb_w := tb_in (List.mem_of_getElem? (i := 414) (by decide +kernel)) (by first | rfl | decide +kernel)
theorem tw_415 : Cond.selects RX4 yX4_fish yX4_fish ∈ tb_w := tb_in (List.mem_of_getElem? (i := 415) (by decide +kernel)) (by first | rfl | decide +kernel)
theorem vL_82 : mx_V RL mX4_fish 82 4 1 := ⟨tw_413, tw_414, tw_415, tw_48, tw_416, ⟨by decide +kernel, by decide +kernel, by decide +kernel⟩, by decide, by decide, _, rfl, rfl⟩
set_option maxRecDepth 20000 in
theorem tw_420 : Cond.code yX4_undo cX4_undo 3 (some .int) ∈ tb_w := tb_in (List.mem_of_getElem? (i := 420) rfl) (by first | rfl | decide +kernel)
theorem tw_417 : Cond.methodLink RL 86 yX4_undo ∈ tb_w := tb_in (List.mem_of_getElem? (i := 417) (by decide +kernel)) (by first | rfl | decide +kernel)
theorem tw_418 : Cond.instanceMethod yX4_undo ∈ tb_w := tb_in (List.mem_of_getElem? (i := 418) (by decide +kernel)) (by first | rfl | decide +kernel)
theorem tw_419 : Cond.selects RX4 yX4_undo yX4_undo ∈ tb_w := tb_in (List.mem_of_getElem? (i := 419) (by decide +kernel)) (by first | rfl | decide +kernel)
theorem vL_86 : mx_V RL mX4_undo 86 4 1 := ⟨tw_417, tw_418, tw_419, tw_48, tw_420, ⟨by decide +kernel, by decide +kernel, by decide +kernel⟩, by decide, by decide, _, rfl, rfl⟩
set_option maxRecDepth 20000 in
theorem tw_424 : Cond.code yX4_keep cX4_keep 2 (some .int) ∈ tb_w := tb_in (List.mem_of_getElem? (i := 424) rfl) (by first | rfl | decide +kernel)
theorem tw_421 : Cond.methodLink RL 90 yX4_keep ∈ tb_w := tb_in (List.mem_of_getElem? (i := 421) (by decide +kernel)) (by first | rfl | decide +kernel)
theorem tw_422 : Cond.instanceMethod yX4_keep ∈ tb_w := tb_in (List.mem_of_getElem? (i := 422) (by decide +kernel)) (by first | rfl | decide +kernel)
theorem tw_423 : Cond.selects RX4 yX4_keep yX4_keep ∈ tb_w := tb_in (List.mem_of_getElem? (i := 423) (by decide +kernel)) (by first | rfl | decide +kernel)
theorem vL_90 : mx_V RL mX4_keep 90 4 1 := ⟨tw_421, tw_422, tw_423, tw_48, tw_424, ⟨by decide +kernel, by decide +kernel, by decide +kernel⟩, by decide, by decide, _, rfl, rfl⟩
set_option maxRecDepth 20000 in
theorem tw_427 : Cond.code yX4_isPlace cX4_isPlace 1 (some .boolean) ∈ tb_w := tb_in (List.mem_of_getElem? (i := 427) rfl) (by first | rfl | decide +kernel)
theorem tw_425 : Cond.methodLink RX4 175 yX4_isPlace ∈ tb_w := tb_in (List.mem_of_getElem? (i := 425) (by decide +kernel)) (by first | rfl | decide +kernel)
theorem tw_426 : Cond.static yX4_isPlace ∈ tb_w := tb_in (List.mem_of_getElem? (i := 426) (by decide +kernel)) (by first | rfl | decide +kernel)
theorem sX4_175 : mx_S RX4 mX4_isPlace 175 1 := ⟨tw_425, tw_426, tw_48, tw_427, ⟨by decide +kernel, by decide +kernel, by decide +kernel⟩, by decide⟩
set_option maxRecDepth 20000 in
theorem tw_431 : Cond.code yX1_copyOf cX1_copyOf 3 none ∈ tb_w := tb_in (List.mem_of_getElem? (i := 431) rfl) (by first | rfl | decide +kernel)
theorem tw_428 : Cond.methodLink RX4 178 yX1_copyOf ∈ tb_w := tb_in (List.mem_of_getElem? (i := 428) (by decide +kernel)) (by first | rfl | decide +kernel)
theorem tw_429 : Cond.instanceMethod yX1_copyOf ∈ tb_w := tb_in (List.mem_of_getElem? (i := 429) (by decide +kernel)) (by first | rfl | decide +kernel)
theorem tw_430 : Cond.selects RX1 yX1_copyOf yX1_copyOf ∈ tb_w := tb_in (List.mem_of_getElem? (i := 430) (by decide +kernel)) (by first | rfl | decide +kernel)
theorem vX4_178 : mx_V RX4 mX1_copyOf 178 1 1 := ⟨tw_428, tw_429, tw_430, tw_51, tw_431, ⟨by decide +kernel, by decide +kernel, by decide +kernel⟩, by decide, by decide, _, rfl, rfl⟩
set_option maxRecDepth 20000 in
theorem tw_435 : Cond.code yX4_on cX4_on 2 (some .int) ∈ tb_w := tb_in (List.mem_of_getElem? (i := 435) rfl) (by first | rfl | decide +kernel)
theorem tw_432 : Cond.methodLink RL 94 yX4_on ∈ tb_w := tb_in (List.mem_of_getElem? (i := 432) (by decide +kernel)) (by first | rfl | decide +kernel)
theorem tw_433 : Cond.instanceMethod yX4_on ∈ tb_w := tb_in (List.mem_of_getElem? (i := 433) (by decide +kernel)) (by first | rfl | decide +kernel)
theorem tw_434 : Cond.selects RX4 yX4_on yX4_on ∈ tb_w := tb_in (List.mem_of_getElem? (i := 434) (by decide +kernel)) (by first | rfl | decide +kernel)
theorem vL_94 : mx_V RL mX4_on 94 4 1 := ⟨tw_432, tw_433, tw_434, tw_48, tw_435, ⟨by decide +kernel, by decide +kernel, by decide +kernel⟩, by decide, by decide, _, rfl, rfl⟩
set_option maxRecDepth 20000 in
theorem tw_439 : Cond.code yX4_mill cX4_mill 3 (some .int) ∈ tb_w := tb_in (List.mem_of_getElem? (i := 439) rfl) (by first | rfl | decide +kernel)
theorem tw_436 : Cond.methodLink RL 98 yX4_mill ∈ tb_w := tb_in (List.mem_of_getElem? (i := 436) (by decide +kernel)) (by first | rfl | decide +kernel)
theorem tw_437 : Cond.instanceMethod yX4_mill ∈ tb_w := tb_in (List.mem_of_getElem? (i := 437) (by decide +kernel)) (by first | rfl | decide +kernel)
theorem tw_438 : Cond.selects RX4 yX4_mill yX4_mill ∈ tb_w := tb_in (List.mem_of_getElem? (i := 438) (by decide +kernel)) (by first | rfl | decide +kernel)
theorem vL_98 : mx_V RL mX4_mill 98 4 1 := ⟨tw_436, tw_437, tw_438, tw_48, tw_439, ⟨by decide +kernel, by decide +kernel, by decide +kernel⟩, by decide, by decide, _, rfl, rfl⟩
set_option maxRecDepth 20000 in
theorem tw_443 : Cond.code yX4_startTrial cX4_startTrial 1 none ∈ tb_w := tb_in (List.mem_of_getElem? (i := 443) rfl) (by first | rfl | decide +kernel)
theorem tw_440 : Cond.methodLink RX4 182 yX4_startTrial ∈ tb_w := tb_in (List.mem_of_getElem? (i := 440) (by decide +kernel)) (by first | rfl | decide +kernel)
theorem tw_442 : Cond.instanceMethod yX4_startTrial ∈ tb_w := tb_in (List.mem_of_getElem? (i := 442) (by decide +kernel)) (by first | rfl | decide +kernel)
theorem tw_10 : Cond.selects RX4 yX4_startTrial yX4_startTrial ∈ tb_w := tb_in (List.mem_of_getElem? (i := 10) (by decide +kernel)) (by first | rfl | decide +kernel)
theorem vX4_182 : mx_V RX4 mX4_startTrial 182 4 0 := ⟨tw_440, tw_442, tw_10, tw_48, tw_443, ⟨by decide +kernel, by decide +kernel, by decide +kernel⟩, by decide, by decide, _, rfl, rfl⟩
set_option maxRecDepth 20000 in
theorem tw_447 : Cond.code yX3_copyOf cX3_copyOf 2 none ∈ tb_w := tb_in (List.mem_of_getElem? (i := 447) rfl) (by first | rfl | decide +kernel)
theorem tw_444 : Cond.methodLink RX4 313 yX3_copyOf ∈ tb_w := tb_in (List.mem_of_getElem? (i := 444) (by decide +kernel)) (by first | rfl | decide +kernel)
theorem tw_445 : Cond.instanceMethod yX3_copyOf ∈ tb_w := tb_in (List.mem_of_getElem? (i := 445) (by decide +kernel)) (by first | rfl | decide +kernel)
theorem tw_446 : Cond.selects RX3 yX3_copyOf yX3_copyOf ∈ tb_w := tb_in (List.mem_of_getElem? (i := 446) (by decide +kernel)) (by first | rfl | decide +kernel)
theorem vX4_313 : mx_V RX4 mX3_copyOf 313 3 1 := ⟨tw_444, tw_445, tw_446, tw_50, tw_447, ⟨by decide +kernel, by decide +kernel, by decide +kernel⟩, by decide, by decide, _, rfl, rfl⟩
set_option maxRecDepth 20000 in
theorem tw_451 : Cond.code yX4_groundIn cX4_groundIn 4 (some .int) ∈ tb_w := tb_in (List.mem_of_getElem? (i := 451) rfl) (by first | rfl | decide +kernel)
theorem tw_448 : Cond.methodLink RX4 185 yX4_groundIn ∈ tb_w := tb_in (List.mem_of_getElem? (i := 448) (by decide +kernel)) (by first | rfl | decide +kernel)
theorem tw_450 : Cond.instanceMethod yX4_groundIn ∈ tb_w := tb_in (List.mem_of_getElem? (i := 450) (by decide +kernel)) (by first | rfl | decide +kernel)
theorem tw_11 : Cond.selects RX4 yX4_groundIn yX4_groundIn ∈ tb_w := tb_in (List.mem_of_getElem? (i := 11) (by decide +kernel)) (by first | rfl | decide +kernel)
theorem vX4_185 : mx_V RX4 mX4_groundIn 185 4 2 := ⟨tw_448, tw_450, tw_11, tw_48, tw_451, ⟨by decide +kernel, by decide +kernel, by decide +kernel⟩, by decide, by decide, _, rfl, rfl⟩
set_option maxRecDepth 20000 in
theorem tw_455 : Cond.code yX4_turns cX4_turns 3 (some .int) ∈ tb_w := tb_in (List.mem_of_getElem? (i := 455) rfl) (by first | rfl | decide +kernel)
theorem tw_452 : Cond.methodLink RL 102 yX4_turns ∈ tb_w := tb_in (List.mem_of_getElem? (i := 452) (by decide +kernel)) (by first | rfl | decide +kernel)
theorem tw_453 : Cond.instanceMethod yX4_turns ∈ tb_w := tb_in (List.mem_of_getElem? (i := 453) (by decide +kernel)) (by first | rfl | decide +kernel)
theorem tw_454 : Cond.selects RX4 yX4_turns yX4_turns ∈ tb_w := tb_in (List.mem_of_getElem? (i := 454) (by decide +kernel)) (by first | rfl | decide +kernel)
theorem vL_102 : mx_V RL mX4_turns 102 4 0 := ⟨tw_452, tw_453, tw_454, tw_48, tw_455, ⟨by decide +kernel, by decide +kernel, by decide +kernel⟩, by decide, by decide, _, rfl, rfl⟩
set_option maxRecDepth 20000 in
theorem tw_459 : Cond.code yX4_book cX4_book 6 (some .int) ∈ tb_w := tb_in (List.mem_of_getElem? (i := 459) rfl) (by first | rfl | decide +kernel)
theorem tw_456 : Cond.methodLink RL 106 yX4_book ∈ tb_w := tb_in (List.mem_of_getElem? (i := 456) (by decide +kernel)) (by first | rfl | decide +kernel)
theorem tw_457 : Cond.instanceMethod yX4_book ∈ tb_w := tb_in (List.mem_of_getElem? (i := 457) (by decide +kernel)) (by first | rfl | decide +kernel)
theorem tw_458 : Cond.selects RX4 yX4_book yX4_book ∈ tb_w := tb_in (List.mem_of_getElem? (i := 458) (by decide +kernel)) (by first | rfl | decide +kernel)
theorem vL_106 : mx_V RL mX4_book 106 4 2 := ⟨tw_456, tw_457, tw_458, tw_48, tw_459, ⟨by decide +kernel, by decide +kernel, by decide +kernel⟩, by decide, by decide, _, rfl, rfl⟩
set_option maxRecDepth 20000 in
theorem tw_463 : Cond.code yX4_best cX4_best 6 (some .int) ∈ tb_w := tb_in (List.mem_of_getElem? (i := 463) rfl) (by first | rfl | decide +kernel)
theorem tw_460 : Cond.methodLink RL 110 yX4_best ∈ tb_w := tb_in (List.mem_of_getElem? (i := 460) (by decide +kernel)) (by first | rfl | decide +kernel)
theorem tw_461 : Cond.instanceMethod yX4_best ∈ tb_w := tb_in (List.mem_of_getElem? (i := 461) (by decide +kernel)) (by first | rfl | decide +kernel)
theorem tw_462 : Cond.selects RX4 yX4_best yX4_best ∈ tb_w := tb_in (List.mem_of_getElem? (i := 462) (by decide +kernel)) (by first | rfl | decide +kernel)
theorem vL_110 : mx_V RL mX4_best 110 4 1 := ⟨tw_460, tw_461, tw_462, tw_48, tw_463, ⟨by decide +kernel, by decide +kernel, by decide +kernel⟩, by decide, by decide, _, rfl, rfl⟩
set_option maxRecDepth 20000 in
theorem tw_467 : Cond.code yX4_plan cX4_plan 5 (some .int) ∈ tb_w := tb_in (List.mem_of_getElem? (i := 467) rfl) (by first | rfl | decide +kernel)
theorem tw_464 : Cond.methodLink RL 114 yX4_plan ∈ tb_w := tb_in (List.mem_of_getElem? (i := 464) (by decide +kernel)) (by first | rfl | decide +kernel)
theorem tw_465 : Cond.instanceMethod yX4_plan ∈ tb_w := tb_in (List.mem_of_getElem? (i := 465) (by decide +kernel)) (by first | rfl | decide +kernel)
theorem tw_466 : Cond.selects RX4 yX4_plan yX4_plan ∈ tb_w := tb_in (List.mem_of_getElem? (i := 466) (by decide +kernel)) (by first | rfl | decide +kernel)
theorem vL_114 : mx_V RL mX4_plan 114 4 2 := ⟨tw_464, tw_465, tw_466, tw_48, tw_467, ⟨by decide +kernel, by decide +kernel, by decide +kernel⟩, by decide, by decide, _, rfl, rfl⟩
set_option maxRecDepth 20000 in
theorem tw_471 : Cond.code yX4_bestSetting cX4_bestSetting 6 (some .int) ∈ tb_w := tb_in (List.mem_of_getElem? (i := 471) rfl) (by first | rfl | decide +kernel)
theorem tw_468 : Cond.methodLink RX4 193 yX4_bestSetting ∈ tb_w := tb_in (List.mem_of_getElem? (i := 468) (by decide +kernel)) (by first | rfl | decide +kernel)
theorem tw_470 : Cond.instanceMethod yX4_bestSetting ∈ tb_w := tb_in (List.mem_of_getElem? (i := 470) (by decide +kernel)) (by first | rfl | decide +kernel)
theorem tw_12 : Cond.selects RX4 yX4_bestSetting yX4_bestSetting ∈ tb_w := tb_in (List.mem_of_getElem? (i := 12) (by decide +kernel)) (by first | rfl | decide +kernel)
theorem vX4_193 : mx_V RX4 mX4_bestSetting 193 4 1 := ⟨tw_468, tw_470, tw_12, tw_48, tw_471, ⟨by decide +kernel, by decide +kernel, by decide +kernel⟩, by decide, by decide, _, rfl, rfl⟩
set_option maxRecDepth 20000 in
theorem tw_475 : Cond.code yX4_mostSetting cX4_mostSetting 7 (some .int) ∈ tb_w := tb_in (List.mem_of_getElem? (i := 475) rfl) (by first | rfl | decide +kernel)
theorem tw_472 : Cond.methodLink RX4 322 yX4_mostSetting ∈ tb_w := tb_in (List.mem_of_getElem? (i := 472) (by decide +kernel)) (by first | rfl | decide +kernel)
theorem tw_474 : Cond.instanceMethod yX4_mostSetting ∈ tb_w := tb_in (List.mem_of_getElem? (i := 474) (by decide +kernel)) (by first | rfl | decide +kernel)
theorem tw_13 : Cond.selects RX4 yX4_mostSetting yX4_mostSetting ∈ tb_w := tb_in (List.mem_of_getElem? (i := 13) (by decide +kernel)) (by first | rfl | decide +kernel)
theorem vX4_322 : mx_V RX4 mX4_mostSetting 322 4 3 := ⟨tw_472, tw_474, tw_13, tw_48, tw_475, ⟨by decide +kernel, by decide +kernel, by decide +kernel⟩, by decide, by decide, _, rfl, rfl⟩
theorem tw_476 : Cond.methodLink RX4 326 Lib.Math.max.name ∈ tb_w := tb_in (List.mem_of_getElem? (i := 476) (by decide +kernel)) (by first | rfl | decide +kernel)
set_option maxRecDepth 20000 in
theorem tw_480 : Cond.code yX4_rakes cX4_rakes 7 (some .int) ∈ tb_w := tb_in (List.mem_of_getElem? (i := 480) rfl) (by first | rfl | decide +kernel)
theorem tw_477 : Cond.methodLink RL 118 yX4_rakes ∈ tb_w := tb_in (List.mem_of_getElem? (i := 477) (by decide +kernel)) (by first | rfl | decide +kernel)
theorem tw_478 : Cond.instanceMethod yX4_rakes ∈ tb_w := tb_in (List.mem_of_getElem? (i := 478) (by decide +kernel)) (by first | rfl | decide +kernel)
theorem tw_479 : Cond.selects RX4 yX4_rakes yX4_rakes ∈ tb_w := tb_in (List.mem_of_getElem? (i := 479) (by decide +kernel)) (by first | rfl | decide +kernel)
theorem vL_118 : mx_V RL mX4_rakes 118 4 2 := ⟨tw_477, tw_478, tw_479, tw_48, tw_480, ⟨by decide +kernel, by decide +kernel, by decide +kernel⟩, by decide, by decide, _, rfl, rfl⟩
set_option maxRecDepth 20000 in
theorem tw_483 : Cond.code yJ6_bitCount_0f7a4 cJ6_bitCount_0f7a4 1 (some .int) ∈ tb_w := tb_in (List.mem_of_getElem? (i := 483) rfl) (by first | rfl | decide +kernel)
theorem tw_481 : Cond.methodLink RX4 199 yJ6_bitCount_0f7a4 ∈ tb_w := tb_in (List.mem_of_getElem? (i := 481) (by decide +kernel)) (by first | rfl | decide +kernel)
theorem tw_56 : Cond.initialized RJ6 ∈ tb_w := tb_in (List.mem_of_getElem? (i := 56) (by decide +kernel)) (by first | rfl | decide +kernel)
theorem tw_482 : Cond.static yJ6_bitCount_0f7a4 ∈ tb_w := tb_in (List.mem_of_getElem? (i := 482) (by decide +kernel)) (by first | rfl | decide +kernel)
theorem sX4_199 : mx_S RX4 mJ6_bitCount_0f7a4 199 1 := ⟨tw_481, tw_482, tw_56, tw_483, ⟨by decide +kernel, by decide +kernel, by decide +kernel⟩, by decide⟩
theorem tw_484 : Cond.constant RJ6 265 (1431655765) ∈ tb_w := tb_in (List.mem_of_getElem? (i := 484) (by decide +kernel)) (by first | rfl | decide +kernel)
theorem tw_485 : Cond.constant RJ6 266 (858993459) ∈ tb_w := tb_in (List.mem_of_getElem? (i := 485) (by decide +kernel)) (by first | rfl | decide +kernel)
theorem tw_486 : Cond.constant RJ6 267 (252645135) ∈ tb_w := tb_in (List.mem_of_getElem? (i := 486) (by decide +kernel)) (by first | rfl | decide +kernel)
set_option maxRecDepth 20000 in
theorem tw_490 : Cond.code yX4_groundRaking cX4_groundRaking 4 (some .int) ∈ tb_w := tb_in (List.mem_of_getElem? (i := 490) rfl) (by first | rfl | decide +kernel)
theorem tw_487 : Cond.methodLink RX4 204 yX4_groundRaking ∈ tb_w := tb_in (List.mem_of_getElem? (i := 487) (by decide +kernel)) (by first | rfl | decide +kernel)
theorem tw_489 : Cond.instanceMethod yX4_groundRaking ∈ tb_w := tb_in (List.mem_of_getElem? (i := 489) (by decide +kernel)) (by first | rfl | decide +kernel)
theorem tw_14 : Cond.selects RX4 yX4_groundRaking yX4_groundRaking ∈ tb_w := tb_in (List.mem_of_getElem? (i := 14) (by decide +kernel)) (by first | rfl | decide +kernel)
theorem vX4_204 : mx_V RX4 mX4_groundRaking 204 4 2 := ⟨tw_487, tw_489, tw_14, tw_48, tw_490, ⟨by decide +kernel, by decide +kernel, by decide +kernel⟩, by decide, by decide, _, rfl, rfl⟩
set_option maxRecDepth 20000 in
theorem tw_494 : Cond.code yX4_fishes cX4_fishes 6 (some .int) ∈ tb_w := tb_in (List.mem_of_getElem? (i := 494) rfl) (by first | rfl | decide +kernel)
theorem tw_491 : Cond.methodLink RL 122 yX4_fishes ∈ tb_w := tb_in (List.mem_of_getElem? (i := 491) (by decide +kernel)) (by first | rfl | decide +kernel)
theorem tw_492 : Cond.instanceMethod yX4_fishes ∈ tb_w := tb_in (List.mem_of_getElem? (i := 492) (by decide +kernel)) (by first | rfl | decide +kernel)
theorem tw_493 : Cond.selects RX4 yX4_fishes yX4_fishes ∈ tb_w := tb_in (List.mem_of_getElem? (i := 493) (by decide +kernel)) (by first | rfl | decide +kernel)
theorem vL_122 : mx_V RL mX4_fishes 122 4 1 := ⟨tw_491, tw_492, tw_493, tw_48, tw_494, ⟨by decide +kernel, by decide +kernel, by decide +kernel⟩, by decide, by decide, _, rfl, rfl⟩
set_option maxRecDepth 20000 in
theorem tw_498 : Cond.code yX4_where cX4_where 5 (some .int) ∈ tb_w := tb_in (List.mem_of_getElem? (i := 498) rfl) (by first | rfl | decide +kernel)
theorem tw_495 : Cond.methodLink RL 126 yX4_where ∈ tb_w := tb_in (List.mem_of_getElem? (i := 495) (by decide +kernel)) (by first | rfl | decide +kernel)
theorem tw_496 : Cond.instanceMethod yX4_where ∈ tb_w := tb_in (List.mem_of_getElem? (i := 496) (by decide +kernel)) (by first | rfl | decide +kernel)
theorem tw_497 : Cond.selects RX4 yX4_where yX4_where ∈ tb_w := tb_in (List.mem_of_getElem? (i := 497) (by decide +kernel)) (by first | rfl | decide +kernel)
theorem vL_126 : mx_V RL mX4_where 126 4 1 := ⟨tw_495, tw_496, tw_497, tw_48, tw_498, ⟨by decide +kernel, by decide +kernel, by decide +kernel⟩, by decide, by decide, _, rfl, rfl⟩
set_option maxRecDepth 20000 in
theorem tw_501 : Cond.code yX4_wrongNumbers cX4_wrongNumbers 2 (some .int) ∈ tb_w := tb_in (List.mem_of_getElem? (i := 501) rfl) (by first | rfl | decide +kernel)
theorem tw_499 : Cond.methodLink RX4 214 yX4_wrongNumbers ∈ tb_w := tb_in (List.mem_of_getElem? (i := 499) (by decide +kernel)) (by first | rfl | decide +kernel)
theorem tw_500 : Cond.static yX4_wrongNumbers ∈ tb_w := tb_in (List.mem_of_getElem? (i := 500) (by decide +kernel)) (by first | rfl | decide +kernel)
theorem sX4_214 : mx_S RX4 mX4_wrongNumbers 214 1 := ⟨tw_499, tw_500, tw_48, tw_501, ⟨by decide +kernel, by decide +kernel, by decide +kernel⟩, by decide⟩
set_option maxRecDepth 20000 in
theorem tw_505 : Cond.code yX4_grindsSo cX4_grindsSo 5 (some .boolean) ∈ tb_w := tb_in (List.mem_of_getElem? (i := 505) rfl) (by first | rfl | decide +kernel)
theorem tw_502 : Cond.methodLink RX4 217 yX4_grindsSo ∈ tb_w := tb_in (List.mem_of_getElem? (i := 502) (by decide +kernel)) (by first | rfl | decide +kernel)
theorem tw_504 : Cond.instanceMethod yX4_grindsSo ∈ tb_w := tb_in (List.mem_of_getElem? (i := 504) (by decide +kernel)) (by first | rfl | decide +kernel)
theorem tw_15 : Cond.selects RX4 yX4_grindsSo yX4_grindsSo ∈ tb_w := tb_in (List.mem_of_getElem? (i := 15) (by decide +kernel)) (by first | rfl | decide +kernel)
theorem vX4_217 : mx_V RX4 mX4_grindsSo 217 4 3 := ⟨tw_502, tw_504, tw_15, tw_48, tw_505, ⟨by decide +kernel, by decide +kernel, by decide +kernel⟩, by decide, by decide, _, rfl, rfl⟩
set_option maxRecDepth 20000 in
theorem tw_509 : Cond.code yX4_flows cX4_flows 6 (some .int) ∈ tb_w := tb_in (List.mem_of_getElem? (i := 509) rfl) (by first | rfl | decide +kernel)
theorem tw_506 : Cond.methodLink RL 130 yX4_flows ∈ tb_w := tb_in (List.mem_of_getElem? (i := 506) (by decide +kernel)) (by first | rfl | decide +kernel)
theorem tw_507 : Cond.instanceMethod yX4_flows ∈ tb_w := tb_in (List.mem_of_getElem? (i := 507) (by decide +kernel)) (by first | rfl | decide +kernel)
theorem tw_508 : Cond.selects RX4 yX4_flows yX4_flows ∈ tb_w := tb_in (List.mem_of_getElem? (i := 508) (by decide +kernel)) (by first | rfl | decide +kernel)
theorem vL_130 : mx_V RL mX4_flows 130 4 2 := ⟨tw_506, tw_507, tw_508, tw_48, tw_509, ⟨by decide +kernel, by decide +kernel, by decide +kernel⟩, by decide, by decide, _, rfl, rfl⟩
set_option maxRecDepth 20000 in
theorem tw_513 : Cond.code yX4_kinds cX4_kinds 6 (some .int) ∈ tb_w := tb_in (List.mem_of_getElem? (i := 513) rfl) (by first | rfl | decide +kernel)
theorem tw_510 : Cond.methodLink RL 134 yX4_kinds ∈ tb_w := tb_in (List.mem_of_getElem? (i := 510) (by decide +kernel)) (by first | rfl | decide +kernel)
theorem tw_511 : Cond.instanceMethod yX4_kinds ∈ tb_w := tb_in (List.mem_of_getElem? (i := 511) (by decide +kernel)) (by first | rfl | decide +kernel)
theorem tw_512 : Cond.selects RX4 yX4_kinds yX4_kinds ∈ tb_w := tb_in (List.mem_of_getElem? (i := 512) (by decide +kernel)) (by first | rfl | decide +kernel)
theorem vL_134 : mx_V RL mX4_kinds 134 4 2 := ⟨tw_510, tw_511, tw_512, tw_48, tw_513, ⟨by decide +kernel, by decide +kernel, by decide +kernel⟩, by decide, by decide, _, rfl, rfl⟩
set_option maxRecDepth 20000 in
theorem tw_517 : Cond.code yX4_look cX4_look 6 (some .int) ∈ tb_w := tb_in (List.mem_of_getElem? (i := 517) rfl) (by first | rfl | decide +kernel)
theorem tw_514 : Cond.methodLink RL 138 yX4_look ∈ tb_w := tb_in (List.mem_of_getElem? (i := 514) (by decide +kernel)) (by first | rfl | decide +kernel)
theorem tw_515 : Cond.instanceMethod yX4_look ∈ tb_w := tb_in (List.mem_of_getElem? (i := 515) (by decide +kernel)) (by first | rfl | decide +kernel)
theorem tw_516 : Cond.selects RX4 yX4_look yX4_look ∈ tb_w := tb_in (List.mem_of_getElem? (i := 516) (by decide +kernel)) (by first | rfl | decide +kernel)
theorem vL_138 : mx_V RL mX4_look 138 4 1 := ⟨tw_514, tw_515, tw_516, tw_48, tw_517, ⟨by decide +kernel, by decide +kernel, by decide +kernel⟩, by decide, by decide, _, rfl, rfl⟩
set_option maxRecDepth 20000 in
theorem tw_521 : Cond.code yX4_greatestPart cX4_greatestPart 5 (some .int) ∈ tb_w := tb_in (List.mem_of_getElem? (i := 521) rfl) (by first | rfl | decide +kernel)
theorem tw_518 : Cond.methodLink RX4 224 yX4_greatestPart ∈ tb_w := tb_in (List.mem_of_getElem? (i := 518) (by decide +kernel)) (by first | rfl | decide +kernel)
theorem tw_520 : Cond.instanceMethod yX4_greatestPart ∈ tb_w := tb_in (List.mem_of_getElem? (i := 520) (by decide +kernel)) (by first | rfl | decide +kernel)
theorem tw_16 : Cond.selects RX4 yX4_greatestPart yX4_greatestPart ∈ tb_w := tb_in (List.mem_of_getElem? (i := 16) (by decide +kernel)) (by first | rfl | decide +kernel)
theorem vX4_224 : mx_V RX4 mX4_greatestPart 224 4 2 := ⟨tw_518, tw_520, tw_16, tw_48, tw_521, ⟨by decide +kernel, by decide +kernel, by decide +kernel⟩, by decide, by decide, _, rfl, rfl⟩
set_option maxRecDepth 20000 in
theorem tw_525 : Cond.code yX4_kindsGrinding cX4_kindsGrinding 6 (some .int) ∈ tb_w := tb_in (List.mem_of_getElem? (i := 525) rfl) (by first | rfl | decide +kernel)
theorem tw_522 : Cond.methodLink RX4 331 yX4_kindsGrinding ∈ tb_w := tb_in (List.mem_of_getElem? (i := 522) (by decide +kernel)) (by first | rfl | decide +kernel)
theorem tw_524 : Cond.instanceMethod yX4_kindsGrinding ∈ tb_w := tb_in (List.mem_of_getElem? (i := 524) (by decide +kernel)) (by first | rfl | decide +kernel)
theorem tw_17 : Cond.selects RX4 yX4_kindsGrinding yX4_kindsGrinding ∈ tb_w := tb_in (List.mem_of_getElem? (i := 17) (by decide +kernel)) (by first | rfl | decide +kernel)
theorem vX4_331 : mx_V RX4 mX4_kindsGrinding 331 4 3 := ⟨tw_522, tw_524, tw_17, tw_48, tw_525, ⟨by decide +kernel, by decide +kernel, by decide +kernel⟩, by decide, by decide, _, rfl, rfl⟩
set_option maxRecDepth 20000 in
theorem tw_529 : Cond.code yX4_duel cX4_duel 2 (some .int) ∈ tb_w := tb_in (List.mem_of_getElem? (i := 529) rfl) (by first | rfl | decide +kernel)
theorem tw_526 : Cond.methodLink RL 142 yX4_duel ∈ tb_w := tb_in (List.mem_of_getElem? (i := 526) (by decide +kernel)) (by first | rfl | decide +kernel)
theorem tw_527 : Cond.instanceMethod yX4_duel ∈ tb_w := tb_in (List.mem_of_getElem? (i := 527) (by decide +kernel)) (by first | rfl | decide +kernel)
theorem tw_528 : Cond.selects RX4 yX4_duel yX4_duel ∈ tb_w := tb_in (List.mem_of_getElem? (i := 528) (by decide +kernel)) (by first | rfl | decide +kernel)
theorem vL_142 : mx_V RL mX4_duel 142 4 1 := ⟨tw_526, tw_527, tw_528, tw_48, tw_529, ⟨by decide +kernel, by decide +kernel, by decide +kernel⟩, by decide, by decide, _, rfl, rfl⟩
set_option maxRecDepth 20000 in
theorem tw_533 : Cond.code yX4_millersTurn cX4_millersTurn 7 (some .int) ∈ tb_w := tb_in (List.mem_of_getElem? (i := 533) rfl) (by first | rfl | decide +kernel)
theorem tw_530 : Cond.methodLink RX4 227 yX4_millersTurn ∈ tb_w := tb_in (List.mem_of_getElem? (i := 530) (by decide +kernel)) (by first | rfl | decide +kernel)
theorem tw_532 : Cond.instanceMethod yX4_millersTurn ∈ tb_w := tb_in (List.mem_of_getElem? (i := 532) (by decide +kernel)) (by first | rfl | decide +kernel)
theorem tw_18 : Cond.selects RX4 yX4_millersTurn yX4_millersTurn ∈ tb_w := tb_in (List.mem_of_getElem? (i := 18) (by decide +kernel)) (by first | rfl | decide +kernel)
theorem vX4_227 : mx_V RX4 mX4_millersTurn 227 4 3 := ⟨tw_530, tw_532, tw_18, tw_48, tw_533, ⟨by decide +kernel, by decide +kernel, by decide +kernel⟩, by decide, by decide, _, rfl, rfl⟩
set_option maxRecDepth 20000 in
theorem tw_537 : Cond.code yX4_groundAfterDuel cX4_groundAfterDuel 4 (some .int) ∈ tb_w := tb_in (List.mem_of_getElem? (i := 537) rfl) (by first | rfl | decide +kernel)
theorem tw_534 : Cond.methodLink RX4 334 yX4_groundAfterDuel ∈ tb_w := tb_in (List.mem_of_getElem? (i := 534) (by decide +kernel)) (by first | rfl | decide +kernel)
theorem tw_536 : Cond.instanceMethod yX4_groundAfterDuel ∈ tb_w := tb_in (List.mem_of_getElem? (i := 536) (by decide +kernel)) (by first | rfl | decide +kernel)
theorem tw_19 : Cond.selects RX4 yX4_groundAfterDuel yX4_groundAfterDuel ∈ tb_w := tb_in (List.mem_of_getElem? (i := 19) (by decide +kernel)) (by first | rfl | decide +kernel)
theorem vX4_334 : mx_V RX4 mX4_groundAfterDuel 334 4 2 := ⟨tw_534, tw_536, tw_19, tw_48, tw_537, ⟨by decide +kernel, by decide +kernel, by decide +kernel⟩, by decide, by decide, _, rfl, rfl⟩
set_option maxRecDepth 20000 in
theorem tw_541 : Cond.code yX4_throwersTurn cX4_throwersTurn 6 (some .int) ∈ tb_w := tb_in (List.mem_of_getElem? (i := 541) rfl) (by first | rfl | decide +kernel)
theorem tw_538 : Cond.methodLink RX4 337 yX4_throwersTurn ∈ tb_w := tb_in (List.mem_of_getElem? (i := 538) (by decide +kernel)) (by first | rfl | decide +kernel)
theorem tw_540 : Cond.instanceMethod yX4_throwersTurn ∈ tb_w := tb_in (List.mem_of_getElem? (i := 540) (by decide +kernel)) (by first | rfl | decide +kernel)
theorem tw_20 : Cond.selects RX4 yX4_throwersTurn yX4_throwersTurn ∈ tb_w := tb_in (List.mem_of_getElem? (i := 20) (by decide +kernel)) (by first | rfl | decide +kernel)
theorem vX4_337 : mx_V RX4 mX4_throwersTurn 337 4 3 := ⟨tw_538, tw_540, tw_20, tw_48, tw_541, ⟨by decide +kernel, by decide +kernel, by decide +kernel⟩, by decide, by decide, _, rfl, rfl⟩
theorem tw_542 : Cond.methodLink RX4 340 Lib.Math.min.name ∈ tb_w := tb_in (List.mem_of_getElem? (i := 542) (by decide +kernel)) (by first | rfl | decide +kernel)
set_option maxRecDepth 20000 in
theorem tw_546 : Cond.code yX4_odds cX4_odds 6 (some .int) ∈ tb_w := tb_in (List.mem_of_getElem? (i := 546) rfl) (by first | rfl | decide +kernel)
theorem tw_543 : Cond.methodLink RL 146 yX4_odds ∈ tb_w := tb_in (List.mem_of_getElem? (i := 543) (by decide +kernel)) (by first | rfl | decide +kernel)
theorem tw_544 : Cond.instanceMethod yX4_odds ∈ tb_w := tb_in (List.mem_of_getElem? (i := 544) (by decide +kernel)) (by first | rfl | decide +kernel)
theorem tw_545 : Cond.selects RX4 yX4_odds yX4_odds ∈ tb_w := tb_in (List.mem_of_getElem? (i := 545) (by decide +kernel)) (by first | rfl | decide +kernel)
theorem vL_146 : mx_V RL mX4_odds 146 4 2 := ⟨tw_543, tw_544, tw_545, tw_48, tw_546, ⟨by decide +kernel, by decide +kernel, by decide +kernel⟩, by decide, by decide, _, rfl, rfl⟩
set_option maxRecDepth 20000 in
theorem tw_550 : Cond.code yX4_groundWithDry cX4_groundWithDry 3 (some .int) ∈ tb_w := tb_in (List.mem_of_getElem? (i := 550) rfl) (by first | rfl | decide +kernel)
theorem tw_547 : Cond.methodLink RX4 230 yX4_groundWithDry ∈ tb_w := tb_in (List.mem_of_getElem? (i := 547) (by decide +kernel)) (by first | rfl | decide +kernel)
theorem tw_549 : Cond.instanceMethod yX4_groundWithDry ∈ tb_w := tb_in (List.mem_of_getElem? (i := 549) (by decide +kernel)) (by first | rfl | decide +kernel)
theorem tw_21 : Cond.selects RX4 yX4_groundWithDry yX4_groundWithDry ∈ tb_w := tb_in (List.mem_of_getElem? (i := 21) (by decide +kernel)) (by first | rfl | decide +kernel)
theorem vX4_230 : mx_V RX4 mX4_groundWithDry 230 4 1 := ⟨tw_547, tw_549, tw_21, tw_48, tw_550, ⟨by decide +kernel, by decide +kernel, by decide +kernel⟩, by decide, by decide, _, rfl, rfl⟩
theorem tw_551 : Cond.methodLink RX4 316 yX3_turn ∈ tb_w := tb_in (List.mem_of_getElem? (i := 551) (by decide +kernel)) (by first | rfl | decide +kernel)
theorem vX4_316 : mx_V RX4 mX3_turn 316 3 0 := ⟨tw_551, tw_332, tw_333, tw_50, tw_334, ⟨by decide +kernel, by decide +kernel, by decide +kernel⟩, by decide, by decide, _, rfl, rfl⟩
theorem tw_552 : Cond.methodLink RX4 319 yX3_pass ∈ tb_w := tb_in (List.mem_of_getElem? (i := 552) (by decide +kernel)) (by first | rfl | decide +kernel)
theorem vX4_319 : mx_V RX4 mX3_pass 319 3 1 := ⟨tw_552, tw_336, tw_337, tw_50, tw_338, ⟨by decide +kernel, by decide +kernel, by decide +kernel⟩, by decide, by decide, _, rfl, rfl⟩
set_option maxRecDepth 20000 in
theorem tw_555 : Cond.code yX4_weightOf cX4_weightOf 3 (some .long) ∈ tb_w := tb_in (List.mem_of_getElem? (i := 555) rfl) (by first | rfl | decide +kernel)
theorem tw_553 : Cond.methodLink RX4 233 yX4_weightOf ∈ tb_w := tb_in (List.mem_of_getElem? (i := 553) (by decide +kernel)) (by first | rfl | decide +kernel)
theorem tw_554 : Cond.static yX4_weightOf ∈ tb_w := tb_in (List.mem_of_getElem? (i := 554) (by decide +kernel)) (by first | rfl | decide +kernel)
theorem sX4_233 : mx_S RX4 mX4_weightOf 233 2 := ⟨tw_553, tw_554, tw_48, tw_555, ⟨by decide +kernel, by decide +kernel, by decide +kernel⟩, by decide⟩
set_option maxRecDepth 20000 in
theorem tw_558 : Cond.code yX4_power cX4_power 5 (some .long) ∈ tb_w := tb_in (List.mem_of_getElem? (i := 558) rfl) (by first | rfl | decide +kernel)
theorem tw_556 : Cond.methodLink RX4 237 yX4_power ∈ tb_w := tb_in (List.mem_of_getElem? (i := 556) (by decide +kernel)) (by first | rfl | decide +kernel)
theorem tw_557 : Cond.static yX4_power ∈ tb_w := tb_in (List.mem_of_getElem? (i := 557) (by decide +kernel)) (by first | rfl | decide +kernel)
theorem sX4_237 : mx_S RX4 mX4_power 237 2 := ⟨tw_556, tw_557, tw_48, tw_558, ⟨by decide +kernel, by decide +kernel, by decide +kernel⟩, by decide⟩
set_option maxRecDepth 20000 in
theorem tw_562 : Cond.code yX4_tell cX4_tell 7 none ∈ tb_w := tb_in (List.mem_of_getElem? (i := 562) rfl) (by first | rfl | decide +kernel)
theorem tw_559 : Cond.methodLink RX4 240 yX4_tell ∈ tb_w := tb_in (List.mem_of_getElem? (i := 559) (by decide +kernel)) (by first | rfl | decide +kernel)
theorem tw_561 : Cond.instanceMethod yX4_tell ∈ tb_w := tb_in (List.mem_of_getElem? (i := 561) (by decide +kernel)) (by first | rfl | decide +kernel)
theorem tw_22 : Cond.selects RX4 yX4_tell yX4_tell ∈ tb_w := tb_in (List.mem_of_getElem? (i := 22) (by decide +kernel)) (by first | rfl | decide +kernel)
theorem vX4_240 : mx_V RX4 mX4_tell 240 4 2 := ⟨tw_559, tw_561, tw_22, tw_48, tw_562, ⟨by decide +kernel, by decide +kernel, by decide +kernel⟩, by decide, by decide, _, rfl, rfl⟩
set_option maxRecDepth 20000 in
theorem tw_565 : Cond.code yX4_commonDivisor cX4_commonDivisor 11 (some .long) ∈ tb_w := tb_in (List.mem_of_getElem? (i := 565) rfl) (by first | rfl | decide +kernel)
theorem tw_563 : Cond.methodLink RX4 343 yX4_commonDivisor ∈ tb_w := tb_in (List.mem_of_getElem? (i := 563) (by decide +kernel)) (by first | rfl | decide +kernel)
theorem tw_564 : Cond.static yX4_commonDivisor ∈ tb_w := tb_in (List.mem_of_getElem? (i := 564) (by decide +kernel)) (by first | rfl | decide +kernel)
theorem sX4_343 : mx_S RX4 mX4_commonDivisor 343 2 := ⟨tw_563, tw_564, tw_48, tw_565, ⟨by decide +kernel, by decide +kernel, by decide +kernel⟩, by decide⟩
set_option maxRecDepth 20000 in
theorem tw_569 : Cond.code yX4_mid cX4_mid 5 (some .int) ∈ tb_w := tb_in (List.mem_of_getElem? (i := 569) rfl) (by first | rfl | decide +kernel)
theorem tw_566 : Cond.methodLink RL 150 yX4_mid ∈ tb_w := tb_in (List.mem_of_getElem? (i := 566) (by decide +kernel)) (by first | rfl | decide +kernel)
theorem tw_567 : Cond.instanceMethod yX4_mid ∈ tb_w := tb_in (List.mem_of_getElem? (i := 567) (by decide +kernel)) (by first | rfl | decide +kernel)
theorem tw_568 : Cond.selects RX4 yX4_mid yX4_mid ∈ tb_w := tb_in (List.mem_of_getElem? (i := 568) (by decide +kernel)) (by first | rfl | decide +kernel)
theorem vL_150 : mx_V RL mX4_mid 150 4 1 := ⟨tw_566, tw_567, tw_568, tw_48, tw_569, ⟨by decide +kernel, by decide +kernel, by decide +kernel⟩, by decide, by decide, _, rfl, rfl⟩
set_option maxRecDepth 20000 in
theorem tw_573 : Cond.code yX4_lots cX4_lots 5 (some .int) ∈ tb_w := tb_in (List.mem_of_getElem? (i := 573) rfl) (by first | rfl | decide +kernel)
theorem tw_570 : Cond.methodLink RL 154 yX4_lots ∈ tb_w := tb_in (List.mem_of_getElem? (i := 570) (by decide +kernel)) (by first | rfl | decide +kernel)
theorem tw_571 : Cond.instanceMethod yX4_lots ∈ tb_w := tb_in (List.mem_of_getElem? (i := 571) (by decide +kernel)) (by first | rfl | decide +kernel)
theorem tw_572 : Cond.selects RX4 yX4_lots yX4_lots ∈ tb_w := tb_in (List.mem_of_getElem? (i := 572) (by decide +kernel)) (by first | rfl | decide +kernel)
theorem vL_154 : mx_V RL mX4_lots 154 4 2 := ⟨tw_570, tw_571, tw_572, tw_48, tw_573, ⟨by decide +kernel, by decide +kernel, by decide +kernel⟩, by decide, by decide, _, rfl, rfl⟩
theorem tw_574 : Cond.constant RX4 244 (2147483646) ∈ tb_w := tb_in (List.mem_of_getElem? (i := 574) (by decide +kernel)) (by first | rfl | decide +kernel)
theorem tw_575 : Cond.constantLong RX4 245 (48271) ∈ tb_w := tb_in (List.mem_of_getElem? (i := 575) (by decide +kernel)) (by first | rfl | decide +kernel)
theorem tw_576 : Cond.constantLong RX4 247 (2147483647) ∈ tb_w := tb_in (List.mem_of_getElem? (i := 576) (by decide +kernel)) (by first | rfl | decide +kernel)
set_option maxRecDepth 20000 in
theorem tw_580 : Cond.code yX4_doByLot cX4_doByLot 2 none ∈ tb_w := tb_in (List.mem_of_getElem? (i := 580) rfl) (by first | rfl | decide +kernel)
theorem tw_577 : Cond.methodLink RX4 249 yX4_doByLot ∈ tb_w := tb_in (List.mem_of_getElem? (i := 577) (by decide +kernel)) (by first | rfl | decide +kernel)
theorem tw_579 : Cond.instanceMethod yX4_doByLot ∈ tb_w := tb_in (List.mem_of_getElem? (i := 579) (by decide +kernel)) (by first | rfl | decide +kernel)
theorem tw_23 : Cond.selects RX4 yX4_doByLot yX4_doByLot ∈ tb_w := tb_in (List.mem_of_getElem? (i := 23) (by decide +kernel)) (by first | rfl | decide +kernel)
theorem vX4_249 : mx_V RX4 mX4_doByLot 249 4 1 := ⟨tw_577, tw_579, tw_23, tw_48, tw_580, ⟨by decide +kernel, by decide +kernel, by decide +kernel⟩, by decide, by decide, _, rfl, rfl⟩
set_option maxRecDepth 20000 in
theorem tw_584 : Cond.code yX4_asked cX4_asked 1 (some .int) ∈ tb_w := tb_in (List.mem_of_getElem? (i := 584) rfl) (by first | rfl | decide +kernel)
theorem tw_581 : Cond.methodLink RL 158 yX4_asked ∈ tb_w := tb_in (List.mem_of_getElem? (i := 581) (by decide +kernel)) (by first | rfl | decide +kernel)
theorem tw_582 : Cond.instanceMethod yX4_asked ∈ tb_w := tb_in (List.mem_of_getElem? (i := 582) (by decide +kernel)) (by first | rfl | decide +kernel)
theorem tw_583 : Cond.selects RX4 yX4_asked yX4_asked ∈ tb_w := tb_in (List.mem_of_getElem? (i := 583) (by decide +kernel)) (by first | rfl | decide +kernel)
theorem vL_158 : mx_V RL mX4_asked 158 4 0 := ⟨tw_581, tw_582, tw_583, tw_48, tw_584, ⟨by decide +kernel, by decide +kernel, by decide +kernel⟩, by decide, by decide, _, rfl, rfl⟩
set_option maxRecDepth 20000 in
theorem tw_588 : Cond.code yX4_upper cX4_upper 1 (some .long) ∈ tb_w := tb_in (List.mem_of_getElem? (i := 588) rfl) (by first | rfl | decide +kernel)
theorem tw_585 : Cond.methodLink RL 162 yX4_upper ∈ tb_w := tb_in (List.mem_of_getElem? (i := 585) (by decide +kernel)) (by first | rfl | decide +kernel)
theorem tw_586 : Cond.instanceMethod yX4_upper ∈ tb_w := tb_in (List.mem_of_getElem? (i := 586) (by decide +kernel)) (by first | rfl | decide +kernel)
theorem tw_587 : Cond.selects RX4 yX4_upper yX4_upper ∈ tb_w := tb_in (List.mem_of_getElem? (i := 587) (by decide +kernel)) (by first | rfl | decide +kernel)
theorem vL_162 : mx_V RL mX4_upper 162 4 0 := ⟨tw_585, tw_586, tw_587, tw_48, tw_588, ⟨by decide +kernel, by decide +kernel, by decide +kernel⟩, by decide, by decide, _, rfl, rfl⟩
set_option maxRecDepth 20000 in
theorem tw_592 : Cond.code yX4_lower cX4_lower 1 (some .long) ∈ tb_w := tb_in (List.mem_of_getElem? (i := 592) rfl) (by first | rfl | decide +kernel)
theorem tw_589 : Cond.methodLink RL 167 yX4_lower ∈ tb_w := tb_in (List.mem_of_getElem? (i := 589) (by decide +kernel)) (by first | rfl | decide +kernel)
theorem tw_590 : Cond.instanceMethod yX4_lower ∈ tb_w := tb_in (List.mem_of_getElem? (i := 590) (by decide +kernel)) (by first | rfl | decide +kernel)
theorem tw_591 : Cond.selects RX4 yX4_lower yX4_lower ∈ tb_w := tb_in (List.mem_of_getElem? (i := 591) (by decide +kernel)) (by first | rfl | decide +kernel)
theorem vL_167 : mx_V RL mX4_lower 167 4 0 := ⟨tw_589, tw_590, tw_591, tw_48, tw_592, ⟨by decide +kernel, by decide +kernel, by decide +kernel⟩, by decide, by decide, _, rfl, rfl⟩
set_option maxRecDepth 20000 in
theorem tw_596 : Cond.code yX4_count cX4_count 2 (some .int) ∈ tb_w := tb_in (List.mem_of_getElem? (i := 596) rfl) (by first | rfl | decide +kernel)
theorem tw_593 : Cond.methodLink RL 171 yX4_count ∈ tb_w := tb_in (List.mem_of_getElem? (i := 593) (by decide +kernel)) (by first | rfl | decide +kernel)
theorem tw_594 : Cond.instanceMethod yX4_count ∈ tb_w := tb_in (List.mem_of_getElem? (i := 594) (by decide +kernel)) (by first | rfl | decide +kernel)
theorem tw_595 : Cond.selects RX4 yX4_count yX4_count ∈ tb_w := tb_in (List.mem_of_getElem? (i := 595) (by decide +kernel)) (by first | rfl | decide +kernel)
theorem vL_171 : mx_V RL mX4_count 171 4 1 := ⟨tw_593, tw_594, tw_595, tw_48, tw_596, ⟨by decide +kernel, by decide +kernel, by decide +kernel⟩, by decide, by decide, _, rfl, rfl⟩
set_option maxRecDepth 20000 in
theorem tw_599 : Cond.code yX4_stripsThere cX4_stripsThere 3 (some .int) ∈ tb_w := tb_in (List.mem_of_getElem? (i := 599) rfl) (by first | rfl | decide +kernel)
theorem tw_597 : Cond.methodLink RX4 259 yX4_stripsThere ∈ tb_w := tb_in (List.mem_of_getElem? (i := 597) (by decide +kernel)) (by first | rfl | decide +kernel)
theorem tw_598 : Cond.static yX4_stripsThere ∈ tb_w := tb_in (List.mem_of_getElem? (i := 598) (by decide +kernel)) (by first | rfl | decide +kernel)
theorem sX4_259 : mx_S RX4 mX4_stripsThere 259 1 := ⟨tw_597, tw_598, tw_48, tw_599, ⟨by decide +kernel, by decide +kernel, by decide +kernel⟩, by decide⟩
set_option maxRecDepth 20000 in
theorem tw_603 : Cond.code yX4_keptThere cX4_keptThere 3 (some .int) ∈ tb_w := tb_in (List.mem_of_getElem? (i := 603) rfl) (by first | rfl | decide +kernel)
theorem tw_600 : Cond.methodLink RX4 263 yX4_keptThere ∈ tb_w := tb_in (List.mem_of_getElem? (i := 600) (by decide +kernel)) (by first | rfl | decide +kernel)
theorem tw_602 : Cond.instanceMethod yX4_keptThere ∈ tb_w := tb_in (List.mem_of_getElem? (i := 602) (by decide +kernel)) (by first | rfl | decide +kernel)
theorem tw_24 : Cond.selects RX4 yX4_keptThere yX4_keptThere ∈ tb_w := tb_in (List.mem_of_getElem? (i := 24) (by decide +kernel)) (by first | rfl | decide +kernel)
theorem vX4_263 : mx_V RX4 mX4_keptThere 263 4 0 := ⟨tw_600, tw_602, tw_24, tw_48, tw_603, ⟨by decide +kernel, by decide +kernel, by decide +kernel⟩, by decide, by decide, _, rfl, rfl⟩
set_option maxRecDepth 20000 in
theorem tw_607 : Cond.code yX0_howManyOf cX0_howManyOf 4 (some .int) ∈ tb_w := tb_in (List.mem_of_getElem? (i := 607) rfl) (by first | rfl | decide +kernel)
theorem tw_604 : Cond.methodLink RX4 267 yX0_howManyOf ∈ tb_w := tb_in (List.mem_of_getElem? (i := 604) (by decide +kernel)) (by first | rfl | decide +kernel)
theorem tw_605 : Cond.instanceMethod yX0_howManyOf ∈ tb_w := tb_in (List.mem_of_getElem? (i := 605) (by decide +kernel)) (by first | rfl | decide +kernel)
theorem tw_606 : Cond.selects RX0 yX0_howManyOf yX0_howManyOf ∈ tb_w := tb_in (List.mem_of_getElem? (i := 606) (by decide +kernel)) (by first | rfl | decide +kernel)
theorem vX4_267 : mx_V RX4 mX0_howManyOf 267 0 1 := ⟨tw_604, tw_605, tw_606, tw_49, tw_607, ⟨by decide +kernel, by decide +kernel, by decide +kernel⟩, by decide, by decide, _, rfl, rfl⟩
theorem nX0_50 : mx_N RX0 mX4_isOfKind 50 2 := ⟨⟨RX4, by decide +kernel⟩, tw_362, tw_48, tw_363, ⟨by decide +kernel, by decide +kernel, by decide +kernel⟩, by decide⟩
set_option maxRecDepth 20000 in
theorem tw_612 : Cond.code yX4_finding cX4_finding 1 (some .int) ∈ tb_w := tb_in (List.mem_of_getElem? (i := 612) rfl) (by first | rfl | decide +kernel)
theorem tw_609 : Cond.methodLink RL 175 yX4_finding ∈ tb_w := tb_in (List.mem_of_getElem? (i := 609) (by decide +kernel)) (by first | rfl | decide +kernel)
theorem tw_610 : Cond.instanceMethod yX4_finding ∈ tb_w := tb_in (List.mem_of_getElem? (i := 610) (by decide +kernel)) (by first | rfl | decide +kernel)
theorem tw_611 : Cond.selects RX4 yX4_finding yX4_finding ∈ tb_w := tb_in (List.mem_of_getElem? (i := 611) (by decide +kernel)) (by first | rfl | decide +kernel)
theorem vL_175 : mx_V RL mX4_finding 175 4 0 := ⟨tw_609, tw_610, tw_611, tw_48, tw_612, ⟨by decide +kernel, by decide +kernel, by decide +kernel⟩, by decide, by decide, _, rfl, rfl⟩
set_option maxRecDepth 20000 in
theorem tw_616 : Cond.code yX4_findings cX4_findings 2 (some .int) ∈ tb_w := tb_in (List.mem_of_getElem? (i := 616) rfl) (by first | rfl | decide +kernel)
theorem tw_613 : Cond.methodLink RL 179 yX4_findings ∈ tb_w := tb_in (List.mem_of_getElem? (i := 613) (by decide +kernel)) (by first | rfl | decide +kernel)
theorem tw_614 : Cond.instanceMethod yX4_findings ∈ tb_w := tb_in (List.mem_of_getElem? (i := 614) (by decide +kernel)) (by first | rfl | decide +kernel)
theorem tw_615 : Cond.selects RX4 yX4_findings yX4_findings ∈ tb_w := tb_in (List.mem_of_getElem? (i := 615) (by decide +kernel)) (by first | rfl | decide +kernel)
theorem vL_179 : mx_V RL mX4_findings 179 4 1 := ⟨tw_613, tw_614, tw_615, tw_48, tw_616, ⟨by decide +kernel, by decide +kernel, by decide +kernel⟩, by decide, by decide, _, rfl, rfl⟩
set_option maxRecDepth 20000 in
theorem tw_620 : Cond.code yX4_digest cX4_digest 5 (some .long) ∈ tb_w := tb_in (List.mem_of_getElem? (i := 620) rfl) (by first | rfl | decide +kernel)
theorem tw_617 : Cond.methodLink RL 183 yX4_digest ∈ tb_w := tb_in (List.mem_of_getElem? (i := 617) (by decide +kernel)) (by first | rfl | decide +kernel)
theorem tw_618 : Cond.instanceMethod yX4_digest ∈ tb_w := tb_in (List.mem_of_getElem? (i := 618) (by decide +kernel)) (by first | rfl | decide +kernel)
theorem tw_619 : Cond.selects RX4 yX4_digest yX4_digest ∈ tb_w := tb_in (List.mem_of_getElem? (i := 619) (by decide +kernel)) (by first | rfl | decide +kernel)
theorem vL_183 : mx_V RL mX4_digest 183 4 0 := ⟨tw_617, tw_618, tw_619, tw_48, tw_620, ⟨by decide +kernel, by decide +kernel, by decide +kernel⟩, by decide, by decide, _, rfl, rfl⟩
theorem tw_621 : Cond.constantLong RX4 270 (17) ∈ tb_w := tb_in (List.mem_of_getElem? (i := 621) (by decide +kernel)) (by first | rfl | decide +kernel)
theorem tw_622 : Cond.constantLong RX4 272 (31) ∈ tb_w := tb_in (List.mem_of_getElem? (i := 622) (by decide +kernel)) (by first | rfl | decide +kernel)
theorem tw_623 : Cond.methodLink RX4 274 yX4_count ∈ tb_w := tb_in (List.mem_of_getElem? (i := 623) (by decide +kernel)) (by first | rfl | decide +kernel)
theorem vX4_274 : mx_V RX4 mX4_count 274 4 1 := ⟨tw_623, tw_594, tw_595, tw_48, tw_596, ⟨by decide +kernel, by decide +kernel, by decide +kernel⟩, by decide, by decide, _, rfl, rfl⟩
set_option maxRecDepth 20000 in
theorem tw_627 : Cond.code yX2_mixedInto cX2_mixedInto 6 (some .long) ∈ tb_w := tb_in (List.mem_of_getElem? (i := 627) rfl) (by first | rfl | decide +kernel)
theorem tw_624 : Cond.methodLink RX4 276 yX2_mixedInto ∈ tb_w := tb_in (List.mem_of_getElem? (i := 624) (by decide +kernel)) (by first | rfl | decide +kernel)
theorem tw_625 : Cond.instanceMethod yX2_mixedInto ∈ tb_w := tb_in (List.mem_of_getElem? (i := 625) (by decide +kernel)) (by first | rfl | decide +kernel)
theorem tw_626 : Cond.selects RX2 yX2_mixedInto yX2_mixedInto ∈ tb_w := tb_in (List.mem_of_getElem? (i := 626) (by decide +kernel)) (by first | rfl | decide +kernel)
theorem vX4_276 : mx_V RX4 mX2_mixedInto 276 2 1 := ⟨tw_624, tw_625, tw_626, tw_52, tw_627, ⟨by decide +kernel, by decide +kernel, by decide +kernel⟩, by decide, by decide, _, rfl, rfl⟩
theorem tw_628 : Cond.constantLong RX2 19 (31) ∈ tb_w := tb_in (List.mem_of_getElem? (i := 628) (by decide +kernel)) (by first | rfl | decide +kernel)
theorem tw_635 : Cond.fieldLink RX5 7 (TX5 0).1 (TX5 0).2.1 (TX5 0).2.2.1 ∈ tb_w := tb_in (List.mem_of_getElem? (i := 635) (by decide +kernel)) (by first | rfl | decide +kernel)
theorem fX5_7 : mx_F RX5 7 5 0 := ⟨RX5, TX5, 22, rfl, wsX5_tb, by decide, tw_635, by decide⟩
theorem tw_636 : Cond.fieldLink RX5 13 (TX5 1).1 (TX5 1).2.1 (TX5 1).2.2.1 ∈ tb_w := tb_in (List.mem_of_getElem? (i := 636) (by decide +kernel)) (by first | rfl | decide +kernel)
theorem fX5_13 : mx_F RX5 13 5 1 := ⟨RX5, TX5, 22, rfl, wsX5_tb, by decide, tw_636, by decide⟩
theorem tw_637 : Cond.fieldLink RX5 16 (TX5 2).1 (TX5 2).2.1 (TX5 2).2.2.1 ∈ tb_w := tb_in (List.mem_of_getElem? (i := 637) (by decide +kernel)) (by first | rfl | decide +kernel)
theorem fX5_16 : mx_F RX5 16 5 2 := ⟨RX5, TX5, 22, rfl, wsX5_tb, by decide, tw_637, by decide⟩
theorem tw_638 : Cond.fieldLink RX5 19 (TX5 3).1 (TX5 3).2.1 (TX5 3).2.2.1 ∈ tb_w := tb_in (List.mem_of_getElem? (i := 638) (by decide +kernel)) (by first | rfl | decide +kernel)
theorem fX5_19 : mx_F RX5 19 5 3 := ⟨RX5, TX5, 22, rfl, wsX5_tb, by decide, tw_638, by decide⟩
theorem tw_639 : Cond.fieldLink RX5 97 (TX5 4).1 (TX5 4).2.1 (TX5 4).2.2.1 ∈ tb_w := tb_in (List.mem_of_getElem? (i := 639) (by decide +kernel)) (by first | rfl | decide +kernel)
theorem fX5_97 : mx_F RX5 97 5 4 := ⟨RX5, TX5, 22, rfl, wsX5_tb, by decide, tw_639, by decide⟩
theorem gX5_97 : mx_G RX5 97 5 4 .int := ⟨RX5, TX5, 22, tyX5, rfl, wsX5_tb, by decide, tw_639, by decide, tyX5_ok, nmX5, rfl, by decide +kernel⟩
theorem tw_640 : Cond.fieldLink RX5 23 (TX5 5).1 (TX5 5).2.1 (TX5 5).2.2.1 ∈ tb_w := tb_in (List.mem_of_getElem? (i := 640) (by decide +kernel)) (by first | rfl | decide +kernel)
theorem fX5_23 : mx_F RX5 23 5 5 := ⟨RX5, TX5, 22, rfl, wsX5_tb, by decide, tw_640, by decide⟩
theorem tw_641 : Cond.fieldLink RX5 26 (TX5 6).1 (TX5 6).2.1 (TX5 6).2.2.1 ∈ tb_w := tb_in (List.mem_of_getElem? (i := 641) (by decide +kernel)) (by first | rfl | decide +kernel)
theorem fX5_26 : mx_F RX5 26 5 6 := ⟨RX5, TX5, 22, rfl, wsX5_tb, by decide, tw_641, by decide⟩
theorem tw_642 : Cond.fieldLink RX5 29 (TX5 7).1 (TX5 7).2.1 (TX5 7).2.2.1 ∈ tb_w := tb_in (List.mem_of_getElem? (i := 642) (by decide +kernel)) (by first | rfl | decide +kernel)
theorem fX5_29 : mx_F RX5 29 5 7 := ⟨RX5, TX5, 22, rfl, wsX5_tb, by decide, tw_642, by decide⟩
theorem tw_643 : Cond.fieldLink RX5 32 (TX5 8).1 (TX5 8).2.1 (TX5 8).2.2.1 ∈ tb_w := tb_in (List.mem_of_getElem? (i := 643) (by decide +kernel)) (by first | rfl | decide +kernel)
theorem fX5_32 : mx_F RX5 32 5 8 := ⟨RX5, TX5, 22, rfl, wsX5_tb, by decide, tw_643, by decide⟩
theorem tw_644 : Cond.fieldLink RX5 35 (TX5 9).1 (TX5 9).2.1 (TX5 9).2.2.1 ∈ tb_w := tb_in (List.mem_of_getElem? (i := 644) (by decide +kernel)) (by first | rfl | decide +kernel)
theorem fX5_35 : mx_F RX5 35 5 9 := ⟨RX5, TX5, 22, rfl, wsX5_tb, by decide, tw_644, by decide⟩
theorem tw_645 : Cond.fieldLink RX5 38 (TX5 10).1 (TX5 10).2.1 (TX5 10).2.2.1 ∈ tb_w := tb_in (List.mem_of_getElem? (i := 645) (by decide +kernel)) (by first | rfl | decide +kernel)
theorem fX5_38 : mx_F RX5 38 5 10 := ⟨RX5, TX5, 22, rfl, wsX5_tb, by decide, tw_645, by decide⟩
theorem tw_646 : Cond.fieldLink RX5 80 (TX5 11).1 (TX5 11).2.1 (TX5 11).2.2.1 ∈ tb_w := tb_in (List.mem_of_getElem? (i := 646) (by decide +kernel)) (by first | rfl | decide +kernel)
theorem fX5_80 : mx_F RX5 80 5 11 := ⟨RX5, TX5, 22, rfl, wsX5_tb, by decide, tw_646, by decide⟩
theorem gX5_80 : mx_G RX5 80 5 11 .int := ⟨RX5, TX5, 22, tyX5, rfl, wsX5_tb, by decide, tw_646, by decide, tyX5_ok, nmX5, rfl, by decide +kernel⟩
theorem tw_647 : Cond.fieldLink RX5 41 (TX5 12).1 (TX5 12).2.1 (TX5 12).2.2.1 ∈ tb_w := tb_in (List.mem_of_getElem? (i := 647) (by decide +kernel)) (by first | rfl | decide +kernel)
theorem fX5_41 : mx_F RX5 41 5 12 := ⟨RX5, TX5, 22, rfl, wsX5_tb, by decide, tw_647, by decide⟩
theorem tw_648 : Cond.fieldLink RX5 100 (TX5 13).1 (TX5 13).2.1 (TX5 13).2.2.1 ∈ tb_w := tb_in (List.mem_of_getElem? (i := 648) (by decide +kernel)) (by first | rfl | decide +kernel)
theorem fX5_100 : mx_F RX5 100 5 13 := ⟨RX5, TX5, 22, rfl, wsX5_tb, by decide, tw_648, by decide⟩
theorem gX5_100 : mx_G RX5 100 5 13 .int := ⟨RX5, TX5, 22, tyX5, rfl, wsX5_tb, by decide, tw_648, by decide, tyX5_ok, nmX5, rfl, by decide +kernel⟩
theorem tw_649 : Cond.fieldLink RX5 44 (TX5 14).1 (TX5 14).2.1 (TX5 14).2.2.1 ∈ tb_w := tb_in (List.mem_of_getElem? (i := 649) (by decide +kernel)) (by first | rfl | decide +kernel)
theorem fX5_44 : mx_F RX5 44 5 14 := ⟨RX5, TX5, 22, rfl, wsX5_tb, by decide, tw_649, by decide⟩
theorem tw_650 : Cond.fieldLink RX5 75 (TX5 15).1 (TX5 15).2.1 (TX5 15).2.2.1 ∈ tb_w := tb_in (List.mem_of_getElem? (i := 650) (by decide +kernel)) (by first | rfl | decide +kernel)
theorem fX5_75 : mx_F RX5 75 5 15 := ⟨RX5, TX5, 22, rfl, wsX5_tb, by decide, tw_650, by decide⟩
theorem gX5_75 : mx_G RX5 75 5 15 .int := ⟨RX5, TX5, 22, tyX5, rfl, wsX5_tb, by decide, tw_650, by decide, tyX5_ok, nmX5, rfl, by decide +kernel⟩
theorem tw_651 : Cond.fieldLink RX5 193 (TX5 16).1 (TX5 16).2.1 (TX5 16).2.2.1 ∈ tb_w := tb_in (List.mem_of_getElem? (i := 651) (by decide +kernel)) (by first | rfl | decide +kernel)
theorem fX5_193 : mx_F RX5 193 5 16 := ⟨RX5, TX5, 22, rfl, wsX5_tb, by decide, tw_651, by decide⟩
theorem gX5_193 : mx_G RX5 193 5 16 .long := ⟨RX5, TX5, 22, tyX5, rfl, wsX5_tb, by decide, tw_651, by decide, tyX5_ok, nmX5, rfl, by decide +kernel⟩
theorem tw_652 : Cond.fieldLink RX5 47 (TX5 17).1 (TX5 17).2.1 (TX5 17).2.2.1 ∈ tb_w := tb_in (List.mem_of_getElem? (i := 652) (by decide +kernel)) (by first | rfl | decide +kernel)
theorem fX5_47 : mx_F RX5 47 5 17 := ⟨RX5, TX5, 22, rfl, wsX5_tb, by decide, tw_652, by decide⟩
theorem gX5_47 : mx_G RX5 47 5 17 .long := ⟨RX5, TX5, 22, tyX5, rfl, wsX5_tb, by decide, tw_652, by decide, tyX5_ok, nmX5, rfl, by decide +kernel⟩
theorem tw_653 : Cond.fieldLink RX5 57 (TX5 18).1 (TX5 18).2.1 (TX5 18).2.2.1 ∈ tb_w := tb_in (List.mem_of_getElem? (i := 653) (by decide +kernel)) (by first | rfl | decide +kernel)
theorem fX5_57 : mx_F RX5 57 5 18 := ⟨RX5, TX5, 22, rfl, wsX5_tb, by decide, tw_653, by decide⟩
theorem gX5_57 : mx_G RX5 57 5 18 .int := ⟨RX5, TX5, 22, tyX5, rfl, wsX5_tb, by decide, tw_653, by decide, tyX5_ok, nmX5, rfl, by decide +kernel⟩
theorem tw_654 : Cond.fieldLink RX5 51 (TX5 19).1 (TX5 19).2.1 (TX5 19).2.2.1 ∈ tb_w := tb_in (List.mem_of_getElem? (i := 654) (by decide +kernel)) (by first | rfl | decide +kernel)
theorem fX5_51 : mx_F RX5 51 5 19 := ⟨RX5, TX5, 22, rfl, wsX5_tb, by decide, tw_654, by decide⟩
theorem tw_655 : Cond.fieldLink RX5 147 (TX5 20).1 (TX5 20).2.1 (TX5 20).2.2.1 ∈ tb_w := tb_in (List.mem_of_getElem? (i := 655) (by decide +kernel)) (by first | rfl | decide +kernel)
theorem fX5_147 : mx_F RX5 147 5 20 := ⟨RX5, TX5, 22, rfl, wsX5_tb, by decide, tw_655, by decide⟩
theorem gX5_147 : mx_G RX5 147 5 20 .int := ⟨RX5, TX5, 22, tyX5, rfl, wsX5_tb, by decide, tw_655, by decide, tyX5_ok, nmX5, rfl, by decide +kernel⟩
theorem tw_656 : Cond.fieldLink RX5 54 (TX5 21).1 (TX5 21).2.1 (TX5 21).2.2.1 ∈ tb_w := tb_in (List.mem_of_getElem? (i := 656) (by decide +kernel)) (by first | rfl | decide +kernel)
theorem fX5_54 : mx_F RX5 54 5 21 := ⟨RX5, TX5, 22, rfl, wsX5_tb, by decide, tw_656, by decide⟩
set_option maxRecDepth 20000 in
theorem tw_706 : Cond.code yX5_row cX5_row 3 (some .int) ∈ tb_w := tb_in (List.mem_of_getElem? (i := 706) rfl) (by first | rfl | decide +kernel)
theorem tw_703 : Cond.methodLink RL 17 yX5_row ∈ tb_w := tb_in (List.mem_of_getElem? (i := 703) (by decide +kernel)) (by first | rfl | decide +kernel)
theorem tw_53 : Cond.initialized RX5 ∈ tb_w := tb_in (List.mem_of_getElem? (i := 53) (by decide +kernel)) (by first | rfl | decide +kernel)
theorem tw_704 : Cond.instanceMethod yX5_row ∈ tb_w := tb_in (List.mem_of_getElem? (i := 704) (by decide +kernel)) (by first | rfl | decide +kernel)
theorem tw_705 : Cond.selects RX5 yX5_row yX5_row ∈ tb_w := tb_in (List.mem_of_getElem? (i := 705) (by decide +kernel)) (by first | rfl | decide +kernel)
theorem vL_17 : mx_V RL mX5_row 17 5 2 := ⟨tw_703, tw_704, tw_705, tw_53, tw_706, ⟨by decide +kernel, by decide +kernel, by decide +kernel⟩, by decide, by decide, _, rfl, rfl⟩
theorem tw_707 : Cond.constantLong RX5 61 (5) ∈ tb_w := tb_in (List.mem_of_getElem? (i := 707) (by decide +kernel)) (by first | rfl | decide +kernel)
set_option maxRecDepth 20000 in
theorem tw_710 : Cond.code yX5_in cX5_in 6 (some .boolean) ∈ tb_w := tb_in (List.mem_of_getElem? (i := 710) rfl) (by first | rfl | decide +kernel)
theorem tw_708 : Cond.methodLink RX5 63 yX5_in ∈ tb_w := tb_in (List.mem_of_getElem? (i := 708) (by decide +kernel)) (by first | rfl | decide +kernel)
theorem tw_709 : Cond.static yX5_in ∈ tb_w := tb_in (List.mem_of_getElem? (i := 709) (by decide +kernel)) (by first | rfl | decide +kernel)
theorem sX5_63 : mx_S RX5 mX5_in 63 3 := ⟨tw_708, tw_709, tw_53, tw_710, ⟨by decide +kernel, by decide +kernel, by decide +kernel⟩, by decide⟩
set_option maxRecDepth 20000 in
theorem tw_714 : Cond.code yX5_finds cX5_finds 2 (some .int) ∈ tb_w := tb_in (List.mem_of_getElem? (i := 714) rfl) (by first | rfl | decide +kernel)
theorem tw_711 : Cond.methodLink RX5 67 yX5_finds ∈ tb_w := tb_in (List.mem_of_getElem? (i := 711) (by decide +kernel)) (by first | rfl | decide +kernel)
theorem tw_713 : Cond.instanceMethod yX5_finds ∈ tb_w := tb_in (List.mem_of_getElem? (i := 713) (by decide +kernel)) (by first | rfl | decide +kernel)
theorem tw_25 : Cond.selects RX5 yX5_finds yX5_finds ∈ tb_w := tb_in (List.mem_of_getElem? (i := 25) (by decide +kernel)) (by first | rfl | decide +kernel)
theorem vX5_67 : mx_V RX5 mX5_finds 67 5 1 := ⟨tw_711, tw_713, tw_25, tw_53, tw_714, ⟨by decide +kernel, by decide +kernel, by decide +kernel⟩, by decide, by decide, _, rfl, rfl⟩
set_option maxRecDepth 20000 in
theorem tw_718 : Cond.code yX5_begins cX5_begins 4 none ∈ tb_w := tb_in (List.mem_of_getElem? (i := 718) rfl) (by first | rfl | decide +kernel)
theorem tw_715 : Cond.methodLink RX5 71 yX5_begins ∈ tb_w := tb_in (List.mem_of_getElem? (i := 715) (by decide +kernel)) (by first | rfl | decide +kernel)
theorem tw_717 : Cond.instanceMethod yX5_begins ∈ tb_w := tb_in (List.mem_of_getElem? (i := 717) (by decide +kernel)) (by first | rfl | decide +kernel)
theorem tw_26 : Cond.selects RX5 yX5_begins yX5_begins ∈ tb_w := tb_in (List.mem_of_getElem? (i := 26) (by decide +kernel)) (by first | rfl | decide +kernel)
theorem vX5_71 : mx_V RX5 mX5_begins 71 5 2 := ⟨tw_715, tw_717, tw_26, tw_53, tw_718, ⟨by decide +kernel, by decide +kernel, by decide +kernel⟩, by decide, by decide, _, rfl, rfl⟩
set_option maxRecDepth 20000 in
theorem tw_722 : Cond.code yX5_lay cX5_lay 4 (some .int) ∈ tb_w := tb_in (List.mem_of_getElem? (i := 722) rfl) (by first | rfl | decide +kernel)
theorem tw_719 : Cond.methodLink RL 22 yX5_lay ∈ tb_w := tb_in (List.mem_of_getElem? (i := 719) (by decide +kernel)) (by first | rfl | decide +kernel)
theorem tw_720 : Cond.instanceMethod yX5_lay ∈ tb_w := tb_in (List.mem_of_getElem? (i := 720) (by decide +kernel)) (by first | rfl | decide +kernel)
theorem tw_721 : Cond.selects RX5 yX5_lay yX5_lay ∈ tb_w := tb_in (List.mem_of_getElem? (i := 721) (by decide +kernel)) (by first | rfl | decide +kernel)
theorem vL_22 : mx_V RL mX5_lay 22 5 3 := ⟨tw_719, tw_720, tw_721, tw_53, tw_722, ⟨by decide +kernel, by decide +kernel, by decide +kernel⟩, by decide, by decide, _, rfl, rfl⟩
set_option maxRecDepth 20000 in
theorem tw_726 : Cond.code yX5_at cX5_at 3 (some .int) ∈ tb_w := tb_in (List.mem_of_getElem? (i := 726) rfl) (by first | rfl | decide +kernel)
theorem tw_723 : Cond.methodLink RL 26 yX5_at ∈ tb_w := tb_in (List.mem_of_getElem? (i := 723) (by decide +kernel)) (by first | rfl | decide +kernel)
theorem tw_724 : Cond.instanceMethod yX5_at ∈ tb_w := tb_in (List.mem_of_getElem? (i := 724) (by decide +kernel)) (by first | rfl | decide +kernel)
theorem tw_725 : Cond.selects RX5 yX5_at yX5_at ∈ tb_w := tb_in (List.mem_of_getElem? (i := 725) (by decide +kernel)) (by first | rfl | decide +kernel)
theorem vL_26 : mx_V RL mX5_at 26 5 2 := ⟨tw_723, tw_724, tw_725, tw_53, tw_726, ⟨by decide +kernel, by decide +kernel, by decide +kernel⟩, by decide, by decide, _, rfl, rfl⟩
set_option maxRecDepth 20000 in
theorem tw_730 : Cond.code yX5_tear cX5_tear 2 (some .int) ∈ tb_w := tb_in (List.mem_of_getElem? (i := 730) rfl) (by first | rfl | decide +kernel)
theorem tw_727 : Cond.methodLink RL 31 yX5_tear ∈ tb_w := tb_in (List.mem_of_getElem? (i := 727) (by decide +kernel)) (by first | rfl | decide +kernel)
theorem tw_728 : Cond.instanceMethod yX5_tear ∈ tb_w := tb_in (List.mem_of_getElem? (i := 728) (by decide +kernel)) (by first | rfl | decide +kernel)
theorem tw_729 : Cond.selects RX5 yX5_tear yX5_tear ∈ tb_w := tb_in (List.mem_of_getElem? (i := 729) (by decide +kernel)) (by first | rfl | decide +kernel)
theorem vL_31 : mx_V RL mX5_tear 31 5 1 := ⟨tw_727, tw_728, tw_729, tw_53, tw_730, ⟨by decide +kernel, by decide +kernel, by decide +kernel⟩, by decide, by decide, _, rfl, rfl⟩
set_option maxRecDepth 20000 in
theorem tw_734 : Cond.code yX5_copy cX5_copy 8 (some .int) ∈ tb_w := tb_in (List.mem_of_getElem? (i := 734) rfl) (by first | rfl | decide +kernel)
theorem tw_731 : Cond.methodLink RL 36 yX5_copy ∈ tb_w := tb_in (List.mem_of_getElem? (i := 731) (by decide +kernel)) (by first | rfl | decide +kernel)
theorem tw_732 : Cond.instanceMethod yX5_copy ∈ tb_w := tb_in (List.mem_of_getElem? (i := 732) (by decide +kernel)) (by first | rfl | decide +kernel)
theorem tw_733 : Cond.selects RX5 yX5_copy yX5_copy ∈ tb_w := tb_in (List.mem_of_getElem? (i := 733) (by decide +kernel)) (by first | rfl | decide +kernel)
theorem vL_36 : mx_V RL mX5_copy 36 5 5 := ⟨tw_731, tw_732, tw_733, tw_53, tw_734, ⟨by decide +kernel, by decide +kernel, by decide +kernel⟩, by decide, by decide, _, rfl, rfl⟩
set_option maxRecDepth 20000 in
theorem tw_738 : Cond.code yX5_mean cX5_mean 5 (some .int) ∈ tb_w := tb_in (List.mem_of_getElem? (i := 738) rfl) (by first | rfl | decide +kernel)
theorem tw_735 : Cond.methodLink RL 40 yX5_mean ∈ tb_w := tb_in (List.mem_of_getElem? (i := 735) (by decide +kernel)) (by first | rfl | decide +kernel)
theorem tw_736 : Cond.instanceMethod yX5_mean ∈ tb_w := tb_in (List.mem_of_getElem? (i := 736) (by decide +kernel)) (by first | rfl | decide +kernel)
theorem tw_737 : Cond.selects RX5 yX5_mean yX5_mean ∈ tb_w := tb_in (List.mem_of_getElem? (i := 737) (by decide +kernel)) (by first | rfl | decide +kernel)
theorem vL_40 : mx_V RL mX5_mean 40 5 1 := ⟨tw_735, tw_736, tw_737, tw_53, tw_738, ⟨by decide +kernel, by decide +kernel, by decide +kernel⟩, by decide, by decide, _, rfl, rfl⟩
set_option maxRecDepth 20000 in
theorem tw_742 : Cond.code yX5_text cX5_text 4 (some .int) ∈ tb_w := tb_in (List.mem_of_getElem? (i := 742) rfl) (by first | rfl | decide +kernel)
theorem tw_739 : Cond.methodLink RL 44 yX5_text ∈ tb_w := tb_in (List.mem_of_getElem? (i := 739) (by decide +kernel)) (by first | rfl | decide +kernel)
theorem tw_740 : Cond.instanceMethod yX5_text ∈ tb_w := tb_in (List.mem_of_getElem? (i := 740) (by decide +kernel)) (by first | rfl | decide +kernel)
theorem tw_741 : Cond.selects RX5 yX5_text yX5_text ∈ tb_w := tb_in (List.mem_of_getElem? (i := 741) (by decide +kernel)) (by first | rfl | decide +kernel)
theorem vL_44 : mx_V RL mX5_text 44 5 2 := ⟨tw_739, tw_740, tw_741, tw_53, tw_742, ⟨by decide +kernel, by decide +kernel, by decide +kernel⟩, by decide, by decide, _, rfl, rfl⟩
theorem tw_743 : Cond.constantLong RX5 78 (3) ∈ tb_w := tb_in (List.mem_of_getElem? (i := 743) (by decide +kernel)) (by first | rfl | decide +kernel)
set_option maxRecDepth 20000 in
theorem tw_747 : Cond.code yX5_put cX5_put 5 (some .int) ∈ tb_w := tb_in (List.mem_of_getElem? (i := 747) rfl) (by first | rfl | decide +kernel)
theorem tw_744 : Cond.methodLink RL 48 yX5_put ∈ tb_w := tb_in (List.mem_of_getElem? (i := 744) (by decide +kernel)) (by first | rfl | decide +kernel)
theorem tw_745 : Cond.instanceMethod yX5_put ∈ tb_w := tb_in (List.mem_of_getElem? (i := 745) (by decide +kernel)) (by first | rfl | decide +kernel)
theorem tw_746 : Cond.selects RX5 yX5_put yX5_put ∈ tb_w := tb_in (List.mem_of_getElem? (i := 746) (by decide +kernel)) (by first | rfl | decide +kernel)
theorem vL_48 : mx_V RL mX5_put 48 5 3 := ⟨tw_744, tw_745, tw_746, tw_53, tw_747, ⟨by decide +kernel, by decide +kernel, by decide +kernel⟩, by decide, by decide, _, rfl, rfl⟩
set_option maxRecDepth 20000 in
theorem tw_751 : Cond.code yX5_fault cX5_fault 2 (some .int) ∈ tb_w := tb_in (List.mem_of_getElem? (i := 751) rfl) (by first | rfl | decide +kernel)
theorem tw_748 : Cond.methodLink RL 52 yX5_fault ∈ tb_w := tb_in (List.mem_of_getElem? (i := 748) (by decide +kernel)) (by first | rfl | decide +kernel)
theorem tw_749 : Cond.instanceMethod yX5_fault ∈ tb_w := tb_in (List.mem_of_getElem? (i := 749) (by decide +kernel)) (by first | rfl | decide +kernel)
theorem tw_750 : Cond.selects RX5 yX5_fault yX5_fault ∈ tb_w := tb_in (List.mem_of_getElem? (i := 750) (by decide +kernel)) (by first | rfl | decide +kernel)
theorem vL_52 : mx_V RL mX5_fault 52 5 1 := ⟨tw_748, tw_749, tw_750, tw_53, tw_751, ⟨by decide +kernel, by decide +kernel, by decide +kernel⟩, by decide, by decide, _, rfl, rfl⟩
set_option maxRecDepth 20000 in
theorem tw_755 : Cond.code yX5_reads cX5_reads 3 (some .int) ∈ tb_w := tb_in (List.mem_of_getElem? (i := 755) rfl) (by first | rfl | decide +kernel)
theorem tw_752 : Cond.methodLink RX5 94 yX5_reads ∈ tb_w := tb_in (List.mem_of_getElem? (i := 752) (by decide +kernel)) (by first | rfl | decide +kernel)
theorem tw_754 : Cond.instanceMethod yX5_reads ∈ tb_w := tb_in (List.mem_of_getElem? (i := 754) (by decide +kernel)) (by first | rfl | decide +kernel)
theorem tw_27 : Cond.selects RX5 yX5_reads yX5_reads ∈ tb_w := tb_in (List.mem_of_getElem? (i := 27) (by decide +kernel)) (by first | rfl | decide +kernel)
theorem vX5_94 : mx_V RX5 mX5_reads 94 5 1 := ⟨tw_752, tw_754, tw_27, tw_53, tw_755, ⟨by decide +kernel, by decide +kernel, by decide +kernel⟩, by decide, by decide, _, rfl, rfl⟩
set_option maxRecDepth 20000 in
theorem tw_759 : Cond.code yX5_byteAt cX5_byteAt 3 (some .int) ∈ tb_w := tb_in (List.mem_of_getElem? (i := 759) rfl) (by first | rfl | decide +kernel)
theorem tw_756 : Cond.methodLink RX5 83 yX5_byteAt ∈ tb_w := tb_in (List.mem_of_getElem? (i := 756) (by decide +kernel)) (by first | rfl | decide +kernel)
theorem tw_758 : Cond.instanceMethod yX5_byteAt ∈ tb_w := tb_in (List.mem_of_getElem? (i := 758) (by decide +kernel)) (by first | rfl | decide +kernel)
theorem tw_28 : Cond.selects RX5 yX5_byteAt yX5_byteAt ∈ tb_w := tb_in (List.mem_of_getElem? (i := 28) (by decide +kernel)) (by first | rfl | decide +kernel)
theorem vX5_83 : mx_V RX5 mX5_byteAt 83 5 2 := ⟨tw_756, tw_758, tw_28, tw_53, tw_759, ⟨by decide +kernel, by decide +kernel, by decide +kernel⟩, by decide, by decide, _, rfl, rfl⟩
set_option maxRecDepth 20000 in
theorem tw_762 : Cond.code yX5_kindOf cX5_kindOf 1 (some .int) ∈ tb_w := tb_in (List.mem_of_getElem? (i := 762) rfl) (by first | rfl | decide +kernel)
theorem tw_760 : Cond.methodLink RX5 87 yX5_kindOf ∈ tb_w := tb_in (List.mem_of_getElem? (i := 760) (by decide +kernel)) (by first | rfl | decide +kernel)
theorem tw_761 : Cond.static yX5_kindOf ∈ tb_w := tb_in (List.mem_of_getElem? (i := 761) (by decide +kernel)) (by first | rfl | decide +kernel)
theorem sX5_87 : mx_S RX5 mX5_kindOf 87 1 := ⟨tw_760, tw_761, tw_53, tw_762, ⟨by decide +kernel, by decide +kernel, by decide +kernel⟩, by decide⟩
theorem tw_763 : Cond.constantLong RX5 90 (48) ∈ tb_w := tb_in (List.mem_of_getElem? (i := 763) (by decide +kernel)) (by first | rfl | decide +kernel)
theorem tw_764 : Cond.constantLong RX5 92 (57) ∈ tb_w := tb_in (List.mem_of_getElem? (i := 764) (by decide +kernel)) (by first | rfl | decide +kernel)
set_option maxRecDepth 20000 in
theorem tw_768 : Cond.code yX5_leat cX5_leat 3 (some .int) ∈ tb_w := tb_in (List.mem_of_getElem? (i := 768) rfl) (by first | rfl | decide +kernel)
theorem tw_765 : Cond.methodLink RL 56 yX5_leat ∈ tb_w := tb_in (List.mem_of_getElem? (i := 765) (by decide +kernel)) (by first | rfl | decide +kernel)
theorem tw_766 : Cond.instanceMethod yX5_leat ∈ tb_w := tb_in (List.mem_of_getElem? (i := 766) (by decide +kernel)) (by first | rfl | decide +kernel)
theorem tw_767 : Cond.selects RX5 yX5_leat yX5_leat ∈ tb_w := tb_in (List.mem_of_getElem? (i := 767) (by decide +kernel)) (by first | rfl | decide +kernel)
theorem vL_56 : mx_V RL mX5_leat 56 5 1 := ⟨tw_765, tw_766, tw_767, tw_53, tw_768, ⟨by decide +kernel, by decide +kernel, by decide +kernel⟩, by decide, by decide, _, rfl, rfl⟩
set_option maxRecDepth 20000 in
theorem tw_772 : Cond.code yX5_day cX5_day 3 (some .int) ∈ tb_w := tb_in (List.mem_of_getElem? (i := 772) rfl) (by first | rfl | decide +kernel)
theorem tw_769 : Cond.methodLink RL 60 yX5_day ∈ tb_w := tb_in (List.mem_of_getElem? (i := 769) (by decide +kernel)) (by first | rfl | decide +kernel)
theorem tw_770 : Cond.instanceMethod yX5_day ∈ tb_w := tb_in (List.mem_of_getElem? (i := 770) (by decide +kernel)) (by first | rfl | decide +kernel)
theorem tw_771 : Cond.selects RX5 yX5_day yX5_day ∈ tb_w := tb_in (List.mem_of_getElem? (i := 771) (by decide +kernel)) (by first | rfl | decide +kernel)
theorem vL_60 : mx_V RL mX5_day 60 5 2 := ⟨tw_769, tw_770, tw_771, tw_53, tw_772, ⟨by decide +kernel, by decide +kernel, by decide +kernel⟩, by decide, by decide, _, rfl, rfl⟩
set_option maxRecDepth 20000 in
theorem tw_776 : Cond.code yX5_isDay cX5_isDay 2 (some .boolean) ∈ tb_w := tb_in (List.mem_of_getElem? (i := 776) rfl) (by first | rfl | decide +kernel)
theorem tw_773 : Cond.methodLink RX5 133 yX5_isDay ∈ tb_w := tb_in (List.mem_of_getElem? (i := 773) (by decide +kernel)) (by first | rfl | decide +kernel)
theorem tw_775 : Cond.instanceMethod yX5_isDay ∈ tb_w := tb_in (List.mem_of_getElem? (i := 775) (by decide +kernel)) (by first | rfl | decide +kernel)
theorem tw_29 : Cond.selects RX5 yX5_isDay yX5_isDay ∈ tb_w := tb_in (List.mem_of_getElem? (i := 29) (by decide +kernel)) (by first | rfl | decide +kernel)
theorem vX5_133 : mx_V RX5 mX5_isDay 133 5 1 := ⟨tw_773, tw_775, tw_29, tw_53, tw_776, ⟨by decide +kernel, by decide +kernel, by decide +kernel⟩, by decide, by decide, _, rfl, rfl⟩
set_option maxRecDepth 20000 in
theorem tw_780 : Cond.code yX5_dayTold cX5_dayTold 4 (some .int) ∈ tb_w := tb_in (List.mem_of_getElem? (i := 780) rfl) (by first | rfl | decide +kernel)
theorem tw_777 : Cond.methodLink RX5 137 yX5_dayTold ∈ tb_w := tb_in (List.mem_of_getElem? (i := 777) (by decide +kernel)) (by first | rfl | decide +kernel)
theorem tw_779 : Cond.instanceMethod yX5_dayTold ∈ tb_w := tb_in (List.mem_of_getElem? (i := 779) (by decide +kernel)) (by first | rfl | decide +kernel)
theorem tw_30 : Cond.selects RX5 yX5_dayTold yX5_dayTold ∈ tb_w := tb_in (List.mem_of_getElem? (i := 30) (by decide +kernel)) (by first | rfl | decide +kernel)
theorem vX5_137 : mx_V RX5 mX5_dayTold 137 5 2 := ⟨tw_777, tw_779, tw_30, tw_53, tw_780, ⟨by decide +kernel, by decide +kernel, by decide +kernel⟩, by decide, by decide, _, rfl, rfl⟩
set_option maxRecDepth 20000 in
theorem tw_784 : Cond.code yX5_now cX5_now 1 (some .int) ∈ tb_w := tb_in (List.mem_of_getElem? (i := 784) rfl) (by first | rfl | decide +kernel)
theorem tw_781 : Cond.methodLink RX5 123 yX5_now ∈ tb_w := tb_in (List.mem_of_getElem? (i := 781) (by decide +kernel)) (by first | rfl | decide +kernel)
theorem tw_783 : Cond.instanceMethod yX5_now ∈ tb_w := tb_in (List.mem_of_getElem? (i := 783) (by decide +kernel)) (by first | rfl | decide +kernel)
theorem tw_31 : Cond.selects RX5 yX5_now yX5_now ∈ tb_w := tb_in (List.mem_of_getElem? (i := 31) (by decide +kernel)) (by first | rfl | decide +kernel)
theorem vX5_123 : mx_V RX5 mX5_now 123 5 0 := ⟨tw_781, tw_783, tw_31, tw_53, tw_784, ⟨by decide +kernel, by decide +kernel, by decide +kernel⟩, by decide, by decide, _, rfl, rfl⟩
set_option maxRecDepth 20000 in
theorem tw_788 : Cond.code yX5_driftOf cX5_driftOf 3 (some .int) ∈ tb_w := tb_in (List.mem_of_getElem? (i := 788) rfl) (by first | rfl | decide +kernel)
theorem tw_785 : Cond.methodLink RX5 113 yX5_driftOf ∈ tb_w := tb_in (List.mem_of_getElem? (i := 785) (by decide +kernel)) (by first | rfl | decide +kernel)
theorem tw_787 : Cond.instanceMethod yX5_driftOf ∈ tb_w := tb_in (List.mem_of_getElem? (i := 787) (by decide +kernel)) (by first | rfl | decide +kernel)
theorem tw_32 : Cond.selects RX5 yX5_driftOf yX5_driftOf ∈ tb_w := tb_in (List.mem_of_getElem? (i := 32) (by decide +kernel)) (by first | rfl | decide +kernel)
theorem vX5_113 : mx_V RX5 mX5_driftOf 113 5 2 := ⟨tw_785, tw_787, tw_32, tw_53, tw_788, ⟨by decide +kernel, by decide +kernel, by decide +kernel⟩, by decide, by decide, _, rfl, rfl⟩
set_option maxRecDepth 20000 in
theorem tw_791 : Cond.code yX5_has cX5_has 2 (some .boolean) ∈ tb_w := tb_in (List.mem_of_getElem? (i := 791) rfl) (by first | rfl | decide +kernel)
theorem tw_789 : Cond.methodLink RX5 109 yX5_has ∈ tb_w := tb_in (List.mem_of_getElem? (i := 789) (by decide +kernel)) (by first | rfl | decide +kernel)
theorem tw_790 : Cond.static yX5_has ∈ tb_w := tb_in (List.mem_of_getElem? (i := 790) (by decide +kernel)) (by first | rfl | decide +kernel)
theorem sX5_109 : mx_S RX5 mX5_has 109 2 := ⟨tw_789, tw_790, tw_53, tw_791, ⟨by decide +kernel, by decide +kernel, by decide +kernel⟩, by decide⟩
set_option maxRecDepth 20000 in
theorem tw_795 : Cond.code yX5_grindsNow cX5_grindsNow 3 (some .int) ∈ tb_w := tb_in (List.mem_of_getElem? (i := 795) rfl) (by first | rfl | decide +kernel)
theorem tw_792 : Cond.methodLink RX5 127 yX5_grindsNow ∈ tb_w := tb_in (List.mem_of_getElem? (i := 792) (by decide +kernel)) (by first | rfl | decide +kernel)
theorem tw_794 : Cond.instanceMethod yX5_grindsNow ∈ tb_w := tb_in (List.mem_of_getElem? (i := 794) (by decide +kernel)) (by first | rfl | decide +kernel)
theorem tw_33 : Cond.selects RX5 yX5_grindsNow yX5_grindsNow ∈ tb_w := tb_in (List.mem_of_getElem? (i := 33) (by decide +kernel)) (by first | rfl | decide +kernel)
theorem vX5_127 : mx_V RX5 mX5_grindsNow 127 5 2 := ⟨tw_792, tw_794, tw_33, tw_53, tw_795, ⟨by decide +kernel, by decide +kernel, by decide +kernel⟩, by decide, by decide, _, rfl, rfl⟩
set_option maxRecDepth 20000 in
theorem tw_798 : Cond.code yX5_grindsAs cX5_grindsAs 8 (some .int) ∈ tb_w := tb_in (List.mem_of_getElem? (i := 798) rfl) (by first | rfl | decide +kernel)
theorem tw_796 : Cond.methodLink RX5 116 yX5_grindsAs ∈ tb_w := tb_in (List.mem_of_getElem? (i := 796) (by decide +kernel)) (by first | rfl | decide +kernel)
theorem tw_797 : Cond.static yX5_grindsAs ∈ tb_w := tb_in (List.mem_of_getElem? (i := 797) (by decide +kernel)) (by first | rfl | decide +kernel)
theorem sX5_116 : mx_S RX5 mX5_grindsAs 116 5 := ⟨tw_796, tw_797, tw_53, tw_798, ⟨by decide +kernel, by decide +kernel, by decide +kernel⟩, by decide⟩
set_option maxRecDepth 20000 in
theorem tw_801 : Cond.code yX5_smaller cX5_smaller 2 (some .int) ∈ tb_w := tb_in (List.mem_of_getElem? (i := 801) rfl) (by first | rfl | decide +kernel)
theorem tw_799 : Cond.methodLink RX5 103 yX5_smaller ∈ tb_w := tb_in (List.mem_of_getElem? (i := 799) (by decide +kernel)) (by first | rfl | decide +kernel)
theorem tw_800 : Cond.static yX5_smaller ∈ tb_w := tb_in (List.mem_of_getElem? (i := 800) (by decide +kernel)) (by first | rfl | decide +kernel)
theorem sX5_103 : mx_S RX5 mX5_smaller 103 2 := ⟨tw_799, tw_800, tw_53, tw_801, ⟨by decide +kernel, by decide +kernel, by decide +kernel⟩, by decide⟩
set_option maxRecDepth 20000 in
theorem tw_804 : Cond.code yX5_larger cX5_larger 2 (some .int) ∈ tb_w := tb_in (List.mem_of_getElem? (i := 804) rfl) (by first | rfl | decide +kernel)
theorem tw_802 : Cond.methodLink RX5 106 yX5_larger ∈ tb_w := tb_in (List.mem_of_getElem? (i := 802) (by decide +kernel)) (by first | rfl | decide +kernel)
theorem tw_803 : Cond.static yX5_larger ∈ tb_w := tb_in (List.mem_of_getElem? (i := 803) (by decide +kernel)) (by first | rfl | decide +kernel)
theorem sX5_106 : mx_S RX5 mX5_larger 106 2 := ⟨tw_802, tw_803, tw_53, tw_804, ⟨by decide +kernel, by decide +kernel, by decide +kernel⟩, by decide⟩
set_option maxRecDepth 20000 in
theorem tw_808 : Cond.code yX5_leavesNow cX5_leavesNow 3 (some .int) ∈ tb_w := tb_in (List.mem_of_getElem? (i := 808) rfl) (by first | rfl | decide +kernel)
theorem tw_805 : Cond.methodLink RX5 130 yX5_leavesNow ∈ tb_w := tb_in (List.mem_of_getElem? (i := 805) (by decide +kernel)) (by first | rfl | decide +kernel)
theorem tw_807 : Cond.instanceMethod yX5_leavesNow ∈ tb_w := tb_in (List.mem_of_getElem? (i := 807) (by decide +kernel)) (by first | rfl | decide +kernel)
theorem tw_34 : Cond.selects RX5 yX5_leavesNow yX5_leavesNow ∈ tb_w := tb_in (List.mem_of_getElem? (i := 34) (by decide +kernel)) (by first | rfl | decide +kernel)
theorem vX5_130 : mx_V RX5 mX5_leavesNow 130 5 2 := ⟨tw_805, tw_807, tw_34, tw_53, tw_808, ⟨by decide +kernel, by decide +kernel, by decide +kernel⟩, by decide, by decide, _, rfl, rfl⟩
set_option maxRecDepth 20000 in
theorem tw_811 : Cond.code yX5_leavesAs cX5_leavesAs 2 (some .int) ∈ tb_w := tb_in (List.mem_of_getElem? (i := 811) rfl) (by first | rfl | decide +kernel)
theorem tw_809 : Cond.methodLink RX5 120 yX5_leavesAs ∈ tb_w := tb_in (List.mem_of_getElem? (i := 809) (by decide +kernel)) (by first | rfl | decide +kernel)
theorem tw_810 : Cond.static yX5_leavesAs ∈ tb_w := tb_in (List.mem_of_getElem? (i := 810) (by decide +kernel)) (by first | rfl | decide +kernel)
theorem sX5_120 : mx_S RX5 mX5_leavesAs 120 2 := ⟨tw_809, tw_810, tw_53, tw_811, ⟨by decide +kernel, by decide +kernel, by decide +kernel⟩, by decide⟩
set_option maxRecDepth 20000 in
theorem tw_815 : Cond.code yX5_mark cX5_mark 10 (some .int) ∈ tb_w := tb_in (List.mem_of_getElem? (i := 815) rfl) (by first | rfl | decide +kernel)
theorem tw_812 : Cond.methodLink RL 64 yX5_mark ∈ tb_w := tb_in (List.mem_of_getElem? (i := 812) (by decide +kernel)) (by first | rfl | decide +kernel)
theorem tw_813 : Cond.instanceMethod yX5_mark ∈ tb_w := tb_in (List.mem_of_getElem? (i := 813) (by decide +kernel)) (by first | rfl | decide +kernel)
theorem tw_814 : Cond.selects RX5 yX5_mark yX5_mark ∈ tb_w := tb_in (List.mem_of_getElem? (i := 814) (by decide +kernel)) (by first | rfl | decide +kernel)
theorem vL_64 : mx_V RL mX5_mark 64 5 2 := ⟨tw_812, tw_813, tw_814, tw_53, tw_815, ⟨by decide +kernel, by decide +kernel, by decide +kernel⟩, by decide, by decide, _, rfl, rfl⟩
set_option maxRecDepth 20000 in
theorem tw_818 : Cond.code yX5_isOf cX5_isOf 2 (some .boolean) ∈ tb_w := tb_in (List.mem_of_getElem? (i := 818) rfl) (by first | rfl | decide +kernel)
theorem tw_816 : Cond.methodLink RX5 140 yX5_isOf ∈ tb_w := tb_in (List.mem_of_getElem? (i := 816) (by decide +kernel)) (by first | rfl | decide +kernel)
theorem tw_817 : Cond.static yX5_isOf ∈ tb_w := tb_in (List.mem_of_getElem? (i := 817) (by decide +kernel)) (by first | rfl | decide +kernel)
theorem sX5_140 : mx_S RX5 mX5_isOf 140 2 := ⟨tw_816, tw_817, tw_53, tw_818, ⟨by decide +kernel, by decide +kernel, by decide +kernel⟩, by decide⟩
set_option maxRecDepth 20000 in
theorem tw_822 : Cond.code yX5_grinds cX5_grinds 4 (some .int) ∈ tb_w := tb_in (List.mem_of_getElem? (i := 822) rfl) (by first | rfl | decide +kernel)
theorem tw_819 : Cond.methodLink RL 68 yX5_grinds ∈ tb_w := tb_in (List.mem_of_getElem? (i := 819) (by decide +kernel)) (by first | rfl | decide +kernel)
theorem tw_820 : Cond.instanceMethod yX5_grinds ∈ tb_w := tb_in (List.mem_of_getElem? (i := 820) (by decide +kernel)) (by first | rfl | decide +kernel)
theorem tw_821 : Cond.selects RX5 yX5_grinds yX5_grinds ∈ tb_w := tb_in (List.mem_of_getElem? (i := 821) (by decide +kernel)) (by first | rfl | decide +kernel)
theorem vL_68 : mx_V RL mX5_grinds 68 5 3 := ⟨tw_819, tw_820, tw_821, tw_53, tw_822, ⟨by decide +kernel, by decide +kernel, by decide +kernel⟩, by decide, by decide, _, rfl, rfl⟩
theorem tw_823 : Cond.constantLong RX5 143 (4) ∈ tb_w := tb_in (List.mem_of_getElem? (i := 823) (by decide +kernel)) (by first | rfl | decide +kernel)
theorem tw_824 : Cond.constantLong RX5 145 (40) ∈ tb_w := tb_in (List.mem_of_getElem? (i := 824) (by decide +kernel)) (by first | rfl | decide +kernel)
set_option maxRecDepth 20000 in
theorem tw_828 : Cond.code yX5_step cX5_step 2 (some .int) ∈ tb_w := tb_in (List.mem_of_getElem? (i := 828) rfl) (by first | rfl | decide +kernel)
theorem tw_825 : Cond.methodLink RL 73 yX5_step ∈ tb_w := tb_in (List.mem_of_getElem? (i := 825) (by decide +kernel)) (by first | rfl | decide +kernel)
theorem tw_826 : Cond.instanceMethod yX5_step ∈ tb_w := tb_in (List.mem_of_getElem? (i := 826) (by decide +kernel)) (by first | rfl | decide +kernel)
theorem tw_827 : Cond.selects RX5 yX5_step yX5_step ∈ tb_w := tb_in (List.mem_of_getElem? (i := 827) (by decide +kernel)) (by first | rfl | decide +kernel)
theorem vL_73 : mx_V RL mX5_step 73 5 0 := ⟨tw_825, tw_826, tw_827, tw_53, tw_828, ⟨by decide +kernel, by decide +kernel, by decide +kernel⟩, by decide, by decide, _, rfl, rfl⟩
set_option maxRecDepth 20000 in
theorem tw_832 : Cond.code yX5_deed cX5_deed 1 (some .int) ∈ tb_w := tb_in (List.mem_of_getElem? (i := 832) rfl) (by first | rfl | decide +kernel)
theorem tw_829 : Cond.methodLink RX5 153 yX5_deed ∈ tb_w := tb_in (List.mem_of_getElem? (i := 829) (by decide +kernel)) (by first | rfl | decide +kernel)
theorem tw_831 : Cond.instanceMethod yX5_deed ∈ tb_w := tb_in (List.mem_of_getElem? (i := 831) (by decide +kernel)) (by first | rfl | decide +kernel)
theorem tw_35 : Cond.selects RX5 yX5_deed yX5_deed ∈ tb_w := tb_in (List.mem_of_getElem? (i := 35) (by decide +kernel)) (by first | rfl | decide +kernel)
theorem vX5_153 : mx_V RX5 mX5_deed 153 5 0 := ⟨tw_829, tw_831, tw_35, tw_53, tw_832, ⟨by decide +kernel, by decide +kernel, by decide +kernel⟩, by decide, by decide, _, rfl, rfl⟩
set_option maxRecDepth 20000 in
theorem tw_836 : Cond.code yX5_copies cX5_copies 4 none ∈ tb_w := tb_in (List.mem_of_getElem? (i := 836) rfl) (by first | rfl | decide +kernel)
theorem tw_833 : Cond.methodLink RX5 150 yX5_copies ∈ tb_w := tb_in (List.mem_of_getElem? (i := 833) (by decide +kernel)) (by first | rfl | decide +kernel)
theorem tw_835 : Cond.instanceMethod yX5_copies ∈ tb_w := tb_in (List.mem_of_getElem? (i := 835) (by decide +kernel)) (by first | rfl | decide +kernel)
theorem tw_36 : Cond.selects RX5 yX5_copies yX5_copies ∈ tb_w := tb_in (List.mem_of_getElem? (i := 36) (by decide +kernel)) (by first | rfl | decide +kernel)
theorem vX5_150 : mx_V RX5 mX5_copies 150 5 2 := ⟨tw_833, tw_835, tw_36, tw_53, tw_836, ⟨by decide +kernel, by decide +kernel, by decide +kernel⟩, by decide, by decide, _, rfl, rfl⟩
set_option maxRecDepth 20000 in
theorem tw_840 : Cond.code yX5_steps cX5_steps 5 (some .int) ∈ tb_w := tb_in (List.mem_of_getElem? (i := 840) rfl) (by first | rfl | decide +kernel)
theorem tw_837 : Cond.methodLink RX5 156 yX5_steps ∈ tb_w := tb_in (List.mem_of_getElem? (i := 837) (by decide +kernel)) (by first | rfl | decide +kernel)
theorem tw_839 : Cond.instanceMethod yX5_steps ∈ tb_w := tb_in (List.mem_of_getElem? (i := 839) (by decide +kernel)) (by first | rfl | decide +kernel)
theorem tw_37 : Cond.selects RX5 yX5_steps yX5_steps ∈ tb_w := tb_in (List.mem_of_getElem? (i := 37) (by decide +kernel)) (by first | rfl | decide +kernel)
theorem vX5_156 : mx_V RX5 mX5_steps 156 5 2 := ⟨tw_837, tw_839, tw_37, tw_53, tw_840, ⟨by decide +kernel, by decide +kernel, by decide +kernel⟩, by decide, by decide, _, rfl, rfl⟩
set_option maxRecDepth 20000 in
theorem tw_844 : Cond.code yX5_hatch cX5_hatch 3 (some .int) ∈ tb_w := tb_in (List.mem_of_getElem? (i := 844) rfl) (by first | rfl | decide +kernel)
theorem tw_841 : Cond.methodLink RL 77 yX5_hatch ∈ tb_w := tb_in (List.mem_of_getElem? (i := 841) (by decide +kernel)) (by first | rfl | decide +kernel)
theorem tw_842 : Cond.instanceMethod yX5_hatch ∈ tb_w := tb_in (List.mem_of_getElem? (i := 842) (by decide +kernel)) (by first | rfl | decide +kernel)
theorem tw_843 : Cond.selects RX5 yX5_hatch yX5_hatch ∈ tb_w := tb_in (List.mem_of_getElem? (i := 843) (by decide +kernel)) (by first | rfl | decide +kernel)
theorem vL_77 : mx_V RL mX5_hatch 77 5 1 := ⟨tw_841, tw_842, tw_843, tw_53, tw_844, ⟨by decide +kernel, by decide +kernel, by decide +kernel⟩, by decide, by decide, _, rfl, rfl⟩
set_option maxRecDepth 20000 in
theorem tw_848 : Cond.code yX5_rake cX5_rake 2 (some .int) ∈ tb_w := tb_in (List.mem_of_getElem? (i := 848) rfl) (by first | rfl | decide +kernel)
theorem tw_845 : Cond.methodLink RL 81 yX5_rake ∈ tb_w := tb_in (List.mem_of_getElem? (i := 845) (by decide +kernel)) (by first | rfl | decide +kernel)
theorem tw_846 : Cond.instanceMethod yX5_rake ∈ tb_w := tb_in (List.mem_of_getElem? (i := 846) (by decide +kernel)) (by first | rfl | decide +kernel)
theorem tw_847 : Cond.selects RX5 yX5_rake yX5_rake ∈ tb_w := tb_in (List.mem_of_getElem? (i := 847) (by decide +kernel)) (by first | rfl | decide +kernel)
theorem vL_81 : mx_V RL mX5_rake 81 5 0 := ⟨tw_845, tw_846, tw_847, tw_53, tw_848, ⟨by decide +kernel, by decide +kernel, by decide +kernel⟩, by decide, by decide, _, rfl, rfl⟩
set_option maxRecDepth 20000 in
theorem tw_852 : Cond.code yX5_fish cX5_fish 2 (some .int) ∈ tb_w := tb_in (List.mem_of_getElem? (i := 852) rfl) (by first | rfl | decide +kernel)
theorem tw_849 : Cond.methodLink RL 85 yX5_fish ∈ tb_w := tb_in (List.mem_of_getElem? (i := 849) (by decide +kernel)) (by first | rfl | decide +kernel)
theorem tw_850 : Cond.instanceMethod yX5_fish ∈ tb_w := tb_in (List.mem_of_getElem? (i := 850) (by decide +kernel)) (by first | rfl | decide +kernel)
theorem tw_851 : Cond.selects RX5 yX5_fish yX5_fish ∈ tb_w := tb_in (List.mem_of_getElem? (i := 851) (by decide +kernel)) (by first | rfl | decide +kernel)
theorem vL_85 : mx_V RL mX5_fish 85 5 1 := ⟨tw_849, tw_850, tw_851, tw_53, tw_852, ⟨by decide +kernel, by decide +kernel, by decide +kernel⟩, by decide, by decide, _, rfl, rfl⟩
set_option maxRecDepth 20000 in
theorem tw_856 : Cond.code yX5_undo cX5_undo 3 (some .int) ∈ tb_w := tb_in (List.mem_of_getElem? (i := 856) rfl) (by first | rfl | decide +kernel)
theorem tw_853 : Cond.methodLink RL 89 yX5_undo ∈ tb_w := tb_in (List.mem_of_getElem? (i := 853) (by decide +kernel)) (by first | rfl | decide +kernel)
theorem tw_854 : Cond.instanceMethod yX5_undo ∈ tb_w := tb_in (List.mem_of_getElem? (i := 854) (by decide +kernel)) (by first | rfl | decide +kernel)
theorem tw_855 : Cond.selects RX5 yX5_undo yX5_undo ∈ tb_w := tb_in (List.mem_of_getElem? (i := 855) (by decide +kernel)) (by first | rfl | decide +kernel)
theorem vL_89 : mx_V RL mX5_undo 89 5 1 := ⟨tw_853, tw_854, tw_855, tw_53, tw_856, ⟨by decide +kernel, by decide +kernel, by decide +kernel⟩, by decide, by decide, _, rfl, rfl⟩
set_option maxRecDepth 20000 in
theorem tw_860 : Cond.code yX5_keep cX5_keep 3 (some .int) ∈ tb_w := tb_in (List.mem_of_getElem? (i := 860) rfl) (by first | rfl | decide +kernel)
theorem tw_857 : Cond.methodLink RL 93 yX5_keep ∈ tb_w := tb_in (List.mem_of_getElem? (i := 857) (by decide +kernel)) (by first | rfl | decide +kernel)
theorem tw_858 : Cond.instanceMethod yX5_keep ∈ tb_w := tb_in (List.mem_of_getElem? (i := 858) (by decide +kernel)) (by first | rfl | decide +kernel)
theorem tw_859 : Cond.selects RX5 yX5_keep yX5_keep ∈ tb_w := tb_in (List.mem_of_getElem? (i := 859) (by decide +kernel)) (by first | rfl | decide +kernel)
theorem vL_93 : mx_V RL mX5_keep 93 5 1 := ⟨tw_857, tw_858, tw_859, tw_53, tw_860, ⟨by decide +kernel, by decide +kernel, by decide +kernel⟩, by decide, by decide, _, rfl, rfl⟩
theorem tw_861 : Cond.constantLong RX5 160 (2) ∈ tb_w := tb_in (List.mem_of_getElem? (i := 861) (by decide +kernel)) (by first | rfl | decide +kernel)
set_option maxRecDepth 20000 in
theorem tw_865 : Cond.code yX5_on cX5_on 3 (some .int) ∈ tb_w := tb_in (List.mem_of_getElem? (i := 865) rfl) (by first | rfl | decide +kernel)
theorem tw_862 : Cond.methodLink RL 97 yX5_on ∈ tb_w := tb_in (List.mem_of_getElem? (i := 862) (by decide +kernel)) (by first | rfl | decide +kernel)
theorem tw_863 : Cond.instanceMethod yX5_on ∈ tb_w := tb_in (List.mem_of_getElem? (i := 863) (by decide +kernel)) (by first | rfl | decide +kernel)
theorem tw_864 : Cond.selects RX5 yX5_on yX5_on ∈ tb_w := tb_in (List.mem_of_getElem? (i := 864) (by decide +kernel)) (by first | rfl | decide +kernel)
theorem vL_97 : mx_V RL mX5_on 97 5 1 := ⟨tw_862, tw_863, tw_864, tw_53, tw_865, ⟨by decide +kernel, by decide +kernel, by decide +kernel⟩, by decide, by decide, _, rfl, rfl⟩
set_option maxRecDepth 20000 in
theorem tw_869 : Cond.code yX5_mill cX5_mill 3 (some .int) ∈ tb_w := tb_in (List.mem_of_getElem? (i := 869) rfl) (by first | rfl | decide +kernel)
theorem tw_866 : Cond.methodLink RL 101 yX5_mill ∈ tb_w := tb_in (List.mem_of_getElem? (i := 866) (by decide +kernel)) (by first | rfl | decide +kernel)
theorem tw_867 : Cond.instanceMethod yX5_mill ∈ tb_w := tb_in (List.mem_of_getElem? (i := 867) (by decide +kernel)) (by first | rfl | decide +kernel)
theorem tw_868 : Cond.selects RX5 yX5_mill yX5_mill ∈ tb_w := tb_in (List.mem_of_getElem? (i := 868) (by decide +kernel)) (by first | rfl | decide +kernel)
theorem vL_101 : mx_V RL mX5_mill 101 5 1 := ⟨tw_866, tw_867, tw_868, tw_53, tw_869, ⟨by decide +kernel, by decide +kernel, by decide +kernel⟩, by decide, by decide, _, rfl, rfl⟩
theorem tw_870 : Cond.constantLong RX5 162 (60) ∈ tb_w := tb_in (List.mem_of_getElem? (i := 870) (by decide +kernel)) (by first | rfl | decide +kernel)
set_option maxRecDepth 20000 in
theorem tw_874 : Cond.code yX5_tries cX5_tries 1 none ∈ tb_w := tb_in (List.mem_of_getElem? (i := 874) rfl) (by first | rfl | decide +kernel)
theorem tw_871 : Cond.methodLink RX5 164 yX5_tries ∈ tb_w := tb_in (List.mem_of_getElem? (i := 871) (by decide +kernel)) (by first | rfl | decide +kernel)
theorem tw_873 : Cond.instanceMethod yX5_tries ∈ tb_w := tb_in (List.mem_of_getElem? (i := 873) (by decide +kernel)) (by first | rfl | decide +kernel)
theorem tw_38 : Cond.selects RX5 yX5_tries yX5_tries ∈ tb_w := tb_in (List.mem_of_getElem? (i := 38) (by decide +kernel)) (by first | rfl | decide +kernel)
theorem vX5_164 : mx_V RX5 mX5_tries 164 5 0 := ⟨tw_871, tw_873, tw_38, tw_53, tw_874, ⟨by decide +kernel, by decide +kernel, by decide +kernel⟩, by decide, by decide, _, rfl, rfl⟩
set_option maxRecDepth 20000 in
theorem tw_878 : Cond.code yX5_many cX5_many 4 (some .int) ∈ tb_w := tb_in (List.mem_of_getElem? (i := 878) rfl) (by first | rfl | decide +kernel)
theorem tw_875 : Cond.methodLink RX5 167 yX5_many ∈ tb_w := tb_in (List.mem_of_getElem? (i := 875) (by decide +kernel)) (by first | rfl | decide +kernel)
theorem tw_877 : Cond.instanceMethod yX5_many ∈ tb_w := tb_in (List.mem_of_getElem? (i := 877) (by decide +kernel)) (by first | rfl | decide +kernel)
theorem tw_39 : Cond.selects RX5 yX5_many yX5_many ∈ tb_w := tb_in (List.mem_of_getElem? (i := 39) (by decide +kernel)) (by first | rfl | decide +kernel)
theorem vX5_167 : mx_V RX5 mX5_many 167 5 1 := ⟨tw_875, tw_877, tw_39, tw_53, tw_878, ⟨by decide +kernel, by decide +kernel, by decide +kernel⟩, by decide, by decide, _, rfl, rfl⟩
set_option maxRecDepth 20000 in
theorem tw_882 : Cond.code yX5_turns cX5_turns 3 (some .int) ∈ tb_w := tb_in (List.mem_of_getElem? (i := 882) rfl) (by first | rfl | decide +kernel)
theorem tw_879 : Cond.methodLink RL 105 yX5_turns ∈ tb_w := tb_in (List.mem_of_getElem? (i := 879) (by decide +kernel)) (by first | rfl | decide +kernel)
theorem tw_880 : Cond.instanceMethod yX5_turns ∈ tb_w := tb_in (List.mem_of_getElem? (i := 880) (by decide +kernel)) (by first | rfl | decide +kernel)
theorem tw_881 : Cond.selects RX5 yX5_turns yX5_turns ∈ tb_w := tb_in (List.mem_of_getElem? (i := 881) (by decide +kernel)) (by first | rfl | decide +kernel)
theorem vL_105 : mx_V RL mX5_turns 105 5 0 := ⟨tw_879, tw_880, tw_881, tw_53, tw_882, ⟨by decide +kernel, by decide +kernel, by decide +kernel⟩, by decide, by decide, _, rfl, rfl⟩
set_option maxRecDepth 20000 in
theorem tw_886 : Cond.code yX5_book cX5_book 4 (some .int) ∈ tb_w := tb_in (List.mem_of_getElem? (i := 886) rfl) (by first | rfl | decide +kernel)
theorem tw_883 : Cond.methodLink RL 109 yX5_book ∈ tb_w := tb_in (List.mem_of_getElem? (i := 883) (by decide +kernel)) (by first | rfl | decide +kernel)
theorem tw_884 : Cond.instanceMethod yX5_book ∈ tb_w := tb_in (List.mem_of_getElem? (i := 884) (by decide +kernel)) (by first | rfl | decide +kernel)
theorem tw_885 : Cond.selects RX5 yX5_book yX5_book ∈ tb_w := tb_in (List.mem_of_getElem? (i := 885) (by decide +kernel)) (by first | rfl | decide +kernel)
theorem vL_109 : mx_V RL mX5_book 109 5 2 := ⟨tw_883, tw_884, tw_885, tw_53, tw_886, ⟨by decide +kernel, by decide +kernel, by decide +kernel⟩, by decide, by decide, _, rfl, rfl⟩
theorem tw_887 : Cond.constantLong RX5 170 (20) ∈ tb_w := tb_in (List.mem_of_getElem? (i := 887) (by decide +kernel)) (by first | rfl | decide +kernel)
set_option maxRecDepth 20000 in
theorem tw_891 : Cond.code yX5_best cX5_best 6 (some .int) ∈ tb_w := tb_in (List.mem_of_getElem? (i := 891) rfl) (by first | rfl | decide +kernel)
theorem tw_888 : Cond.methodLink RL 113 yX5_best ∈ tb_w := tb_in (List.mem_of_getElem? (i := 888) (by decide +kernel)) (by first | rfl | decide +kernel)
theorem tw_889 : Cond.instanceMethod yX5_best ∈ tb_w := tb_in (List.mem_of_getElem? (i := 889) (by decide +kernel)) (by first | rfl | decide +kernel)
theorem tw_890 : Cond.selects RX5 yX5_best yX5_best ∈ tb_w := tb_in (List.mem_of_getElem? (i := 890) (by decide +kernel)) (by first | rfl | decide +kernel)
theorem vL_113 : mx_V RL mX5_best 113 5 1 := ⟨tw_888, tw_889, tw_890, tw_53, tw_891, ⟨by decide +kernel, by decide +kernel, by decide +kernel⟩, by decide, by decide, _, rfl, rfl⟩
set_option maxRecDepth 20000 in
theorem tw_895 : Cond.code yX5_plan cX5_plan 10 (some .int) ∈ tb_w := tb_in (List.mem_of_getElem? (i := 895) rfl) (by first | rfl | decide +kernel)
theorem tw_892 : Cond.methodLink RL 117 yX5_plan ∈ tb_w := tb_in (List.mem_of_getElem? (i := 892) (by decide +kernel)) (by first | rfl | decide +kernel)
theorem tw_893 : Cond.instanceMethod yX5_plan ∈ tb_w := tb_in (List.mem_of_getElem? (i := 893) (by decide +kernel)) (by first | rfl | decide +kernel)
theorem tw_894 : Cond.selects RX5 yX5_plan yX5_plan ∈ tb_w := tb_in (List.mem_of_getElem? (i := 894) (by decide +kernel)) (by first | rfl | decide +kernel)
theorem vL_117 : mx_V RL mX5_plan 117 5 2 := ⟨tw_892, tw_893, tw_894, tw_53, tw_895, ⟨by decide +kernel, by decide +kernel, by decide +kernel⟩, by decide, by decide, _, rfl, rfl⟩
set_option maxRecDepth 20000 in
theorem tw_899 : Cond.code yX5_rakes cX5_rakes 7 (some .int) ∈ tb_w := tb_in (List.mem_of_getElem? (i := 899) rfl) (by first | rfl | decide +kernel)
theorem tw_896 : Cond.methodLink RL 121 yX5_rakes ∈ tb_w := tb_in (List.mem_of_getElem? (i := 896) (by decide +kernel)) (by first | rfl | decide +kernel)
theorem tw_897 : Cond.instanceMethod yX5_rakes ∈ tb_w := tb_in (List.mem_of_getElem? (i := 897) (by decide +kernel)) (by first | rfl | decide +kernel)
theorem tw_898 : Cond.selects RX5 yX5_rakes yX5_rakes ∈ tb_w := tb_in (List.mem_of_getElem? (i := 898) (by decide +kernel)) (by first | rfl | decide +kernel)
theorem vL_121 : mx_V RL mX5_rakes 121 5 2 := ⟨tw_896, tw_897, tw_898, tw_53, tw_899, ⟨by decide +kernel, by decide +kernel, by decide +kernel⟩, by decide, by decide, _, rfl, rfl⟩
theorem tw_900 : Cond.constantLong RX5 172 (8) ∈ tb_w := tb_in (List.mem_of_getElem? (i := 900) (by decide +kernel)) (by first | rfl | decide +kernel)
theorem tw_901 : Cond.constantLong RX5 174 (400) ∈ tb_w := tb_in (List.mem_of_getElem? (i := 901) (by decide +kernel)) (by first | rfl | decide +kernel)
set_option maxRecDepth 20000 in
theorem tw_904 : Cond.code yX5_bits cX5_bits 3 (some .int) ∈ tb_w := tb_in (List.mem_of_getElem? (i := 904) rfl) (by first | rfl | decide +kernel)
theorem tw_902 : Cond.methodLink RX5 176 yX5_bits ∈ tb_w := tb_in (List.mem_of_getElem? (i := 902) (by decide +kernel)) (by first | rfl | decide +kernel)
theorem tw_903 : Cond.static yX5_bits ∈ tb_w := tb_in (List.mem_of_getElem? (i := 903) (by decide +kernel)) (by first | rfl | decide +kernel)
theorem sX5_176 : mx_S RX5 mX5_bits 176 1 := ⟨tw_902, tw_903, tw_53, tw_904, ⟨by decide +kernel, by decide +kernel, by decide +kernel⟩, by decide⟩
set_option maxRecDepth 20000 in
theorem tw_908 : Cond.code yX5_fishes cX5_fishes 6 (some .int) ∈ tb_w := tb_in (List.mem_of_getElem? (i := 908) rfl) (by first | rfl | decide +kernel)
theorem tw_905 : Cond.methodLink RL 125 yX5_fishes ∈ tb_w := tb_in (List.mem_of_getElem? (i := 905) (by decide +kernel)) (by first | rfl | decide +kernel)
theorem tw_906 : Cond.instanceMethod yX5_fishes ∈ tb_w := tb_in (List.mem_of_getElem? (i := 906) (by decide +kernel)) (by first | rfl | decide +kernel)
theorem tw_907 : Cond.selects RX5 yX5_fishes yX5_fishes ∈ tb_w := tb_in (List.mem_of_getElem? (i := 907) (by decide +kernel)) (by first | rfl | decide +kernel)
theorem vL_125 : mx_V RL mX5_fishes 125 5 1 := ⟨tw_905, tw_906, tw_907, tw_53, tw_908, ⟨by decide +kernel, by decide +kernel, by decide +kernel⟩, by decide, by decide, _, rfl, rfl⟩
set_option maxRecDepth 20000 in
theorem tw_912 : Cond.code yX5_where cX5_where 5 (some .int) ∈ tb_w := tb_in (List.mem_of_getElem? (i := 912) rfl) (by first | rfl | decide +kernel)
theorem tw_909 : Cond.methodLink RL 129 yX5_where ∈ tb_w := tb_in (List.mem_of_getElem? (i := 909) (by decide +kernel)) (by first | rfl | decide +kernel)
theorem tw_910 : Cond.instanceMethod yX5_where ∈ tb_w := tb_in (List.mem_of_getElem? (i := 910) (by decide +kernel)) (by first | rfl | decide +kernel)
theorem tw_911 : Cond.selects RX5 yX5_where yX5_where ∈ tb_w := tb_in (List.mem_of_getElem? (i := 911) (by decide +kernel)) (by first | rfl | decide +kernel)
theorem vL_129 : mx_V RL mX5_where 129 5 1 := ⟨tw_909, tw_910, tw_911, tw_53, tw_912, ⟨by decide +kernel, by decide +kernel, by decide +kernel⟩, by decide, by decide, _, rfl, rfl⟩
set_option maxRecDepth 20000 in
theorem tw_916 : Cond.code yX5_wrongRow cX5_wrongRow 4 (some .int) ∈ tb_w := tb_in (List.mem_of_getElem? (i := 916) rfl) (by first | rfl | decide +kernel)
theorem tw_913 : Cond.methodLink RX5 179 yX5_wrongRow ∈ tb_w := tb_in (List.mem_of_getElem? (i := 913) (by decide +kernel)) (by first | rfl | decide +kernel)
theorem tw_915 : Cond.instanceMethod yX5_wrongRow ∈ tb_w := tb_in (List.mem_of_getElem? (i := 915) (by decide +kernel)) (by first | rfl | decide +kernel)
theorem tw_40 : Cond.selects RX5 yX5_wrongRow yX5_wrongRow ∈ tb_w := tb_in (List.mem_of_getElem? (i := 40) (by decide +kernel)) (by first | rfl | decide +kernel)
theorem vX5_179 : mx_V RX5 mX5_wrongRow 179 5 1 := ⟨tw_913, tw_915, tw_40, tw_53, tw_916, ⟨by decide +kernel, by decide +kernel, by decide +kernel⟩, by decide, by decide, _, rfl, rfl⟩
set_option maxRecDepth 20000 in
theorem tw_920 : Cond.code yX5_isGround cX5_isGround 4 (some .boolean) ∈ tb_w := tb_in (List.mem_of_getElem? (i := 920) rfl) (by first | rfl | decide +kernel)
theorem tw_917 : Cond.methodLink RX5 182 yX5_isGround ∈ tb_w := tb_in (List.mem_of_getElem? (i := 917) (by decide +kernel)) (by first | rfl | decide +kernel)
theorem tw_919 : Cond.instanceMethod yX5_isGround ∈ tb_w := tb_in (List.mem_of_getElem? (i := 919) (by decide +kernel)) (by first | rfl | decide +kernel)
theorem tw_41 : Cond.selects RX5 yX5_isGround yX5_isGround ∈ tb_w := tb_in (List.mem_of_getElem? (i := 41) (by decide +kernel)) (by first | rfl | decide +kernel)
theorem vX5_182 : mx_V RX5 mX5_isGround 182 5 1 := ⟨tw_917, tw_919, tw_41, tw_53, tw_920, ⟨by decide +kernel, by decide +kernel, by decide +kernel⟩, by decide, by decide, _, rfl, rfl⟩
set_option maxRecDepth 20000 in
theorem tw_924 : Cond.code yX5_flows cX5_flows 7 (some .int) ∈ tb_w := tb_in (List.mem_of_getElem? (i := 924) rfl) (by first | rfl | decide +kernel)
theorem tw_921 : Cond.methodLink RL 133 yX5_flows ∈ tb_w := tb_in (List.mem_of_getElem? (i := 921) (by decide +kernel)) (by first | rfl | decide +kernel)
theorem tw_922 : Cond.instanceMethod yX5_flows ∈ tb_w := tb_in (List.mem_of_getElem? (i := 922) (by decide +kernel)) (by first | rfl | decide +kernel)
theorem tw_923 : Cond.selects RX5 yX5_flows yX5_flows ∈ tb_w := tb_in (List.mem_of_getElem? (i := 923) (by decide +kernel)) (by first | rfl | decide +kernel)
theorem vL_133 : mx_V RL mX5_flows 133 5 2 := ⟨tw_921, tw_922, tw_923, tw_53, tw_924, ⟨by decide +kernel, by decide +kernel, by decide +kernel⟩, by decide, by decide, _, rfl, rfl⟩
set_option maxRecDepth 20000 in
theorem tw_928 : Cond.code yX5_kinds cX5_kinds 7 (some .int) ∈ tb_w := tb_in (List.mem_of_getElem? (i := 928) rfl) (by first | rfl | decide +kernel)
theorem tw_925 : Cond.methodLink RL 137 yX5_kinds ∈ tb_w := tb_in (List.mem_of_getElem? (i := 925) (by decide +kernel)) (by first | rfl | decide +kernel)
theorem tw_926 : Cond.instanceMethod yX5_kinds ∈ tb_w := tb_in (List.mem_of_getElem? (i := 926) (by decide +kernel)) (by first | rfl | decide +kernel)
theorem tw_927 : Cond.selects RX5 yX5_kinds yX5_kinds ∈ tb_w := tb_in (List.mem_of_getElem? (i := 927) (by decide +kernel)) (by first | rfl | decide +kernel)
theorem vL_137 : mx_V RL mX5_kinds 137 5 2 := ⟨tw_925, tw_926, tw_927, tw_53, tw_928, ⟨by decide +kernel, by decide +kernel, by decide +kernel⟩, by decide, by decide, _, rfl, rfl⟩
set_option maxRecDepth 20000 in
theorem tw_932 : Cond.code yX5_look cX5_look 4 (some .int) ∈ tb_w := tb_in (List.mem_of_getElem? (i := 932) rfl) (by first | rfl | decide +kernel)
theorem tw_929 : Cond.methodLink RL 141 yX5_look ∈ tb_w := tb_in (List.mem_of_getElem? (i := 929) (by decide +kernel)) (by first | rfl | decide +kernel)
theorem tw_930 : Cond.instanceMethod yX5_look ∈ tb_w := tb_in (List.mem_of_getElem? (i := 930) (by decide +kernel)) (by first | rfl | decide +kernel)
theorem tw_931 : Cond.selects RX5 yX5_look yX5_look ∈ tb_w := tb_in (List.mem_of_getElem? (i := 931) (by decide +kernel)) (by first | rfl | decide +kernel)
theorem vL_141 : mx_V RL mX5_look 141 5 1 := ⟨tw_929, tw_930, tw_931, tw_53, tw_932, ⟨by decide +kernel, by decide +kernel, by decide +kernel⟩, by decide, by decide, _, rfl, rfl⟩
set_option maxRecDepth 20000 in
theorem tw_936 : Cond.code yX5_greatest cX5_greatest 8 (some .int) ∈ tb_w := tb_in (List.mem_of_getElem? (i := 936) rfl) (by first | rfl | decide +kernel)
theorem tw_933 : Cond.methodLink RX5 185 yX5_greatest ∈ tb_w := tb_in (List.mem_of_getElem? (i := 933) (by decide +kernel)) (by first | rfl | decide +kernel)
theorem tw_935 : Cond.instanceMethod yX5_greatest ∈ tb_w := tb_in (List.mem_of_getElem? (i := 935) (by decide +kernel)) (by first | rfl | decide +kernel)
theorem tw_42 : Cond.selects RX5 yX5_greatest yX5_greatest ∈ tb_w := tb_in (List.mem_of_getElem? (i := 42) (by decide +kernel)) (by first | rfl | decide +kernel)
theorem vX5_185 : mx_V RX5 mX5_greatest 185 5 2 := ⟨tw_933, tw_935, tw_42, tw_53, tw_936, ⟨by decide +kernel, by decide +kernel, by decide +kernel⟩, by decide, by decide, _, rfl, rfl⟩
set_option maxRecDepth 20000 in
theorem tw_940 : Cond.code yX5_duel cX5_duel 8 (some .int) ∈ tb_w := tb_in (List.mem_of_getElem? (i := 940) rfl) (by first | rfl | decide +kernel)
theorem tw_937 : Cond.methodLink RL 145 yX5_duel ∈ tb_w := tb_in (List.mem_of_getElem? (i := 937) (by decide +kernel)) (by first | rfl | decide +kernel)
theorem tw_938 : Cond.instanceMethod yX5_duel ∈ tb_w := tb_in (List.mem_of_getElem? (i := 938) (by decide +kernel)) (by first | rfl | decide +kernel)
theorem tw_939 : Cond.selects RX5 yX5_duel yX5_duel ∈ tb_w := tb_in (List.mem_of_getElem? (i := 939) (by decide +kernel)) (by first | rfl | decide +kernel)
theorem vL_145 : mx_V RL mX5_duel 145 5 1 := ⟨tw_937, tw_938, tw_939, tw_53, tw_940, ⟨by decide +kernel, by decide +kernel, by decide +kernel⟩, by decide, by decide, _, rfl, rfl⟩
theorem tw_941 : Cond.constantLong RX5 188 (6) ∈ tb_w := tb_in (List.mem_of_getElem? (i := 941) (by decide +kernel)) (by first | rfl | decide +kernel)
set_option maxRecDepth 20000 in
theorem tw_945 : Cond.code yX5_played cX5_played 6 (some .int) ∈ tb_w := tb_in (List.mem_of_getElem? (i := 945) rfl) (by first | rfl | decide +kernel)
theorem tw_942 : Cond.methodLink RX5 190 yX5_played ∈ tb_w := tb_in (List.mem_of_getElem? (i := 942) (by decide +kernel)) (by first | rfl | decide +kernel)
theorem tw_944 : Cond.instanceMethod yX5_played ∈ tb_w := tb_in (List.mem_of_getElem? (i := 944) (by decide +kernel)) (by first | rfl | decide +kernel)
theorem tw_43 : Cond.selects RX5 yX5_played yX5_played ∈ tb_w := tb_in (List.mem_of_getElem? (i := 43) (by decide +kernel)) (by first | rfl | decide +kernel)
theorem vX5_190 : mx_V RX5 mX5_played 190 5 2 := ⟨tw_942, tw_944, tw_43, tw_53, tw_945, ⟨by decide +kernel, by decide +kernel, by decide +kernel⟩, by decide, by decide, _, rfl, rfl⟩
set_option maxRecDepth 20000 in
theorem tw_949 : Cond.code yX5_odds cX5_odds 3 (some .int) ∈ tb_w := tb_in (List.mem_of_getElem? (i := 949) rfl) (by first | rfl | decide +kernel)
theorem tw_946 : Cond.methodLink RL 149 yX5_odds ∈ tb_w := tb_in (List.mem_of_getElem? (i := 946) (by decide +kernel)) (by first | rfl | decide +kernel)
theorem tw_947 : Cond.instanceMethod yX5_odds ∈ tb_w := tb_in (List.mem_of_getElem? (i := 947) (by decide +kernel)) (by first | rfl | decide +kernel)
theorem tw_948 : Cond.selects RX5 yX5_odds yX5_odds ∈ tb_w := tb_in (List.mem_of_getElem? (i := 948) (by decide +kernel)) (by first | rfl | decide +kernel)
theorem vL_149 : mx_V RL mX5_odds 149 5 2 := ⟨tw_946, tw_947, tw_948, tw_53, tw_949, ⟨by decide +kernel, by decide +kernel, by decide +kernel⟩, by decide, by decide, _, rfl, rfl⟩
theorem tw_950 : Cond.constantLong RX5 196 (12) ∈ tb_w := tb_in (List.mem_of_getElem? (i := 950) (by decide +kernel)) (by first | rfl | decide +kernel)
set_option maxRecDepth 20000 in
theorem tw_954 : Cond.code yX5_weighs cX5_weighs 10 (some .long) ∈ tb_w := tb_in (List.mem_of_getElem? (i := 954) rfl) (by first | rfl | decide +kernel)
theorem tw_951 : Cond.methodLink RX5 198 yX5_weighs ∈ tb_w := tb_in (List.mem_of_getElem? (i := 951) (by decide +kernel)) (by first | rfl | decide +kernel)
theorem tw_953 : Cond.instanceMethod yX5_weighs ∈ tb_w := tb_in (List.mem_of_getElem? (i := 953) (by decide +kernel)) (by first | rfl | decide +kernel)
theorem tw_44 : Cond.selects RX5 yX5_weighs yX5_weighs ∈ tb_w := tb_in (List.mem_of_getElem? (i := 44) (by decide +kernel)) (by first | rfl | decide +kernel)
theorem vX5_198 : mx_V RX5 mX5_weighs 198 5 2 := ⟨tw_951, tw_953, tw_44, tw_53, tw_954, ⟨by decide +kernel, by decide +kernel, by decide +kernel⟩, by decide, by decide, _, rfl, rfl⟩
theorem tw_955 : Cond.constantLong RX5 202 (2985984) ∈ tb_w := tb_in (List.mem_of_getElem? (i := 955) (by decide +kernel)) (by first | rfl | decide +kernel)
set_option maxRecDepth 20000 in
theorem tw_959 : Cond.code yX5_tells cX5_tells 11 none ∈ tb_w := tb_in (List.mem_of_getElem? (i := 959) rfl) (by first | rfl | decide +kernel)
theorem tw_956 : Cond.methodLink RX5 204 yX5_tells ∈ tb_w := tb_in (List.mem_of_getElem? (i := 956) (by decide +kernel)) (by first | rfl | decide +kernel)
theorem tw_958 : Cond.instanceMethod yX5_tells ∈ tb_w := tb_in (List.mem_of_getElem? (i := 958) (by decide +kernel)) (by first | rfl | decide +kernel)
theorem tw_45 : Cond.selects RX5 yX5_tells yX5_tells ∈ tb_w := tb_in (List.mem_of_getElem? (i := 45) (by decide +kernel)) (by first | rfl | decide +kernel)
theorem vX5_204 : mx_V RX5 mX5_tells 204 5 2 := ⟨tw_956, tw_958, tw_45, tw_53, tw_959, ⟨by decide +kernel, by decide +kernel, by decide +kernel⟩, by decide, by decide, _, rfl, rfl⟩
set_option maxRecDepth 20000 in
theorem tw_963 : Cond.code yX5_mid cX5_mid 2 (some .int) ∈ tb_w := tb_in (List.mem_of_getElem? (i := 963) rfl) (by first | rfl | decide +kernel)
theorem tw_960 : Cond.methodLink RL 153 yX5_mid ∈ tb_w := tb_in (List.mem_of_getElem? (i := 960) (by decide +kernel)) (by first | rfl | decide +kernel)
theorem tw_961 : Cond.instanceMethod yX5_mid ∈ tb_w := tb_in (List.mem_of_getElem? (i := 961) (by decide +kernel)) (by first | rfl | decide +kernel)
theorem tw_962 : Cond.selects RX5 yX5_mid yX5_mid ∈ tb_w := tb_in (List.mem_of_getElem? (i := 962) (by decide +kernel)) (by first | rfl | decide +kernel)
theorem vL_153 : mx_V RL mX5_mid 153 5 1 := ⟨tw_960, tw_961, tw_962, tw_53, tw_963, ⟨by decide +kernel, by decide +kernel, by decide +kernel⟩, by decide, by decide, _, rfl, rfl⟩
set_option maxRecDepth 20000 in
theorem tw_967 : Cond.code yX5_lots cX5_lots 7 (some .int) ∈ tb_w := tb_in (List.mem_of_getElem? (i := 967) rfl) (by first | rfl | decide +kernel)
theorem tw_964 : Cond.methodLink RL 157 yX5_lots ∈ tb_w := tb_in (List.mem_of_getElem? (i := 964) (by decide +kernel)) (by first | rfl | decide +kernel)
theorem tw_965 : Cond.instanceMethod yX5_lots ∈ tb_w := tb_in (List.mem_of_getElem? (i := 965) (by decide +kernel)) (by first | rfl | decide +kernel)
theorem tw_966 : Cond.selects RX5 yX5_lots yX5_lots ∈ tb_w := tb_in (List.mem_of_getElem? (i := 966) (by decide +kernel)) (by first | rfl | decide +kernel)
theorem vL_157 : mx_V RL mX5_lots 157 5 2 := ⟨tw_964, tw_965, tw_966, tw_53, tw_967, ⟨by decide +kernel, by decide +kernel, by decide +kernel⟩, by decide, by decide, _, rfl, rfl⟩
theorem tw_968 : Cond.constantLong RX5 208 (2147483646) ∈ tb_w := tb_in (List.mem_of_getElem? (i := 968) (by decide +kernel)) (by first | rfl | decide +kernel)
theorem tw_969 : Cond.constantLong RX5 210 (48271) ∈ tb_w := tb_in (List.mem_of_getElem? (i := 969) (by decide +kernel)) (by first | rfl | decide +kernel)
theorem tw_970 : Cond.constantLong RX5 212 (2147483647) ∈ tb_w := tb_in (List.mem_of_getElem? (i := 970) (by decide +kernel)) (by first | rfl | decide +kernel)
set_option maxRecDepth 20000 in
theorem tw_974 : Cond.code yX5_asked cX5_asked 1 (some .int) ∈ tb_w := tb_in (List.mem_of_getElem? (i := 974) rfl) (by first | rfl | decide +kernel)
theorem tw_971 : Cond.methodLink RL 161 yX5_asked ∈ tb_w := tb_in (List.mem_of_getElem? (i := 971) (by decide +kernel)) (by first | rfl | decide +kernel)
theorem tw_972 : Cond.instanceMethod yX5_asked ∈ tb_w := tb_in (List.mem_of_getElem? (i := 972) (by decide +kernel)) (by first | rfl | decide +kernel)
theorem tw_973 : Cond.selects RX5 yX5_asked yX5_asked ∈ tb_w := tb_in (List.mem_of_getElem? (i := 973) (by decide +kernel)) (by first | rfl | decide +kernel)
theorem vL_161 : mx_V RL mX5_asked 161 5 0 := ⟨tw_971, tw_972, tw_973, tw_53, tw_974, ⟨by decide +kernel, by decide +kernel, by decide +kernel⟩, by decide, by decide, _, rfl, rfl⟩
set_option maxRecDepth 20000 in
theorem tw_978 : Cond.code yX5_upper cX5_upper 1 (some .long) ∈ tb_w := tb_in (List.mem_of_getElem? (i := 978) rfl) (by first | rfl | decide +kernel)
theorem tw_975 : Cond.methodLink RL 166 yX5_upper ∈ tb_w := tb_in (List.mem_of_getElem? (i := 975) (by decide +kernel)) (by first | rfl | decide +kernel)
theorem tw_976 : Cond.instanceMethod yX5_upper ∈ tb_w := tb_in (List.mem_of_getElem? (i := 976) (by decide +kernel)) (by first | rfl | decide +kernel)
theorem tw_977 : Cond.selects RX5 yX5_upper yX5_upper ∈ tb_w := tb_in (List.mem_of_getElem? (i := 977) (by decide +kernel)) (by first | rfl | decide +kernel)
theorem vL_166 : mx_V RL mX5_upper 166 5 0 := ⟨tw_975, tw_976, tw_977, tw_53, tw_978, ⟨by decide +kernel, by decide +kernel, by decide +kernel⟩, by decide, by decide, _, rfl, rfl⟩
set_option maxRecDepth 20000 in
theorem tw_982 : Cond.code yX5_lower cX5_lower 1 (some .long) ∈ tb_w := tb_in (List.mem_of_getElem? (i := 982) rfl) (by first | rfl | decide +kernel)
theorem tw_979 : Cond.methodLink RL 170 yX5_lower ∈ tb_w := tb_in (List.mem_of_getElem? (i := 979) (by decide +kernel)) (by first | rfl | decide +kernel)
theorem tw_980 : Cond.instanceMethod yX5_lower ∈ tb_w := tb_in (List.mem_of_getElem? (i := 980) (by decide +kernel)) (by first | rfl | decide +kernel)
theorem tw_981 : Cond.selects RX5 yX5_lower yX5_lower ∈ tb_w := tb_in (List.mem_of_getElem? (i := 981) (by decide +kernel)) (by first | rfl | decide +kernel)
theorem vL_170 : mx_V RL mX5_lower 170 5 0 := ⟨tw_979, tw_980, tw_981, tw_53, tw_982, ⟨by decide +kernel, by decide +kernel, by decide +kernel⟩, by decide, by decide, _, rfl, rfl⟩
set_option maxRecDepth 20000 in
theorem tw_986 : Cond.code yX5_count cX5_count 3 (some .int) ∈ tb_w := tb_in (List.mem_of_getElem? (i := 986) rfl) (by first | rfl | decide +kernel)
theorem tw_983 : Cond.methodLink RL 174 yX5_count ∈ tb_w := tb_in (List.mem_of_getElem? (i := 983) (by decide +kernel)) (by first | rfl | decide +kernel)
theorem tw_984 : Cond.instanceMethod yX5_count ∈ tb_w := tb_in (List.mem_of_getElem? (i := 984) (by decide +kernel)) (by first | rfl | decide +kernel)
theorem tw_985 : Cond.selects RX5 yX5_count yX5_count ∈ tb_w := tb_in (List.mem_of_getElem? (i := 985) (by decide +kernel)) (by first | rfl | decide +kernel)
theorem vL_174 : mx_V RL mX5_count 174 5 1 := ⟨tw_983, tw_984, tw_985, tw_53, tw_986, ⟨by decide +kernel, by decide +kernel, by decide +kernel⟩, by decide, by decide, _, rfl, rfl⟩
set_option maxRecDepth 20000 in
theorem tw_990 : Cond.code yX5_manyOf cX5_manyOf 4 (some .int) ∈ tb_w := tb_in (List.mem_of_getElem? (i := 990) rfl) (by first | rfl | decide +kernel)
theorem tw_987 : Cond.methodLink RX5 214 yX5_manyOf ∈ tb_w := tb_in (List.mem_of_getElem? (i := 987) (by decide +kernel)) (by first | rfl | decide +kernel)
theorem tw_989 : Cond.instanceMethod yX5_manyOf ∈ tb_w := tb_in (List.mem_of_getElem? (i := 989) (by decide +kernel)) (by first | rfl | decide +kernel)
theorem tw_46 : Cond.selects RX5 yX5_manyOf yX5_manyOf ∈ tb_w := tb_in (List.mem_of_getElem? (i := 46) (by decide +kernel)) (by first | rfl | decide +kernel)
theorem vX5_214 : mx_V RX5 mX5_manyOf 214 5 1 := ⟨tw_987, tw_989, tw_46, tw_53, tw_990, ⟨by decide +kernel, by decide +kernel, by decide +kernel⟩, by decide, by decide, _, rfl, rfl⟩
set_option maxRecDepth 20000 in
theorem tw_994 : Cond.code yX5_finding cX5_finding 1 (some .int) ∈ tb_w := tb_in (List.mem_of_getElem? (i := 994) rfl) (by first | rfl | decide +kernel)
theorem tw_991 : Cond.methodLink RL 178 yX5_finding ∈ tb_w := tb_in (List.mem_of_getElem? (i := 991) (by decide +kernel)) (by first | rfl | decide +kernel)
theorem tw_992 : Cond.instanceMethod yX5_finding ∈ tb_w := tb_in (List.mem_of_getElem? (i := 992) (by decide +kernel)) (by first | rfl | decide +kernel)
theorem tw_993 : Cond.selects RX5 yX5_finding yX5_finding ∈ tb_w := tb_in (List.mem_of_getElem? (i := 993) (by decide +kernel)) (by first | rfl | decide +kernel)
theorem vL_178 : mx_V RL mX5_finding 178 5 0 := ⟨tw_991, tw_992, tw_993, tw_53, tw_994, ⟨by decide +kernel, by decide +kernel, by decide +kernel⟩, by decide, by decide, _, rfl, rfl⟩
set_option maxRecDepth 20000 in
theorem tw_998 : Cond.code yX5_findings cX5_findings 2 (some .int) ∈ tb_w := tb_in (List.mem_of_getElem? (i := 998) rfl) (by first | rfl | decide +kernel)
theorem tw_995 : Cond.methodLink RL 182 yX5_findings ∈ tb_w := tb_in (List.mem_of_getElem? (i := 995) (by decide +kernel)) (by first | rfl | decide +kernel)
theorem tw_996 : Cond.instanceMethod yX5_findings ∈ tb_w := tb_in (List.mem_of_getElem? (i := 996) (by decide +kernel)) (by first | rfl | decide +kernel)
theorem tw_997 : Cond.selects RX5 yX5_findings yX5_findings ∈ tb_w := tb_in (List.mem_of_getElem? (i := 997) (by decide +kernel)) (by first | rfl | decide +kernel)
theorem vL_182 : mx_V RL mX5_findings 182 5 1 := ⟨tw_995, tw_996, tw_997, tw_53, tw_998, ⟨by decide +kernel, by decide +kernel, by decide +kernel⟩, by decide, by decide, _, rfl, rfl⟩
set_option maxRecDepth 20000 in
theorem tw_1002 : Cond.code yX5_digest cX5_digest 5 (some .long) ∈ tb_w := tb_in (List.mem_of_getElem? (i := 1002) rfl) (by first | rfl | decide +kernel)
theorem tw_999 : Cond.methodLink RL 186 yX5_digest ∈ tb_w := tb_in (List.mem_of_getElem? (i := 999) (by decide +kernel)) (by first | rfl | decide +kernel)
theorem tw_1000 : Cond.instanceMethod yX5_digest ∈ tb_w := tb_in (List.mem_of_getElem? (i := 1000) (by decide +kernel)) (by first | rfl | decide +kernel)
theorem tw_1001 : Cond.selects RX5 yX5_digest yX5_digest ∈ tb_w := tb_in (List.mem_of_getElem? (i := 1001) (by decide +kernel)) (by first | rfl | decide +kernel)
theorem vL_186 : mx_V RL mX5_digest 186 5 0 := ⟨tw_999, tw_1000, tw_1001, tw_53, tw_1002, ⟨by decide +kernel, by decide +kernel, by decide +kernel⟩, by decide, by decide, _, rfl, rfl⟩
theorem tw_1003 : Cond.constantLong RX5 217 (17) ∈ tb_w := tb_in (List.mem_of_getElem? (i := 1003) (by decide +kernel)) (by first | rfl | decide +kernel)
theorem tw_1004 : Cond.constantLong RX5 219 (31) ∈ tb_w := tb_in (List.mem_of_getElem? (i := 1004) (by decide +kernel)) (by first | rfl | decide +kernel)
theorem tw_1005 : Cond.methodLink RX5 221 yX5_count ∈ tb_w := tb_in (List.mem_of_getElem? (i := 1005) (by decide +kernel)) (by first | rfl | decide +kernel)
theorem vX5_221 : mx_V RX5 mX5_count 221 5 1 := ⟨tw_1005, tw_984, tw_985, tw_53, tw_986, ⟨by decide +kernel, by decide +kernel, by decide +kernel⟩, by decide, by decide, _, rfl, rfl⟩
theorem tw_320 : Cond.static Lib.Math.max.name ∈ tb_w := tb_in (List.mem_of_getElem? (i := 320) (by decide +kernel)) (by first | rfl | decide +kernel)
theorem tw_55 : Cond.initialized "java/lang/Math" ∈ tb_w := tb_in (List.mem_of_getElem? (i := 55) (by decide +kernel)) (by first | rfl | decide +kernel)
set_option maxRecDepth 20000 in
theorem tw_321 : Cond.code Lib.Math.max.name Lib.Math.max.code 2 (some .int) ∈ tb_w := tb_in (List.mem_of_getElem? (i := 321) rfl) (by first | rfl | decide +kernel)
theorem tw_max : Cond.static Lib.Math.max.name ∈ tb_w ∧ Cond.initialized "java/lang/Math" ∈ tb_w ∧ Cond.code Lib.Math.max.name Lib.Math.max.code 2 (some .int) ∈ tb_w := ⟨tw_320, tw_55, tw_321⟩
theorem tw_323 : Cond.static Lib.Math.min.name ∈ tb_w := tb_in (List.mem_of_getElem? (i := 323) (by decide +kernel)) (by first | rfl | decide +kernel)
set_option maxRecDepth 20000 in
theorem tw_324 : Cond.code Lib.Math.min.name Lib.Math.min.code 2 (some .int) ∈ tb_w := tb_in (List.mem_of_getElem? (i := 324) rfl) (by first | rfl | decide +kernel)
theorem tw_min : Cond.static Lib.Math.min.name ∈ tb_w ∧ Cond.initialized "java/lang/Math" ∈ tb_w ∧ Cond.code Lib.Math.min.name Lib.Math.min.code 2 (some .int) ∈ tb_w := ⟨tw_323, tw_55, tw_324⟩
theorem tw_249 : Cond.native arraycopyName ∈ tb_w := tb_in (List.mem_of_getElem? (i := 249) (by decide +kernel)) (by first | rfl | decide +kernel)
theorem tw_248 : Cond.static arraycopyName ∈ tb_w := tb_in (List.mem_of_getElem? (i := 248) (by decide +kernel)) (by first | rfl | decide +kernel)
theorem tw_54 : Cond.initialized "java/lang/System" ∈ tb_w := tb_in (List.mem_of_getElem? (i := 54) (by decide +kernel)) (by first | rfl | decide +kernel)
theorem tw_acopy : Cond.native arraycopyName ∈ tb_w ∧ Cond.static arraycopyName ∈ tb_w ∧ Cond.initialized "java/lang/System" ∈ tb_w := ⟨tw_249, tw_248, tw_54⟩
