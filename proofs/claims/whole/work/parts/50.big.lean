abbrev oXl : List Nat := [1, 2, 3, 11, 12, 13, 4, 5, 17, 18, 6, 7, 14, 15, 16, 8, 9, 10, 20, 30, 21, 31, 22, 32, 23, 33, 24, 34, 25, 35, 40, 50, 41, 51, 42, 52, 43, 53, 60, 64, 68, 61, 65, 69, 62, 66, 70, 72, 73, 74, 75, 76]
abbrev hX0 : mh_H := mh_up (fun _ => mh_ob 99 []) 0 (mh_ob 4 [.null, .null, .null, .null, .null, .null, .null, .null, .null, .int 0, .long 0, .long 0, .int 0, .null])
set_option maxHeartbeats 4000000 in
set_option maxRecDepth 100000 in
theorem c_X4_init : Nm mX4_init [0] oXl 1075 2 [.ref 0] hX0 (fun h' => CP s_new h') := by
  refine Nm.of (L := [some (.ref 0), none]) rfl rfl (Nat.le_of_ble_eq_true rfl) rfl ?_
  refine nt_aload (pc := 0) dX4_init_0 rfl ?_
  refine nt_obj (pc := 1) tx_62 tx_63 tx_64 dX4_init_1 (by decide) ?_
  refine nt_aload (pc := 4) dX4_init_4 rfl ?_
  refine nt_bipush (pc := 5) (v := 6) dX4_init_5 (by decide) ?_
  refine nt_newq (pc := 7) (a := 1) (N := 6) (t := 2) (E := "LeatDays$Strip") tx_65 (by decide) rfl (by decide +kernel) dX4_init_7 (by decide) (by decide) (by decide) (Nat.le_of_ble_eq_true rfl) (Nat.le_of_ble_eq_true rfl) ?_
  refine nt_putF (pc := 10) (fs := [.null, .null, .null, .null, .null, .null, .null, .null, .null, .int 0, .long 0, .long 0, .int 0, .null]) (fs' := [.ref 1, .null, .null, .null, .null, .null, .null, .null, .null, .int 0, .long 0, .long 0, .int 0, .null]) nfX4_11 dX4_init_10 rfl (Nat.le_of_ble_eq_true rfl) rfl ?_
  refine nt_aload (pc := 13) dX4_init_13 rfl ?_
  refine nt_iconst (pc := 14) (v := 4) dX4_init_14 (by decide) ?_
  refine nt_newq (pc := 15) (a := 2) (N := 4) (t := 2) (E := "LeatDays$Strip") tx_65 (by decide) rfl (by decide +kernel) dX4_init_15 (by decide) (by decide) (by decide) (Nat.le_of_ble_eq_true rfl) (Nat.le_of_ble_eq_true rfl) ?_
  refine nt_putF (pc := 18) (fs := [.ref 1, .null, .null, .null, .null, .null, .null, .null, .null, .int 0, .long 0, .long 0, .int 0, .null]) (fs' := [.ref 1, .ref 2, .null, .null, .null, .null, .null, .null, .null, .int 0, .long 0, .long 0, .int 0, .null]) nfX4_15 dX4_init_18 rfl (Nat.le_of_ble_eq_true rfl) rfl ?_
  refine nt_aload (pc := 21) dX4_init_21 rfl ?_
  refine nt_new (pc := 22) (a := 3) nwX4_18 dX4_init_22 (Nat.le_of_ble_eq_true rfl) (Nat.le_of_ble_eq_true rfl) ?_
  refine nt_dup (pc := 25) dX4_init_25 rfl ?_
  refine nt_call3 (pc := 26) niX4_20 dX4_init_26 (d' := 1) (by decide) (Nat.le_of_ble_eq_true rfl) (c_X0_init _ _ 3 11 12 13 rfl (by decide) (by decide) (by decide) (by decide) (by decide) (by decide)) (Nat.le_of_ble_eq_true rfl) (Nat.le_of_ble_eq_true rfl) ?_
  refine nt_putF (pc := 29) (fs := [.ref 1, .ref 2, .null, .null, .null, .null, .null, .null, .null, .int 0, .long 0, .long 0, .int 0, .null]) (fs' := [.ref 1, .ref 2, .ref 3, .null, .null, .null, .null, .null, .null, .int 0, .long 0, .long 0, .int 0, .null]) nfX4_21 dX4_init_29 rfl (Nat.le_of_ble_eq_true rfl) rfl ?_
  refine nt_aload (pc := 32) dX4_init_32 rfl ?_
  refine nt_new (pc := 33) (a := 4) nwX4_25 dX4_init_33 (Nat.le_of_ble_eq_true rfl) (Nat.le_of_ble_eq_true rfl) ?_
  refine nt_dup (pc := 36) dX4_init_36 rfl ?_
  refine nt_call0 (pc := 37) niX4_27 dX4_init_37 (d' := 1) (by decide) (Nat.le_of_ble_eq_true rfl) (c_X3_init _ _ 4 rfl ) (Nat.le_of_ble_eq_true rfl) (Nat.le_of_ble_eq_true rfl) ?_
  refine nt_putF (pc := 40) (fs := [.ref 1, .ref 2, .ref 3, .null, .null, .null, .null, .null, .null, .int 0, .long 0, .long 0, .int 0, .null]) (fs' := [.ref 1, .ref 2, .ref 3, .ref 4, .null, .null, .null, .null, .null, .int 0, .long 0, .long 0, .int 0, .null]) nfX4_28 dX4_init_40 rfl (Nat.le_of_ble_eq_true rfl) rfl ?_
  refine nt_aload (pc := 43) dX4_init_43 rfl ?_
  refine nt_new (pc := 44) (a := 5) nwX4_32 dX4_init_44 (Nat.le_of_ble_eq_true rfl) (Nat.le_of_ble_eq_true rfl) ?_
  refine nt_dup (pc := 47) dX4_init_47 rfl ?_
  refine nt_call2 (pc := 48) niX4_34 dX4_init_48 (d' := 1) (by decide) (Nat.le_of_ble_eq_true rfl) (c_X1_init _ _ 5 17 18 rfl (by decide) (by decide) (by decide)) (Nat.le_of_ble_eq_true rfl) (Nat.le_of_ble_eq_true rfl) ?_
  refine nt_putF (pc := 51) (fs := [.ref 1, .ref 2, .ref 3, .ref 4, .null, .null, .null, .null, .null, .int 0, .long 0, .long 0, .int 0, .null]) (fs' := [.ref 1, .ref 2, .ref 3, .ref 4, .ref 5, .null, .null, .null, .null, .int 0, .long 0, .long 0, .int 0, .null]) nfX4_35 dX4_init_51 rfl (Nat.le_of_ble_eq_true rfl) rfl ?_
  refine nt_aload (pc := 54) dX4_init_54 rfl ?_
  refine nt_iconst (pc := 55) (v := 3) dX4_init_55 (by decide) ?_
  refine nt_newq (pc := 56) (a := 6) (N := 3) (t := 3) (E := "LeatDays$Deeds") tx_122 (by decide) rfl (by decide +kernel) dX4_init_56 (by decide) (by decide) (by decide) (Nat.le_of_ble_eq_true rfl) (Nat.le_of_ble_eq_true rfl) ?_
  refine nt_putF (pc := 59) (fs := [.ref 1, .ref 2, .ref 3, .ref 4, .ref 5, .null, .null, .null, .null, .int 0, .long 0, .long 0, .int 0, .null]) (fs' := [.ref 1, .ref 2, .ref 3, .ref 4, .ref 5, .ref 6, .null, .null, .null, .int 0, .long 0, .long 0, .int 0, .null]) nfX4_39 dX4_init_59 rfl (Nat.le_of_ble_eq_true rfl) rfl ?_
  refine nt_aload (pc := 62) dX4_init_62 rfl ?_
  refine nt_new (pc := 63) (a := 7) nwX4_18 dX4_init_63 (Nat.le_of_ble_eq_true rfl) (Nat.le_of_ble_eq_true rfl) ?_
  refine nt_dup (pc := 66) dX4_init_66 rfl ?_
  refine nt_call3 (pc := 67) niX4_20 dX4_init_67 (d' := 1) (by decide) (Nat.le_of_ble_eq_true rfl) (c_X0_init _ _ 7 14 15 16 rfl (by decide) (by decide) (by decide) (by decide) (by decide) (by decide)) (Nat.le_of_ble_eq_true rfl) (Nat.le_of_ble_eq_true rfl) ?_
  refine nt_putF (pc := 70) (fs := [.ref 1, .ref 2, .ref 3, .ref 4, .ref 5, .ref 6, .null, .null, .null, .int 0, .long 0, .long 0, .int 0, .null]) (fs' := [.ref 1, .ref 2, .ref 3, .ref 4, .ref 5, .ref 6, .ref 7, .null, .null, .int 0, .long 0, .long 0, .int 0, .null]) nfX4_43 dX4_init_70 rfl (Nat.le_of_ble_eq_true rfl) rfl ?_
  refine nt_aload (pc := 73) dX4_init_73 rfl ?_
  refine nt_new (pc := 74) (a := 8) nwX4_25 dX4_init_74 (Nat.le_of_ble_eq_true rfl) (Nat.le_of_ble_eq_true rfl) ?_
  refine nt_dup (pc := 77) dX4_init_77 rfl ?_
  refine nt_call0 (pc := 78) niX4_27 dX4_init_78 (d' := 1) (by decide) (Nat.le_of_ble_eq_true rfl) (c_X3_init _ _ 8 rfl ) (Nat.le_of_ble_eq_true rfl) (Nat.le_of_ble_eq_true rfl) ?_
  refine nt_putF (pc := 81) (fs := [.ref 1, .ref 2, .ref 3, .ref 4, .ref 5, .ref 6, .ref 7, .null, .null, .int 0, .long 0, .long 0, .int 0, .null]) (fs' := [.ref 1, .ref 2, .ref 3, .ref 4, .ref 5, .ref 6, .ref 7, .ref 8, .null, .int 0, .long 0, .long 0, .int 0, .null]) nfX4_46 dX4_init_81 rfl (Nat.le_of_ble_eq_true rfl) rfl ?_
  refine nt_aload (pc := 84) dX4_init_84 rfl ?_
  refine nt_iconst (pc := 85) (v := 5) dX4_init_85 (by decide) ?_
  refine nt_newq (pc := 86) (a := 9) (N := 5) (t := 4) (E := "LeatDays$Wheel") tx_95 (by decide) rfl (by decide +kernel) dX4_init_86 (by decide) (by decide) (by decide) (Nat.le_of_ble_eq_true rfl) (Nat.le_of_ble_eq_true rfl) ?_
  refine nt_putF (pc := 89) (fs := [.ref 1, .ref 2, .ref 3, .ref 4, .ref 5, .ref 6, .ref 7, .ref 8, .null, .int 0, .long 0, .long 0, .int 0, .null]) (fs' := [.ref 1, .ref 2, .ref 3, .ref 4, .ref 5, .ref 6, .ref 7, .ref 8, .ref 9, .int 0, .long 0, .long 0, .int 0, .null]) nfX4_49 dX4_init_89 rfl (Nat.le_of_ble_eq_true rfl) rfl ?_
  refine nt_aload (pc := 92) dX4_init_92 rfl ?_
  refine nt_iconst (pc := 93) (v := 0) dX4_init_93 (by decide) ?_
  refine nt_put (pc := 94) (fs := [.ref 1, .ref 2, .ref 3, .ref 4, .ref 5, .ref 6, .ref 7, .ref 8, .ref 9, .int 0, .long 0, .long 0, .int 0, .null]) (fs' := [.ref 1, .ref 2, .ref 3, .ref 4, .ref 5, .ref 6, .ref 7, .ref 8, .ref 9, .int 0, .long 0, .long 0, .int 0, .null]) gX4_53 dX4_init_94 rfl rfl rfl (fun _ => rfl) (Nat.le_of_ble_eq_true rfl) rfl ?_
  refine nt_aload (pc := 97) dX4_init_97 rfl ?_
  refine nt_lconst (pc := 98) (v := 0) dX4_init_98 (by decide) ?_
  refine nt_put (pc := 99) (fs := [.ref 1, .ref 2, .ref 3, .ref 4, .ref 5, .ref 6, .ref 7, .ref 8, .ref 9, .int 0, .long 0, .long 0, .int 0, .null]) (fs' := [.ref 1, .ref 2, .ref 3, .ref 4, .ref 5, .ref 6, .ref 7, .ref 8, .ref 9, .int 0, .long 0, .long 0, .int 0, .null]) gX4_57 dX4_init_99 rfl rfl rfl (fun _ => rfl) (Nat.le_of_ble_eq_true rfl) rfl ?_
  refine nt_aload (pc := 102) dX4_init_102 rfl ?_
  refine nt_lconst (pc := 103) (v := 1) dX4_init_103 (by decide) ?_
  refine nt_put (pc := 104) (fs := [.ref 1, .ref 2, .ref 3, .ref 4, .ref 5, .ref 6, .ref 7, .ref 8, .ref 9, .int 0, .long 0, .long 0, .int 0, .null]) (fs' := [.ref 1, .ref 2, .ref 3, .ref 4, .ref 5, .ref 6, .ref 7, .ref 8, .ref 9, .int 0, .long 0, .long 1, .int 0, .null]) gX4_61 dX4_init_104 rfl rfl rfl (fun _ => rfl) (Nat.le_of_ble_eq_true rfl) rfl ?_
  refine nt_aload (pc := 107) dX4_init_107 rfl ?_
  refine nt_iconst (pc := 108) (v := 0) dX4_init_108 (by decide) ?_
  refine nt_put (pc := 109) (fs := [.ref 1, .ref 2, .ref 3, .ref 4, .ref 5, .ref 6, .ref 7, .ref 8, .ref 9, .int 0, .long 0, .long 1, .int 0, .null]) (fs' := [.ref 1, .ref 2, .ref 3, .ref 4, .ref 5, .ref 6, .ref 7, .ref 8, .ref 9, .int 0, .long 0, .long 1, .int 0, .null]) gX4_64 dX4_init_109 rfl rfl rfl (fun _ => rfl) (Nat.le_of_ble_eq_true rfl) rfl ?_
  refine nt_aload (pc := 112) dX4_init_112 rfl ?_
  refine nt_bipush (pc := 113) (v := 6) dX4_init_113 (by decide) ?_
  refine nt_newi (pc := 115) (a := 10) (N := 6) tx_94 dX4_init_115 (by decide) (by decide) (by decide) (Nat.le_of_ble_eq_true rfl) (Nat.le_of_ble_eq_true rfl) ?_
  refine nt_putF (pc := 117) (fs := [.ref 1, .ref 2, .ref 3, .ref 4, .ref 5, .ref 6, .ref 7, .ref 8, .ref 9, .int 0, .long 0, .long 1, .int 0, .null]) (fs' := [.ref 1, .ref 2, .ref 3, .ref 4, .ref 5, .ref 6, .ref 7, .ref 8, .ref 9, .int 0, .long 0, .long 1, .int 0, .ref 10]) nfX4_67 dX4_init_117 rfl (Nat.le_of_ble_eq_true rfl) rfl ?_
  refine nt_iconst (pc := 120) (v := 0) dX4_init_120 (by decide) ?_
  refine nt_istore1 (pc := 121) dX4_init_121 rfl (by decide) ?_
  refine nt_iload (pc := 122) dX4_init_122 rfl ?_
  refine nt_bipush (pc := 123) (v := 6) dX4_init_123 (by decide) ?_
  refine nt_geF (pc := 125) (tgt := 147) dX4_init_125 (by decide) (by decide) ?_
  refine nt_aload (pc := 128) dX4_init_128 rfl ?_
  refine nt_getf (pc := 129) (fs := [.ref 1, .ref 2, .ref 3, .ref 4, .ref 5, .ref 6, .ref 7, .ref 8, .ref 9, .int 0, .long 0, .long 1, .int 0, .ref 10]) fX4_11 dX4_init_129 rfl rfl ?_
  refine nt_iload (pc := 132) dX4_init_132 rfl ?_
  refine nt_new (pc := 133) (a := 20) nwX4_9 dX4_init_133 (Nat.le_of_ble_eq_true rfl) (Nat.le_of_ble_eq_true rfl) ?_
  refine nt_dup (pc := 136) dX4_init_136 rfl ?_
  refine nt_call1 (pc := 137) niX4_71 dX4_init_137 (d' := 1) (by decide) (Nat.le_of_ble_eq_true rfl) (c_X2_init _ _ 20 30 rfl (by decide)) (Nat.le_of_ble_eq_true rfl) (Nat.le_of_ble_eq_true rfl) ?_
  refine nt_aast (pc := 140) (i0 := 0) (ci := 2) dX4_init_140 rfl rfl (by decide) rfl rfl (by decide) (by unfold vp_in; decide) (by decide) ?_
  refine nt_inc1 (pc := 141) (v := 1) dX4_init_141 rfl (by decide) (by decide) ?_
  refine nt_goto (pc := 144) (tgt := 122) dX4_init_144 (by decide) ?_
  refine nt_iload (pc := 122) dX4_init_122 rfl ?_
  refine nt_bipush (pc := 123) (v := 6) dX4_init_123 (by decide) ?_
  refine nt_geF (pc := 125) (tgt := 147) dX4_init_125 (by decide) (by decide) ?_
  refine nt_aload (pc := 128) dX4_init_128 rfl ?_
  refine nt_getf (pc := 129) (fs := [.ref 1, .ref 2, .ref 3, .ref 4, .ref 5, .ref 6, .ref 7, .ref 8, .ref 9, .int 0, .long 0, .long 1, .int 0, .ref 10]) fX4_11 dX4_init_129 rfl rfl ?_
  refine nt_iload (pc := 132) dX4_init_132 rfl ?_
  refine nt_new (pc := 133) (a := 21) nwX4_9 dX4_init_133 (Nat.le_of_ble_eq_true rfl) (Nat.le_of_ble_eq_true rfl) ?_
  refine nt_dup (pc := 136) dX4_init_136 rfl ?_
  refine nt_call1 (pc := 137) niX4_71 dX4_init_137 (d' := 1) (by decide) (Nat.le_of_ble_eq_true rfl) (c_X2_init _ _ 21 31 rfl (by decide)) (Nat.le_of_ble_eq_true rfl) (Nat.le_of_ble_eq_true rfl) ?_
  refine nt_aast (pc := 140) (i0 := 1) (ci := 2) dX4_init_140 rfl rfl (by decide) rfl rfl (by decide) (by unfold vp_in; decide) (by decide) ?_
  refine nt_inc1 (pc := 141) (v := 2) dX4_init_141 rfl (by decide) (by decide) ?_
  refine nt_goto (pc := 144) (tgt := 122) dX4_init_144 (by decide) ?_
  refine nt_iload (pc := 122) dX4_init_122 rfl ?_
  refine nt_bipush (pc := 123) (v := 6) dX4_init_123 (by decide) ?_
  refine nt_geF (pc := 125) (tgt := 147) dX4_init_125 (by decide) (by decide) ?_
  refine nt_aload (pc := 128) dX4_init_128 rfl ?_
  refine nt_getf (pc := 129) (fs := [.ref 1, .ref 2, .ref 3, .ref 4, .ref 5, .ref 6, .ref 7, .ref 8, .ref 9, .int 0, .long 0, .long 1, .int 0, .ref 10]) fX4_11 dX4_init_129 rfl rfl ?_
  refine nt_iload (pc := 132) dX4_init_132 rfl ?_
  refine nt_new (pc := 133) (a := 22) nwX4_9 dX4_init_133 (Nat.le_of_ble_eq_true rfl) (Nat.le_of_ble_eq_true rfl) ?_
  refine nt_dup (pc := 136) dX4_init_136 rfl ?_
  refine nt_call1 (pc := 137) niX4_71 dX4_init_137 (d' := 1) (by decide) (Nat.le_of_ble_eq_true rfl) (c_X2_init _ _ 22 32 rfl (by decide)) (Nat.le_of_ble_eq_true rfl) (Nat.le_of_ble_eq_true rfl) ?_
  refine nt_aast (pc := 140) (i0 := 2) (ci := 2) dX4_init_140 rfl rfl (by decide) rfl rfl (by decide) (by unfold vp_in; decide) (by decide) ?_
  refine nt_inc1 (pc := 141) (v := 3) dX4_init_141 rfl (by decide) (by decide) ?_
  refine nt_goto (pc := 144) (tgt := 122) dX4_init_144 (by decide) ?_
  refine nt_iload (pc := 122) dX4_init_122 rfl ?_
  refine nt_bipush (pc := 123) (v := 6) dX4_init_123 (by decide) ?_
  refine nt_geF (pc := 125) (tgt := 147) dX4_init_125 (by decide) (by decide) ?_
  refine nt_aload (pc := 128) dX4_init_128 rfl ?_
  refine nt_getf (pc := 129) (fs := [.ref 1, .ref 2, .ref 3, .ref 4, .ref 5, .ref 6, .ref 7, .ref 8, .ref 9, .int 0, .long 0, .long 1, .int 0, .ref 10]) fX4_11 dX4_init_129 rfl rfl ?_
  refine nt_iload (pc := 132) dX4_init_132 rfl ?_
  refine nt_new (pc := 133) (a := 23) nwX4_9 dX4_init_133 (Nat.le_of_ble_eq_true rfl) (Nat.le_of_ble_eq_true rfl) ?_
  refine nt_dup (pc := 136) dX4_init_136 rfl ?_
  refine nt_call1 (pc := 137) niX4_71 dX4_init_137 (d' := 1) (by decide) (Nat.le_of_ble_eq_true rfl) (c_X2_init _ _ 23 33 rfl (by decide)) (Nat.le_of_ble_eq_true rfl) (Nat.le_of_ble_eq_true rfl) ?_
  refine nt_aast (pc := 140) (i0 := 3) (ci := 2) dX4_init_140 rfl rfl (by decide) rfl rfl (by decide) (by unfold vp_in; decide) (by decide) ?_
  refine nt_inc1 (pc := 141) (v := 4) dX4_init_141 rfl (by decide) (by decide) ?_
  refine nt_goto (pc := 144) (tgt := 122) dX4_init_144 (by decide) ?_
  refine nt_iload (pc := 122) dX4_init_122 rfl ?_
  refine nt_bipush (pc := 123) (v := 6) dX4_init_123 (by decide) ?_
  refine nt_geF (pc := 125) (tgt := 147) dX4_init_125 (by decide) (by decide) ?_
  refine nt_aload (pc := 128) dX4_init_128 rfl ?_
  refine nt_getf (pc := 129) (fs := [.ref 1, .ref 2, .ref 3, .ref 4, .ref 5, .ref 6, .ref 7, .ref 8, .ref 9, .int 0, .long 0, .long 1, .int 0, .ref 10]) fX4_11 dX4_init_129 rfl rfl ?_
  refine nt_iload (pc := 132) dX4_init_132 rfl ?_
  refine nt_new (pc := 133) (a := 24) nwX4_9 dX4_init_133 (Nat.le_of_ble_eq_true rfl) (Nat.le_of_ble_eq_true rfl) ?_
  refine nt_dup (pc := 136) dX4_init_136 rfl ?_
  refine nt_call1 (pc := 137) niX4_71 dX4_init_137 (d' := 1) (by decide) (Nat.le_of_ble_eq_true rfl) (c_X2_init _ _ 24 34 rfl (by decide)) (Nat.le_of_ble_eq_true rfl) (Nat.le_of_ble_eq_true rfl) ?_
  refine nt_aast (pc := 140) (i0 := 4) (ci := 2) dX4_init_140 rfl rfl (by decide) rfl rfl (by decide) (by unfold vp_in; decide) (by decide) ?_
  refine nt_inc1 (pc := 141) (v := 5) dX4_init_141 rfl (by decide) (by decide) ?_
  refine nt_goto (pc := 144) (tgt := 122) dX4_init_144 (by decide) ?_
  refine nt_iload (pc := 122) dX4_init_122 rfl ?_
  refine nt_bipush (pc := 123) (v := 6) dX4_init_123 (by decide) ?_
  refine nt_geF (pc := 125) (tgt := 147) dX4_init_125 (by decide) (by decide) ?_
  refine nt_aload (pc := 128) dX4_init_128 rfl ?_
  refine nt_getf (pc := 129) (fs := [.ref 1, .ref 2, .ref 3, .ref 4, .ref 5, .ref 6, .ref 7, .ref 8, .ref 9, .int 0, .long 0, .long 1, .int 0, .ref 10]) fX4_11 dX4_init_129 rfl rfl ?_
  refine nt_iload (pc := 132) dX4_init_132 rfl ?_
  refine nt_new (pc := 133) (a := 25) nwX4_9 dX4_init_133 (Nat.le_of_ble_eq_true rfl) (Nat.le_of_ble_eq_true rfl) ?_
  refine nt_dup (pc := 136) dX4_init_136 rfl ?_
  refine nt_call1 (pc := 137) niX4_71 dX4_init_137 (d' := 1) (by decide) (Nat.le_of_ble_eq_true rfl) (c_X2_init _ _ 25 35 rfl (by decide)) (Nat.le_of_ble_eq_true rfl) (Nat.le_of_ble_eq_true rfl) ?_
  refine nt_aast (pc := 140) (i0 := 5) (ci := 2) dX4_init_140 rfl rfl (by decide) rfl rfl (by decide) (by unfold vp_in; decide) (by decide) ?_
  refine nt_inc1 (pc := 141) (v := 6) dX4_init_141 rfl (by decide) (by decide) ?_
  refine nt_goto (pc := 144) (tgt := 122) dX4_init_144 (by decide) ?_
  refine nt_iload (pc := 122) dX4_init_122 rfl ?_
  refine nt_bipush (pc := 123) (v := 6) dX4_init_123 (by decide) ?_
  refine nt_geT (pc := 125) (tgt := 147) dX4_init_125 (by decide) (by decide) ?_
  refine nt_iconst (pc := 147) (v := 0) dX4_init_147 (by decide) ?_
  refine nt_istore1 (pc := 148) dX4_init_148 rfl (by decide) ?_
  refine nt_iload (pc := 149) dX4_init_149 rfl ?_
  refine nt_iconst (pc := 150) (v := 4) dX4_init_150 (by decide) ?_
  refine nt_geF (pc := 151) (tgt := 173) dX4_init_151 (by decide) (by decide) ?_
  refine nt_aload (pc := 154) dX4_init_154 rfl ?_
  refine nt_getf (pc := 155) (fs := [.ref 1, .ref 2, .ref 3, .ref 4, .ref 5, .ref 6, .ref 7, .ref 8, .ref 9, .int 0, .long 0, .long 1, .int 0, .ref 10]) fX4_15 dX4_init_155 rfl rfl ?_
  refine nt_iload (pc := 158) dX4_init_158 rfl ?_
  refine nt_new (pc := 159) (a := 40) nwX4_9 dX4_init_159 (Nat.le_of_ble_eq_true rfl) (Nat.le_of_ble_eq_true rfl) ?_
  refine nt_dup (pc := 162) dX4_init_162 rfl ?_
  refine nt_call1 (pc := 163) niX4_71 dX4_init_163 (d' := 1) (by decide) (Nat.le_of_ble_eq_true rfl) (c_X2_init _ _ 40 50 rfl (by decide)) (Nat.le_of_ble_eq_true rfl) (Nat.le_of_ble_eq_true rfl) ?_
  refine nt_aast (pc := 166) (i0 := 0) (ci := 2) dX4_init_166 rfl rfl (by decide) rfl rfl (by decide) (by unfold vp_in; decide) (by decide) ?_
  refine nt_inc1 (pc := 167) (v := 1) dX4_init_167 rfl (by decide) (by decide) ?_
  refine nt_goto (pc := 170) (tgt := 149) dX4_init_170 (by decide) ?_
  refine nt_iload (pc := 149) dX4_init_149 rfl ?_
  refine nt_iconst (pc := 150) (v := 4) dX4_init_150 (by decide) ?_
  refine nt_geF (pc := 151) (tgt := 173) dX4_init_151 (by decide) (by decide) ?_
  refine nt_aload (pc := 154) dX4_init_154 rfl ?_
  refine nt_getf (pc := 155) (fs := [.ref 1, .ref 2, .ref 3, .ref 4, .ref 5, .ref 6, .ref 7, .ref 8, .ref 9, .int 0, .long 0, .long 1, .int 0, .ref 10]) fX4_15 dX4_init_155 rfl rfl ?_
  refine nt_iload (pc := 158) dX4_init_158 rfl ?_
  refine nt_new (pc := 159) (a := 41) nwX4_9 dX4_init_159 (Nat.le_of_ble_eq_true rfl) (Nat.le_of_ble_eq_true rfl) ?_
  refine nt_dup (pc := 162) dX4_init_162 rfl ?_
  refine nt_call1 (pc := 163) niX4_71 dX4_init_163 (d' := 1) (by decide) (Nat.le_of_ble_eq_true rfl) (c_X2_init _ _ 41 51 rfl (by decide)) (Nat.le_of_ble_eq_true rfl) (Nat.le_of_ble_eq_true rfl) ?_
  refine nt_aast (pc := 166) (i0 := 1) (ci := 2) dX4_init_166 rfl rfl (by decide) rfl rfl (by decide) (by unfold vp_in; decide) (by decide) ?_
  refine nt_inc1 (pc := 167) (v := 2) dX4_init_167 rfl (by decide) (by decide) ?_
  refine nt_goto (pc := 170) (tgt := 149) dX4_init_170 (by decide) ?_
  refine nt_iload (pc := 149) dX4_init_149 rfl ?_
  refine nt_iconst (pc := 150) (v := 4) dX4_init_150 (by decide) ?_
  refine nt_geF (pc := 151) (tgt := 173) dX4_init_151 (by decide) (by decide) ?_
  refine nt_aload (pc := 154) dX4_init_154 rfl ?_
  refine nt_getf (pc := 155) (fs := [.ref 1, .ref 2, .ref 3, .ref 4, .ref 5, .ref 6, .ref 7, .ref 8, .ref 9, .int 0, .long 0, .long 1, .int 0, .ref 10]) fX4_15 dX4_init_155 rfl rfl ?_
  refine nt_iload (pc := 158) dX4_init_158 rfl ?_
  refine nt_new (pc := 159) (a := 42) nwX4_9 dX4_init_159 (Nat.le_of_ble_eq_true rfl) (Nat.le_of_ble_eq_true rfl) ?_
  refine nt_dup (pc := 162) dX4_init_162 rfl ?_
  refine nt_call1 (pc := 163) niX4_71 dX4_init_163 (d' := 1) (by decide) (Nat.le_of_ble_eq_true rfl) (c_X2_init _ _ 42 52 rfl (by decide)) (Nat.le_of_ble_eq_true rfl) (Nat.le_of_ble_eq_true rfl) ?_
  refine nt_aast (pc := 166) (i0 := 2) (ci := 2) dX4_init_166 rfl rfl (by decide) rfl rfl (by decide) (by unfold vp_in; decide) (by decide) ?_
  refine nt_inc1 (pc := 167) (v := 3) dX4_init_167 rfl (by decide) (by decide) ?_
  refine nt_goto (pc := 170) (tgt := 149) dX4_init_170 (by decide) ?_
  refine nt_iload (pc := 149) dX4_init_149 rfl ?_
  refine nt_iconst (pc := 150) (v := 4) dX4_init_150 (by decide) ?_
  refine nt_geF (pc := 151) (tgt := 173) dX4_init_151 (by decide) (by decide) ?_
  refine nt_aload (pc := 154) dX4_init_154 rfl ?_
  refine nt_getf (pc := 155) (fs := [.ref 1, .ref 2, .ref 3, .ref 4, .ref 5, .ref 6, .ref 7, .ref 8, .ref 9, .int 0, .long 0, .long 1, .int 0, .ref 10]) fX4_15 dX4_init_155 rfl rfl ?_
  refine nt_iload (pc := 158) dX4_init_158 rfl ?_
  refine nt_new (pc := 159) (a := 43) nwX4_9 dX4_init_159 (Nat.le_of_ble_eq_true rfl) (Nat.le_of_ble_eq_true rfl) ?_
  refine nt_dup (pc := 162) dX4_init_162 rfl ?_
  refine nt_call1 (pc := 163) niX4_71 dX4_init_163 (d' := 1) (by decide) (Nat.le_of_ble_eq_true rfl) (c_X2_init _ _ 43 53 rfl (by decide)) (Nat.le_of_ble_eq_true rfl) (Nat.le_of_ble_eq_true rfl) ?_
  refine nt_aast (pc := 166) (i0 := 3) (ci := 2) dX4_init_166 rfl rfl (by decide) rfl rfl (by decide) (by unfold vp_in; decide) (by decide) ?_
  refine nt_inc1 (pc := 167) (v := 4) dX4_init_167 rfl (by decide) (by decide) ?_
  refine nt_goto (pc := 170) (tgt := 149) dX4_init_170 (by decide) ?_
  refine nt_iload (pc := 149) dX4_init_149 rfl ?_
  refine nt_iconst (pc := 150) (v := 4) dX4_init_150 (by decide) ?_
  refine nt_geT (pc := 151) (tgt := 173) dX4_init_151 (by decide) (by decide) ?_
  refine nt_iconst (pc := 173) (v := 0) dX4_init_173 (by decide) ?_
  refine nt_istore1 (pc := 174) dX4_init_174 rfl (by decide) ?_
  refine nt_iload (pc := 175) dX4_init_175 rfl ?_
  refine nt_iconst (pc := 176) (v := 3) dX4_init_176 (by decide) ?_
  refine nt_geF (pc := 177) (tgt := 209) dX4_init_177 (by decide) (by decide) ?_
  refine nt_aload (pc := 180) dX4_init_180 rfl ?_
  refine nt_getf (pc := 181) (fs := [.ref 1, .ref 2, .ref 3, .ref 4, .ref 5, .ref 6, .ref 7, .ref 8, .ref 9, .int 0, .long 0, .long 1, .int 0, .ref 10]) fX4_39 dX4_init_181 rfl rfl ?_
  refine nt_iload (pc := 184) dX4_init_184 rfl ?_
  refine nt_new (pc := 185) (a := 60) nwX4_32 dX4_init_185 (Nat.le_of_ble_eq_true rfl) (Nat.le_of_ble_eq_true rfl) ?_
  refine nt_dup (pc := 188) dX4_init_188 rfl ?_
  refine nt_call2 (pc := 189) niX4_34 dX4_init_189 (d' := 1) (by decide) (Nat.le_of_ble_eq_true rfl) (c_X1_init _ _ 60 64 68 rfl (by decide) (by decide) (by decide)) (Nat.le_of_ble_eq_true rfl) (Nat.le_of_ble_eq_true rfl) ?_
  refine nt_aast (pc := 192) (i0 := 0) (ci := 1) dX4_init_192 rfl rfl (by decide) rfl rfl (by decide) (by unfold vp_in; decide) (by decide) ?_
  refine nt_aload (pc := 193) dX4_init_193 rfl ?_
  refine nt_getf (pc := 194) (fs := [.ref 1, .ref 2, .ref 3, .ref 4, .ref 5, .ref 6, .ref 7, .ref 8, .ref 9, .int 0, .long 0, .long 1, .int 0, .ref 10]) fX4_39 dX4_init_194 rfl rfl ?_
  refine nt_iload (pc := 197) dX4_init_197 rfl ?_
  refine nt_aald (pc := 198) (q := 60) dX4_init_198 rfl (by decide) (by unfold vp_in; decide) (by first | rfl | decide) ?_
  refine nt_iconst (pc := 199) (v := -1) dX4_init_199 (by decide) ?_
  refine nt_put (pc := 200) (fs := [.ref 64, .ref 68, .int 0]) (fs' := [.ref 64, .ref 68, .int (-1)]) gX4_72 dX4_init_200 rfl rfl rfl (fun _ => rfl) (Nat.le_of_ble_eq_true rfl) rfl ?_
  refine nt_inc1 (pc := 203) (v := 1) dX4_init_203 rfl (by decide) (by decide) ?_
  refine nt_goto (pc := 206) (tgt := 175) dX4_init_206 (by decide) ?_
  refine nt_iload (pc := 175) dX4_init_175 rfl ?_
  refine nt_iconst (pc := 176) (v := 3) dX4_init_176 (by decide) ?_
  refine nt_geF (pc := 177) (tgt := 209) dX4_init_177 (by decide) (by decide) ?_
  refine nt_aload (pc := 180) dX4_init_180 rfl ?_
  refine nt_getf (pc := 181) (fs := [.ref 1, .ref 2, .ref 3, .ref 4, .ref 5, .ref 6, .ref 7, .ref 8, .ref 9, .int 0, .long 0, .long 1, .int 0, .ref 10]) fX4_39 dX4_init_181 rfl rfl ?_
  refine nt_iload (pc := 184) dX4_init_184 rfl ?_
  refine nt_new (pc := 185) (a := 61) nwX4_32 dX4_init_185 (Nat.le_of_ble_eq_true rfl) (Nat.le_of_ble_eq_true rfl) ?_
  refine nt_dup (pc := 188) dX4_init_188 rfl ?_
  refine nt_call2 (pc := 189) niX4_34 dX4_init_189 (d' := 1) (by decide) (Nat.le_of_ble_eq_true rfl) (c_X1_init _ _ 61 65 69 rfl (by decide) (by decide) (by decide)) (Nat.le_of_ble_eq_true rfl) (Nat.le_of_ble_eq_true rfl) ?_
  refine nt_aast (pc := 192) (i0 := 1) (ci := 1) dX4_init_192 rfl rfl (by decide) rfl rfl (by decide) (by unfold vp_in; decide) (by decide) ?_
  refine nt_aload (pc := 193) dX4_init_193 rfl ?_
  refine nt_getf (pc := 194) (fs := [.ref 1, .ref 2, .ref 3, .ref 4, .ref 5, .ref 6, .ref 7, .ref 8, .ref 9, .int 0, .long 0, .long 1, .int 0, .ref 10]) fX4_39 dX4_init_194 rfl rfl ?_
  refine nt_iload (pc := 197) dX4_init_197 rfl ?_
  refine nt_aald (pc := 198) (q := 61) dX4_init_198 rfl (by decide) (by unfold vp_in; decide) (by first | rfl | decide) ?_
  refine nt_iconst (pc := 199) (v := -1) dX4_init_199 (by decide) ?_
  refine nt_put (pc := 200) (fs := [.ref 65, .ref 69, .int 0]) (fs' := [.ref 65, .ref 69, .int (-1)]) gX4_72 dX4_init_200 rfl rfl rfl (fun _ => rfl) (Nat.le_of_ble_eq_true rfl) rfl ?_
  refine nt_inc1 (pc := 203) (v := 2) dX4_init_203 rfl (by decide) (by decide) ?_
  refine nt_goto (pc := 206) (tgt := 175) dX4_init_206 (by decide) ?_
  refine nt_iload (pc := 175) dX4_init_175 rfl ?_
  refine nt_iconst (pc := 176) (v := 3) dX4_init_176 (by decide) ?_
  refine nt_geF (pc := 177) (tgt := 209) dX4_init_177 (by decide) (by decide) ?_
  refine nt_aload (pc := 180) dX4_init_180 rfl ?_
  refine nt_getf (pc := 181) (fs := [.ref 1, .ref 2, .ref 3, .ref 4, .ref 5, .ref 6, .ref 7, .ref 8, .ref 9, .int 0, .long 0, .long 1, .int 0, .ref 10]) fX4_39 dX4_init_181 rfl rfl ?_
  refine nt_iload (pc := 184) dX4_init_184 rfl ?_
  refine nt_new (pc := 185) (a := 62) nwX4_32 dX4_init_185 (Nat.le_of_ble_eq_true rfl) (Nat.le_of_ble_eq_true rfl) ?_
  refine nt_dup (pc := 188) dX4_init_188 rfl ?_
  refine nt_call2 (pc := 189) niX4_34 dX4_init_189 (d' := 1) (by decide) (Nat.le_of_ble_eq_true rfl) (c_X1_init _ _ 62 66 70 rfl (by decide) (by decide) (by decide)) (Nat.le_of_ble_eq_true rfl) (Nat.le_of_ble_eq_true rfl) ?_
  refine nt_aast (pc := 192) (i0 := 2) (ci := 1) dX4_init_192 rfl rfl (by decide) rfl rfl (by decide) (by unfold vp_in; decide) (by decide) ?_
  refine nt_aload (pc := 193) dX4_init_193 rfl ?_
  refine nt_getf (pc := 194) (fs := [.ref 1, .ref 2, .ref 3, .ref 4, .ref 5, .ref 6, .ref 7, .ref 8, .ref 9, .int 0, .long 0, .long 1, .int 0, .ref 10]) fX4_39 dX4_init_194 rfl rfl ?_
  refine nt_iload (pc := 197) dX4_init_197 rfl ?_
  refine nt_aald (pc := 198) (q := 62) dX4_init_198 rfl (by decide) (by unfold vp_in; decide) (by first | rfl | decide) ?_
  refine nt_iconst (pc := 199) (v := -1) dX4_init_199 (by decide) ?_
  refine nt_put (pc := 200) (fs := [.ref 66, .ref 70, .int 0]) (fs' := [.ref 66, .ref 70, .int (-1)]) gX4_72 dX4_init_200 rfl rfl rfl (fun _ => rfl) (Nat.le_of_ble_eq_true rfl) rfl ?_
  refine nt_inc1 (pc := 203) (v := 3) dX4_init_203 rfl (by decide) (by decide) ?_
  refine nt_goto (pc := 206) (tgt := 175) dX4_init_206 (by decide) ?_
  refine nt_iload (pc := 175) dX4_init_175 rfl ?_
  refine nt_iconst (pc := 176) (v := 3) dX4_init_176 (by decide) ?_
  refine nt_geT (pc := 177) (tgt := 209) dX4_init_177 (by decide) (by decide) ?_
  refine nt_iconst (pc := 209) (v := 0) dX4_init_209 (by decide) ?_
  refine nt_istore1 (pc := 210) dX4_init_210 rfl (by decide) ?_
  refine nt_iload (pc := 211) dX4_init_211 rfl ?_
  refine nt_iconst (pc := 212) (v := 5) dX4_init_212 (by decide) ?_
  refine nt_geF (pc := 213) (tgt := 235) dX4_init_213 (by decide) (by decide) ?_
  refine nt_aload (pc := 216) dX4_init_216 rfl ?_
  refine nt_getf (pc := 217) (fs := [.ref 1, .ref 2, .ref 3, .ref 4, .ref 5, .ref 6, .ref 7, .ref 8, .ref 9, .int 0, .long 0, .long 1, .int 0, .ref 10]) fX4_49 dX4_init_217 rfl rfl ?_
  refine nt_iload (pc := 220) dX4_init_220 rfl ?_
  refine nt_new (pc := 221) (a := 72) nwX4_25 dX4_init_221 (Nat.le_of_ble_eq_true rfl) (Nat.le_of_ble_eq_true rfl) ?_
  refine nt_dup (pc := 224) dX4_init_224 rfl ?_
  refine nt_call0 (pc := 225) niX4_27 dX4_init_225 (d' := 1) (by decide) (Nat.le_of_ble_eq_true rfl) (c_X3_init _ _ 72 rfl ) (Nat.le_of_ble_eq_true rfl) (Nat.le_of_ble_eq_true rfl) ?_
  refine nt_aast (pc := 228) (i0 := 0) (ci := 3) dX4_init_228 rfl rfl (by decide) rfl rfl (by decide) (by unfold vp_in; decide) (by decide) ?_
  refine nt_inc1 (pc := 229) (v := 1) dX4_init_229 rfl (by decide) (by decide) ?_
  refine nt_goto (pc := 232) (tgt := 211) dX4_init_232 (by decide) ?_
  refine nt_iload (pc := 211) dX4_init_211 rfl ?_
  refine nt_iconst (pc := 212) (v := 5) dX4_init_212 (by decide) ?_
  refine nt_geF (pc := 213) (tgt := 235) dX4_init_213 (by decide) (by decide) ?_
  refine nt_aload (pc := 216) dX4_init_216 rfl ?_
  refine nt_getf (pc := 217) (fs := [.ref 1, .ref 2, .ref 3, .ref 4, .ref 5, .ref 6, .ref 7, .ref 8, .ref 9, .int 0, .long 0, .long 1, .int 0, .ref 10]) fX4_49 dX4_init_217 rfl rfl ?_
  refine nt_iload (pc := 220) dX4_init_220 rfl ?_
  refine nt_new (pc := 221) (a := 73) nwX4_25 dX4_init_221 (Nat.le_of_ble_eq_true rfl) (Nat.le_of_ble_eq_true rfl) ?_
  refine nt_dup (pc := 224) dX4_init_224 rfl ?_
  refine nt_call0 (pc := 225) niX4_27 dX4_init_225 (d' := 1) (by decide) (Nat.le_of_ble_eq_true rfl) (c_X3_init _ _ 73 rfl ) (Nat.le_of_ble_eq_true rfl) (Nat.le_of_ble_eq_true rfl) ?_
  refine nt_aast (pc := 228) (i0 := 1) (ci := 3) dX4_init_228 rfl rfl (by decide) rfl rfl (by decide) (by unfold vp_in; decide) (by decide) ?_
  refine nt_inc1 (pc := 229) (v := 2) dX4_init_229 rfl (by decide) (by decide) ?_
  refine nt_goto (pc := 232) (tgt := 211) dX4_init_232 (by decide) ?_
  refine nt_iload (pc := 211) dX4_init_211 rfl ?_
  refine nt_iconst (pc := 212) (v := 5) dX4_init_212 (by decide) ?_
  refine nt_geF (pc := 213) (tgt := 235) dX4_init_213 (by decide) (by decide) ?_
  refine nt_aload (pc := 216) dX4_init_216 rfl ?_
  refine nt_getf (pc := 217) (fs := [.ref 1, .ref 2, .ref 3, .ref 4, .ref 5, .ref 6, .ref 7, .ref 8, .ref 9, .int 0, .long 0, .long 1, .int 0, .ref 10]) fX4_49 dX4_init_217 rfl rfl ?_
  refine nt_iload (pc := 220) dX4_init_220 rfl ?_
  refine nt_new (pc := 221) (a := 74) nwX4_25 dX4_init_221 (Nat.le_of_ble_eq_true rfl) (Nat.le_of_ble_eq_true rfl) ?_
  refine nt_dup (pc := 224) dX4_init_224 rfl ?_
  refine nt_call0 (pc := 225) niX4_27 dX4_init_225 (d' := 1) (by decide) (Nat.le_of_ble_eq_true rfl) (c_X3_init _ _ 74 rfl ) (Nat.le_of_ble_eq_true rfl) (Nat.le_of_ble_eq_true rfl) ?_
  refine nt_aast (pc := 228) (i0 := 2) (ci := 3) dX4_init_228 rfl rfl (by decide) rfl rfl (by decide) (by unfold vp_in; decide) (by decide) ?_
  refine nt_inc1 (pc := 229) (v := 3) dX4_init_229 rfl (by decide) (by decide) ?_
  refine nt_goto (pc := 232) (tgt := 211) dX4_init_232 (by decide) ?_
  refine nt_iload (pc := 211) dX4_init_211 rfl ?_
  refine nt_iconst (pc := 212) (v := 5) dX4_init_212 (by decide) ?_
  refine nt_geF (pc := 213) (tgt := 235) dX4_init_213 (by decide) (by decide) ?_
  refine nt_aload (pc := 216) dX4_init_216 rfl ?_
  refine nt_getf (pc := 217) (fs := [.ref 1, .ref 2, .ref 3, .ref 4, .ref 5, .ref 6, .ref 7, .ref 8, .ref 9, .int 0, .long 0, .long 1, .int 0, .ref 10]) fX4_49 dX4_init_217 rfl rfl ?_
  refine nt_iload (pc := 220) dX4_init_220 rfl ?_
  refine nt_new (pc := 221) (a := 75) nwX4_25 dX4_init_221 (Nat.le_of_ble_eq_true rfl) (Nat.le_of_ble_eq_true rfl) ?_
  refine nt_dup (pc := 224) dX4_init_224 rfl ?_
  refine nt_call0 (pc := 225) niX4_27 dX4_init_225 (d' := 1) (by decide) (Nat.le_of_ble_eq_true rfl) (c_X3_init _ _ 75 rfl ) (Nat.le_of_ble_eq_true rfl) (Nat.le_of_ble_eq_true rfl) ?_
  refine nt_aast (pc := 228) (i0 := 3) (ci := 3) dX4_init_228 rfl rfl (by decide) rfl rfl (by decide) (by unfold vp_in; decide) (by decide) ?_
  refine nt_inc1 (pc := 229) (v := 4) dX4_init_229 rfl (by decide) (by decide) ?_
  refine nt_goto (pc := 232) (tgt := 211) dX4_init_232 (by decide) ?_
  refine nt_iload (pc := 211) dX4_init_211 rfl ?_
  refine nt_iconst (pc := 212) (v := 5) dX4_init_212 (by decide) ?_
  refine nt_geF (pc := 213) (tgt := 235) dX4_init_213 (by decide) (by decide) ?_
  refine nt_aload (pc := 216) dX4_init_216 rfl ?_
  refine nt_getf (pc := 217) (fs := [.ref 1, .ref 2, .ref 3, .ref 4, .ref 5, .ref 6, .ref 7, .ref 8, .ref 9, .int 0, .long 0, .long 1, .int 0, .ref 10]) fX4_49 dX4_init_217 rfl rfl ?_
  refine nt_iload (pc := 220) dX4_init_220 rfl ?_
  refine nt_new (pc := 221) (a := 76) nwX4_25 dX4_init_221 (Nat.le_of_ble_eq_true rfl) (Nat.le_of_ble_eq_true rfl) ?_
  refine nt_dup (pc := 224) dX4_init_224 rfl ?_
  refine nt_call0 (pc := 225) niX4_27 dX4_init_225 (d' := 1) (by decide) (Nat.le_of_ble_eq_true rfl) (c_X3_init _ _ 76 rfl ) (Nat.le_of_ble_eq_true rfl) (Nat.le_of_ble_eq_true rfl) ?_
  refine nt_aast (pc := 228) (i0 := 4) (ci := 3) dX4_init_228 rfl rfl (by decide) rfl rfl (by decide) (by unfold vp_in; decide) (by decide) ?_
  refine nt_inc1 (pc := 229) (v := 5) dX4_init_229 rfl (by decide) (by decide) ?_
  refine nt_goto (pc := 232) (tgt := 211) dX4_init_232 (by decide) ?_
  refine nt_iload (pc := 211) dX4_init_211 rfl ?_
  refine nt_iconst (pc := 212) (v := 5) dX4_init_212 (by decide) ?_
  refine nt_geT (pc := 213) (tgt := 235) dX4_init_213 (by decide) (by decide) ?_
  refine nt_ra (a := 1) (g' := fun r => some (20 + r)) rfl (by decide) ?_
  refine nt_ra (a := 2) (g' := fun r => some (40 + r)) rfl (by decide) ?_
  refine nt_ra (a := 6) (g' := fun r => some (60 + r)) rfl (by decide) ?_
  refine nt_ra (a := 9) (g' := fun r => some (72 + r)) rfl (by decide) ?_
  refine nt_vret dX4_init_235 rfl (by decide) (by decide) (by decide) ?_
  refine ⟨⟨rfl, rfl⟩, ⟨rfl, rfl, rfl, rfl⟩, fun r hr => ?_, fun r hr => ?_, ⟨rfl, rfl, rfl, rfl⟩, rfl, ⟨_, _, rfl, rfl, rfl, fun j d hd => ?_⟩, fun k hk => ?_, ⟨_, _, _, _, _, rfl, rfl, rfl, rfl⟩, ⟨_, _, _, _, _, rfl⟩, fun i hi => ?_⟩
  · rcases (show r = 0 ∨ r = 1 ∨ r = 2 ∨ r = 3 ∨ r = 4 ∨ r = 5 by omega) with rfl | rfl | rfl | rfl | rfl | rfl
    · exact ⟨rfl, rfl⟩
    · exact ⟨rfl, rfl⟩
    · exact ⟨rfl, rfl⟩
    · exact ⟨rfl, rfl⟩
    · exact ⟨rfl, rfl⟩
    · exact ⟨rfl, rfl⟩
  · rcases (show r = 0 ∨ r = 1 ∨ r = 2 ∨ r = 3 by omega) with rfl | rfl | rfl | rfl
    · exact ⟨rfl, rfl⟩
    · exact ⟨rfl, rfl⟩
    · exact ⟨rfl, rfl⟩
    · exact ⟨rfl, rfl⟩
  · have hd : ([] : List (Nat × Nat))[j]? = some d := hd
    cases hd
  · rcases (show k = 0 ∨ k = 1 ∨ k = 2 by omega) with rfl | rfl | rfl
    · exact ⟨_, _, rfl, rfl, rfl, fun ds hds => by cases hds⟩
    · exact ⟨_, _, rfl, rfl, rfl, fun ds hds => by cases hds⟩
    · exact ⟨_, _, rfl, rfl, rfl, fun ds hds => by cases hds⟩
  · rcases (show i = 0 ∨ i = 1 ∨ i = 2 ∨ i = 3 ∨ i = 4 by omega) with rfl | rfl | rfl | rfl | rfl
    · exact ⟨_, _, _, _, _, rfl⟩
    · exact ⟨_, _, _, _, _, rfl⟩
    · exact ⟨_, _, _, _, _, rfl⟩
    · exact ⟨_, _, _, _, _, rfl⟩
    · exact ⟨_, _, _, _, _, rfl⟩
abbrev oMl : List Nat := [1, 2, 3, 4, 5, 6, 7, 8, 9, 10, 11, 12, 13, 14]
abbrev hM0 : mh_H := mh_up (fun _ => mh_ob 99 []) 0 (mh_ob 5 [.null, .null, .null, .null, .int 0, .null, .null, .null, .null, .null, .null, .int 0, .null, .int 0, .null, .int 0, .long 0, .long 0, .int 0, .null, .int 0, .null])
set_option maxHeartbeats 4000000 in
set_option maxRecDepth 100000 in
theorem c_X5_init : Nm mX5_init [0] oMl 1792 2 [.ref 0] hM0 (fun h' => MP s_new h') := by
  refine Nm.of (L := [some (.ref 0), none]) rfl rfl (Nat.le_of_ble_eq_true rfl) rfl ?_
  refine nt_aload (pc := 0) dX5_init_0 rfl ?_
  refine nt_obj (pc := 1) tx_634 tx_63 tx_64 dX5_init_1 (by decide) ?_
  refine nt_aload (pc := 4) dX5_init_4 rfl ?_
  refine nt_bipush (pc := 5) (v := 6) dX5_init_5 (by decide) ?_
  refine nt_newi (pc := 7) (a := 1) (N := 6) tx_94 dX5_init_7 (by decide) (by decide) (by decide) (Nat.le_of_ble_eq_true rfl) (Nat.le_of_ble_eq_true rfl) ?_
  refine nt_putF (pc := 9) (fs := [.null, .null, .null, .null, .int 0, .null, .null, .null, .null, .null, .null, .int 0, .null, .int 0, .null, .int 0, .long 0, .long 0, .int 0, .null, .int 0, .null]) (fs' := [.ref 1, .null, .null, .null, .int 0, .null, .null, .null, .null, .null, .null, .int 0, .null, .int 0, .null, .int 0, .long 0, .long 0, .int 0, .null, .int 0, .null]) nfX5_7 dX5_init_9 rfl (Nat.le_of_ble_eq_true rfl) rfl ?_
  refine nt_aload (pc := 12) dX5_init_12 rfl ?_
  refine nt_sipush (pc := 13) (v := 240) dX5_init_13 (by decide) ?_
  refine nt_newi (pc := 16) (a := 2) (N := 240) tx_94 dX5_init_16 (by decide) (by decide) (by decide) (Nat.le_of_ble_eq_true rfl) (Nat.le_of_ble_eq_true rfl) ?_
  refine nt_putF (pc := 18) (fs := [.ref 1, .null, .null, .null, .int 0, .null, .null, .null, .null, .null, .null, .int 0, .null, .int 0, .null, .int 0, .long 0, .long 0, .int 0, .null, .int 0, .null]) (fs' := [.ref 1, .ref 2, .null, .null, .int 0, .null, .null, .null, .null, .null, .null, .int 0, .null, .int 0, .null, .int 0, .long 0, .long 0, .int 0, .null, .int 0, .null]) nfX5_13 dX5_init_18 rfl (Nat.le_of_ble_eq_true rfl) rfl ?_
  refine nt_aload (pc := 21) dX5_init_21 rfl ?_
  refine nt_iconst (pc := 22) (v := 4) dX5_init_22 (by decide) ?_
  refine nt_newi (pc := 23) (a := 3) (N := 4) tx_94 dX5_init_23 (by decide) (by decide) (by decide) (Nat.le_of_ble_eq_true rfl) (Nat.le_of_ble_eq_true rfl) ?_
  refine nt_putF (pc := 25) (fs := [.ref 1, .ref 2, .null, .null, .int 0, .null, .null, .null, .null, .null, .null, .int 0, .null, .int 0, .null, .int 0, .long 0, .long 0, .int 0, .null, .int 0, .null]) (fs' := [.ref 1, .ref 2, .ref 3, .null, .int 0, .null, .null, .null, .null, .null, .null, .int 0, .null, .int 0, .null, .int 0, .long 0, .long 0, .int 0, .null, .int 0, .null]) nfX5_16 dX5_init_25 rfl (Nat.le_of_ble_eq_true rfl) rfl ?_
  refine nt_aload (pc := 28) dX5_init_28 rfl ?_
  refine nt_sipush (pc := 29) (v := 240) dX5_init_29 (by decide) ?_
  refine nt_newb (pc := 32) (a := 4) (N := 240) tx_702 dX5_init_32 (by decide) (by decide) (by decide) (Nat.le_of_ble_eq_true rfl) (Nat.le_of_ble_eq_true rfl) ?_
  refine nt_putF (pc := 34) (fs := [.ref 1, .ref 2, .ref 3, .null, .int 0, .null, .null, .null, .null, .null, .null, .int 0, .null, .int 0, .null, .int 0, .long 0, .long 0, .int 0, .null, .int 0, .null]) (fs' := [.ref 1, .ref 2, .ref 3, .ref 4, .int 0, .null, .null, .null, .null, .null, .null, .int 0, .null, .int 0, .null, .int 0, .long 0, .long 0, .int 0, .null, .int 0, .null]) nfX5_19 dX5_init_34 rfl (Nat.le_of_ble_eq_true rfl) rfl ?_
  refine nt_aload (pc := 37) dX5_init_37 rfl ?_
  refine nt_bipush (pc := 38) (v := 9) dX5_init_38 (by decide) ?_
  refine nt_newi (pc := 40) (a := 5) (N := 9) tx_94 dX5_init_40 (by decide) (by decide) (by decide) (Nat.le_of_ble_eq_true rfl) (Nat.le_of_ble_eq_true rfl) ?_
  refine nt_putF (pc := 42) (fs := [.ref 1, .ref 2, .ref 3, .ref 4, .int 0, .null, .null, .null, .null, .null, .null, .int 0, .null, .int 0, .null, .int 0, .long 0, .long 0, .int 0, .null, .int 0, .null]) (fs' := [.ref 1, .ref 2, .ref 3, .ref 4, .int 0, .ref 5, .null, .null, .null, .null, .null, .int 0, .null, .int 0, .null, .int 0, .long 0, .long 0, .int 0, .null, .int 0, .null]) nfX5_23 dX5_init_42 rfl (Nat.le_of_ble_eq_true rfl) rfl ?_
  refine nt_aload (pc := 45) dX5_init_45 rfl ?_
  refine nt_bipush (pc := 46) (v := 9) dX5_init_46 (by decide) ?_
  refine nt_newi (pc := 48) (a := 6) (N := 9) tx_94 dX5_init_48 (by decide) (by decide) (by decide) (Nat.le_of_ble_eq_true rfl) (Nat.le_of_ble_eq_true rfl) ?_
  refine nt_putF (pc := 50) (fs := [.ref 1, .ref 2, .ref 3, .ref 4, .int 0, .ref 5, .null, .null, .null, .null, .null, .int 0, .null, .int 0, .null, .int 0, .long 0, .long 0, .int 0, .null, .int 0, .null]) (fs' := [.ref 1, .ref 2, .ref 3, .ref 4, .int 0, .ref 5, .ref 6, .null, .null, .null, .null, .int 0, .null, .int 0, .null, .int 0, .long 0, .long 0, .int 0, .null, .int 0, .null]) nfX5_26 dX5_init_50 rfl (Nat.le_of_ble_eq_true rfl) rfl ?_
  refine nt_aload (pc := 53) dX5_init_53 rfl ?_
  refine nt_bipush (pc := 54) (v := 9) dX5_init_54 (by decide) ?_
  refine nt_newi (pc := 56) (a := 7) (N := 9) tx_94 dX5_init_56 (by decide) (by decide) (by decide) (Nat.le_of_ble_eq_true rfl) (Nat.le_of_ble_eq_true rfl) ?_
  refine nt_putF (pc := 58) (fs := [.ref 1, .ref 2, .ref 3, .ref 4, .int 0, .ref 5, .ref 6, .null, .null, .null, .null, .int 0, .null, .int 0, .null, .int 0, .long 0, .long 0, .int 0, .null, .int 0, .null]) (fs' := [.ref 1, .ref 2, .ref 3, .ref 4, .int 0, .ref 5, .ref 6, .ref 7, .null, .null, .null, .int 0, .null, .int 0, .null, .int 0, .long 0, .long 0, .int 0, .null, .int 0, .null]) nfX5_29 dX5_init_58 rfl (Nat.le_of_ble_eq_true rfl) rfl ?_
  refine nt_aload (pc := 61) dX5_init_61 rfl ?_
  refine nt_bipush (pc := 62) (v := 10) dX5_init_62 (by decide) ?_
  refine nt_newi (pc := 64) (a := 8) (N := 10) tx_94 dX5_init_64 (by decide) (by decide) (by decide) (Nat.le_of_ble_eq_true rfl) (Nat.le_of_ble_eq_true rfl) ?_
  refine nt_putF (pc := 66) (fs := [.ref 1, .ref 2, .ref 3, .ref 4, .int 0, .ref 5, .ref 6, .ref 7, .null, .null, .null, .int 0, .null, .int 0, .null, .int 0, .long 0, .long 0, .int 0, .null, .int 0, .null]) (fs' := [.ref 1, .ref 2, .ref 3, .ref 4, .int 0, .ref 5, .ref 6, .ref 7, .ref 8, .null, .null, .int 0, .null, .int 0, .null, .int 0, .long 0, .long 0, .int 0, .null, .int 0, .null]) nfX5_32 dX5_init_66 rfl (Nat.le_of_ble_eq_true rfl) rfl ?_
  refine nt_aload (pc := 69) dX5_init_69 rfl ?_
  refine nt_bipush (pc := 70) (v := 10) dX5_init_70 (by decide) ?_
  refine nt_newi (pc := 72) (a := 9) (N := 10) tx_94 dX5_init_72 (by decide) (by decide) (by decide) (Nat.le_of_ble_eq_true rfl) (Nat.le_of_ble_eq_true rfl) ?_
  refine nt_putF (pc := 74) (fs := [.ref 1, .ref 2, .ref 3, .ref 4, .int 0, .ref 5, .ref 6, .ref 7, .ref 8, .null, .null, .int 0, .null, .int 0, .null, .int 0, .long 0, .long 0, .int 0, .null, .int 0, .null]) (fs' := [.ref 1, .ref 2, .ref 3, .ref 4, .int 0, .ref 5, .ref 6, .ref 7, .ref 8, .ref 9, .null, .int 0, .null, .int 0, .null, .int 0, .long 0, .long 0, .int 0, .null, .int 0, .null]) nfX5_35 dX5_init_74 rfl (Nat.le_of_ble_eq_true rfl) rfl ?_
  refine nt_aload (pc := 77) dX5_init_77 rfl ?_
  refine nt_bipush (pc := 78) (v := 10) dX5_init_78 (by decide) ?_
  refine nt_newi (pc := 80) (a := 10) (N := 10) tx_94 dX5_init_80 (by decide) (by decide) (by decide) (Nat.le_of_ble_eq_true rfl) (Nat.le_of_ble_eq_true rfl) ?_
  refine nt_putF (pc := 82) (fs := [.ref 1, .ref 2, .ref 3, .ref 4, .int 0, .ref 5, .ref 6, .ref 7, .ref 8, .ref 9, .null, .int 0, .null, .int 0, .null, .int 0, .long 0, .long 0, .int 0, .null, .int 0, .null]) (fs' := [.ref 1, .ref 2, .ref 3, .ref 4, .int 0, .ref 5, .ref 6, .ref 7, .ref 8, .ref 9, .ref 10, .int 0, .null, .int 0, .null, .int 0, .long 0, .long 0, .int 0, .null, .int 0, .null]) nfX5_38 dX5_init_82 rfl (Nat.le_of_ble_eq_true rfl) rfl ?_
  refine nt_aload (pc := 85) dX5_init_85 rfl ?_
  refine nt_sipush (pc := 86) (v := 1020) dX5_init_86 (by decide) ?_
  refine nt_newi (pc := 89) (a := 11) (N := 1020) tx_94 dX5_init_89 (by decide) (by decide) (by decide) (Nat.le_of_ble_eq_true rfl) (Nat.le_of_ble_eq_true rfl) ?_
  refine nt_putF (pc := 91) (fs := [.ref 1, .ref 2, .ref 3, .ref 4, .int 0, .ref 5, .ref 6, .ref 7, .ref 8, .ref 9, .ref 10, .int 0, .null, .int 0, .null, .int 0, .long 0, .long 0, .int 0, .null, .int 0, .null]) (fs' := [.ref 1, .ref 2, .ref 3, .ref 4, .int 0, .ref 5, .ref 6, .ref 7, .ref 8, .ref 9, .ref 10, .int 0, .ref 11, .int 0, .null, .int 0, .long 0, .long 0, .int 0, .null, .int 0, .null]) nfX5_41 dX5_init_91 rfl (Nat.le_of_ble_eq_true rfl) rfl ?_
  refine nt_aload (pc := 94) dX5_init_94 rfl ?_
  refine nt_iconst (pc := 95) (v := 3) dX5_init_95 (by decide) ?_
  refine nt_newi (pc := 96) (a := 12) (N := 3) tx_94 dX5_init_96 (by decide) (by decide) (by decide) (Nat.le_of_ble_eq_true rfl) (Nat.le_of_ble_eq_true rfl) ?_
  refine nt_putF (pc := 98) (fs := [.ref 1, .ref 2, .ref 3, .ref 4, .int 0, .ref 5, .ref 6, .ref 7, .ref 8, .ref 9, .ref 10, .int 0, .ref 11, .int 0, .null, .int 0, .long 0, .long 0, .int 0, .null, .int 0, .null]) (fs' := [.ref 1, .ref 2, .ref 3, .ref 4, .int 0, .ref 5, .ref 6, .ref 7, .ref 8, .ref 9, .ref 10, .int 0, .ref 11, .int 0, .ref 12, .int 0, .long 0, .long 0, .int 0, .null, .int 0, .null]) nfX5_44 dX5_init_98 rfl (Nat.le_of_ble_eq_true rfl) rfl ?_
  refine nt_aload (pc := 101) dX5_init_101 rfl ?_
  refine nt_lconst (pc := 102) (v := 1) dX5_init_102 (by decide) ?_
  refine nt_put (pc := 103) (fs := [.ref 1, .ref 2, .ref 3, .ref 4, .int 0, .ref 5, .ref 6, .ref 7, .ref 8, .ref 9, .ref 10, .int 0, .ref 11, .int 0, .ref 12, .int 0, .long 0, .long 0, .int 0, .null, .int 0, .null]) (fs' := [.ref 1, .ref 2, .ref 3, .ref 4, .int 0, .ref 5, .ref 6, .ref 7, .ref 8, .ref 9, .ref 10, .int 0, .ref 11, .int 0, .ref 12, .int 0, .long 0, .long 1, .int 0, .null, .int 0, .null]) gX5_47 dX5_init_103 rfl rfl rfl (fun _ => rfl) (Nat.le_of_ble_eq_true rfl) rfl ?_
  refine nt_aload (pc := 106) dX5_init_106 rfl ?_
  refine nt_bipush (pc := 107) (v := 6) dX5_init_107 (by decide) ?_
  refine nt_newi (pc := 109) (a := 13) (N := 6) tx_94 dX5_init_109 (by decide) (by decide) (by decide) (Nat.le_of_ble_eq_true rfl) (Nat.le_of_ble_eq_true rfl) ?_
  refine nt_putF (pc := 111) (fs := [.ref 1, .ref 2, .ref 3, .ref 4, .int 0, .ref 5, .ref 6, .ref 7, .ref 8, .ref 9, .ref 10, .int 0, .ref 11, .int 0, .ref 12, .int 0, .long 0, .long 1, .int 0, .null, .int 0, .null]) (fs' := [.ref 1, .ref 2, .ref 3, .ref 4, .int 0, .ref 5, .ref 6, .ref 7, .ref 8, .ref 9, .ref 10, .int 0, .ref 11, .int 0, .ref 12, .int 0, .long 0, .long 1, .int 0, .ref 13, .int 0, .null]) nfX5_51 dX5_init_111 rfl (Nat.le_of_ble_eq_true rfl) rfl ?_
  refine nt_aload (pc := 114) dX5_init_114 rfl ?_
  refine nt_sipush (pc := 115) (v := 216) dX5_init_115 (by decide) ?_
  refine nt_newi (pc := 118) (a := 14) (N := 216) tx_94 dX5_init_118 (by decide) (by decide) (by decide) (Nat.le_of_ble_eq_true rfl) (Nat.le_of_ble_eq_true rfl) ?_
  refine nt_putF (pc := 120) (fs := [.ref 1, .ref 2, .ref 3, .ref 4, .int 0, .ref 5, .ref 6, .ref 7, .ref 8, .ref 9, .ref 10, .int 0, .ref 11, .int 0, .ref 12, .int 0, .long 0, .long 1, .int 0, .ref 13, .int 0, .null]) (fs' := [.ref 1, .ref 2, .ref 3, .ref 4, .int 0, .ref 5, .ref 6, .ref 7, .ref 8, .ref 9, .ref 10, .int 0, .ref 11, .int 0, .ref 12, .int 0, .long 0, .long 1, .int 0, .ref 13, .int 0, .ref 14]) nfX5_54 dX5_init_120 rfl (Nat.le_of_ble_eq_true rfl) rfl ?_
  refine nt_iconst (pc := 123) (v := 0) dX5_init_123 (by decide) ?_
  refine nt_istore1 (pc := 124) dX5_init_124 rfl (by decide) ?_
  refine nt_iload (pc := 125) dX5_init_125 rfl ?_
  refine nt_bipush (pc := 126) (v := 6) dX5_init_126 (by decide) ?_
  refine nt_geF (pc := 128) (tgt := 144) dX5_init_128 (by decide) (by decide) ?_
  refine nt_aload (pc := 131) dX5_init_131 rfl ?_
  refine nt_getf (pc := 132) (fs := [.ref 1, .ref 2, .ref 3, .ref 4, .int 0, .ref 5, .ref 6, .ref 7, .ref 8, .ref 9, .ref 10, .int 0, .ref 11, .int 0, .ref 12, .int 0, .long 0, .long 1, .int 0, .ref 13, .int 0, .ref 14]) fX5_7 dX5_init_132 rfl rfl ?_
  refine nt_iload (pc := 135) dX5_init_135 rfl ?_
  refine nt_iconst (pc := 136) (v := -1) dX5_init_136 (by decide) ?_
  refine nt_iast (pc := 137) (i0 := 0) dX5_init_137 rfl (by unfold vp_in; decide) (by decide) ?_
  refine nt_inc1 (pc := 138) (v := 1) dX5_init_138 rfl (by decide) (by decide) ?_
  refine nt_goto (pc := 141) (tgt := 125) dX5_init_141 (by decide) ?_
  refine nt_iload (pc := 125) dX5_init_125 rfl ?_
  refine nt_bipush (pc := 126) (v := 6) dX5_init_126 (by decide) ?_
  refine nt_geF (pc := 128) (tgt := 144) dX5_init_128 (by decide) (by decide) ?_
  refine nt_aload (pc := 131) dX5_init_131 rfl ?_
  refine nt_getf (pc := 132) (fs := [.ref 1, .ref 2, .ref 3, .ref 4, .int 0, .ref 5, .ref 6, .ref 7, .ref 8, .ref 9, .ref 10, .int 0, .ref 11, .int 0, .ref 12, .int 0, .long 0, .long 1, .int 0, .ref 13, .int 0, .ref 14]) fX5_7 dX5_init_132 rfl rfl ?_
  refine nt_iload (pc := 135) dX5_init_135 rfl ?_
  refine nt_iconst (pc := 136) (v := -1) dX5_init_136 (by decide) ?_
  refine nt_iast (pc := 137) (i0 := 1) dX5_init_137 rfl (by unfold vp_in; decide) (by decide) ?_
  refine nt_inc1 (pc := 138) (v := 2) dX5_init_138 rfl (by decide) (by decide) ?_
  refine nt_goto (pc := 141) (tgt := 125) dX5_init_141 (by decide) ?_
  refine nt_iload (pc := 125) dX5_init_125 rfl ?_
  refine nt_bipush (pc := 126) (v := 6) dX5_init_126 (by decide) ?_
  refine nt_geF (pc := 128) (tgt := 144) dX5_init_128 (by decide) (by decide) ?_
  refine nt_aload (pc := 131) dX5_init_131 rfl ?_
  refine nt_getf (pc := 132) (fs := [.ref 1, .ref 2, .ref 3, .ref 4, .int 0, .ref 5, .ref 6, .ref 7, .ref 8, .ref 9, .ref 10, .int 0, .ref 11, .int 0, .ref 12, .int 0, .long 0, .long 1, .int 0, .ref 13, .int 0, .ref 14]) fX5_7 dX5_init_132 rfl rfl ?_
  refine nt_iload (pc := 135) dX5_init_135 rfl ?_
  refine nt_iconst (pc := 136) (v := -1) dX5_init_136 (by decide) ?_
  refine nt_iast (pc := 137) (i0 := 2) dX5_init_137 rfl (by unfold vp_in; decide) (by decide) ?_
  refine nt_inc1 (pc := 138) (v := 3) dX5_init_138 rfl (by decide) (by decide) ?_
  refine nt_goto (pc := 141) (tgt := 125) dX5_init_141 (by decide) ?_
  refine nt_iload (pc := 125) dX5_init_125 rfl ?_
  refine nt_bipush (pc := 126) (v := 6) dX5_init_126 (by decide) ?_
  refine nt_geF (pc := 128) (tgt := 144) dX5_init_128 (by decide) (by decide) ?_
  refine nt_aload (pc := 131) dX5_init_131 rfl ?_
  refine nt_getf (pc := 132) (fs := [.ref 1, .ref 2, .ref 3, .ref 4, .int 0, .ref 5, .ref 6, .ref 7, .ref 8, .ref 9, .ref 10, .int 0, .ref 11, .int 0, .ref 12, .int 0, .long 0, .long 1, .int 0, .ref 13, .int 0, .ref 14]) fX5_7 dX5_init_132 rfl rfl ?_
  refine nt_iload (pc := 135) dX5_init_135 rfl ?_
  refine nt_iconst (pc := 136) (v := -1) dX5_init_136 (by decide) ?_
  refine nt_iast (pc := 137) (i0 := 3) dX5_init_137 rfl (by unfold vp_in; decide) (by decide) ?_
  refine nt_inc1 (pc := 138) (v := 4) dX5_init_138 rfl (by decide) (by decide) ?_
  refine nt_goto (pc := 141) (tgt := 125) dX5_init_141 (by decide) ?_
  refine nt_iload (pc := 125) dX5_init_125 rfl ?_
  refine nt_bipush (pc := 126) (v := 6) dX5_init_126 (by decide) ?_
  refine nt_geF (pc := 128) (tgt := 144) dX5_init_128 (by decide) (by decide) ?_
  refine nt_aload (pc := 131) dX5_init_131 rfl ?_
  refine nt_getf (pc := 132) (fs := [.ref 1, .ref 2, .ref 3, .ref 4, .int 0, .ref 5, .ref 6, .ref 7, .ref 8, .ref 9, .ref 10, .int 0, .ref 11, .int 0, .ref 12, .int 0, .long 0, .long 1, .int 0, .ref 13, .int 0, .ref 14]) fX5_7 dX5_init_132 rfl rfl ?_
  refine nt_iload (pc := 135) dX5_init_135 rfl ?_
  refine nt_iconst (pc := 136) (v := -1) dX5_init_136 (by decide) ?_
  refine nt_iast (pc := 137) (i0 := 4) dX5_init_137 rfl (by unfold vp_in; decide) (by decide) ?_
  refine nt_inc1 (pc := 138) (v := 5) dX5_init_138 rfl (by decide) (by decide) ?_
  refine nt_goto (pc := 141) (tgt := 125) dX5_init_141 (by decide) ?_
  refine nt_iload (pc := 125) dX5_init_125 rfl ?_
  refine nt_bipush (pc := 126) (v := 6) dX5_init_126 (by decide) ?_
  refine nt_geF (pc := 128) (tgt := 144) dX5_init_128 (by decide) (by decide) ?_
  refine nt_aload (pc := 131) dX5_init_131 rfl ?_
  refine nt_getf (pc := 132) (fs := [.ref 1, .ref 2, .ref 3, .ref 4, .int 0, .ref 5, .ref 6, .ref 7, .ref 8, .ref 9, .ref 10, .int 0, .ref 11, .int 0, .ref 12, .int 0, .long 0, .long 1, .int 0, .ref 13, .int 0, .ref 14]) fX5_7 dX5_init_132 rfl rfl ?_
  refine nt_iload (pc := 135) dX5_init_135 rfl ?_
  refine nt_iconst (pc := 136) (v := -1) dX5_init_136 (by decide) ?_
  refine nt_iast (pc := 137) (i0 := 5) dX5_init_137 rfl (by unfold vp_in; decide) (by decide) ?_
  refine nt_inc1 (pc := 138) (v := 6) dX5_init_138 rfl (by decide) (by decide) ?_
  refine nt_goto (pc := 141) (tgt := 125) dX5_init_141 (by decide) ?_
  refine nt_iload (pc := 125) dX5_init_125 rfl ?_
  refine nt_bipush (pc := 126) (v := 6) dX5_init_126 (by decide) ?_
  refine nt_geT (pc := 128) (tgt := 144) dX5_init_128 (by decide) (by decide) ?_
  refine nt_iconst (pc := 144) (v := 0) dX5_init_144 (by decide) ?_
  refine nt_istore1 (pc := 145) dX5_init_145 rfl (by decide) ?_
  refine nt_iload (pc := 146) dX5_init_146 rfl ?_
  refine nt_iconst (pc := 147) (v := 4) dX5_init_147 (by decide) ?_
  refine nt_geF (pc := 148) (tgt := 164) dX5_init_148 (by decide) (by decide) ?_
  refine nt_aload (pc := 151) dX5_init_151 rfl ?_
  refine nt_getf (pc := 152) (fs := [.ref 1, .ref 2, .ref 3, .ref 4, .int 0, .ref 5, .ref 6, .ref 7, .ref 8, .ref 9, .ref 10, .int 0, .ref 11, .int 0, .ref 12, .int 0, .long 0, .long 1, .int 0, .ref 13, .int 0, .ref 14]) fX5_16 dX5_init_152 rfl rfl ?_
  refine nt_iload (pc := 155) dX5_init_155 rfl ?_
  refine nt_iconst (pc := 156) (v := -1) dX5_init_156 (by decide) ?_
  refine nt_iast (pc := 157) (i0 := 0) dX5_init_157 rfl (by unfold vp_in; decide) (by decide) ?_
  refine nt_inc1 (pc := 158) (v := 1) dX5_init_158 rfl (by decide) (by decide) ?_
  refine nt_goto (pc := 161) (tgt := 146) dX5_init_161 (by decide) ?_
  refine nt_iload (pc := 146) dX5_init_146 rfl ?_
  refine nt_iconst (pc := 147) (v := 4) dX5_init_147 (by decide) ?_
  refine nt_geF (pc := 148) (tgt := 164) dX5_init_148 (by decide) (by decide) ?_
  refine nt_aload (pc := 151) dX5_init_151 rfl ?_
  refine nt_getf (pc := 152) (fs := [.ref 1, .ref 2, .ref 3, .ref 4, .int 0, .ref 5, .ref 6, .ref 7, .ref 8, .ref 9, .ref 10, .int 0, .ref 11, .int 0, .ref 12, .int 0, .long 0, .long 1, .int 0, .ref 13, .int 0, .ref 14]) fX5_16 dX5_init_152 rfl rfl ?_
  refine nt_iload (pc := 155) dX5_init_155 rfl ?_
  refine nt_iconst (pc := 156) (v := -1) dX5_init_156 (by decide) ?_
  refine nt_iast (pc := 157) (i0 := 1) dX5_init_157 rfl (by unfold vp_in; decide) (by decide) ?_
  refine nt_inc1 (pc := 158) (v := 2) dX5_init_158 rfl (by decide) (by decide) ?_
  refine nt_goto (pc := 161) (tgt := 146) dX5_init_161 (by decide) ?_
  refine nt_iload (pc := 146) dX5_init_146 rfl ?_
  refine nt_iconst (pc := 147) (v := 4) dX5_init_147 (by decide) ?_
  refine nt_geF (pc := 148) (tgt := 164) dX5_init_148 (by decide) (by decide) ?_
  refine nt_aload (pc := 151) dX5_init_151 rfl ?_
  refine nt_getf (pc := 152) (fs := [.ref 1, .ref 2, .ref 3, .ref 4, .int 0, .ref 5, .ref 6, .ref 7, .ref 8, .ref 9, .ref 10, .int 0, .ref 11, .int 0, .ref 12, .int 0, .long 0, .long 1, .int 0, .ref 13, .int 0, .ref 14]) fX5_16 dX5_init_152 rfl rfl ?_
  refine nt_iload (pc := 155) dX5_init_155 rfl ?_
  refine nt_iconst (pc := 156) (v := -1) dX5_init_156 (by decide) ?_
  refine nt_iast (pc := 157) (i0 := 2) dX5_init_157 rfl (by unfold vp_in; decide) (by decide) ?_
  refine nt_inc1 (pc := 158) (v := 3) dX5_init_158 rfl (by decide) (by decide) ?_
  refine nt_goto (pc := 161) (tgt := 146) dX5_init_161 (by decide) ?_
  refine nt_iload (pc := 146) dX5_init_146 rfl ?_
  refine nt_iconst (pc := 147) (v := 4) dX5_init_147 (by decide) ?_
  refine nt_geF (pc := 148) (tgt := 164) dX5_init_148 (by decide) (by decide) ?_
  refine nt_aload (pc := 151) dX5_init_151 rfl ?_
  refine nt_getf (pc := 152) (fs := [.ref 1, .ref 2, .ref 3, .ref 4, .int 0, .ref 5, .ref 6, .ref 7, .ref 8, .ref 9, .ref 10, .int 0, .ref 11, .int 0, .ref 12, .int 0, .long 0, .long 1, .int 0, .ref 13, .int 0, .ref 14]) fX5_16 dX5_init_152 rfl rfl ?_
  refine nt_iload (pc := 155) dX5_init_155 rfl ?_
  refine nt_iconst (pc := 156) (v := -1) dX5_init_156 (by decide) ?_
  refine nt_iast (pc := 157) (i0 := 3) dX5_init_157 rfl (by unfold vp_in; decide) (by decide) ?_
  refine nt_inc1 (pc := 158) (v := 4) dX5_init_158 rfl (by decide) (by decide) ?_
  refine nt_goto (pc := 161) (tgt := 146) dX5_init_161 (by decide) ?_
  refine nt_iload (pc := 146) dX5_init_146 rfl ?_
  refine nt_iconst (pc := 147) (v := 4) dX5_init_147 (by decide) ?_
  refine nt_geT (pc := 148) (tgt := 164) dX5_init_148 (by decide) (by decide) ?_
  refine nt_iconst (pc := 164) (v := 0) dX5_init_164 (by decide) ?_
  refine nt_istore1 (pc := 165) dX5_init_165 rfl (by decide) ?_
  refine nt_iload (pc := 166) dX5_init_166 rfl ?_
  refine nt_iconst (pc := 167) (v := 3) dX5_init_167 (by decide) ?_
  refine nt_geF (pc := 168) (tgt := 184) dX5_init_168 (by decide) (by decide) ?_
  refine nt_aload (pc := 171) dX5_init_171 rfl ?_
  refine nt_getf (pc := 172) (fs := [.ref 1, .ref 2, .ref 3, .ref 4, .int 0, .ref 5, .ref 6, .ref 7, .ref 8, .ref 9, .ref 10, .int 0, .ref 11, .int 0, .ref 12, .int 0, .long 0, .long 1, .int 0, .ref 13, .int 0, .ref 14]) fX5_44 dX5_init_172 rfl rfl ?_
  refine nt_iload (pc := 175) dX5_init_175 rfl ?_
  refine nt_iconst (pc := 176) (v := -1) dX5_init_176 (by decide) ?_
  refine nt_iast (pc := 177) (i0 := 0) dX5_init_177 rfl (by unfold vp_in; decide) (by decide) ?_
  refine nt_inc1 (pc := 178) (v := 1) dX5_init_178 rfl (by decide) (by decide) ?_
  refine nt_goto (pc := 181) (tgt := 166) dX5_init_181 (by decide) ?_
  refine nt_iload (pc := 166) dX5_init_166 rfl ?_
  refine nt_iconst (pc := 167) (v := 3) dX5_init_167 (by decide) ?_
  refine nt_geF (pc := 168) (tgt := 184) dX5_init_168 (by decide) (by decide) ?_
  refine nt_aload (pc := 171) dX5_init_171 rfl ?_
  refine nt_getf (pc := 172) (fs := [.ref 1, .ref 2, .ref 3, .ref 4, .int 0, .ref 5, .ref 6, .ref 7, .ref 8, .ref 9, .ref 10, .int 0, .ref 11, .int 0, .ref 12, .int 0, .long 0, .long 1, .int 0, .ref 13, .int 0, .ref 14]) fX5_44 dX5_init_172 rfl rfl ?_
  refine nt_iload (pc := 175) dX5_init_175 rfl ?_
  refine nt_iconst (pc := 176) (v := -1) dX5_init_176 (by decide) ?_
  refine nt_iast (pc := 177) (i0 := 1) dX5_init_177 rfl (by unfold vp_in; decide) (by decide) ?_
  refine nt_inc1 (pc := 178) (v := 2) dX5_init_178 rfl (by decide) (by decide) ?_
  refine nt_goto (pc := 181) (tgt := 166) dX5_init_181 (by decide) ?_
  refine nt_iload (pc := 166) dX5_init_166 rfl ?_
  refine nt_iconst (pc := 167) (v := 3) dX5_init_167 (by decide) ?_
  refine nt_geF (pc := 168) (tgt := 184) dX5_init_168 (by decide) (by decide) ?_
  refine nt_aload (pc := 171) dX5_init_171 rfl ?_
  refine nt_getf (pc := 172) (fs := [.ref 1, .ref 2, .ref 3, .ref 4, .int 0, .ref 5, .ref 6, .ref 7, .ref 8, .ref 9, .ref 10, .int 0, .ref 11, .int 0, .ref 12, .int 0, .long 0, .long 1, .int 0, .ref 13, .int 0, .ref 14]) fX5_44 dX5_init_172 rfl rfl ?_
  refine nt_iload (pc := 175) dX5_init_175 rfl ?_
  refine nt_iconst (pc := 176) (v := -1) dX5_init_176 (by decide) ?_
  refine nt_iast (pc := 177) (i0 := 2) dX5_init_177 rfl (by unfold vp_in; decide) (by decide) ?_
  refine nt_inc1 (pc := 178) (v := 3) dX5_init_178 rfl (by decide) (by decide) ?_
  refine nt_goto (pc := 181) (tgt := 166) dX5_init_181 (by decide) ?_
  refine nt_iload (pc := 166) dX5_init_166 rfl ?_
  refine nt_iconst (pc := 167) (v := 3) dX5_init_167 (by decide) ?_
  refine nt_geT (pc := 168) (tgt := 184) dX5_init_168 (by decide) (by decide) ?_
  refine nt_ia (a := 1) (g' := fun _ => -1) rfl (by decide) ?_
  refine nt_ia (a := 3) (g' := fun _ => -1) rfl (by decide) ?_
  refine nt_ia (a := 12) (g' := fun _ => -1) rfl (by decide) ?_
  refine nt_vret dX5_init_184 rfl (by decide) (by decide) (by decide) ?_
  refine ⟨_, 0, fun _ => 0, 0, (hM_id rfl rfl).symm, ⟨rfl, _, rfl, fun r hr i hi => ?_⟩, ⟨rfl, _, rfl, fun r hr i hi => ?_⟩, ⟨_, _, _, rfl, rfl, rfl, fun k hk => ?_⟩, ⟨_, _, _, rfl, rfl, rfl⟩, ⟨fun j hj => ?_, fun k hk e he => ?_⟩, rfl, rfl, _, rfl⟩
  · exact absurd hi (Nat.not_lt_zero _)
  · exact absurd hi (Nat.not_lt_zero _)
  · exact absurd hk (Nat.not_lt_zero _)
  · have hj : j = 0 := Nat.le_zero.mp hj
    subst hj
    exact ⟨rfl, rfl, rfl, rfl, rfl, rfl⟩
  · cases he
