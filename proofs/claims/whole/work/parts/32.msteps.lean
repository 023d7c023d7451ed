set_option maxHeartbeats 4000000 in
set_option maxRecDepth 100000 in
theorem c_X5_now (dom : List Nat) (h : mh_H) (x : mxT) (sl : Nat → Int32) (tu : Int32) (n : Nat) (hx : x.2.2.1 = nI n) : Mt mX5_now dom 0 [.ref 0] (hM h x sl tu) (mx_Ri (fun v' h' => v' = nI (6 * n) ∧ h' = (hM h x sl tu))) := by
  refine Mt.of (L := [some (.ref 0)]) rfl (Nat.le_of_ble_eq_true rfl) rfl ?_
  refine ax_bipush (pc := 0) (v := nI 6) dX5_now_0 (by decide) ?_
  refine ax_aload_n (pc := 2) dX5_now_2 rfl ?_
  refine ax_getf (pc := 3) fX5_100 dX5_now_3 (by exact hM_0) rfl ?_
  refine At.ti hx ?_
  refine bx_imul dX5_now_6  ?_
  refine ax_iret (pc := 7) dX5_now_7 rfl ?_
  exact ⟨_, rfl, rfl, rfl⟩
set_option maxHeartbeats 4000000 in
set_option maxRecDepth 100000 in
theorem c_X5_driftOf (dom : List Nat) (h : mh_H) (x : mxT) (sl : Nat → Int32) (tu : Int32) (D : sp_D) (so fl dr : Nat → Int32) (hd : dayH D so fl dr h) (b k fi : Nat) (hb : b + 6 ≤ 1020) (hk : k < D.1) (h9 : D.1 ≤ 9) (hfi : fi < 512) (hs : sl (b + 5) = nI fi) : Mt mX5_driftOf dom 1 [.ref 0, .int (nI b), .int (nI k)] (hM h x sl tu) (mx_Ri (fun v' h' => v' = nI (sp_dr D fi k) ∧ h' = (hM h x sl tu))) := by
  refine Mt.of (L := [some (.ref 0), some (.int (nI b)), some (.int (nI k))]) rfl (Nat.le_of_ble_eq_true rfl) rfl ?_
  obtain ⟨d5, d6, d7, dR⟩ := id hd
  refine ax_aload_n (pc := 0) dX5_driftOf_0 rfl ?_
  refine ax_getf (pc := 1) fX5_41 dX5_driftOf_1 (by exact hM_0) rfl ?_
  refine ax_iload_n (pc := 4) dX5_driftOf_4 rfl ?_
  refine ax_iconst (pc := 5) (v := nI 5) dX5_driftOf_5 (by decide) ?_
  refine bx_iadd dX5_driftOf_6  ?_
  refine bx_slld dX5_driftOf_7 (by omega) hs ?_
  refine ax_iload_n (pc := 8) dX5_driftOf_8 rfl ?_
  refine ax_eSi2 (pc := 9) sX5_109 dX5_driftOf_9 (by decide) (Nat.le_of_ble_eq_true rfl) (c_X5_has _ _ fi k (by omega) (by omega)) ?_
  refine ax_ifeqB (pc := 12) (tgt := 19) dX5_driftOf_12 (by decide) (fun c12 => ?_) (fun c12 => ?_)
  · refine ax_aload_n (pc := 19) dX5_driftOf_19 rfl ?_
    refine ax_getf (pc := 20) fX5_29 dX5_driftOf_20 (by exact hM_0) rfl ?_
    refine ax_iload_n (pc := 23) dX5_driftOf_23 rfl ?_
    refine bx_iaload dX5_driftOf_24 ((hM_n (by decide)).trans d7) (by omega) (by decide) (dR k hk).2.2 ?_
    refine ax_iret (pc := 25) dX5_driftOf_25 rfl ?_
    exact ⟨_, rfl, by first | exact (congrArg nI (if_pos c12)).symm | exact (congrArg nI (if_neg c12)).symm, rfl⟩
  · refine ax_iconst (pc := 15) (v := nI 0) dX5_driftOf_15 (by decide) ?_
    refine ax_goto (pc := 16) (tgt := 25) dX5_driftOf_16 (by decide) ?_
    refine ax_iret (pc := 25) dX5_driftOf_25 rfl ?_
    exact ⟨_, rfl, by first | exact (congrArg nI (if_pos c12)).symm | exact (congrArg nI (if_neg c12)).symm, rfl⟩
theorem dr_lt {D : sp_D} {fi k : Nat} (hD0 : sp_D0 D) (hk : k < D.1) : sp_dr D fi k < 10 := sp_dr_lt (hD0.2.2 k (by have := hD0.2.1; omega)).2.2
theorem D0_j {D : sp_D} {k : Nat} (hD0 : sp_D0 D) (hk : k < D.1) : D.2.1 k < 6 ∧ D.2.2.1 k < 10 ∧ D.2.2.2 k < 10 := hD0.2.2 k (by have := hD0.2.1; omega)
set_option maxHeartbeats 4000000 in
set_option maxRecDepth 100000 in
theorem c_X5_grindsNow (dom : List Nat) (h : mh_H) (x : mxT) (sl : Nat → Int32) (tu : Int32) (D : sp_D) (so fl dr : Nat → Int32) (hd : dayH D so fl dr h) (b k fi t c : Nat) (hb : b + 6 ≤ 1020) (hk : k < D.1) (hD0 : sp_D0 D) (hfi : fi < 512) (hs : sl (b + 5) = nI fi) (h1 : sl (b + 1) = nI t) (h2 : sl (b + 2) = nI c) (ht : t ≤ 4) (hc : c ≤ 40) : Mt mX5_grindsNow dom 2 [.ref 0, .int (nI b), .int (nI k)] (hM h x sl tu) (mx_Ri (fun v' h' => v' = nI (sp_df D fi k t c) ∧ h' = (hM h x sl tu))) := by
  refine Mt.of (L := [some (.ref 0), some (.int (nI b)), some (.int (nI k))]) rfl (Nat.le_of_ble_eq_true rfl) rfl ?_
  obtain ⟨d5, d6, d7, dR⟩ := id hd
  have h9 := hD0.2.1
  refine ax_aload_n (pc := 0) dX5_grindsNow_0 rfl ?_
  refine ax_getf (pc := 1) fX5_23 dX5_grindsNow_1 (by exact hM_0) rfl ?_
  refine ax_iload_n (pc := 4) dX5_grindsNow_4 rfl ?_
  refine bx_iaload dX5_grindsNow_5 ((hM_n (by decide)).trans d5) (by omega) (by decide) (dR k hk).1 ?_
  refine ax_aload_n (pc := 6) dX5_grindsNow_6 rfl ?_
  refine ax_getf (pc := 7) fX5_26 dX5_grindsNow_7 (by exact hM_0) rfl ?_
  refine ax_iload_n (pc := 10) dX5_grindsNow_10 rfl ?_
  refine bx_iaload dX5_grindsNow_11 ((hM_n (by decide)).trans d6) (by omega) (by decide) (dR k hk).2.1 ?_
  refine ax_aload_n (pc := 12) dX5_grindsNow_12 rfl ?_
  refine ax_iload_n (pc := 13) dX5_grindsNow_13 rfl ?_
  refine ax_iload_n (pc := 14) dX5_grindsNow_14 rfl ?_
  refine ax_eVi2 (pc := 15) vX5_113 dX5_grindsNow_15 (by decide) (by exact hM_0) (Nat.le_of_ble_eq_true rfl) (c_X5_driftOf _ _ _ _ _ D so fl dr hd b k fi hb hk hD0.2.1 hfi hs) ?_
  refine ax_aload_n (pc := 18) dX5_grindsNow_18 rfl ?_
  refine ax_getf (pc := 19) fX5_41 dX5_grindsNow_19 (by exact hM_0) rfl ?_
  refine ax_iload_n (pc := 22) dX5_grindsNow_22 rfl ?_
  refine ax_iconst (pc := 23) (v := nI 1) dX5_grindsNow_23 (by decide) ?_
  refine bx_iadd dX5_grindsNow_24  ?_
  refine bx_slld dX5_grindsNow_25 (by omega) h1 ?_
  refine ax_aload_n (pc := 26) dX5_grindsNow_26 rfl ?_
  refine ax_getf (pc := 27) fX5_41 dX5_grindsNow_27 (by exact hM_0) rfl ?_
  refine ax_iload_n (pc := 30) dX5_grindsNow_30 rfl ?_
  refine ax_iconst (pc := 31) (v := nI 2) dX5_grindsNow_31 (by decide) ?_
  refine bx_iadd dX5_grindsNow_32  ?_
  refine bx_slld dX5_grindsNow_33 (by omega) h2 ?_
  refine ax_eSi5 (pc := 34) sX5_116 dX5_grindsNow_34 (by decide) (Nat.le_of_ble_eq_true rfl) (c_X5_grindsAs _ _ (D.2.1 k) (D.2.2.1 k) (sp_dr D fi k) t c (D0_j hD0 hk).1 (D0_j hD0 hk).2.1 (dr_lt hD0 hk) ht hc) ?_
  refine ax_iret (pc := 37) dX5_grindsNow_37 rfl ?_
  exact ⟨_, rfl, rfl, rfl⟩
set_option maxHeartbeats 4000000 in
set_option maxRecDepth 100000 in
theorem c_X5_leavesNow (dom : List Nat) (h : mh_H) (x : mxT) (sl : Nat → Int32) (tu : Int32) (D : sp_D) (so fl dr : Nat → Int32) (hd : dayH D so fl dr h) (b k fi : Nat) (hb : b + 6 ≤ 1020) (hk : k < D.1) (hD0 : sp_D0 D) (hfi : fi < 512) (hs : sl (b + 5) = nI fi) : Mt mX5_leavesNow dom 2 [.ref 0, .int (nI b), .int (nI k)] (hM h x sl tu) (mx_Ri (fun v' h' => v' = nI (sp_dl D fi k) ∧ h' = (hM h x sl tu))) := by
  refine Mt.of (L := [some (.ref 0), some (.int (nI b)), some (.int (nI k))]) rfl (Nat.le_of_ble_eq_true rfl) rfl ?_
  obtain ⟨d5, d6, d7, dR⟩ := id hd
  have h9 := hD0.2.1
  refine ax_aload_n (pc := 0) dX5_leavesNow_0 rfl ?_
  refine ax_getf (pc := 1) fX5_23 dX5_leavesNow_1 (by exact hM_0) rfl ?_
  refine ax_iload_n (pc := 4) dX5_leavesNow_4 rfl ?_
  refine bx_iaload dX5_leavesNow_5 ((hM_n (by decide)).trans d5) (by omega) (by decide) (dR k hk).1 ?_
  refine ax_aload_n (pc := 6) dX5_leavesNow_6 rfl ?_
  refine ax_iload_n (pc := 7) dX5_leavesNow_7 rfl ?_
  refine ax_iload_n (pc := 8) dX5_leavesNow_8 rfl ?_
  refine ax_eVi2 (pc := 9) vX5_113 dX5_leavesNow_9 (by decide) (by exact hM_0) (Nat.le_of_ble_eq_true rfl) (c_X5_driftOf _ _ _ _ _ D so fl dr hd b k fi hb hk hD0.2.1 hfi hs) ?_
  refine ax_eSi2 (pc := 12) sX5_120 dX5_leavesNow_12 (by decide) (Nat.le_of_ble_eq_true rfl) (c_X5_leavesAs _ _ (D.2.1 k) (sp_dr D fi k) (D0_j hD0 hk).1 (dr_lt hD0 hk)) ?_
  refine ax_iret (pc := 15) dX5_leavesNow_15 rfl ?_
  exact ⟨_, rfl, rfl, rfl⟩
set_option maxHeartbeats 4000000 in
set_option maxRecDepth 100000 in
theorem c_X5_isDay (dom : List Nat) (h : mh_H) (x : mxT) (sl : Nat → Int32) (tu : Int32) (n : Nat) (k : Int32) (hx : x.1 = nI n) : Mt mX5_isDay dom 1 [.ref 0, .int k] (hM h x sl tu) (mx_Ri (fun v' h' => v' = (if 0 ≤ k ∧ k ≤ nI n - 1 then 1 else 0) ∧ h' = (hM h x sl tu))) := by
  refine Mt.of (L := [some (.ref 0), some (.int k)]) rfl (Nat.le_of_ble_eq_true rfl) rfl ?_
  refine ax_iload_n (pc := 0) dX5_isDay_0 rfl ?_
  refine ax_i2l (pc := 1) dX5_isDay_1 ?_
  refine ax_lconst (pc := 2) (v := 0) dX5_isDay_2 (by decide) ?_
  refine ax_aload_n (pc := 3) dX5_isDay_3 rfl ?_
  refine ax_getf (pc := 4) fX5_97 dX5_isDay_4 (by exact hM_0) rfl ?_
  refine At.ti hx ?_
  refine ax_iconst (pc := 7) (v := 1) dX5_isDay_7 (by decide) ?_
  refine ax_isub (pc := 8) dX5_isDay_8 ?_
  refine ax_i2l (pc := 9) dX5_isDay_9 ?_
  refine ax_eSi3 (pc := 10) sX5_63 dX5_isDay_10 (by decide) (Nat.le_of_ble_eq_true rfl) (c_X5_in _ _ k 0 (nI n - 1) _ _ (by decide) rfl) ?_
  refine ax_zret (pc := 13) dX5_isDay_13 rfl (by first | rfl | exact bi_n) ?_
  exact ⟨_, rfl, rfl, rfl⟩
theorem ps_t {n a : Nat} (h : a < n) : (a + (n - 1)) % n = sp_pass n true a := by
  unfold sp_pass
  rw [if_pos rfl]
  split
  · rw [show a + (n - 1) = (a - 1) + n by omega, Nat.add_mod_right, Nat.mod_eq_of_lt (by omega)]
  · rw [Nat.mod_eq_of_lt (by omega)]; omega
theorem ps_f {n a : Nat} (h : a < n) : (a + 1) % n = sp_pass n false a := by
  unfold sp_pass
  rw [if_neg (by decide)]
  split
  · rw [Nat.mod_eq_of_lt (by omega)]
  · rw [show a + 1 = n by omega, Nat.mod_self]
theorem sm_40 {c u : Nat} (hc : c ≤ 40) (hu : u ≤ 24) : (if (40 : Int32) < nI (c + u) then 40 else nI (c + u)) = nI (min 40 (c + u)) := by
  by_cases h : 40 < c + u
  · rw [if_pos (by rw [n_40, nI_ltI (by omega) (by omega)]; exact h), Nat.min_eq_left (by omega)]; rfl
  · rw [if_neg (by rw [n_40, nI_ltI (by omega) (by omega)]; exact h), Nat.min_eq_right (by omega)]
theorem bb_x1 {b : Bool} : bb b ^^^ nI 1 = bb (!b) := by cases b <;> decide
theorem bb_x0 {b : Bool} : bb b ^^^ nI 0 = bb b := by cases b <;> decide
theorem bb_1 {b : Bool} : bb b = nI 1 ↔ b = true := by cases b <;> decide
theorem s6_x1 {sl : Nat → Int32} {b fi : Nat} {w : sp_W} {g : Int32} : upd (s6 sl b w fi g) (b + 4) (bb w.2.2.2.1 ^^^ nI 1) = s6 sl b (w.1, w.2.1, w.2.2.1, !w.2.2.2.1, w.2.2.2.2) fi g := by
  rw [bb_x1]
  exact s6_u4
theorem s6_x0 {sl : Nat → Int32} {b fi : Nat} {w : sp_W} {g : Int32} : upd (s6 sl b w fi g) (b + 4) (bb w.2.2.2.1 ^^^ nI 0) = s6 sl b (w.1, w.2.1, w.2.2.1, w.2.2.2.1, w.2.2.2.2) fi g := by
  rw [bb_x0]
  exact s6_u4
theorem mv_0 {n : Nat} {w : sp_W} {u : Nat} : sp_mv n w 0 u = (sp_pass n (!w.2.2.2.1) w.1, w.2.1, min 40 (w.2.2.1 + u), !w.2.2.2.1, w.2.2.2.2 + 0) := rfl
theorem mv_n {n : Nat} {w : sp_W} {v u : Nat} (h : v ≠ 0) : sp_mv n w v u = (sp_pass n w.2.2.2.1 w.1, w.2.1, min 40 (w.2.2.1 + u), w.2.2.2.1, w.2.2.2.2 + v) := by
  unfold sp_mv
  simp only [if_neg h]
/-- what a step leaves in a slot -/
theorem s6_st {sl : Nat → Int32} {b fi : Nat} {w : sp_W} {g : Int32} {n c a : Nat} {k : Bool} {t : Int32} : upd (upd (upd (upd (s6 sl b w fi g) (b + 2) (nI c)) (b + 3) t) (b + 4) (bb k)) b (nI a) = s6 sl b (a, w.2.1, c, k, n) fi t := by
  rw [s6_u2, s6_u3, s6_u4, s6_u0]
  rfl
set_option maxHeartbeats 4000000 in
set_option maxRecDepth 100000 in
theorem l_X5_stzt (dom : List Nat) (h : mh_H) (x : mxT) (sl : Nat → Int32) (tu : Int32) (n : Nat) (a0 t0 c0 g0 : Nat) (g : Int32) (b fi : Nat) (z : Int32) (hb : b + 6 ≤ 1020) (hn : 2 ≤ n ∧ n ≤ 9) (hk : a0 < n) (hx : x.1 = nI n) : At mX5_steps dom 3 61 [some (.ref 0), some (.int (nI b)), some (.int z), some (.int (nI a0)), some (.int (nI 0))] [] (hM h x (s6 sl b (a0, t0, c0, true, g0) fi g) tu) (mx_Ri (fun v' h' => v' = nI 0 ∧ h' = hM h x (s6 sl b (sp_pass n false a0, t0, c0, false, g0 + 0) fi (g + nI 0)) (tu + 1))) := by
  refine ax_aload_n (pc := 61) dX5_steps_61 rfl ?_
  refine ax_getf (pc := 62) fX5_41 dX5_steps_62 (by exact hM_0) rfl ?_
  refine ax_iload_n (pc := 65) dX5_steps_65 rfl ?_
  refine ax_iconst (pc := 66) (v := nI 3) dX5_steps_66 (by decide) ?_
  refine bx_iadd dX5_steps_67  ?_
  refine ax_dup2 (pc := 68) dX5_steps_68 rfl rfl ?_
  refine bx_slld dX5_steps_69 (by omega) s6_3 ?_
  refine ax_iload (pc := 70) dX5_steps_70 rfl ?_
  refine ax_iadd (pc := 72) dX5_steps_72 ?_
  refine bx_slst dX5_steps_73 (by omega) s6_u3 ?_
  refine ax_aload_n (pc := 74) dX5_steps_74 rfl ?_
  refine ax_dup (pc := 75) dX5_steps_75 rfl ?_
  refine ax_getf (pc := 76) fX5_147 dX5_steps_76 (by exact hM_0) rfl ?_
  refine ax_iload (pc := 79) dX5_steps_79 rfl ?_
  refine ax_ifne (pc := 81) (tgt := 88) dX5_steps_81 (by decide) (fun q => absurd q (fun q => q (rfl : nI 0 = 0))) (fun _ => ?_)
  refine ax_iconst (pc := 84) (v := 1) dX5_steps_84 (by decide) ?_
  refine ax_goto (pc := 85) (tgt := 89) dX5_steps_85 (by decide) ?_
  refine ax_iadd (pc := 89) dX5_steps_89 ?_
  refine bx_pturned gX5_147 dX5_steps_90 ?_
  refine ax_aload_n (pc := 93) dX5_steps_93 rfl ?_
  refine ax_getf (pc := 94) fX5_41 dX5_steps_94 (by exact hM_0) rfl ?_
  refine ax_iload_n (pc := 97) dX5_steps_97 rfl ?_
  refine ax_iconst (pc := 98) (v := nI 4) dX5_steps_98 (by decide) ?_
  refine bx_iadd dX5_steps_99  ?_
  refine ax_dup2 (pc := 100) dX5_steps_100 rfl rfl ?_
  refine bx_slld dX5_steps_101 (by omega) s6_4 ?_
  refine ax_iload (pc := 102) dX5_steps_102 rfl ?_
  refine ax_ifne (pc := 104) (tgt := 111) dX5_steps_104 (by decide) (fun q => absurd q (fun q => q (rfl : nI 0 = 0))) (fun _ => ?_)
  refine ax_iconst (pc := 107) (v := nI 1) dX5_steps_107 (by decide) ?_
  refine ax_goto (pc := 108) (tgt := 112) dX5_steps_108 (by decide) ?_
  refine ax_ixor (pc := 112) dX5_steps_112 ?_
  refine bx_slst dX5_steps_113 (by omega) s6_x1 ?_
  refine ax_aload_n (pc := 114) dX5_steps_114 rfl ?_
  refine ax_getf (pc := 115) fX5_41 dX5_steps_115 (by exact hM_0) rfl ?_
  refine ax_iload_n (pc := 118) dX5_steps_118 rfl ?_
  refine ax_iconst (pc := 119) (v := nI 0) dX5_steps_119 (by decide) ?_
  refine bx_iadd dX5_steps_120  ?_
  refine ax_iload_n (pc := 121) dX5_steps_121 rfl ?_
  refine ax_aload_n (pc := 122) dX5_steps_122 rfl ?_
  refine ax_getf (pc := 123) fX5_41 dX5_steps_123 (by exact hM_0) rfl ?_
  refine ax_iload_n (pc := 126) dX5_steps_126 rfl ?_
  refine ax_iconst (pc := 127) (v := nI 4) dX5_steps_127 (by decide) ?_
  refine bx_iadd dX5_steps_128  ?_
  refine bx_slld dX5_steps_129 (by omega) s6_4 ?_
  refine ax_iconst (pc := 130) (v := nI 1) dX5_steps_130 (by decide) ?_
  refine ax_icmpne (pc := 131) (tgt := 143) dX5_steps_131 (by decide) (fun _ => ?_) (fun q => absurd q (show ¬ bb false = nI 1 by decide))
  refine ax_iconst (pc := 143) (v := nI 1) dX5_steps_143 (by decide) ?_
  refine bx_iadd dX5_steps_144  ?_
  refine ax_aload_n (pc := 145) dX5_steps_145 rfl ?_
  refine ax_getf (pc := 146) fX5_97 dX5_steps_146 (by exact hM_0) rfl ?_
  refine At.ti hx ?_
  refine bx_irem dX5_steps_149 (by omega) (by omega) (by omega) ?_
  refine bx_slst dX5_steps_150 (by omega) s6_u0 ?_
  refine ax_iload (pc := 151) dX5_steps_151 rfl ?_
  refine ax_iret (pc := 153) dX5_steps_153 rfl ?_
  rw [ps_f hk]
  exact ⟨_, rfl, rfl, rfl⟩
set_option maxHeartbeats 4000000 in
set_option maxRecDepth 100000 in
theorem l_X5_stzf (dom : List Nat) (h : mh_H) (x : mxT) (sl : Nat → Int32) (tu : Int32) (n : Nat) (a0 t0 c0 g0 : Nat) (g : Int32) (b fi : Nat) (z : Int32) (hb : b + 6 ≤ 1020) (hn : 2 ≤ n ∧ n ≤ 9) (hk : a0 < n) (hx : x.1 = nI n) : At mX5_steps dom 3 61 [some (.ref 0), some (.int (nI b)), some (.int z), some (.int (nI a0)), some (.int (nI 0))] [] (hM h x (s6 sl b (a0, t0, c0, false, g0) fi g) tu) (mx_Ri (fun v' h' => v' = nI 0 ∧ h' = hM h x (s6 sl b (sp_pass n true a0, t0, c0, true, g0 + 0) fi (g + nI 0)) (tu + 1))) := by
  refine ax_aload_n (pc := 61) dX5_steps_61 rfl ?_
  refine ax_getf (pc := 62) fX5_41 dX5_steps_62 (by exact hM_0) rfl ?_
  refine ax_iload_n (pc := 65) dX5_steps_65 rfl ?_
  refine ax_iconst (pc := 66) (v := nI 3) dX5_steps_66 (by decide) ?_
  refine bx_iadd dX5_steps_67  ?_
  refine ax_dup2 (pc := 68) dX5_steps_68 rfl rfl ?_
  refine bx_slld dX5_steps_69 (by omega) s6_3 ?_
  refine ax_iload (pc := 70) dX5_steps_70 rfl ?_
  refine ax_iadd (pc := 72) dX5_steps_72 ?_
  refine bx_slst dX5_steps_73 (by omega) s6_u3 ?_
  refine ax_aload_n (pc := 74) dX5_steps_74 rfl ?_
  refine ax_dup (pc := 75) dX5_steps_75 rfl ?_
  refine ax_getf (pc := 76) fX5_147 dX5_steps_76 (by exact hM_0) rfl ?_
  refine ax_iload (pc := 79) dX5_steps_79 rfl ?_
  refine ax_ifne (pc := 81) (tgt := 88) dX5_steps_81 (by decide) (fun q => absurd q (fun q => q (rfl : nI 0 = 0))) (fun _ => ?_)
  refine ax_iconst (pc := 84) (v := 1) dX5_steps_84 (by decide) ?_
  refine ax_goto (pc := 85) (tgt := 89) dX5_steps_85 (by decide) ?_
  refine ax_iadd (pc := 89) dX5_steps_89 ?_
  refine bx_pturned gX5_147 dX5_steps_90 ?_
  refine ax_aload_n (pc := 93) dX5_steps_93 rfl ?_
  refine ax_getf (pc := 94) fX5_41 dX5_steps_94 (by exact hM_0) rfl ?_
  refine ax_iload_n (pc := 97) dX5_steps_97 rfl ?_
  refine ax_iconst (pc := 98) (v := nI 4) dX5_steps_98 (by decide) ?_
  refine bx_iadd dX5_steps_99  ?_
  refine ax_dup2 (pc := 100) dX5_steps_100 rfl rfl ?_
  refine bx_slld dX5_steps_101 (by omega) s6_4 ?_
  refine ax_iload (pc := 102) dX5_steps_102 rfl ?_
  refine ax_ifne (pc := 104) (tgt := 111) dX5_steps_104 (by decide) (fun q => absurd q (fun q => q (rfl : nI 0 = 0))) (fun _ => ?_)
  refine ax_iconst (pc := 107) (v := nI 1) dX5_steps_107 (by decide) ?_
  refine ax_goto (pc := 108) (tgt := 112) dX5_steps_108 (by decide) ?_
  refine ax_ixor (pc := 112) dX5_steps_112 ?_
  refine bx_slst dX5_steps_113 (by omega) s6_x1 ?_
  refine ax_aload_n (pc := 114) dX5_steps_114 rfl ?_
  refine ax_getf (pc := 115) fX5_41 dX5_steps_115 (by exact hM_0) rfl ?_
  refine ax_iload_n (pc := 118) dX5_steps_118 rfl ?_
  refine ax_iconst (pc := 119) (v := nI 0) dX5_steps_119 (by decide) ?_
  refine bx_iadd dX5_steps_120  ?_
  refine ax_iload_n (pc := 121) dX5_steps_121 rfl ?_
  refine ax_aload_n (pc := 122) dX5_steps_122 rfl ?_
  refine ax_getf (pc := 123) fX5_41 dX5_steps_123 (by exact hM_0) rfl ?_
  refine ax_iload_n (pc := 126) dX5_steps_126 rfl ?_
  refine ax_iconst (pc := 127) (v := nI 4) dX5_steps_127 (by decide) ?_
  refine bx_iadd dX5_steps_128  ?_
  refine bx_slld dX5_steps_129 (by omega) s6_4 ?_
  refine ax_iconst (pc := 130) (v := nI 1) dX5_steps_130 (by decide) ?_
  refine ax_icmpne (pc := 131) (tgt := 143) dX5_steps_131 (by decide) (fun q => absurd q (show ¬ ¬ bb true = nI 1 by decide)) (fun _ => ?_)
  refine ax_aload_n (pc := 134) dX5_steps_134 rfl ?_
  refine ax_getf (pc := 135) fX5_97 dX5_steps_135 (by exact hM_0) rfl ?_
  refine At.ti hx ?_
  refine ax_iconst (pc := 138) (v := nI 1) dX5_steps_138 (by decide) ?_
  refine bx_isub dX5_steps_139 (by omega) ?_
  refine ax_goto (pc := 140) (tgt := 144) dX5_steps_140 (by decide) ?_
  refine bx_iadd dX5_steps_144  ?_
  refine ax_aload_n (pc := 145) dX5_steps_145 rfl ?_
  refine ax_getf (pc := 146) fX5_97 dX5_steps_146 (by exact hM_0) rfl ?_
  refine At.ti hx ?_
  refine bx_irem dX5_steps_149 (by omega) (by omega) (by omega) ?_
  refine bx_slst dX5_steps_150 (by omega) s6_u0 ?_
  refine ax_iload (pc := 151) dX5_steps_151 rfl ?_
  refine ax_iret (pc := 153) dX5_steps_153 rfl ?_
  rw [ps_t hk]
  exact ⟨_, rfl, rfl, rfl⟩
set_option maxHeartbeats 4000000 in
set_option maxRecDepth 100000 in
theorem l_X5_stpt (dom : List Nat) (h : mh_H) (x : mxT) (sl : Nat → Int32) (tu : Int32) (n v : Nat) (a0 t0 c0 g0 : Nat) (g : Int32) (b fi : Nat) (z : Int32) (hb : b + 6 ≤ 1020) (hn : 2 ≤ n ∧ n ≤ 9) (hk : a0 < n) (hx : x.1 = nI n) (hv : v ≤ 77) (hv0 : v ≠ 0) : At mX5_steps dom 3 61 [some (.ref 0), some (.int (nI b)), some (.int z), some (.int (nI a0)), some (.int (nI v))] [] (hM h x (s6 sl b (a0, t0, c0, true, g0) fi g) tu) (mx_Ri (fun v' h' => v' = nI v ∧ h' = hM h x (s6 sl b (sp_pass n true a0, t0, c0, true, g0 + v) fi (g + nI v)) (tu + 0))) := by
  refine ax_aload_n (pc := 61) dX5_steps_61 rfl ?_
  refine ax_getf (pc := 62) fX5_41 dX5_steps_62 (by exact hM_0) rfl ?_
  refine ax_iload_n (pc := 65) dX5_steps_65 rfl ?_
  refine ax_iconst (pc := 66) (v := nI 3) dX5_steps_66 (by decide) ?_
  refine bx_iadd dX5_steps_67  ?_
  refine ax_dup2 (pc := 68) dX5_steps_68 rfl rfl ?_
  refine bx_slld dX5_steps_69 (by omega) s6_3 ?_
  refine ax_iload (pc := 70) dX5_steps_70 rfl ?_
  refine ax_iadd (pc := 72) dX5_steps_72 ?_
  refine bx_slst dX5_steps_73 (by omega) s6_u3 ?_
  refine ax_aload_n (pc := 74) dX5_steps_74 rfl ?_
  refine ax_dup (pc := 75) dX5_steps_75 rfl ?_
  refine ax_getf (pc := 76) fX5_147 dX5_steps_76 (by exact hM_0) rfl ?_
  refine ax_iload (pc := 79) dX5_steps_79 rfl ?_
  refine ax_ifne (pc := 81) (tgt := 88) dX5_steps_81 (by decide) (fun _ => ?_) (fun q => absurd q (nI_ne0 (by omega) (by omega)))
  refine ax_iconst (pc := 88) (v := 0) dX5_steps_88 (by decide) ?_
  refine ax_iadd (pc := 89) dX5_steps_89 ?_
  refine bx_pturned gX5_147 dX5_steps_90 ?_
  refine ax_aload_n (pc := 93) dX5_steps_93 rfl ?_
  refine ax_getf (pc := 94) fX5_41 dX5_steps_94 (by exact hM_0) rfl ?_
  refine ax_iload_n (pc := 97) dX5_steps_97 rfl ?_
  refine ax_iconst (pc := 98) (v := nI 4) dX5_steps_98 (by decide) ?_
  refine bx_iadd dX5_steps_99  ?_
  refine ax_dup2 (pc := 100) dX5_steps_100 rfl rfl ?_
  refine bx_slld dX5_steps_101 (by omega) s6_4 ?_
  refine ax_iload (pc := 102) dX5_steps_102 rfl ?_
  refine ax_ifne (pc := 104) (tgt := 111) dX5_steps_104 (by decide) (fun _ => ?_) (fun q => absurd q (nI_ne0 (by omega) (by omega)))
  refine ax_iconst (pc := 111) (v := nI 0) dX5_steps_111 (by decide) ?_
  refine ax_ixor (pc := 112) dX5_steps_112 ?_
  refine bx_slst dX5_steps_113 (by omega) s6_x0 ?_
  refine ax_aload_n (pc := 114) dX5_steps_114 rfl ?_
  refine ax_getf (pc := 115) fX5_41 dX5_steps_115 (by exact hM_0) rfl ?_
  refine ax_iload_n (pc := 118) dX5_steps_118 rfl ?_
  refine ax_iconst (pc := 119) (v := nI 0) dX5_steps_119 (by decide) ?_
  refine bx_iadd dX5_steps_120  ?_
  refine ax_iload_n (pc := 121) dX5_steps_121 rfl ?_
  refine ax_aload_n (pc := 122) dX5_steps_122 rfl ?_
  refine ax_getf (pc := 123) fX5_41 dX5_steps_123 (by exact hM_0) rfl ?_
  refine ax_iload_n (pc := 126) dX5_steps_126 rfl ?_
  refine ax_iconst (pc := 127) (v := nI 4) dX5_steps_127 (by decide) ?_
  refine bx_iadd dX5_steps_128  ?_
  refine bx_slld dX5_steps_129 (by omega) s6_4 ?_
  refine ax_iconst (pc := 130) (v := nI 1) dX5_steps_130 (by decide) ?_
  refine ax_icmpne (pc := 131) (tgt := 143) dX5_steps_131 (by decide) (fun q => absurd q (show ¬ ¬ bb true = nI 1 by decide)) (fun _ => ?_)
  refine ax_aload_n (pc := 134) dX5_steps_134 rfl ?_
  refine ax_getf (pc := 135) fX5_97 dX5_steps_135 (by exact hM_0) rfl ?_
  refine At.ti hx ?_
  refine ax_iconst (pc := 138) (v := nI 1) dX5_steps_138 (by decide) ?_
  refine bx_isub dX5_steps_139 (by omega) ?_
  refine ax_goto (pc := 140) (tgt := 144) dX5_steps_140 (by decide) ?_
  refine bx_iadd dX5_steps_144  ?_
  refine ax_aload_n (pc := 145) dX5_steps_145 rfl ?_
  refine ax_getf (pc := 146) fX5_97 dX5_steps_146 (by exact hM_0) rfl ?_
  refine At.ti hx ?_
  refine bx_irem dX5_steps_149 (by omega) (by omega) (by omega) ?_
  refine bx_slst dX5_steps_150 (by omega) s6_u0 ?_
  refine ax_iload (pc := 151) dX5_steps_151 rfl ?_
  refine ax_iret (pc := 153) dX5_steps_153 rfl ?_
  rw [ps_t hk]
  exact ⟨_, rfl, rfl, rfl⟩
set_option maxHeartbeats 4000000 in
set_option maxRecDepth 100000 in
theorem l_X5_stpf (dom : List Nat) (h : mh_H) (x : mxT) (sl : Nat → Int32) (tu : Int32) (n v : Nat) (a0 t0 c0 g0 : Nat) (g : Int32) (b fi : Nat) (z : Int32) (hb : b + 6 ≤ 1020) (hn : 2 ≤ n ∧ n ≤ 9) (hk : a0 < n) (hx : x.1 = nI n) (hv : v ≤ 77) (hv0 : v ≠ 0) : At mX5_steps dom 3 61 [some (.ref 0), some (.int (nI b)), some (.int z), some (.int (nI a0)), some (.int (nI v))] [] (hM h x (s6 sl b (a0, t0, c0, false, g0) fi g) tu) (mx_Ri (fun v' h' => v' = nI v ∧ h' = hM h x (s6 sl b (sp_pass n false a0, t0, c0, false, g0 + v) fi (g + nI v)) (tu + 0))) := by
  refine ax_aload_n (pc := 61) dX5_steps_61 rfl ?_
  refine ax_getf (pc := 62) fX5_41 dX5_steps_62 (by exact hM_0) rfl ?_
  refine ax_iload_n (pc := 65) dX5_steps_65 rfl ?_
  refine ax_iconst (pc := 66) (v := nI 3) dX5_steps_66 (by decide) ?_
  refine bx_iadd dX5_steps_67  ?_
  refine ax_dup2 (pc := 68) dX5_steps_68 rfl rfl ?_
  refine bx_slld dX5_steps_69 (by omega) s6_3 ?_
  refine ax_iload (pc := 70) dX5_steps_70 rfl ?_
  refine ax_iadd (pc := 72) dX5_steps_72 ?_
  refine bx_slst dX5_steps_73 (by omega) s6_u3 ?_
  refine ax_aload_n (pc := 74) dX5_steps_74 rfl ?_
  refine ax_dup (pc := 75) dX5_steps_75 rfl ?_
  refine ax_getf (pc := 76) fX5_147 dX5_steps_76 (by exact hM_0) rfl ?_
  refine ax_iload (pc := 79) dX5_steps_79 rfl ?_
  refine ax_ifne (pc := 81) (tgt := 88) dX5_steps_81 (by decide) (fun _ => ?_) (fun q => absurd q (nI_ne0 (by omega) (by omega)))
  refine ax_iconst (pc := 88) (v := 0) dX5_steps_88 (by decide) ?_
  refine ax_iadd (pc := 89) dX5_steps_89 ?_
  refine bx_pturned gX5_147 dX5_steps_90 ?_
  refine ax_aload_n (pc := 93) dX5_steps_93 rfl ?_
  refine ax_getf (pc := 94) fX5_41 dX5_steps_94 (by exact hM_0) rfl ?_
  refine ax_iload_n (pc := 97) dX5_steps_97 rfl ?_
  refine ax_iconst (pc := 98) (v := nI 4) dX5_steps_98 (by decide) ?_
  refine bx_iadd dX5_steps_99  ?_
  refine ax_dup2 (pc := 100) dX5_steps_100 rfl rfl ?_
  refine bx_slld dX5_steps_101 (by omega) s6_4 ?_
  refine ax_iload (pc := 102) dX5_steps_102 rfl ?_
  refine ax_ifne (pc := 104) (tgt := 111) dX5_steps_104 (by decide) (fun _ => ?_) (fun q => absurd q (nI_ne0 (by omega) (by omega)))
  refine ax_iconst (pc := 111) (v := nI 0) dX5_steps_111 (by decide) ?_
  refine ax_ixor (pc := 112) dX5_steps_112 ?_
  refine bx_slst dX5_steps_113 (by omega) s6_x0 ?_
  refine ax_aload_n (pc := 114) dX5_steps_114 rfl ?_
  refine ax_getf (pc := 115) fX5_41 dX5_steps_115 (by exact hM_0) rfl ?_
  refine ax_iload_n (pc := 118) dX5_steps_118 rfl ?_
  refine ax_iconst (pc := 119) (v := nI 0) dX5_steps_119 (by decide) ?_
  refine bx_iadd dX5_steps_120  ?_
  refine ax_iload_n (pc := 121) dX5_steps_121 rfl ?_
  refine ax_aload_n (pc := 122) dX5_steps_122 rfl ?_
  refine ax_getf (pc := 123) fX5_41 dX5_steps_123 (by exact hM_0) rfl ?_
  refine ax_iload_n (pc := 126) dX5_steps_126 rfl ?_
  refine ax_iconst (pc := 127) (v := nI 4) dX5_steps_127 (by decide) ?_
  refine bx_iadd dX5_steps_128  ?_
  refine bx_slld dX5_steps_129 (by omega) s6_4 ?_
  refine ax_iconst (pc := 130) (v := nI 1) dX5_steps_130 (by decide) ?_
  refine ax_icmpne (pc := 131) (tgt := 143) dX5_steps_131 (by decide) (fun _ => ?_) (fun q => absurd q (show ¬ bb false = nI 1 by decide))
  refine ax_iconst (pc := 143) (v := nI 1) dX5_steps_143 (by decide) ?_
  refine bx_iadd dX5_steps_144  ?_
  refine ax_aload_n (pc := 145) dX5_steps_145 rfl ?_
  refine ax_getf (pc := 146) fX5_97 dX5_steps_146 (by exact hM_0) rfl ?_
  refine At.ti hx ?_
  refine bx_irem dX5_steps_149 (by omega) (by omega) (by omega) ?_
  refine bx_slst dX5_steps_150 (by omega) s6_u0 ?_
  refine ax_iload (pc := 151) dX5_steps_151 rfl ?_
  refine ax_iret (pc := 153) dX5_steps_153 rfl ?_
  rw [ps_f hk]
  exact ⟨_, rfl, rfl, rfl⟩
theorem l_X5_st61 (dom : List Nat) (h : mh_H) (x : mxT) (sl : Nat → Int32) (tu : Int32) (n v : Nat) (w : sp_W) (g : Int32) (b fi : Nat) (z : Int32) (hb : b + 6 ≤ 1020) (hn : 2 ≤ n ∧ n ≤ 9) (hk : w.1 < n) (hx : x.1 = nI n) (hv : v ≤ 77) : At mX5_steps dom 3 61 [some (.ref 0), some (.int (nI b)), some (.int z), some (.int (nI w.1)), some (.int (nI v))] [] (hM h x (s6 sl b w fi g) tu) (mx_Ri (fun v' h' => v' = nI v ∧ h' = hM h x (s6 sl b (sp_pass n (if v = 0 then !w.2.2.2.1 else w.2.2.2.1) w.1, w.2.1, w.2.2.1, (if v = 0 then !w.2.2.2.1 else w.2.2.2.1), w.2.2.2.2 + v) fi (g + nI v)) (tu + (if v = 0 then 1 else 0)))) := by
  obtain ⟨a0, t0, c0, k0, g0⟩ := w
  by_cases hv0 : v = 0
  · subst hv0
    cases k0
    · exact l_X5_stzf dom h x sl tu n a0 t0 c0 g0 g b fi z hb hn hk hx
    · exact l_X5_stzt dom h x sl tu n a0 t0 c0 g0 g b fi z hb hn hk hx
  · simp only [if_neg hv0]
    cases k0
    · exact l_X5_stpf dom h x sl tu n v a0 t0 c0 g0 g b fi z hb hn hk hx hv hv0
    · exact l_X5_stpt dom h x sl tu n v a0 t0 c0 g0 g b fi z hb hn hk hx hv hv0
set_option maxHeartbeats 4000000 in
set_option maxRecDepth 100000 in
theorem c_X5_steps (dom : List Nat) (h : mh_H) (x : mxT) (sl : Nat → Int32) (tu : Int32) (D : sp_D) (so fl dr : Nat → Int32) (hd : dayH D so fl dr h) (b fi : Nat) (w : sp_W) (g : Int32) (hb : b + 6 ≤ 1020) (hD0 : sp_D0 D) (hW0 : sp_W0 D.1 w) (hfi : fi < 512) (hx : x.1 = nI D.1) : Mt mX5_steps dom 3 [.ref 0, .int (nI b), .int 0] (hM h x (s6 sl b w fi g) tu) (mx_Ri (fun v' h' => v' = nI (sp_wf D fi w) ∧ h' = hM h x (s6 sl b (sp_st D fi w) fi (g + nI (sp_wf D fi w))) (tu + (if sp_wf D fi w = 0 then 1 else 0)))) := by
  refine Mt.of (L := [some (.ref 0), some (.int (nI b)), some (.int 0), none, none]) rfl (Nat.le_of_ble_eq_true rfl) rfl ?_
  obtain ⟨d5, d6, d7, dR⟩ := id hd
  have h9 := hD0.2.1
  have h2 := hD0.1
  refine ax_aload_n (pc := 0) dX5_steps_0 rfl ?_
  refine ax_getf (pc := 1) fX5_41 dX5_steps_1 (by exact hM_0) rfl ?_
  refine ax_iload_n (pc := 4) dX5_steps_4 rfl ?_
  refine ax_iconst (pc := 5) (v := nI 0) dX5_steps_5 (by decide) ?_
  refine bx_iadd dX5_steps_6  ?_
  refine bx_slld dX5_steps_7 (by omega) s6_0 ?_
  refine ax_istore3 (pc := 8) dX5_steps_8 rfl (by decide) ?_
  refine ax_iload_n (pc := 9) dX5_steps_9 rfl ?_
  refine ax_ifeq (pc := 10) (tgt := 17) dX5_steps_10 (by decide) (fun _ => ?_) (fun q => absurd (rfl : (0 : Int32) = 0) q)
  refine ax_aload_n (pc := 17) dX5_steps_17 rfl ?_
  refine ax_iload_n (pc := 18) dX5_steps_18 rfl ?_
  refine ax_iload_n (pc := 19) dX5_steps_19 rfl ?_
  refine ax_eVi2 (pc := 20) vX5_127 dX5_steps_20 (by decide) (by exact hM_0) (Nat.le_of_ble_eq_true rfl) (c_X5_grindsNow _ h x _ tu D so fl dr hd b w.1 fi w.2.1 w.2.2.1 hb hW0.1 hD0 hfi s6_5 s6_1 s6_2 hW0.2.1 hW0.2.2) ?_
  refine ax_istore4 (pc := 23) dX5_steps_23 rfl (by decide) ?_
  refine ax_aload_n (pc := 25) dX5_steps_25 rfl ?_
  refine ax_getf (pc := 26) fX5_41 dX5_steps_26 (by exact hM_0) rfl ?_
  refine ax_iload_n (pc := 29) dX5_steps_29 rfl ?_
  refine ax_iconst (pc := 30) (v := nI 2) dX5_steps_30 (by decide) ?_
  refine bx_iadd dX5_steps_31  ?_
  refine ax_bipush (pc := 32) (v := 40) dX5_steps_32 (by decide) ?_
  refine ax_aload_n (pc := 34) dX5_steps_34 rfl ?_
  refine ax_getf (pc := 35) fX5_41 dX5_steps_35 (by exact hM_0) rfl ?_
  refine ax_iload_n (pc := 38) dX5_steps_38 rfl ?_
  refine ax_iconst (pc := 39) (v := nI 2) dX5_steps_39 (by decide) ?_
  refine bx_iadd dX5_steps_40  ?_
  refine bx_slld dX5_steps_41 (by omega) s6_2 ?_
  refine ax_iload_n (pc := 42) dX5_steps_42 rfl ?_
  refine ax_ifeq (pc := 43) (tgt := 50) dX5_steps_43 (by decide) (fun _ => ?_) (fun q => absurd (rfl : (0 : Int32) = 0) q)
  refine ax_aload_n (pc := 50) dX5_steps_50 rfl ?_
  refine ax_iload_n (pc := 51) dX5_steps_51 rfl ?_
  refine ax_iload_n (pc := 52) dX5_steps_52 rfl ?_
  refine ax_eVi2 (pc := 53) vX5_130 dX5_steps_53 (by decide) (by exact hM_0) (Nat.le_of_ble_eq_true rfl) (c_X5_leavesNow _ h x _ tu D so fl dr hd b w.1 fi hb hW0.1 hD0 hfi s6_5) ?_
  refine bx_iadd dX5_steps_56  ?_
  refine ax_eSi2 (pc := 57) sX5_103 dX5_steps_57 (by decide) (Nat.le_of_ble_eq_true rfl) (c_X5_smaller _ _ _ _) ?_
  refine At.ti (sm_40 hW0.2.2 (sp_li_le (dr_lt hD0 hW0.1))) ?_
  refine bx_slst dX5_steps_60 (by omega) s6_u2 ?_
  exact l_X5_st61 dom h x sl tu D.1 (sp_wf D fi w) (w.1, w.2.1, min 40 (w.2.2.1 + sp_dl D fi w.1), w.2.2.2.1, w.2.2.2.2) g b fi 0 hb ⟨h2, h9⟩ hW0.1 hx (sp_wf_le hD0 hW0)
set_option maxHeartbeats 4000000 in
set_option maxRecDepth 100000 in
theorem c_X5_stepsT (dom : List Nat) (h : mh_H) (x : mxT) (sl : Nat → Int32) (tu : Int32) (D : sp_D) (so fl dr : Nat → Int32) (hd : dayH D so fl dr h) (b fi : Nat) (w : sp_W) (g : Int32) (hb : b + 6 ≤ 1020) (hD0 : sp_D0 D) (hW0 : sp_W0 D.1 w) (hfi : fi < 512) (hx : x.1 = nI D.1) : Mt mX5_steps dom 3 [.ref 0, .int (nI b), .int 1] (hM h x (s6 sl b w fi g) tu) (mx_Ri (fun v' h' => v' = 0 ∧ h' = hM h x (s6 sl b (dryW D.1 w) fi g) (tu + 1))) := by
  refine Mt.of (L := [some (.ref 0), some (.int (nI b)), some (.int 1), none, none]) rfl (Nat.le_of_ble_eq_true rfl) rfl ?_
  obtain ⟨d5, d6, d7, dR⟩ := id hd
  have h9 := hD0.2.1
  have h2 := hD0.1
  refine ax_aload_n (pc := 0) dX5_steps_0 rfl ?_
  refine ax_getf (pc := 1) fX5_41 dX5_steps_1 (by exact hM_0) rfl ?_
  refine ax_iload_n (pc := 4) dX5_steps_4 rfl ?_
  refine ax_iconst (pc := 5) (v := nI 0) dX5_steps_5 (by decide) ?_
  refine bx_iadd dX5_steps_6  ?_
  refine bx_slld dX5_steps_7 (by omega) s6_0 ?_
  refine ax_istore3 (pc := 8) dX5_steps_8 rfl (by decide) ?_
  refine ax_iload_n (pc := 9) dX5_steps_9 rfl ?_
  refine ax_ifeq (pc := 10) (tgt := 17) dX5_steps_10 (by decide) (fun q => absurd q (by decide : ¬ (1 : Int32) = 0)) (fun _ => ?_)
  refine ax_iconst (pc := 13) (v := nI 0) dX5_steps_13 (by decide) ?_
  refine ax_goto (pc := 14) (tgt := 23) dX5_steps_14 (by decide) ?_
  refine ax_istore4 (pc := 23) dX5_steps_23 rfl (by decide) ?_
  refine ax_aload_n (pc := 25) dX5_steps_25 rfl ?_
  refine ax_getf (pc := 26) fX5_41 dX5_steps_26 (by exact hM_0) rfl ?_
  refine ax_iload_n (pc := 29) dX5_steps_29 rfl ?_
  refine ax_iconst (pc := 30) (v := nI 2) dX5_steps_30 (by decide) ?_
  refine bx_iadd dX5_steps_31  ?_
  refine ax_bipush (pc := 32) (v := 40) dX5_steps_32 (by decide) ?_
  refine ax_aload_n (pc := 34) dX5_steps_34 rfl ?_
  refine ax_getf (pc := 35) fX5_41 dX5_steps_35 (by exact hM_0) rfl ?_
  refine ax_iload_n (pc := 38) dX5_steps_38 rfl ?_
  refine ax_iconst (pc := 39) (v := nI 2) dX5_steps_39 (by decide) ?_
  refine bx_iadd dX5_steps_40  ?_
  refine bx_slld dX5_steps_41 (by omega) s6_2 ?_
  refine ax_iload_n (pc := 42) dX5_steps_42 rfl ?_
  refine ax_ifeq (pc := 43) (tgt := 50) dX5_steps_43 (by decide) (fun q => absurd q (by decide : ¬ (1 : Int32) = 0)) (fun _ => ?_)
  refine ax_iconst (pc := 46) (v := nI 0) dX5_steps_46 (by decide) ?_
  refine ax_goto (pc := 47) (tgt := 56) dX5_steps_47 (by decide) ?_
  refine bx_iadd dX5_steps_56  ?_
  refine ax_eSi2 (pc := 57) sX5_103 dX5_steps_57 (by decide) (Nat.le_of_ble_eq_true rfl) (c_X5_smaller _ _ _ _) ?_
  refine At.ti (sm_40 hW0.2.2 (by decide)) ?_
  refine bx_slst dX5_steps_60 (by omega) s6_u2 ?_
  have K := l_X5_st61 dom h x sl tu D.1 0 (w.1, w.2.1, min 40 (w.2.2.1 + 0), w.2.2.2.1, w.2.2.2.2) g b fi 1 hb ⟨h2, h9⟩ hW0.1 hx (by decide)
  rw [show min 40 (w.2.2.1 + 0) = w.2.2.1 from Nat.min_eq_right hW0.2.2, show g + nI 0 = g from Int32.add_zero g] at K
  rw [show min 40 (w.2.2.1 + 0) = w.2.2.1 from Nat.min_eq_right hW0.2.2]
  exact K
