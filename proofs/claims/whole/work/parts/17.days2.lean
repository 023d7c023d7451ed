abbrev isD (s : sg) (k : Int32) : Prop := 0 ≤ k ∧ k ≤ nI (s_D s).1 - 1
theorem dy_in {n : Nat} {k : Int32} (hn : n ≤ 9) (h : 0 ≤ k ∧ k ≤ nI n - 1) : ∃ j, j < n ∧ k = nI j := by
  obtain ⟨j, hj, rfl⟩ := nI_of (Int32.not_lt.mpr h.1)
  cases n with
  | zero => exact absurd (Int32.le_trans h.1 h.2) (by decide)
  | succ n =>
    have h3 := h.2
    rw [n_1, nI_s (by omega), nI_leI hj (by omega)] at h3
    exact ⟨j, by omega, rfl⟩
theorem IV.d {s : sg} {k : Int32} (hv : IV s) (h : isD s k) : ∃ j, j < (s_D s).1 ∧ k = nI j ∧ j < 9 ∧ sp_D0 (s_D s) ∧ sp_W0 (s_D s).1 (s_w s) ∧ s_fi s < 512 := by
  obtain ⟨j, hj, rfl⟩ := dy_in hv.2.2.1.1 h
  have h9 := hv.2.2.1.1
  exact ⟨j, hj, rfl, by omega, hv.w (by omega)⟩
def sp_told (s : sg) (k q : Nat) : Nat := if q = 0 then (s_D s).2.1 k else if q = 1 then (s_D s).2.2.1 k else if q = 2 then sp_dr (s_D s) (s_fi s) k else if q = 3 then sp_df (s_D s) (s_fi s) k (s_w s).2.1 (s_w s).2.2.1 else if q = 4 then sp_dl (s_D s) (s_fi s) k else if (s_fi s).testBit k then 1 else 0
def sp_day (s : sg) (k q : Int32) : Int32 × sg := if ¬ isD s k ∨ ¬ (0 ≤ q ∧ q ≤ 5) then (-1, s) else (1, u_ask s (nI (sp_told s k.toNatClampNeg q.toNatClampNeg)))
def sp_mk (s : sg) (k q : Nat) : Int32 := if q = 3 then nI (sp_dl (s_D s) (s_fi s) k) - nI (sp_li 0 (sp_dr (s_D s) (s_fi s) k)) else if q = 4 then nI (sp_df (s_D s) (s_fi s) k (s_w s).2.1 (s_w s).2.2.1) - nI (sp_fl 1 ((s_D s).2.2.1 k) (sp_dr (s_D s) (s_fi s) k) (s_w s).2.1 (s_w s).2.2.1) else if q = 5 then nI (sp_dl (s_D s) (s_fi s) k) - nI (sp_li 3 (sp_dr (s_D s) (s_fi s) k)) else nI (sp_df (s_D s) (s_fi s) k (s_w s).2.1 (s_w s).2.2.1) - nI (sp_fl 0 ((s_D s).2.2.1 k) (sp_dr (s_D s) (s_fi s) k) (s_w s).2.1 (s_w s).2.2.1)
def sp_mark (s : sg) (k q : Int32) : Int32 × sg := if ¬ isD s k ∨ ¬ (1 ≤ q ∧ q ≤ 5) then (-1, s) else if ¬ sp_is ((s_D s).2.1 k.toNatClampNeg) q.toNatClampNeg = true then (-3, u_fnd s 3) else (sp_mk s k.toNatClampNeg q.toNatClampNeg + 100, s)
def sp_grinds (s : sg) (k t c : Int32) : Int32 × sg := if ¬ isD s k ∨ ¬ (0 ≤ t ∧ t ≤ 4) ∨ ¬ (0 ≤ c ∧ c ≤ 40) then (-1, s) else (nI (sp_df (s_D s) (s_fi s) k.toNatClampNeg t.toNatClampNeg c.toNatClampNeg), s)
theorem up_n_s {f : Nat → Nat} {k v : Nat} : up_n f k v k = v := if_pos rfl
theorem up_n_lt {f : Nat → Nat} {k v m : Nat} (hv : v < m) {j : Nat} (hf : f j < m) : up_n f k v j < m := by
  unfold up_n
  split
  · exact hv
  · exact hf
theorem D0_k {D : sp_D} {k v : Nat} (h : sp_D0 D) (hv : v < 6) : sp_D0 (D.1, up_n D.2.1 k v, D.2.2.1, D.2.2.2) := ⟨h.1, h.2.1, fun j hj => ⟨up_n_lt hv (h.2.2 j hj).1, (h.2.2 j hj).2⟩⟩
theorem D0_f {D : sp_D} {k v : Nat} (h : sp_D0 D) (hv : v < 10) : sp_D0 (D.1, D.2.1, up_n D.2.2.1 k v, D.2.2.2) := ⟨h.1, h.2.1, fun j hj => ⟨(h.2.2 j hj).1, up_n_lt hv (h.2.2 j hj).2.1, (h.2.2 j hj).2.2⟩⟩
set_option maxHeartbeats 4000000 in
set_option maxRecDepth 100000 in
theorem c_X4_isDay (dom : List Nat) (h : mh_H) (s : sg) (k : Int32) (hc : CP s h) : Mt mX4_isDay dom 1 [.ref 0, .int k] h (mx_Ri (fun v' h' => v' = (if isD s k then 1 else 0) ∧ h' = h)) := by
  refine Mt.of (L := [some (.ref 0), some (.int k)]) rfl (Nat.le_of_ble_eq_true rfl) rfl ?_
  obtain ⟨c1, c2, c3, c4, c5, c6, c7, c8, c9⟩ := id hc
  refine ax_iload_n (pc := 0) dX4_isDay_0 rfl ?_
  refine ax_iconst (pc := 1) (v := 0) dX4_isDay_1 (by decide) ?_
  refine ax_aload_n (pc := 2) dX4_isDay_2 rfl ?_
  refine ax_getf (pc := 3) fX4_21 dX4_isDay_3 (by first | exact c1.1 | exact c5.1 | exact c6 | exact c5.2.1 | exact c5.2.2.1 | exact c5.2.2.2 | exact c1.2 | exact c2.1 | exact c2.2.1 | exact c2.2.2.1 | exact c2.2.2.2 | exact g7 | exact g8 | rfl) rfl ?_
  refine ax_getf (pc := 6) fX4_129 dX4_isDay_6 (by first | exact c1.1 | exact c5.1 | exact c6 | exact c5.2.1 | exact c5.2.2.1 | exact c5.2.2.2 | exact c1.2 | exact c2.1 | exact c2.2.1 | exact c2.2.2.1 | exact c2.2.2.2 | exact g7 | exact g8 | rfl) rfl ?_
  refine ax_iconst (pc := 9) (v := 1) dX4_isDay_9 (by decide) ?_
  refine ax_isub (pc := 10) dX4_isDay_10 ?_
  refine ax_eSi3 (pc := 11) sX4_133 dX4_isDay_11 (by decide) (Nat.le_of_ble_eq_true rfl) (c_X4_within _ _ _ _ _) ?_
  refine ax_zret (pc := 14) dX4_isDay_14 rfl (by first | rfl | exact bi_n) ?_
  exact ⟨_, rfl, rfl, rfl⟩
set_option maxHeartbeats 4000000 in
set_option maxRecDepth 100000 in
theorem c_X4_noDays (dom : List Nat) (h : mh_H) (s : sg) (hc : CP s h) (hv : IV s) : Mt mX4_noDays dom 0 [.ref 0] h (mx_Ri (fun v' h' => v' = (if (s_D s).1 = 0 then 1 else 0) ∧ h' = h)) := by
  refine Mt.of (L := [some (.ref 0)]) rfl (Nat.le_of_ble_eq_true rfl) rfl ?_
  obtain ⟨c1, c2, c3, c4, c5, c6, c7, c8, c9⟩ := id hc
  refine ax_aload_n (pc := 0) dX4_noDays_0 rfl ?_
  refine ax_getf (pc := 1) fX4_21 dX4_noDays_1 (by first | exact c1.1 | exact c5.1 | exact c6 | exact c5.2.1 | exact c5.2.2.1 | exact c5.2.2.2 | exact c1.2 | exact c2.1 | exact c2.2.1 | exact c2.2.2.1 | exact c2.2.2.2 | exact g7 | exact g8 | rfl) rfl ?_
  refine ax_getf (pc := 4) fX4_129 dX4_noDays_4 (by first | exact c1.1 | exact c5.1 | exact c6 | exact c5.2.1 | exact c5.2.2.1 | exact c5.2.2.2 | exact c1.2 | exact c2.1 | exact c2.2.1 | exact c2.2.2.1 | exact c2.2.2.2 | exact g7 | exact g8 | rfl) rfl ?_
  refine ax_ifne (pc := 7) (tgt := 14) dX4_noDays_7 (by decide) (fun c7 => ?_) (fun c7 => ?_)
  · refine ax_iconst (pc := 14) (v := 0) dX4_noDays_14 (by decide) ?_
    refine ax_zret (pc := 15) dX4_noDays_15 rfl (by first | rfl | exact bi_n) ?_
    have h9 := hv.2.2.1.1
    rw [n_0, nI_eq (by omega) (by decide)] at c7
    exact ⟨_, rfl, by first | exact (if_pos c7).symm | exact (if_neg c7).symm, rfl⟩
  · refine ax_iconst (pc := 10) (v := 1) dX4_noDays_10 (by decide) ?_
    refine ax_goto (pc := 11) (tgt := 15) dX4_noDays_11 (by decide) ?_
    refine ax_zret (pc := 15) dX4_noDays_15 rfl (by first | rfl | exact bi_n) ?_
    have h9 := hv.2.2.1.1
    rw [n_0, nI_eq (by omega) (by decide)] at c7
    exact ⟨_, rfl, by first | exact (if_pos c7).symm | exact (if_neg c7).symm, rfl⟩
set_option maxHeartbeats 4000000 in
set_option maxRecDepth 100000 in
theorem c_X4_toldOfDay (dom : List Nat) (h : mh_H) (s : sg) (k : Nat) (hk : k < (s_D s).1) (h9 : k < 9) (hD0 : sp_D0 (s_D s)) (hW0 : sp_W0 (s_D s).1 (s_w s)) (hfi : s_fi s < 512) (q : Nat) (hq : q < 6) (hc : CP s h) : Mt mX4_toldOfDay dom 2 [.ref 0, .int (nI k), .int (nI q)] h (mx_Ri (fun v' h' => v' = nI (sp_told s k q) ∧ h' = h)) := by
  refine Mt.of (L := [some (.ref 0), some (.int (nI k)), some (.int (nI q))]) rfl (Nat.le_of_ble_eq_true rfl) rfl ?_
  obtain ⟨c1, c2, c3, c4, c5, c6, c7, c8, c9⟩ := id hc
  refine ax_iload_n (pc := 0) dX4_toldOfDay_0 rfl ?_
  rcases (show q = 0 ∨ q = 1 ∨ q = 2 ∨ q = 3 ∨ q = 4 ∨ q = 5 by omega) with rfl | rfl | rfl | rfl | rfl | rfl
  · refine ax_tswIn (tgt := 36) dX4_toldOfDay_1 (by decide) (by decide) rfl (by decide) ?_
    refine ax_aload_n (pc := 36) dX4_toldOfDay_36 rfl ?_
    refine ax_getf (pc := 37) fX4_21 dX4_toldOfDay_37 (by first | exact c1.1 | exact c5.1 | exact c6 | exact c5.2.1 | exact c5.2.2.1 | exact c5.2.2.2 | exact c1.2 | exact c2.1 | exact c2.2.1 | exact c2.2.2.1 | exact c2.2.2.2 | exact g7 | exact g8 | rfl) rfl ?_
    refine ax_getf (pc := 40) fX4_141 dX4_toldOfDay_40 (by first | exact c1.1 | exact c5.1 | exact c6 | exact c5.2.1 | exact c5.2.2.1 | exact c5.2.2.2 | exact c1.2 | exact c2.1 | exact c2.2.1 | exact c2.2.2.1 | exact c2.2.2.2 | exact g7 | exact g8 | rfl) rfl ?_
    refine ax_iload_n (pc := 43) dX4_toldOfDay_43 rfl ?_
    refine ax_iald (pc := 44) dX4_toldOfDay_44 (by first | exact c1.1 | exact c5.1 | exact c6 | exact c5.2.1 | exact c5.2.2.1 | exact c5.2.2.2 | exact c1.2 | exact c2.1 | exact c2.2.1 | exact c2.2.2.1 | exact c2.2.2.2 | exact g7 | exact g8 | rfl) (ni_in9 h9 (by decide)) ?_
    refine ax_iret (pc := 45) dX4_toldOfDay_45 rfl ?_
    exact ⟨_, rfl, by show nI _ = _; rw [ni_cl (by omega)]; rfl, rfl⟩
  · refine ax_tswIn (tgt := 46) dX4_toldOfDay_1 (by decide) (by decide) rfl (by decide) ?_
    refine ax_aload_n (pc := 46) dX4_toldOfDay_46 rfl ?_
    refine ax_getf (pc := 47) fX4_21 dX4_toldOfDay_47 (by first | exact c1.1 | exact c5.1 | exact c6 | exact c5.2.1 | exact c5.2.2.1 | exact c5.2.2.2 | exact c1.2 | exact c2.1 | exact c2.2.1 | exact c2.2.2.1 | exact c2.2.2.2 | exact g7 | exact g8 | rfl) rfl ?_
    refine ax_getf (pc := 50) fX4_221 dX4_toldOfDay_50 (by first | exact c1.1 | exact c5.1 | exact c6 | exact c5.2.1 | exact c5.2.2.1 | exact c5.2.2.2 | exact c1.2 | exact c2.1 | exact c2.2.1 | exact c2.2.2.1 | exact c2.2.2.2 | exact g7 | exact g8 | rfl) rfl ?_
    refine ax_iload_n (pc := 53) dX4_toldOfDay_53 rfl ?_
    refine ax_iald (pc := 54) dX4_toldOfDay_54 (by first | exact c1.1 | exact c5.1 | exact c6 | exact c5.2.1 | exact c5.2.2.1 | exact c5.2.2.2 | exact c1.2 | exact c2.1 | exact c2.2.1 | exact c2.2.2.1 | exact c2.2.2.2 | exact g7 | exact g8 | rfl) (ni_in9 h9 (by decide)) ?_
    refine ax_iret (pc := 55) dX4_toldOfDay_55 rfl ?_
    exact ⟨_, rfl, by show nI _ = _; rw [ni_cl (by omega)]; rfl, rfl⟩
  · refine ax_tswIn (tgt := 56) dX4_toldOfDay_1 (by decide) (by decide) rfl (by decide) ?_
    refine ax_aload_n (pc := 56) dX4_toldOfDay_56 rfl ?_
    refine ax_getf (pc := 57) fX4_21 dX4_toldOfDay_57 (by first | exact c1.1 | exact c5.1 | exact c6 | exact c5.2.1 | exact c5.2.2.1 | exact c5.2.2.2 | exact c1.2 | exact c2.1 | exact c2.2.1 | exact c2.2.2.1 | exact c2.2.2.2 | exact g7 | exact g8 | rfl) rfl ?_
    refine ax_iload_n (pc := 60) dX4_toldOfDay_60 rfl ?_
    refine ax_eVi1 (pc := 61) vX4_295 dX4_toldOfDay_61 (by decide) (by first | exact c1.1 | exact c5.1 | exact c6 | exact c5.2.1 | exact c5.2.2.1 | exact c5.2.2.2 | exact c1.2 | exact c2.1 | exact c2.2.1 | exact c2.2.2.1 | exact c2.2.2.2 | exact g7 | exact g8 | rfl) (Nat.le_of_ble_eq_true rfl) (c_X0_drift _ _ (s_D s) (s_fi s) 3 11 12 13 c5 k h9 hfi) ?_
    refine ax_iret (pc := 64) dX4_toldOfDay_64 rfl ?_
    exact ⟨_, rfl, rfl, rfl⟩
  · refine ax_tswIn (tgt := 65) dX4_toldOfDay_1 (by decide) (by decide) rfl (by decide) ?_
    refine ax_aload_n (pc := 65) dX4_toldOfDay_65 rfl ?_
    refine ax_getf (pc := 66) fX4_21 dX4_toldOfDay_66 (by first | exact c1.1 | exact c5.1 | exact c6 | exact c5.2.1 | exact c5.2.2.1 | exact c5.2.2.2 | exact c1.2 | exact c2.1 | exact c2.2.1 | exact c2.2.2.1 | exact c2.2.2.2 | exact g7 | exact g8 | rfl) rfl ?_
    refine ax_iload_n (pc := 69) dX4_toldOfDay_69 rfl ?_
    refine ax_aload_n (pc := 70) dX4_toldOfDay_70 rfl ?_
    refine ax_getf (pc := 71) fX4_28 dX4_toldOfDay_71 (by first | exact c1.1 | exact c5.1 | exact c6 | exact c5.2.1 | exact c5.2.2.1 | exact c5.2.2.2 | exact c1.2 | exact c2.1 | exact c2.2.1 | exact c2.2.2.1 | exact c2.2.2.2 | exact g7 | exact g8 | rfl) rfl ?_
    refine ax_getf (pc := 74) fX4_166 dX4_toldOfDay_74 (by first | exact c1.1 | exact c5.1 | exact c6 | exact c5.2.1 | exact c5.2.2.1 | exact c5.2.2.2 | exact c1.2 | exact c2.1 | exact c2.2.1 | exact c2.2.2.1 | exact c2.2.2.2 | exact g7 | exact g8 | rfl) rfl ?_
    refine ax_aload_n (pc := 77) dX4_toldOfDay_77 rfl ?_
    refine ax_getf (pc := 78) fX4_28 dX4_toldOfDay_78 (by first | exact c1.1 | exact c5.1 | exact c6 | exact c5.2.1 | exact c5.2.2.1 | exact c5.2.2.2 | exact c1.2 | exact c2.1 | exact c2.2.1 | exact c2.2.2.1 | exact c2.2.2.2 | exact g7 | exact g8 | rfl) rfl ?_
    refine ax_getf (pc := 81) fX4_169 dX4_toldOfDay_81 (by first | exact c1.1 | exact c5.1 | exact c6 | exact c5.2.1 | exact c5.2.2.1 | exact c5.2.2.2 | exact c1.2 | exact c2.1 | exact c2.2.1 | exact c2.2.2.1 | exact c2.2.2.2 | exact g7 | exact g8 | rfl) rfl ?_
    refine ax_eVi3 (pc := 84) vX4_150 dX4_toldOfDay_84 (by decide) (by first | exact c1.1 | exact c5.1 | exact c6 | exact c5.2.1 | exact c5.2.2.1 | exact c5.2.2.2 | exact c1.2 | exact c2.1 | exact c2.2.1 | exact c2.2.2.1 | exact c2.2.2.2 | exact g7 | exact g8 | rfl) (Nat.le_of_ble_eq_true rfl) (c_X0_flour _ _ (s_D s) (s_fi s) 3 11 12 13 c5 k _ _ h9 hfi hD0 hW0.2.1 hW0.2.2) ?_
    refine ax_iret (pc := 87) dX4_toldOfDay_87 rfl ?_
    exact ⟨_, rfl, rfl, rfl⟩
  · refine ax_tswIn (tgt := 88) dX4_toldOfDay_1 (by decide) (by decide) rfl (by decide) ?_
    refine ax_aload_n (pc := 88) dX4_toldOfDay_88 rfl ?_
    refine ax_getf (pc := 89) fX4_21 dX4_toldOfDay_89 (by first | exact c1.1 | exact c5.1 | exact c6 | exact c5.2.1 | exact c5.2.2.1 | exact c5.2.2.2 | exact c1.2 | exact c2.1 | exact c2.2.1 | exact c2.2.2.1 | exact c2.2.2.2 | exact g7 | exact g8 | rfl) rfl ?_
    refine ax_iload_n (pc := 92) dX4_toldOfDay_92 rfl ?_
    refine ax_eVi1 (pc := 93) vX4_292 dX4_toldOfDay_93 (by decide) (by first | exact c1.1 | exact c5.1 | exact c6 | exact c5.2.1 | exact c5.2.2.1 | exact c5.2.2.2 | exact c1.2 | exact c2.1 | exact c2.2.1 | exact c2.2.2.1 | exact c2.2.2.2 | exact g7 | exact g8 | rfl) (Nat.le_of_ble_eq_true rfl) (c_X0_litter _ _ (s_D s) (s_fi s) 3 11 12 13 c5 k h9 hfi hD0) ?_
    refine ax_iret (pc := 96) dX4_toldOfDay_96 rfl ?_
    exact ⟨_, rfl, rfl, rfl⟩
  · refine ax_tswOut (tgt := 97) dX4_toldOfDay_1 (by decide) (by decide) ?_
    refine ax_aload_n (pc := 97) dX4_toldOfDay_97 rfl ?_
    refine ax_getf (pc := 98) fX4_21 dX4_toldOfDay_98 (by first | exact c1.1 | exact c5.1 | exact c6 | exact c5.2.1 | exact c5.2.2.1 | exact c5.2.2.2 | exact c1.2 | exact c2.1 | exact c2.2.1 | exact c2.2.2.1 | exact c2.2.2.2 | exact g7 | exact g8 | rfl) rfl ?_
    refine ax_iload_n (pc := 101) dX4_toldOfDay_101 rfl ?_
    refine ax_eVi1 (pc := 102) vX4_172 dX4_toldOfDay_102 (by decide) (by first | exact c1.1 | exact c5.1 | exact c6 | exact c5.2.1 | exact c5.2.2.1 | exact c5.2.2.2 | exact c1.2 | exact c2.1 | exact c2.2.1 | exact c2.2.2.1 | exact c2.2.2.2 | exact g7 | exact g8 | rfl) (Nat.le_of_ble_eq_true rfl) (c_X0_wasFished _ _ (s_D s) (s_fi s) 3 11 12 13 c5 k h9 hfi) ?_
    refine ax_ifeqB (pc := 105) (tgt := 112) dX4_toldOfDay_105 (by decide) (fun c105 => ?_) (fun c105 => ?_)
    · refine ax_iconst (pc := 112) (v := 0) dX4_toldOfDay_112 (by decide) ?_
      refine ax_iret (pc := 113) dX4_toldOfDay_113 rfl ?_
      exact ⟨_, rfl, by unfold sp_told; rw [if_neg (by decide), if_neg (by decide), if_neg (by decide), if_neg (by decide), if_neg (by decide)]; first | (rw [if_pos c105]; rfl) | (rw [if_neg c105]; rfl), rfl⟩
    · refine ax_iconst (pc := 108) (v := 1) dX4_toldOfDay_108 (by decide) ?_
      refine ax_goto (pc := 109) (tgt := 113) dX4_toldOfDay_109 (by decide) ?_
      refine ax_iret (pc := 113) dX4_toldOfDay_113 rfl ?_
      exact ⟨_, rfl, by unfold sp_told; rw [if_neg (by decide), if_neg (by decide), if_neg (by decide), if_neg (by decide), if_neg (by decide)]; first | (rw [if_pos c105]; rfl) | (rw [if_neg c105]; rfl), rfl⟩
set_option maxHeartbeats 4000000 in
set_option maxRecDepth 100000 in
theorem c_X4_day (dom : List Nat) (h : mh_H) (s : sg) (k q : Int32) (hc : CP s h) (hv : IV s) : Mt mX4_day dom 3 [.ref 0, .int k, .int q] h (mx_Ri (fun v' h' => v' = (sp_day s k q).1 ∧ CP (sp_day s k q).2 h')) := by
  refine Mt.of (L := [some (.ref 0), some (.int k), some (.int q)]) rfl (Nat.le_of_ble_eq_true rfl) rfl ?_
  obtain ⟨c1, c2, c3, c4, c5, c6, c7, c8, c9⟩ := id hc
  refine ax_aload_n (pc := 0) dX4_day_0 rfl ?_
  refine ax_iload_n (pc := 1) dX4_day_1 rfl ?_
  refine ax_eVi1 (pc := 2) vX4_130 dX4_day_2 (by decide) (by first | exact c1.1 | exact c5.1 | exact c6 | exact c5.2.1 | exact c5.2.2.1 | exact c5.2.2.2 | exact c1.2 | exact c2.1 | exact c2.2.1 | exact c2.2.2.1 | exact c2.2.2.2 | exact g7 | exact g8 | rfl) (Nat.le_of_ble_eq_true rfl) (c_X4_isDay _ _ s _ hc) ?_
  refine ax_ifeqB (pc := 5) (tgt := 17) dX4_day_5 (by decide) (fun c5a => ?_) (fun c5a => ?_)
  · refine ax_iconst (pc := 17) (v := -1) dX4_day_17 (by decide) ?_
    refine ax_iret (pc := 18) dX4_day_18 rfl ?_
    exact fin_i (by unfold sp_day; first | exact if_pos (Or.inl c5a) | exact if_pos (Or.inr c14)) hc
  · refine ax_iload_n (pc := 8) dX4_day_8 rfl ?_
    refine ax_iconst (pc := 9) (v := 0) dX4_day_9 (by decide) ?_
    refine ax_iconst (pc := 10) (v := 5) dX4_day_10 (by decide) ?_
    refine ax_eSi3 (pc := 11) sX4_133 dX4_day_11 (by decide) (Nat.le_of_ble_eq_true rfl) (c_X4_within _ _ _ _ _) ?_
    refine ax_ifneB (pc := 14) (tgt := 19) dX4_day_14 (by decide) (fun c14 => ?_) (fun c14 => ?_)
    · obtain ⟨j, hj, rfl, h9, hD0, hW0, hfi⟩ := hv.d c5a
      obtain ⟨q2, hq2, rfl⟩ := ix_5 c14
      refine ax_aload_n (pc := 19) dX4_day_19 rfl ?_
      refine ax_aload_n (pc := 20) dX4_day_20 rfl ?_
      refine ax_iload_n (pc := 21) dX4_day_21 rfl ?_
      refine ax_iload_n (pc := 22) dX4_day_22 rfl ?_
      refine ax_eVi2 (pc := 23) vX4_137 dX4_day_23 (by decide) (by first | exact c1.1 | exact c5.1 | exact c6 | exact c5.2.1 | exact c5.2.2.1 | exact c5.2.2.2 | exact c1.2 | exact c2.1 | exact c2.2.1 | exact c2.2.2.1 | exact c2.2.2.2 | exact g7 | exact g8 | rfl) (Nat.le_of_ble_eq_true rfl) (c_X4_toldOfDay _ _ s j hj h9 hD0 hW0 hfi q2 (by omega) hc) ?_
      refine ax_puti9 (pc := 26) gX4_53 dX4_day_26 (by first | exact c1.1 | exact c5.1 | exact c6 | exact c5.2.1 | exact c5.2.2.1 | exact c5.2.2.2 | exact c1.2 | exact c2.1 | exact c2.2.1 | exact c2.2.2.1 | exact c2.2.2.2 | exact g7 | exact g8 | rfl) ?_
      refine ax_iconst (pc := 29) (v := 1) dX4_day_29 (by decide) ?_
      refine ax_iret (pc := 30) dX4_day_30 rfl ?_
      exact fin_i (by unfold sp_day; rw [if_neg (by rintro (q | q); exact q c5a; exact q c14), ni_cl (by omega), ni_cl (by omega)]) (CP_ask hc)
    · refine ax_iconst (pc := 17) (v := -1) dX4_day_17 (by decide) ?_
      refine ax_iret (pc := 18) dX4_day_18 rfl ?_
      exact fin_i (by unfold sp_day; first | exact if_pos (Or.inl c5a) | exact if_pos (Or.inr c14)) hc
set_option maxHeartbeats 4000000 in
set_option maxRecDepth 100000 in
theorem c_X4_grindsMoreThan (dom : List Nat) (h : mh_H) (s : sg) (k : Nat) (hk : k < (s_D s).1) (h9 : k < 9) (hD0 : sp_D0 (s_D s)) (hW0 : sp_W0 (s_D s).1 (s_w s)) (hfi : s_fi s < 512) (q : Nat) (hq : q < 6) (hc : CP s h) : Mt mX4_grindsMoreThan dom 2 [.ref 0, .int (nI k), .int (nI q)] h (mx_Ri (fun v' h' => v' = nI (sp_df (s_D s) (s_fi s) k (s_w s).2.1 (s_w s).2.2.1) - nI (sp_fl q ((s_D s).2.2.1 k) (sp_dr (s_D s) (s_fi s) k) (s_w s).2.1 (s_w s).2.2.1) ∧ h' = (gsH h ((s_D s).1, up_n (s_D s).2.1 k q, (s_D s).2.2.1, (s_D s).2.2.2) (s_fi s)))) := by
  refine Mt.of (L := [some (.ref 0), some (.int (nI k)), some (.int (nI q))]) rfl (Nat.le_of_ble_eq_true rfl) rfl ?_
  obtain ⟨c1, c2, c3, c4, c5, c6, c7, c8, c9⟩ := id hc
  obtain ⟨gx0, gx1, gk1, gf1, gr1, g7, g14, g15, g16⟩ := id c9.1
  obtain ⟨t0, t1, t2, t3, t4, g8⟩ := id c9.2.1
  refine ax_aload_n (pc := 0) dX4_grindsMoreThan_0 rfl ?_
  refine ax_getf (pc := 1) fX4_43 dX4_grindsMoreThan_1 (by first | exact c1.1 | exact c5.1 | exact c6 | exact c5.2.1 | exact c5.2.2.1 | exact c5.2.2.2 | exact c1.2 | exact c2.1 | exact c2.2.1 | exact c2.2.2.1 | exact c2.2.2.2 | exact g7 | exact g8 | rfl) rfl ?_
  refine ax_aload_n (pc := 4) dX4_grindsMoreThan_4 rfl ?_
  refine ax_getf (pc := 5) fX4_21 dX4_grindsMoreThan_5 (by first | exact c1.1 | exact c5.1 | exact c6 | exact c5.2.1 | exact c5.2.2.1 | exact c5.2.2.2 | exact c1.2 | exact c2.1 | exact c2.2.1 | exact c2.2.2.1 | exact c2.2.2.2 | exact g7 | exact g8 | rfl) rfl ?_
  refine ax_eVv1 (pc := 8) vX4_207 dX4_grindsMoreThan_8 (by decide) (by first | exact c1.1 | exact c5.1 | exact c6 | exact c5.2.1 | exact c5.2.2.1 | exact c5.2.2.2 | exact c1.2 | exact c2.1 | exact c2.2.1 | exact c2.2.2.1 | exact c2.2.2.2 | exact g7 | exact g8 | rfl) (Nat.le_of_ble_eq_true rfl) (c_X0_copyOf _ _ (s_D s) (s_fi s) c9.1 c5) ?_
  refine ax_aload_n (pc := 11) dX4_grindsMoreThan_11 rfl ?_
  refine ax_getf (pc := 12) fX4_43 dX4_grindsMoreThan_12 (by first | exact c1.1 | exact c5.1 | exact c6 | exact c5.2.1 | exact c5.2.2.1 | exact c5.2.2.2 | exact c1.2 | exact c2.1 | exact c2.2.1 | exact c2.2.2.1 | exact c2.2.2.2 | exact g7 | exact g8 | rfl) rfl ?_
  refine ax_getf (pc := 15) fX4_141 dX4_grindsMoreThan_15 (by first | exact c1.1 | exact c5.1 | exact c6 | exact c5.2.1 | exact c5.2.2.1 | exact c5.2.2.2 | exact c1.2 | exact c2.1 | exact c2.2.1 | exact c2.2.2.1 | exact c2.2.2.2 | exact g7 | exact g8 | rfl) rfl ?_
  refine ax_iload_n (pc := 18) dX4_grindsMoreThan_18 rfl ?_
  refine ax_iload_n (pc := 19) dX4_grindsMoreThan_19 rfl ?_
  refine ax_iast (pc := 20) dX4_grindsMoreThan_20 (by first | exact c1.1 | exact c5.1 | exact c6 | exact c5.2.1 | exact c5.2.2.1 | exact c5.2.2.2 | exact c1.2 | exact c2.1 | exact c2.2.1 | exact c2.2.2.1 | exact c2.2.2.2 | exact g7 | exact g8 | rfl) (ni_in9 h9 (by decide)) ?_
  rw [ni_cl (by omega)]
  refine At.hp gsH_k ?_
  have c5g := dyP_k (h' := (gsH h ((s_D s).1, up_n (s_D s).2.1 k q, (s_D s).2.2.1, (s_D s).2.2.2) (s_fi s))) (fun q hq => gsH_n (by omega)) c5
  have hDg := gsH_P h ((s_D s).1, up_n (s_D s).2.1 k q, (s_D s).2.2.1, (s_D s).2.2.2) (s_fi s)
  refine ax_aload_n (pc := 21) dX4_grindsMoreThan_21 rfl ?_
  refine ax_getf (pc := 22) fX4_21 dX4_grindsMoreThan_22 (by first | exact c1.1 | exact c5.1 | exact c6 | exact c5.2.1 | exact c5.2.2.1 | exact c5.2.2.2 | exact c1.2 | exact c2.1 | exact c2.2.1 | exact c2.2.2.1 | exact c2.2.2.2 | exact g7 | exact g8 | rfl) rfl ?_
  refine ax_iload_n (pc := 25) dX4_grindsMoreThan_25 rfl ?_
  refine ax_aload_n (pc := 26) dX4_grindsMoreThan_26 rfl ?_
  refine ax_getf (pc := 27) fX4_28 dX4_grindsMoreThan_27 (by first | exact c1.1 | exact c5.1 | exact c6 | exact c5.2.1 | exact c5.2.2.1 | exact c5.2.2.2 | exact c1.2 | exact c2.1 | exact c2.2.1 | exact c2.2.2.1 | exact c2.2.2.2 | exact g7 | exact g8 | rfl) rfl ?_
  refine ax_getf (pc := 30) fX4_166 dX4_grindsMoreThan_30 (by first | exact c1.1 | exact c5.1 | exact c6 | exact c5.2.1 | exact c5.2.2.1 | exact c5.2.2.2 | exact c1.2 | exact c2.1 | exact c2.2.1 | exact c2.2.2.1 | exact c2.2.2.2 | exact g7 | exact g8 | rfl) rfl ?_
  refine ax_aload_n (pc := 33) dX4_grindsMoreThan_33 rfl ?_
  refine ax_getf (pc := 34) fX4_28 dX4_grindsMoreThan_34 (by first | exact c1.1 | exact c5.1 | exact c6 | exact c5.2.1 | exact c5.2.2.1 | exact c5.2.2.2 | exact c1.2 | exact c2.1 | exact c2.2.1 | exact c2.2.2.1 | exact c2.2.2.2 | exact g7 | exact g8 | rfl) rfl ?_
  refine ax_getf (pc := 37) fX4_169 dX4_grindsMoreThan_37 (by first | exact c1.1 | exact c5.1 | exact c6 | exact c5.2.1 | exact c5.2.2.1 | exact c5.2.2.2 | exact c1.2 | exact c2.1 | exact c2.2.1 | exact c2.2.2.1 | exact c2.2.2.2 | exact g7 | exact g8 | rfl) rfl ?_
  refine ax_eVi3 (pc := 40) vX4_150 dX4_grindsMoreThan_40 (by decide) (by first | exact c1.1 | exact c5.1 | exact c6 | exact c5.2.1 | exact c5.2.2.1 | exact c5.2.2.2 | exact c1.2 | exact c2.1 | exact c2.2.1 | exact c2.2.2.1 | exact c2.2.2.2 | exact g7 | exact g8 | rfl) (Nat.le_of_ble_eq_true rfl) (c_X0_flour _ _ (s_D s) (s_fi s) 3 11 12 13 c5g k _ _ h9 hfi hD0 hW0.2.1 hW0.2.2) ?_
  refine ax_aload_n (pc := 43) dX4_grindsMoreThan_43 rfl ?_
  refine ax_getf (pc := 44) fX4_43 dX4_grindsMoreThan_44 (by first | exact c1.1 | exact c5.1 | exact c6 | exact c5.2.1 | exact c5.2.2.1 | exact c5.2.2.2 | exact c1.2 | exact c2.1 | exact c2.2.1 | exact c2.2.2.1 | exact c2.2.2.2 | exact g7 | exact g8 | rfl) rfl ?_
  refine ax_iload_n (pc := 47) dX4_grindsMoreThan_47 rfl ?_
  refine ax_aload_n (pc := 48) dX4_grindsMoreThan_48 rfl ?_
  refine ax_getf (pc := 49) fX4_28 dX4_grindsMoreThan_49 (by first | exact c1.1 | exact c5.1 | exact c6 | exact c5.2.1 | exact c5.2.2.1 | exact c5.2.2.2 | exact c1.2 | exact c2.1 | exact c2.2.1 | exact c2.2.2.1 | exact c2.2.2.2 | exact g7 | exact g8 | rfl) rfl ?_
  refine ax_getf (pc := 52) fX4_166 dX4_grindsMoreThan_52 (by first | exact c1.1 | exact c5.1 | exact c6 | exact c5.2.1 | exact c5.2.2.1 | exact c5.2.2.2 | exact c1.2 | exact c2.1 | exact c2.2.1 | exact c2.2.2.1 | exact c2.2.2.2 | exact g7 | exact g8 | rfl) rfl ?_
  refine ax_aload_n (pc := 55) dX4_grindsMoreThan_55 rfl ?_
  refine ax_getf (pc := 56) fX4_28 dX4_grindsMoreThan_56 (by first | exact c1.1 | exact c5.1 | exact c6 | exact c5.2.1 | exact c5.2.2.1 | exact c5.2.2.2 | exact c1.2 | exact c2.1 | exact c2.2.1 | exact c2.2.2.1 | exact c2.2.2.2 | exact g7 | exact g8 | rfl) rfl ?_
  refine ax_getf (pc := 59) fX4_169 dX4_grindsMoreThan_59 (by first | exact c1.1 | exact c5.1 | exact c6 | exact c5.2.1 | exact c5.2.2.1 | exact c5.2.2.2 | exact c1.2 | exact c2.1 | exact c2.2.1 | exact c2.2.2.1 | exact c2.2.2.2 | exact g7 | exact g8 | rfl) rfl ?_
  refine ax_eVi3 (pc := 62) vX4_150 dX4_grindsMoreThan_62 (by decide) (by first | exact c1.1 | exact c5.1 | exact c6 | exact c5.2.1 | exact c5.2.2.1 | exact c5.2.2.2 | exact c1.2 | exact c2.1 | exact c2.2.1 | exact c2.2.2.1 | exact c2.2.2.2 | exact g7 | exact g8 | rfl) (Nat.le_of_ble_eq_true rfl) (c_X0_flour _ _ _ (s_fi s) 7 14 15 16 hDg k _ _ h9 hfi (D0_k hD0 hq) hW0.2.1 hW0.2.2) ?_
  refine ax_isub (pc := 65) dX4_grindsMoreThan_65 ?_
  refine ax_iret (pc := 66) dX4_grindsMoreThan_66 rfl ?_
  exact ⟨_, rfl, by unfold sp_df; rw [show ((s_D s).1, up_n (s_D s).2.1 k q, (s_D s).2.2.1, (s_D s).2.2.2).2.1 k = q from up_n_s]; rfl, rfl⟩
set_option maxHeartbeats 4000000 in
set_option maxRecDepth 100000 in
theorem c_X4_leavesMoreThan (dom : List Nat) (h : mh_H) (s : sg) (k : Nat) (hk : k < (s_D s).1) (h9 : k < 9) (hD0 : sp_D0 (s_D s)) (hW0 : sp_W0 (s_D s).1 (s_w s)) (hfi : s_fi s < 512) (q : Nat) (hq : q < 6) (hc : CP s h) : Mt mX4_leavesMoreThan dom 2 [.ref 0, .int (nI k), .int (nI q)] h (mx_Ri (fun v' h' => v' = nI (sp_dl (s_D s) (s_fi s) k) - nI (sp_li q (sp_dr (s_D s) (s_fi s) k)) ∧ h' = (gsH h ((s_D s).1, up_n (s_D s).2.1 k q, (s_D s).2.2.1, (s_D s).2.2.2) (s_fi s)))) := by
  refine Mt.of (L := [some (.ref 0), some (.int (nI k)), some (.int (nI q))]) rfl (Nat.le_of_ble_eq_true rfl) rfl ?_
  obtain ⟨c1, c2, c3, c4, c5, c6, c7, c8, c9⟩ := id hc
  obtain ⟨gx0, gx1, gk1, gf1, gr1, g7, g14, g15, g16⟩ := id c9.1
  obtain ⟨t0, t1, t2, t3, t4, g8⟩ := id c9.2.1
  refine ax_aload_n (pc := 0) dX4_leavesMoreThan_0 rfl ?_
  refine ax_getf (pc := 1) fX4_43 dX4_leavesMoreThan_1 (by first | exact c1.1 | exact c5.1 | exact c6 | exact c5.2.1 | exact c5.2.2.1 | exact c5.2.2.2 | exact c1.2 | exact c2.1 | exact c2.2.1 | exact c2.2.2.1 | exact c2.2.2.2 | exact g7 | exact g8 | rfl) rfl ?_
  refine ax_aload_n (pc := 4) dX4_leavesMoreThan_4 rfl ?_
  refine ax_getf (pc := 5) fX4_21 dX4_leavesMoreThan_5 (by first | exact c1.1 | exact c5.1 | exact c6 | exact c5.2.1 | exact c5.2.2.1 | exact c5.2.2.2 | exact c1.2 | exact c2.1 | exact c2.2.1 | exact c2.2.2.1 | exact c2.2.2.2 | exact g7 | exact g8 | rfl) rfl ?_
  refine ax_eVv1 (pc := 8) vX4_207 dX4_leavesMoreThan_8 (by decide) (by first | exact c1.1 | exact c5.1 | exact c6 | exact c5.2.1 | exact c5.2.2.1 | exact c5.2.2.2 | exact c1.2 | exact c2.1 | exact c2.2.1 | exact c2.2.2.1 | exact c2.2.2.2 | exact g7 | exact g8 | rfl) (Nat.le_of_ble_eq_true rfl) (c_X0_copyOf _ _ (s_D s) (s_fi s) c9.1 c5) ?_
  refine ax_aload_n (pc := 11) dX4_leavesMoreThan_11 rfl ?_
  refine ax_getf (pc := 12) fX4_43 dX4_leavesMoreThan_12 (by first | exact c1.1 | exact c5.1 | exact c6 | exact c5.2.1 | exact c5.2.2.1 | exact c5.2.2.2 | exact c1.2 | exact c2.1 | exact c2.2.1 | exact c2.2.2.1 | exact c2.2.2.2 | exact g7 | exact g8 | rfl) rfl ?_
  refine ax_getf (pc := 15) fX4_141 dX4_leavesMoreThan_15 (by first | exact c1.1 | exact c5.1 | exact c6 | exact c5.2.1 | exact c5.2.2.1 | exact c5.2.2.2 | exact c1.2 | exact c2.1 | exact c2.2.1 | exact c2.2.2.1 | exact c2.2.2.2 | exact g7 | exact g8 | rfl) rfl ?_
  refine ax_iload_n (pc := 18) dX4_leavesMoreThan_18 rfl ?_
  refine ax_iload_n (pc := 19) dX4_leavesMoreThan_19 rfl ?_
  refine ax_iast (pc := 20) dX4_leavesMoreThan_20 (by first | exact c1.1 | exact c5.1 | exact c6 | exact c5.2.1 | exact c5.2.2.1 | exact c5.2.2.2 | exact c1.2 | exact c2.1 | exact c2.2.1 | exact c2.2.2.1 | exact c2.2.2.2 | exact g7 | exact g8 | rfl) (ni_in9 h9 (by decide)) ?_
  rw [ni_cl (by omega)]
  refine At.hp gsH_k ?_
  have c5g := dyP_k (h' := (gsH h ((s_D s).1, up_n (s_D s).2.1 k q, (s_D s).2.2.1, (s_D s).2.2.2) (s_fi s))) (fun q hq => gsH_n (by omega)) c5
  have hDg := gsH_P h ((s_D s).1, up_n (s_D s).2.1 k q, (s_D s).2.2.1, (s_D s).2.2.2) (s_fi s)
  refine ax_aload_n (pc := 21) dX4_leavesMoreThan_21 rfl ?_
  refine ax_getf (pc := 22) fX4_21 dX4_leavesMoreThan_22 (by first | exact c1.1 | exact c5.1 | exact c6 | exact c5.2.1 | exact c5.2.2.1 | exact c5.2.2.2 | exact c1.2 | exact c2.1 | exact c2.2.1 | exact c2.2.2.1 | exact c2.2.2.2 | exact g7 | exact g8 | rfl) rfl ?_
  refine ax_iload_n (pc := 25) dX4_leavesMoreThan_25 rfl ?_
  refine ax_eVi1 (pc := 26) vX4_292 dX4_leavesMoreThan_26 (by decide) (by first | exact c1.1 | exact c5.1 | exact c6 | exact c5.2.1 | exact c5.2.2.1 | exact c5.2.2.2 | exact c1.2 | exact c2.1 | exact c2.2.1 | exact c2.2.2.1 | exact c2.2.2.2 | exact g7 | exact g8 | rfl) (Nat.le_of_ble_eq_true rfl) (c_X0_litter _ _ (s_D s) (s_fi s) 3 11 12 13 c5g k h9 hfi hD0) ?_
  refine ax_aload_n (pc := 29) dX4_leavesMoreThan_29 rfl ?_
  refine ax_getf (pc := 30) fX4_43 dX4_leavesMoreThan_30 (by first | exact c1.1 | exact c5.1 | exact c6 | exact c5.2.1 | exact c5.2.2.1 | exact c5.2.2.2 | exact c1.2 | exact c2.1 | exact c2.2.1 | exact c2.2.2.1 | exact c2.2.2.2 | exact g7 | exact g8 | rfl) rfl ?_
  refine ax_iload_n (pc := 33) dX4_leavesMoreThan_33 rfl ?_
  refine ax_eVi1 (pc := 34) vX4_292 dX4_leavesMoreThan_34 (by decide) (by first | exact c1.1 | exact c5.1 | exact c6 | exact c5.2.1 | exact c5.2.2.1 | exact c5.2.2.2 | exact c1.2 | exact c2.1 | exact c2.2.1 | exact c2.2.2.1 | exact c2.2.2.2 | exact g7 | exact g8 | rfl) (Nat.le_of_ble_eq_true rfl) (c_X0_litter _ _ _ (s_fi s) 7 14 15 16 hDg k h9 hfi (D0_k hD0 hq)) ?_
  refine ax_isub (pc := 37) dX4_leavesMoreThan_37 ?_
  refine ax_iret (pc := 38) dX4_leavesMoreThan_38 rfl ?_
  exact ⟨_, rfl, by unfold sp_dl; rw [show ((s_D s).1, up_n (s_D s).2.1 k q, (s_D s).2.2.1, (s_D s).2.2.2).2.1 k = q from up_n_s]; rfl, rfl⟩
set_option maxHeartbeats 4000000 in
set_option maxRecDepth 100000 in
theorem c_X4_markOf (dom : List Nat) (h : mh_H) (s : sg) (k : Nat) (hk : k < (s_D s).1) (h9 : k < 9) (hD0 : sp_D0 (s_D s)) (hW0 : sp_W0 (s_D s).1 (s_w s)) (hfi : s_fi s < 512) (q : Nat) (hq : 1 ≤ q ∧ q < 6) (hc : CP s h) : Mt mX4_markOf dom 3 [.ref 0, .int (nI k), .int (nI q)] h (mx_Ri (fun v' h' => v' = sp_mk s k q ∧ CP s h')) := by
  refine Mt.of (L := [some (.ref 0), some (.int (nI k)), some (.int (nI q))]) rfl (Nat.le_of_ble_eq_true rfl) rfl ?_
  obtain ⟨c1, c2, c3, c4, c5, c6, c7, c8, c9⟩ := id hc
  refine ax_iload_n (pc := 0) dX4_markOf_0 rfl ?_
  rcases (show q = 1 ∨ q = 2 ∨ q = 3 ∨ q = 4 ∨ q = 5 by omega) with rfl | rfl | rfl | rfl | rfl
  · refine ax_tswOut (tgt := 49) dX4_markOf_1 (by decide) (by decide) ?_
    refine ax_aload_n (pc := 49) dX4_markOf_49 rfl ?_
    refine ax_iload_n (pc := 50) dX4_markOf_50 rfl ?_
    refine ax_iconst (pc := 51) (v := 0) dX4_markOf_51 (by decide) ?_
    refine ax_eVi2 (pc := 52) vX4_289 dX4_markOf_52 (by decide) (by first | exact c1.1 | exact c5.1 | exact c6 | exact c5.2.1 | exact c5.2.2.1 | exact c5.2.2.2 | exact c1.2 | exact c2.1 | exact c2.2.1 | exact c2.2.2.1 | exact c2.2.2.2 | exact g7 | exact g8 | rfl) (Nat.le_of_ble_eq_true rfl) (c_X4_grindsMoreThan _ _ s k hk h9 hD0 hW0 hfi 0 (by decide) hc) ?_
    refine ax_iret (pc := 55) dX4_markOf_55 rfl ?_
    exact ⟨_, rfl, rfl, CP_gs hc⟩
  · refine ax_tswOut (tgt := 49) dX4_markOf_1 (by decide) (by decide) ?_
    refine ax_aload_n (pc := 49) dX4_markOf_49 rfl ?_
    refine ax_iload_n (pc := 50) dX4_markOf_50 rfl ?_
    refine ax_iconst (pc := 51) (v := 0) dX4_markOf_51 (by decide) ?_
    refine ax_eVi2 (pc := 52) vX4_289 dX4_markOf_52 (by decide) (by first | exact c1.1 | exact c5.1 | exact c6 | exact c5.2.1 | exact c5.2.2.1 | exact c5.2.2.2 | exact c1.2 | exact c2.1 | exact c2.2.1 | exact c2.2.2.1 | exact c2.2.2.2 | exact g7 | exact g8 | rfl) (Nat.le_of_ble_eq_true rfl) (c_X4_grindsMoreThan _ _ s k hk h9 hD0 hW0 hfi 0 (by decide) hc) ?_
    refine ax_iret (pc := 55) dX4_markOf_55 rfl ?_
    exact ⟨_, rfl, rfl, CP_gs hc⟩
  · refine ax_tswIn (tgt := 28) dX4_markOf_1 (by decide) (by decide) rfl (by decide) ?_
    refine ax_aload_n (pc := 28) dX4_markOf_28 rfl ?_
    refine ax_iload_n (pc := 29) dX4_markOf_29 rfl ?_
    refine ax_iconst (pc := 30) (v := 0) dX4_markOf_30 (by decide) ?_
    refine ax_eVi2 (pc := 31) vX4_286 dX4_markOf_31 (by decide) (by first | exact c1.1 | exact c5.1 | exact c6 | exact c5.2.1 | exact c5.2.2.1 | exact c5.2.2.2 | exact c1.2 | exact c2.1 | exact c2.2.1 | exact c2.2.2.1 | exact c2.2.2.2 | exact g7 | exact g8 | rfl) (Nat.le_of_ble_eq_true rfl) (c_X4_leavesMoreThan _ _ s k hk h9 hD0 hW0 hfi 0 (by decide) hc) ?_
    refine ax_iret (pc := 34) dX4_markOf_34 rfl ?_
    exact ⟨_, rfl, rfl, CP_gs hc⟩
  · refine ax_tswIn (tgt := 35) dX4_markOf_1 (by decide) (by decide) rfl (by decide) ?_
    refine ax_aload_n (pc := 35) dX4_markOf_35 rfl ?_
    refine ax_iload_n (pc := 36) dX4_markOf_36 rfl ?_
    refine ax_iconst (pc := 37) (v := 1) dX4_markOf_37 (by decide) ?_
    refine ax_eVi2 (pc := 38) vX4_289 dX4_markOf_38 (by decide) (by first | exact c1.1 | exact c5.1 | exact c6 | exact c5.2.1 | exact c5.2.2.1 | exact c5.2.2.2 | exact c1.2 | exact c2.1 | exact c2.2.1 | exact c2.2.2.1 | exact c2.2.2.2 | exact g7 | exact g8 | rfl) (Nat.le_of_ble_eq_true rfl) (c_X4_grindsMoreThan _ _ s k hk h9 hD0 hW0 hfi 1 (by decide) hc) ?_
    refine ax_iret (pc := 41) dX4_markOf_41 rfl ?_
    exact ⟨_, rfl, rfl, CP_gs hc⟩
  · refine ax_tswIn (tgt := 42) dX4_markOf_1 (by decide) (by decide) rfl (by decide) ?_
    refine ax_aload_n (pc := 42) dX4_markOf_42 rfl ?_
    refine ax_iload_n (pc := 43) dX4_markOf_43 rfl ?_
    refine ax_iconst (pc := 44) (v := 3) dX4_markOf_44 (by decide) ?_
    refine ax_eVi2 (pc := 45) vX4_286 dX4_markOf_45 (by decide) (by first | exact c1.1 | exact c5.1 | exact c6 | exact c5.2.1 | exact c5.2.2.1 | exact c5.2.2.2 | exact c1.2 | exact c2.1 | exact c2.2.1 | exact c2.2.2.1 | exact c2.2.2.2 | exact g7 | exact g8 | rfl) (Nat.le_of_ble_eq_true rfl) (c_X4_leavesMoreThan _ _ s k hk h9 hD0 hW0 hfi 3 (by decide) hc) ?_
    refine ax_iret (pc := 48) dX4_markOf_48 rfl ?_
    exact ⟨_, rfl, rfl, CP_gs hc⟩
set_option maxHeartbeats 4000000 in
set_option maxRecDepth 100000 in
theorem c_X4_mark (dom : List Nat) (h : mh_H) (s : sg) (k q : Int32) (hc : CP s h) (hv : IV s) : Mt mX4_mark dom 4 [.ref 0, .int k, .int q] h (mx_Ri (fun v' h' => v' = (sp_mark s k q).1 ∧ CP (sp_mark s k q).2 h')) := by
  refine Mt.of (L := [some (.ref 0), some (.int k), some (.int q)]) rfl (Nat.le_of_ble_eq_true rfl) rfl ?_
  obtain ⟨c1, c2, c3, c4, c5, c6, c7, c8, c9⟩ := id hc
  refine ax_aload_n (pc := 0) dX4_mark_0 rfl ?_
  refine ax_iload_n (pc := 1) dX4_mark_1 rfl ?_
  refine ax_eVi1 (pc := 2) vX4_130 dX4_mark_2 (by decide) (by first | exact c1.1 | exact c5.1 | exact c6 | exact c5.2.1 | exact c5.2.2.1 | exact c5.2.2.2 | exact c1.2 | exact c2.1 | exact c2.2.1 | exact c2.2.2.1 | exact c2.2.2.2 | exact g7 | exact g8 | rfl) (Nat.le_of_ble_eq_true rfl) (c_X4_isDay _ _ s _ hc) ?_
  refine ax_ifeqB (pc := 5) (tgt := 17) dX4_mark_5 (by decide) (fun c5a => ?_) (fun c5a => ?_)
  · refine ax_iconst (pc := 17) (v := -1) dX4_mark_17 (by decide) ?_
    refine ax_iret (pc := 18) dX4_mark_18 rfl ?_
    exact fin_i (by unfold sp_mark; first | exact if_pos (Or.inl c5a) | exact if_pos (Or.inr c14)) hc
  · refine ax_iload_n (pc := 8) dX4_mark_8 rfl ?_
    refine ax_iconst (pc := 9) (v := 1) dX4_mark_9 (by decide) ?_
    refine ax_iconst (pc := 10) (v := 5) dX4_mark_10 (by decide) ?_
    refine ax_eSi3 (pc := 11) sX4_133 dX4_mark_11 (by decide) (Nat.le_of_ble_eq_true rfl) (c_X4_within _ _ _ _ _) ?_
    refine ax_ifneB (pc := 14) (tgt := 19) dX4_mark_14 (by decide) (fun c14 => ?_) (fun c14 => ?_)
    · obtain ⟨j, hj, rfl, h9, hD0, hW0, hfi⟩ := hv.d c5a
      obtain ⟨q2, hq2, rfl⟩ := ix_5 ⟨Int32.le_trans (by decide) c14.1, c14.2⟩
      have hq1 : 1 ≤ q2 := by have := c14.1; rw [n_1, nI_leI (by decide) (by omega)] at this; exact this
      refine ax_aload_n (pc := 19) dX4_mark_19 rfl ?_
      refine ax_getf (pc := 20) fX4_21 dX4_mark_20 (by first | exact c1.1 | exact c5.1 | exact c6 | exact c5.2.1 | exact c5.2.2.1 | exact c5.2.2.2 | exact c1.2 | exact c2.1 | exact c2.2.1 | exact c2.2.2.1 | exact c2.2.2.2 | exact g7 | exact g8 | rfl) rfl ?_
      refine ax_getf (pc := 23) fX4_141 dX4_mark_23 (by first | exact c1.1 | exact c5.1 | exact c6 | exact c5.2.1 | exact c5.2.2.1 | exact c5.2.2.2 | exact c1.2 | exact c2.1 | exact c2.2.1 | exact c2.2.2.1 | exact c2.2.2.2 | exact g7 | exact g8 | rfl) rfl ?_
      refine ax_iload_n (pc := 26) dX4_mark_26 rfl ?_
      refine ax_iald (pc := 27) dX4_mark_27 (by first | exact c1.1 | exact c5.1 | exact c6 | exact c5.2.1 | exact c5.2.2.1 | exact c5.2.2.2 | exact c1.2 | exact c2.1 | exact c2.2.1 | exact c2.2.2.1 | exact c2.2.2.2 | exact g7 | exact g8 | rfl) (ni_in9 h9 (by decide)) ?_
      refine ax_iload_n (pc := 28) dX4_mark_28 rfl ?_
      refine ax_eSi2 (pc := 29) sX4_144 dX4_mark_29 (by decide) (Nat.le_of_ble_eq_true rfl) (c_X4_isOfKind _ _ _ _) ?_
      refine ax_ifneB (pc := 32) (tgt := 41) dX4_mark_32 (by decide) (fun c32 => ?_) (fun c32 => ?_)
      · rw [ni_cl (by omega), sp_is_i (hD0.2.2 j h9).1 hq2] at c32
        refine ax_aload_n (pc := 41) dX4_mark_41 rfl ?_
        refine ax_iload_n (pc := 42) dX4_mark_42 rfl ?_
        refine ax_iload_n (pc := 43) dX4_mark_43 rfl ?_
        refine ax_cVi2 (pc := 44) vX4_147 dX4_mark_44 (by decide) (by first | exact c1.1 | exact c5.1 | exact c6 | exact c5.2.1 | exact c5.2.2.1 | exact c5.2.2.2 | exact c1.2 | exact c2.1 | exact c2.2.1 | exact c2.2.2.1 | exact c2.2.2.2 | exact g7 | exact g8 | rfl) (Nat.le_of_ble_eq_true rfl) (c_X4_markOf _ _ s j hj h9 hD0 hW0 hfi q2 (by omega) hc) (fun v1 h1 hq => ?_)
        obtain ⟨rfl, hq⟩ := hq
        refine ax_bipush (pc := 47) (v := 100) dX4_mark_47 (by decide) ?_
        refine ax_iadd (pc := 49) dX4_mark_49 ?_
        refine ax_iret (pc := 50) dX4_mark_50 rfl ?_
        exact fin_i (by unfold sp_mark; rw [if_neg (by rintro (q | q); exact q c5a; exact q c14), ni_cl (by omega), ni_cl (by omega), if_neg (not_not_intro c32)]) hq
      · rw [ni_cl (by omega), sp_is_i (hD0.2.2 j h9).1 hq2] at c32
        refine ax_aload_n (pc := 35) dX4_mark_35 rfl ?_
        refine ax_iconst (pc := 36) (v := 3) dX4_mark_36 (by decide) ?_
        refine ax_cVi1 (pc := 37) vX4_79 dX4_mark_37 (by decide) (by first | exact c1.1 | exact c5.1 | exact c6 | exact c5.2.1 | exact c5.2.2.1 | exact c5.2.2.2 | exact c1.2 | exact c2.1 | exact c2.2.1 | exact c2.2.2.1 | exact c2.2.2.2 | exact g7 | exact g8 | rfl) (Nat.le_of_ble_eq_true rfl) (c_X4_found _ _ s 3 (by decide) hc) (fun v1 h1 hq => ?_)
        obtain ⟨rfl, hq⟩ := hq
        refine ax_iret (pc := 40) dX4_mark_40 rfl ?_
        exact fin_i (by unfold sp_mark; rw [if_neg (by rintro (q | q); exact q c5a; exact q c14), ni_cl (by omega), ni_cl (by omega), if_pos c32]) hq
    · refine ax_iconst (pc := 17) (v := -1) dX4_mark_17 (by decide) ?_
      refine ax_iret (pc := 18) dX4_mark_18 rfl ?_
      exact fin_i (by unfold sp_mark; first | exact if_pos (Or.inl c5a) | exact if_pos (Or.inr c14)) hc
set_option maxHeartbeats 4000000 in
set_option maxRecDepth 100000 in
theorem c_X4_grinds (dom : List Nat) (h : mh_H) (s : sg) (k t c : Int32) (hc : CP s h) (hv : IV s) : Mt mX4_grinds dom 2 [.ref 0, .int k, .int t, .int c] h (mx_Ri (fun v' h' => v' = (sp_grinds s k t c).1 ∧ CP (sp_grinds s k t c).2 h')) := by
  refine Mt.of (L := [some (.ref 0), some (.int k), some (.int t), some (.int c)]) rfl (Nat.le_of_ble_eq_true rfl) rfl ?_
  obtain ⟨c1, c2, c3, c4, c5, c6, c7, c8, c9⟩ := id hc
  refine ax_aload_n (pc := 0) dX4_grinds_0 rfl ?_
  refine ax_iload_n (pc := 1) dX4_grinds_1 rfl ?_
  refine ax_eVi1 (pc := 2) vX4_130 dX4_grinds_2 (by decide) (by first | exact c1.1 | exact c5.1 | exact c6 | exact c5.2.1 | exact c5.2.2.1 | exact c5.2.2.2 | exact c1.2 | exact c2.1 | exact c2.2.1 | exact c2.2.2.1 | exact c2.2.2.2 | exact g7 | exact g8 | rfl) (Nat.le_of_ble_eq_true rfl) (c_X4_isDay _ _ s _ hc) ?_
  refine ax_ifeqB (pc := 5) (tgt := 27) dX4_grinds_5 (by decide) (fun c5a => ?_) (fun c5a => ?_)
  · refine ax_iconst (pc := 27) (v := -1) dX4_grinds_27 (by decide) ?_
    refine ax_iret (pc := 28) dX4_grinds_28 rfl ?_
    exact fin_i (by unfold sp_grinds; first | exact if_pos (Or.inl c5a) | exact if_pos (Or.inr (Or.inl c14)) | exact if_pos (Or.inr (Or.inr c24))) hc
  · refine ax_iload_n (pc := 8) dX4_grinds_8 rfl ?_
    refine ax_iconst (pc := 9) (v := 0) dX4_grinds_9 (by decide) ?_
    refine ax_iconst (pc := 10) (v := 4) dX4_grinds_10 (by decide) ?_
    refine ax_eSi3 (pc := 11) sX4_133 dX4_grinds_11 (by decide) (Nat.le_of_ble_eq_true rfl) (c_X4_within _ _ _ _ _) ?_
    refine ax_ifeqB (pc := 14) (tgt := 27) dX4_grinds_14 (by decide) (fun c14 => ?_) (fun c14 => ?_)
    · refine ax_iconst (pc := 27) (v := -1) dX4_grinds_27 (by decide) ?_
      refine ax_iret (pc := 28) dX4_grinds_28 rfl ?_
      exact fin_i (by unfold sp_grinds; first | exact if_pos (Or.inl c5a) | exact if_pos (Or.inr (Or.inl c14)) | exact if_pos (Or.inr (Or.inr c24))) hc
    · refine ax_iload_n (pc := 17) dX4_grinds_17 rfl ?_
      refine ax_iconst (pc := 18) (v := 0) dX4_grinds_18 (by decide) ?_
      refine ax_bipush (pc := 19) (v := 40) dX4_grinds_19 (by decide) ?_
      refine ax_eSi3 (pc := 21) sX4_133 dX4_grinds_21 (by decide) (Nat.le_of_ble_eq_true rfl) (c_X4_within _ _ _ _ _) ?_
      refine ax_ifneB (pc := 24) (tgt := 29) dX4_grinds_24 (by decide) (fun c24 => ?_) (fun c24 => ?_)
      · obtain ⟨j, hj, rfl, h9, hD0, hW0, hfi⟩ := hv.d c5a
        obtain ⟨t2, ht2, rfl⟩ := nI_of2 (n := 4) (M := 4) rfl (Int32.not_lt.mpr c14.1) c14.2
        obtain ⟨cc2, hc2, rfl⟩ := nI_of2 (n := 40) (M := 40) rfl (Int32.not_lt.mpr c24.1) c24.2
        refine ax_aload_n (pc := 29) dX4_grinds_29 rfl ?_
        refine ax_getf (pc := 30) fX4_21 dX4_grinds_30 (by first | exact c1.1 | exact c5.1 | exact c6 | exact c5.2.1 | exact c5.2.2.1 | exact c5.2.2.2 | exact c1.2 | exact c2.1 | exact c2.2.1 | exact c2.2.2.1 | exact c2.2.2.2 | exact g7 | exact g8 | rfl) rfl ?_
        refine ax_iload_n (pc := 33) dX4_grinds_33 rfl ?_
        refine ax_iload_n (pc := 34) dX4_grinds_34 rfl ?_
        refine ax_iload_n (pc := 35) dX4_grinds_35 rfl ?_
        refine ax_eVi3 (pc := 36) vX4_150 dX4_grinds_36 (by decide) (by first | exact c1.1 | exact c5.1 | exact c6 | exact c5.2.1 | exact c5.2.2.1 | exact c5.2.2.2 | exact c1.2 | exact c2.1 | exact c2.2.1 | exact c2.2.2.1 | exact c2.2.2.2 | exact g7 | exact g8 | rfl) (Nat.le_of_ble_eq_true rfl) (c_X0_flour _ _ (s_D s) (s_fi s) 3 11 12 13 c5 j _ _ h9 hfi hD0 ht2 hc2) ?_
        refine ax_iret (pc := 39) dX4_grinds_39 rfl ?_
        exact fin_i (by unfold sp_grinds; rw [if_neg (by rintro (q | q | q); exact q c5a; exact q c14; exact q c24), ni_cl (by omega), ni_cl (by omega), ni_cl (by omega)]) hc
      · refine ax_iconst (pc := 27) (v := -1) dX4_grinds_27 (by decide) ?_
        refine ax_iret (pc := 28) dX4_grinds_28 rfl ?_
        exact fin_i (by unfold sp_grinds; first | exact if_pos (Or.inl c5a) | exact if_pos (Or.inr (Or.inl c14)) | exact if_pos (Or.inr (Or.inr c24))) hc
