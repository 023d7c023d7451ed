set_option maxHeartbeats 4000000 in
set_option maxRecDepth 100000 in
theorem c_X4_within (dom : List Nat) (h : mh_H) (v a b : Int32) : Mt mX4_within dom 0 [.int v, .int a, .int b] h (mx_Ri (fun v' h' => v' = (if a ≤ v ∧ v ≤ b then 1 else 0) ∧ h' = h)) := by
  refine Mt.of (L := [some (.int v), some (.int a), some (.int b)]) rfl (Nat.le_of_ble_eq_true rfl) rfl ?_
  refine ax_iload_n (pc := 0) dX4_within_0 rfl ?_
  refine ax_iload_n (pc := 1) dX4_within_1 rfl ?_
  refine ax_icmpgt (pc := 2) (tgt := 14) dX4_within_2 (by decide) (fun c2 => ?_) (fun c2 => ?_)
  · refine ax_iconst (pc := 14) (v := 0) dX4_within_14 (by decide) ?_
    refine ax_zret (pc := 15) dX4_within_15 rfl (by first | rfl | exact bi_n) ?_
    exact ⟨_, rfl, by first | exact (if_pos (by simp only [Int32.lt_iff_toInt_lt, Int32.le_iff_toInt_le, z_0, z_1, z_2, z_3, z_4, z_5, z_6, z_8, z_9, z_12, z_20, z_32, z_40, z_60, z_m1] at *; omega)).symm | exact (if_neg (by simp only [Int32.lt_iff_toInt_lt, Int32.le_iff_toInt_le, z_0, z_1, z_2, z_3, z_4, z_5, z_6, z_8, z_9, z_12, z_20, z_32, z_40, z_60, z_m1] at *; omega)).symm, rfl⟩
  · refine ax_iload_n (pc := 5) dX4_within_5 rfl ?_
    refine ax_iload_n (pc := 6) dX4_within_6 rfl ?_
    refine ax_icmpgt (pc := 7) (tgt := 14) dX4_within_7 (by decide) (fun c7 => ?_) (fun c7 => ?_)
    · refine ax_iconst (pc := 14) (v := 0) dX4_within_14 (by decide) ?_
      refine ax_zret (pc := 15) dX4_within_15 rfl (by first | rfl | exact bi_n) ?_
      exact ⟨_, rfl, by first | exact (if_pos (by simp only [Int32.lt_iff_toInt_lt, Int32.le_iff_toInt_le, z_0, z_1, z_2, z_3, z_4, z_5, z_6, z_8, z_9, z_12, z_20, z_32, z_40, z_60, z_m1] at *; omega)).symm | exact (if_neg (by simp only [Int32.lt_iff_toInt_lt, Int32.le_iff_toInt_le, z_0, z_1, z_2, z_3, z_4, z_5, z_6, z_8, z_9, z_12, z_20, z_32, z_40, z_60, z_m1] at *; omega)).symm, rfl⟩
    · refine ax_iconst (pc := 10) (v := 1) dX4_within_10 (by decide) ?_
      refine ax_goto (pc := 11) (tgt := 15) dX4_within_11 (by decide) ?_
      refine ax_zret (pc := 15) dX4_within_15 rfl (by first | rfl | exact bi_n) ?_
      exact ⟨_, rfl, by first | exact (if_pos (by simp only [Int32.lt_iff_toInt_lt, Int32.le_iff_toInt_le, z_0, z_1, z_2, z_3, z_4, z_5, z_6, z_8, z_9, z_12, z_20, z_32, z_40, z_60, z_m1] at *; omega)).symm | exact (if_neg (by simp only [Int32.lt_iff_toInt_lt, Int32.le_iff_toInt_le, z_0, z_1, z_2, z_3, z_4, z_5, z_6, z_8, z_9, z_12, z_20, z_32, z_40, z_60, z_m1] at *; omega)).symm, rfl⟩
set_option maxHeartbeats 4000000 in
set_option maxRecDepth 100000 in
theorem c_X4_isRow (dom : List Nat) (h : mh_H) (r : Int32) : Mt mX4_isRow dom 1 [.int r] h (mx_Ri (fun v' h' => v' = (if 0 ≤ r ∧ r ≤ 5 then 1 else 0) ∧ h' = h)) := by
  refine Mt.of (L := [some (.int r)]) rfl (Nat.le_of_ble_eq_true rfl) rfl ?_
  refine ax_iload_n (pc := 0) dX4_isRow_0 rfl ?_
  refine ax_iconst (pc := 1) (v := 0) dX4_isRow_1 (by decide) ?_
  refine ax_iconst (pc := 2) (v := 5) dX4_isRow_2 (by decide) ?_
  refine ax_eSi3 (pc := 3) sX4_133 dX4_isRow_3 (by decide) (Nat.le_of_ble_eq_true rfl) (c_X4_within _ _ _ _ _) ?_
  refine ax_zret (pc := 6) dX4_isRow_6 rfl (by first | rfl | exact bi_n) ?_
  exact ⟨_, rfl, rfl, rfl⟩
set_option maxHeartbeats 4000000 in
set_option maxRecDepth 100000 in
theorem c_X4_isText (dom : List Nat) (h : mh_H) (r : Int32) : Mt mX4_isText dom 1 [.int r] h (mx_Ri (fun v' h' => v' = (if 0 ≤ r ∧ r ≤ 3 then 1 else 0) ∧ h' = h)) := by
  refine Mt.of (L := [some (.int r)]) rfl (Nat.le_of_ble_eq_true rfl) rfl ?_
  refine ax_iload_n (pc := 0) dX4_isText_0 rfl ?_
  refine ax_iconst (pc := 1) (v := 0) dX4_isText_1 (by decide) ?_
  refine ax_iconst (pc := 2) (v := 3) dX4_isText_2 (by decide) ?_
  refine ax_eSi3 (pc := 3) sX4_133 dX4_isText_3 (by decide) (Nat.le_of_ble_eq_true rfl) (c_X4_within _ _ _ _ _) ?_
  refine ax_zret (pc := 6) dX4_isText_6 rfl (by first | rfl | exact bi_n) ?_
  exact ⟨_, rfl, rfl, rfl⟩
set_option maxHeartbeats 4000000 in
set_option maxRecDepth 100000 in
theorem c_X4_isPlace (dom : List Nat) (h : mh_H) (r : Int32) : Mt mX4_isPlace dom 1 [.int r] h (mx_Ri (fun v' h' => v' = (if 0 ≤ r ∧ r ≤ 2 then 1 else 0) ∧ h' = h)) := by
  refine Mt.of (L := [some (.int r)]) rfl (Nat.le_of_ble_eq_true rfl) rfl ?_
  refine ax_iload_n (pc := 0) dX4_isPlace_0 rfl ?_
  refine ax_iconst (pc := 1) (v := 0) dX4_isPlace_1 (by decide) ?_
  refine ax_iconst (pc := 2) (v := 2) dX4_isPlace_2 (by decide) ?_
  refine ax_eSi3 (pc := 3) sX4_133 dX4_isPlace_3 (by decide) (Nat.le_of_ble_eq_true rfl) (c_X4_within _ _ _ _ _) ?_
  refine ax_zret (pc := 6) dX4_isPlace_6 rfl (by first | rfl | exact bi_n) ?_
  exact ⟨_, rfl, rfl, rfl⟩
set_option maxHeartbeats 4000000 in
set_option maxRecDepth 100000 in
theorem c_X3_start (dom : List Nat) (h : mh_H) (a : Nat) (f0 f1 f2 f3 f4 : Value) (ha : h a = mh_ob 3 [f0, f1, f2, f3, f4]) : Mt mX3_start dom 0 [.ref a] h (mx_Rv (fun h' => h' = mh_up h a (wc (0, 2, 0, false, 0)))) := by
  refine Mt.of (L := [some (.ref a)]) rfl (Nat.le_of_ble_eq_true rfl) rfl ?_
  refine ax_aload_n (pc := 0) dX3_start_0 rfl ?_
  refine ax_iconst (pc := 1) (v := 0) dX3_start_1 (by decide) ?_
  refine ax_puti0 (pc := 2) gX3_9 dX3_start_2 (by first | assumption | rfl) ?_
  refine ax_aload_n (pc := 5) dX3_start_5 rfl ?_
  refine ax_iconst (pc := 6) (v := 2) dX3_start_6 (by decide) ?_
  refine ax_puti1u (pc := 7) gX3_15 dX3_start_7 ?_
  refine ax_aload_n (pc := 10) dX3_start_10 rfl ?_
  refine ax_iconst (pc := 11) (v := 0) dX3_start_11 (by decide) ?_
  refine ax_puti2u (pc := 12) gX3_18 dX3_start_12 ?_
  refine ax_aload_n (pc := 15) dX3_start_15 rfl ?_
  refine ax_iconst (pc := 16) (v := 0) dX3_start_16 (by decide) ?_
  refine ax_putz3u (pc := 17) gX3_21 dX3_start_17 rfl ?_
  refine ax_aload_n (pc := 20) dX3_start_20 rfl ?_
  refine ax_iconst (pc := 21) (v := 0) dX3_start_21 (by decide) ?_
  refine ax_puti4u (pc := 22) gX3_25 dX3_start_22 ?_
  refine ax_vret (pc := 25) dX3_start_25 rfl ?_
  exact ⟨rfl, rfl⟩
set_option maxHeartbeats 4000000 in
set_option maxRecDepth 100000 in
theorem c_X3_turn (dom : List Nat) (h : mh_H) (a x0 x1 x2 x4 : Nat) (b : Bool) (ha : h a = wc (x0, x1, x2, b, x4)) : Mt mX3_turn dom 0 [.ref a] h (mx_Rv (fun h' => h' = mh_up h a (wc (x0, x1, x2, !b, x4)))) := by
  refine Mt.of (L := [some (.ref a)]) rfl (Nat.le_of_ble_eq_true rfl) rfl ?_
  refine ax_aload_n (pc := 0) dX3_turn_0 rfl ?_
  refine ax_aload_n (pc := 1) dX3_turn_1 rfl ?_
  refine ax_getf (pc := 2) fX3_21 dX3_turn_2 (by first | assumption | rfl) rfl ?_
  refine ax_ifneB (pc := 5) (tgt := 12) dX3_turn_5 (by decide) (fun c5 => ?_) (fun c5 => ?_)
  · refine ax_iconst (pc := 12) (v := 0) dX3_turn_12 (by decide) ?_
    refine ax_putz3 (pc := 13) gX3_21 dX3_turn_13 (by first | assumption | rfl) rfl ?_
    refine ax_vret (pc := 16) dX3_turn_16 rfl ?_
    cases b
    · first | exact ⟨rfl, rfl⟩ | exact absurd c5 Bool.false_ne_true
    · first | exact ⟨rfl, rfl⟩ | exact absurd rfl c5
  · refine ax_iconst (pc := 8) (v := 1) dX3_turn_8 (by decide) ?_
    refine ax_goto (pc := 9) (tgt := 13) dX3_turn_9 (by decide) ?_
    refine ax_putz3 (pc := 13) gX3_21 dX3_turn_13 (by first | assumption | rfl) rfl ?_
    refine ax_vret (pc := 16) dX3_turn_16 rfl ?_
    cases b
    · first | exact ⟨rfl, rfl⟩ | exact absurd c5 Bool.false_ne_true
    · first | exact ⟨rfl, rfl⟩ | exact absurd rfl c5
set_option maxHeartbeats 4000000 in
set_option maxRecDepth 100000 in
theorem c_X3_copyOf (dom : List Nat) (h : mh_H) (a b x0 x1 x2 x4 : Nat) (f0 f1 f2 f3 f4 : Value) (x3 : Bool) (hab : b ≠ a) (ha : h a = mh_ob 3 [f0, f1, f2, f3, f4]) (hb : h b = wc (x0, x1, x2, x3, x4)) : Mt mX3_copyOf dom 0 [.ref a, .ref b] h (mx_Rv (fun h' => h' = mh_up h a (wc (x0, x1, x2, x3, x4)))) := by
  refine Mt.of (L := [some (.ref a), some (.ref b)]) rfl (Nat.le_of_ble_eq_true rfl) rfl ?_
  refine ax_aload_n (pc := 0) dX3_copyOf_0 rfl ?_
  refine ax_aload_n (pc := 1) dX3_copyOf_1 rfl ?_
  refine ax_getf (pc := 2) fX3_9 dX3_copyOf_2 (by first | assumption | exact (mh_up_n hab).trans hb) rfl ?_
  refine ax_puti0 (pc := 5) gX3_9 dX3_copyOf_5 (by first | assumption | exact (mh_up_n hab).trans hb) ?_
  refine ax_aload_n (pc := 8) dX3_copyOf_8 rfl ?_
  refine ax_aload_n (pc := 9) dX3_copyOf_9 rfl ?_
  refine ax_getf (pc := 10) fX3_15 dX3_copyOf_10 (by first | assumption | exact (mh_up_n hab).trans hb) rfl ?_
  refine ax_puti1u (pc := 13) gX3_15 dX3_copyOf_13 ?_
  refine ax_aload_n (pc := 16) dX3_copyOf_16 rfl ?_
  refine ax_aload_n (pc := 17) dX3_copyOf_17 rfl ?_
  refine ax_getf (pc := 18) fX3_18 dX3_copyOf_18 (by first | assumption | exact (mh_up_n hab).trans hb) rfl ?_
  refine ax_puti2u (pc := 21) gX3_18 dX3_copyOf_21 ?_
  refine ax_aload_n (pc := 24) dX3_copyOf_24 rfl ?_
  refine ax_aload_n (pc := 25) dX3_copyOf_25 rfl ?_
  refine ax_getf (pc := 26) fX3_21 dX3_copyOf_26 (by first | assumption | exact (mh_up_n hab).trans hb) rfl ?_
  refine ax_putz3u (pc := 29) gX3_21 dX3_copyOf_29 bi_n ?_
  refine ax_aload_n (pc := 32) dX3_copyOf_32 rfl ?_
  refine ax_aload_n (pc := 33) dX3_copyOf_33 rfl ?_
  refine ax_getf (pc := 34) fX3_25 dX3_copyOf_34 (by first | assumption | exact (mh_up_n hab).trans hb) rfl ?_
  refine ax_puti4u (pc := 37) gX3_25 dX3_copyOf_37 ?_
  refine ax_vret (pc := 40) dX3_copyOf_40 rfl ?_
  exact ⟨rfl, rfl⟩
set_option maxHeartbeats 4000000 in
set_option maxRecDepth 100000 in
theorem c_X3_pass (dom : List Nat) (h : mh_H) (a x0 x1 x2 x4 n : Nat) (x3 : Bool) (ha : h a = wc (x0, x1, x2, x3, x4)) (hx : x0 < n) (hn : n < 100) : Mt mX3_pass dom 0 [.ref a, .int (nI n)] h (mx_Rv (fun h' => h' = mh_up h a (wc (sp_pass n x3 x0, x1, x2, x3, x4)))) := by
  refine Mt.of (L := [some (.ref a), some (.int (nI n))]) rfl (Nat.le_of_ble_eq_true rfl) rfl ?_
  refine ax_aload_n (pc := 0) dX3_pass_0 rfl ?_
  refine ax_getf (pc := 1) fX3_21 dX3_pass_1 (by first | assumption | rfl) rfl ?_
  refine ax_ifeqB (pc := 4) (tgt := 33) dX3_pass_4 (by decide) (fun c4 => ?_) (fun c4 => ?_)
  · refine ax_aload_n (pc := 33) dX3_pass_33 rfl ?_
    refine ax_aload_n (pc := 34) dX3_pass_34 rfl ?_
    refine ax_getf (pc := 35) fX3_9 dX3_pass_35 (by first | assumption | rfl) rfl ?_
    refine ax_iload_n (pc := 38) dX3_pass_38 rfl ?_
    refine ax_iconst (pc := 39) (v := 1) dX3_pass_39 (by decide) ?_
    refine ax_isub (pc := 40) dX3_pass_40 ?_
    refine ax_icmpge (pc := 41) (tgt := 53) dX3_pass_41 (by decide) (fun c41 => ?_) (fun c41 => ?_)
    · refine ax_iconst (pc := 53) (v := 0) dX3_pass_53 (by decide) ?_
      have e3 : x3 = false := Bool.not_eq_true _ ▸ c4
      subst e3
      refine At.ti (x' := nI (sp_pass n false x0)) (by first | exact pa_v hx hn c41 | exact pa_w hx hn c41) ?_
      refine ax_puti0 (pc := 54) gX3_9 dX3_pass_54 (by first | assumption | rfl) ?_
      refine ax_vret (pc := 57) dX3_pass_57 rfl ?_
      exact ⟨rfl, rfl⟩
    · refine ax_aload_n (pc := 44) dX3_pass_44 rfl ?_
      refine ax_getf (pc := 45) fX3_9 dX3_pass_45 (by first | assumption | rfl) rfl ?_
      refine ax_iconst (pc := 48) (v := 1) dX3_pass_48 (by decide) ?_
      refine ax_iadd (pc := 49) dX3_pass_49 ?_
      refine ax_goto (pc := 50) (tgt := 54) dX3_pass_50 (by decide) ?_
      have e3 : x3 = false := Bool.not_eq_true _ ▸ c4
      subst e3
      refine At.ti (x' := nI (sp_pass n false x0)) (by first | exact pa_v hx hn c41 | exact pa_w hx hn c41) ?_
      refine ax_puti0 (pc := 54) gX3_9 dX3_pass_54 (by first | assumption | rfl) ?_
      refine ax_vret (pc := 57) dX3_pass_57 rfl ?_
      exact ⟨rfl, rfl⟩
  · refine ax_aload_n (pc := 7) dX3_pass_7 rfl ?_
    refine ax_aload_n (pc := 8) dX3_pass_8 rfl ?_
    refine ax_getf (pc := 9) fX3_9 dX3_pass_9 (by first | assumption | rfl) rfl ?_
    refine ax_ifle (pc := 12) (tgt := 24) dX3_pass_12 (by decide) (fun c12 => ?_) (fun c12 => ?_)
    · refine ax_iload_n (pc := 24) dX3_pass_24 rfl ?_
      refine ax_iconst (pc := 25) (v := 1) dX3_pass_25 (by decide) ?_
      refine ax_isub (pc := 26) dX3_pass_26 ?_
      have e3 : x3 = true := c4
      subst e3
      refine At.ti (x' := nI (sp_pass n true x0)) (by first | exact pa_t (by omega) c12 | exact pa_u hx hn c12) ?_
      refine ax_puti0 (pc := 27) gX3_9 dX3_pass_27 (by first | assumption | rfl) ?_
      refine ax_goto (pc := 30) (tgt := 57) dX3_pass_30 (by decide) ?_
      refine ax_vret (pc := 57) dX3_pass_57 rfl ?_
      exact ⟨rfl, rfl⟩
    · refine ax_aload_n (pc := 15) dX3_pass_15 rfl ?_
      refine ax_getf (pc := 16) fX3_9 dX3_pass_16 (by first | assumption | rfl) rfl ?_
      refine ax_iconst (pc := 19) (v := 1) dX3_pass_19 (by decide) ?_
      refine ax_isub (pc := 20) dX3_pass_20 ?_
      refine ax_goto (pc := 21) (tgt := 27) dX3_pass_21 (by decide) ?_
      have e3 : x3 = true := c4
      subst e3
      refine At.ti (x' := nI (sp_pass n true x0)) (by first | exact pa_t (by omega) c12 | exact pa_u hx hn c12) ?_
      refine ax_puti0 (pc := 27) gX3_9 dX3_pass_27 (by first | assumption | rfl) ?_
      refine ax_goto (pc := 30) (tgt := 57) dX3_pass_30 (by decide) ?_
      refine ax_vret (pc := 57) dX3_pass_57 rfl ?_
      exact ⟨rfl, rfl⟩
set_option maxHeartbeats 4000000 in
set_option maxRecDepth 100000 in
theorem c_X0_drift (dom : List Nat) (h : mh_H) (D : sp_D) (fi a ka fa ra : Nat) (hD : dyP D fi a ka fa ra h) (k : Nat) (hk : k < 9) (hfi : fi < 512) : Mt mX0_drift dom 0 [.ref a, .int (nI k)] h (mx_Ri (fun v' h' => v' = nI (sp_dr D fi k) ∧ h' = h)) := by
  refine Mt.of (L := [some (.ref a), some (.int (nI k))]) rfl (Nat.le_of_ble_eq_true rfl) rfl ?_
  obtain ⟨h1, h2, h3, h4⟩ := id hD
  refine ax_aload_n (pc := 0) dX0_drift_0 rfl ?_
  refine ax_getf (pc := 1) fX0_25 dX0_drift_1 (by first | assumption | rfl) rfl ?_
  refine ax_iload_n (pc := 4) dX0_drift_4 rfl ?_
  refine ax_ishr (pc := 5) dX0_drift_5 ?_
  refine ax_iconst (pc := 6) (v := 1) dX0_drift_6 (by decide) ?_
  refine ax_iand (pc := 7) dX0_drift_7 ?_
  refine ax_iconst (pc := 8) (v := 1) dX0_drift_8 (by decide) ?_
  refine ax_icmpne (pc := 9) (tgt := 16) dX0_drift_9 (by decide) (fun c9 => ?_) (fun c9 => ?_)
  · refine ax_aload_n (pc := 16) dX0_drift_16 rfl ?_
    refine ax_getf (pc := 17) fX0_18 dX0_drift_17 (by first | assumption | rfl) rfl ?_
    refine ax_iload_n (pc := 20) dX0_drift_20 rfl ?_
    refine ax_iald (pc := 21) dX0_drift_21 (by first | assumption | rfl) (ni_in9 hk (by decide)) ?_
    refine ax_iret (pc := 22) dX0_drift_22 rfl ?_
    rw [ni_bit1 (by omega) (by omega)] at c9
    first | exact ⟨_, rfl, by unfold sp_dr; rw [if_neg c9]; show nI _ = _; rw [ni_cl (by omega)], rfl⟩ | exact ⟨_, rfl, by unfold sp_dr; rw [if_pos c9]; rfl, rfl⟩
  · refine ax_iconst (pc := 12) (v := 0) dX0_drift_12 (by decide) ?_
    refine ax_goto (pc := 13) (tgt := 22) dX0_drift_13 (by decide) ?_
    refine ax_iret (pc := 22) dX0_drift_22 rfl ?_
    rw [ni_bit1 (by omega) (by omega)] at c9
    first | exact ⟨_, rfl, by unfold sp_dr; rw [if_neg c9]; show nI _ = _; rw [ni_cl (by omega)], rfl⟩ | exact ⟨_, rfl, by unfold sp_dr; rw [if_pos c9]; rfl, rfl⟩
set_option maxHeartbeats 4000000 in
set_option maxRecDepth 100000 in
theorem c_X0_wasFished (dom : List Nat) (h : mh_H) (D : sp_D) (fi a ka fa ra : Nat) (hD : dyP D fi a ka fa ra h) (k : Nat) (hk : k < 9) (hfi : fi < 512) : Mt mX0_wasFished dom 0 [.ref a, .int (nI k)] h (mx_Ri (fun v' h' => v' = (if fi.testBit k = true then 1 else 0) ∧ h' = h)) := by
  refine Mt.of (L := [some (.ref a), some (.int (nI k))]) rfl (Nat.le_of_ble_eq_true rfl) rfl ?_
  obtain ⟨h1, h2, h3, h4⟩ := id hD
  refine ax_aload_n (pc := 0) dX0_wasFished_0 rfl ?_
  refine ax_getf (pc := 1) fX0_25 dX0_wasFished_1 (by first | assumption | rfl) rfl ?_
  refine ax_iload_n (pc := 4) dX0_wasFished_4 rfl ?_
  refine ax_ishr (pc := 5) dX0_wasFished_5 ?_
  refine ax_iconst (pc := 6) (v := 1) dX0_wasFished_6 (by decide) ?_
  refine ax_iand (pc := 7) dX0_wasFished_7 ?_
  refine ax_iconst (pc := 8) (v := 1) dX0_wasFished_8 (by decide) ?_
  refine ax_icmpne (pc := 9) (tgt := 16) dX0_wasFished_9 (by decide) (fun c9 => ?_) (fun c9 => ?_)
  · refine ax_iconst (pc := 16) (v := 0) dX0_wasFished_16 (by decide) ?_
    refine ax_zret (pc := 17) dX0_wasFished_17 rfl (by first | rfl | exact bi_n) ?_
    rw [ni_bit1 (by omega) (by omega)] at c9
    first | exact ⟨_, rfl, (if_neg c9).symm, rfl⟩ | exact ⟨_, rfl, (if_pos c9).symm, rfl⟩
  · refine ax_iconst (pc := 12) (v := 1) dX0_wasFished_12 (by decide) ?_
    refine ax_goto (pc := 13) (tgt := 17) dX0_wasFished_13 (by decide) ?_
    refine ax_zret (pc := 17) dX0_wasFished_17 rfl (by first | rfl | exact bi_n) ?_
    rw [ni_bit1 (by omega) (by omega)] at c9
    first | exact ⟨_, rfl, (if_neg c9).symm, rfl⟩ | exact ⟨_, rfl, (if_pos c9).symm, rfl⟩
set_option maxHeartbeats 4000000 in
set_option maxRecDepth 100000 in
theorem c_X0_setFished (dom : List Nat) (h : mh_H) (D0 f0 f1 f2 : Value) (fi a : Nat) (ha : h a = mh_ob 0 [f0, f1, f2, D0, .int (nI fi)]) (k : Nat) (hk : k < 9) : Mt mX0_setFished dom 0 [.ref a, .int (nI k)] h (mx_Rv (fun h' => h' = mh_up h a (mh_ob 0 [f0, f1, f2, D0, .int (nI (fi ||| 2 ^ k))]))) := by
  refine Mt.of (L := [some (.ref a), some (.int (nI k))]) rfl (Nat.le_of_ble_eq_true rfl) rfl ?_
  refine ax_aload_n (pc := 0) dX0_setFished_0 rfl ?_
  refine ax_dup (pc := 1) dX0_setFished_1 rfl ?_
  refine ax_getf (pc := 2) fX0_25 dX0_setFished_2 (by first | assumption | rfl) rfl ?_
  refine ax_iconst (pc := 5) (v := 1) dX0_setFished_5 (by decide) ?_
  refine ax_iload_n (pc := 6) dX0_setFished_6 rfl ?_
  refine ax_ishl (pc := 7) dX0_setFished_7 ?_
  refine ax_ior (pc := 8) dX0_setFished_8 ?_
  refine At.ti (x' := nI (fi ||| 2 ^ k)) (by rw [ni_shl1 (by omega), ni_or]) ?_
  refine ax_puti4 (pc := 9) gX0_25 dX0_setFished_9 (by first | assumption | rfl) ?_
  refine ax_vret (pc := 12) dX0_setFished_12 rfl ?_
  exact ⟨rfl, rfl⟩
set_option maxHeartbeats 4000000 in
set_option maxRecDepth 100000 in
theorem c_X0_litter (dom : List Nat) (h : mh_H) (D : sp_D) (fi a ka fa ra : Nat) (hD : dyP D fi a ka fa ra h) (k : Nat) (hk : k < 9) (hfi : fi < 512) (hD0 : sp_D0 D) : Mt mX0_litter dom 1 [.ref a, .int (nI k)] h (mx_Ri (fun v' h' => v' = nI (sp_dl D fi k) ∧ h' = h)) := by
  refine Mt.of (L := [some (.ref a), some (.int (nI k)), none]) rfl (Nat.le_of_ble_eq_true rfl) rfl ?_
  obtain ⟨h1, h2, h3, h4⟩ := id hD
  refine ax_aload_n (pc := 0) dX0_litter_0 rfl ?_
  refine ax_iload_n (pc := 1) dX0_litter_1 rfl ?_
  refine ax_eVi1 (pc := 2) vX0_47 dX0_litter_2 (by decide) (by first | assumption | rfl) (Nat.le_of_ble_eq_true rfl) (c_X0_drift _ _ D fi a ka fa ra hD k hk hfi) ?_
  refine ax_istore2 (pc := 5) dX0_litter_5 rfl (by decide) ?_
  refine ax_aload_n (pc := 6) dX0_litter_6 rfl ?_
  refine ax_getf (pc := 7) fX0_9 dX0_litter_7 (by first | assumption | rfl) rfl ?_
  refine ax_iload_n (pc := 10) dX0_litter_10 rfl ?_
  refine ax_iald (pc := 11) dX0_litter_11 (by first | assumption | rfl) (ni_in9 hk (by decide)) ?_
  refine At.ti (x' := nI (D.2.1 k)) (by show nI _ = _; rw [ni_cl (by omega)]) ?_
  have hk6 := (hD0.2.2 k hk).1
  rcases (show D.2.1 k = 0 ∨ D.2.1 k = 1 ∨ D.2.1 k = 2 ∨ D.2.1 k = 3 ∨ D.2.1 k = 4 ∨ D.2.1 k = 5 by omega) with e | e | e | e | e | e
  · rw [e]
    refine ax_tswOut (tgt := 62) dX0_litter_12 (by decide) (by decide) ?_
    refine ax_iload_n (pc := 62) dX0_litter_62 rfl ?_
    refine ax_iret (pc := 63) dX0_litter_63 rfl ⟨_, rfl, ?_, rfl⟩
    unfold sp_dl; rw [e]; exact li_o (by decide)
  · rw [e]
    refine ax_tswIn (tgt := 48) dX0_litter_12 (by decide) (by decide) rfl (by decide) ?_
    refine ax_iload_n (pc := 48) dX0_litter_48 rfl ?_
    refine ax_iconst (pc := 49) (v := 2) dX0_litter_49 (by decide) ?_
    refine ax_idiv (pc := 50) dX0_litter_50 (by decide) ?_
    refine ax_iret (pc := 51) dX0_litter_51 rfl ⟨_, rfl, ?_, rfl⟩
    unfold sp_dl; rw [e]; exact li_a (sp_dr_lt (hD0.2.2 k hk).2.2) (by decide)
  · rw [e]
    refine ax_tswIn (tgt := 62) dX0_litter_12 (by decide) (by decide) rfl (by decide) ?_
    refine ax_iload_n (pc := 62) dX0_litter_62 rfl ?_
    refine ax_iret (pc := 63) dX0_litter_63 rfl ⟨_, rfl, ?_, rfl⟩
    unfold sp_dl; rw [e]; exact li_o (by decide)
  · rw [e]
    refine ax_tswIn (tgt := 52) dX0_litter_12 (by decide) (by decide) rfl (by decide) ?_
    refine ax_iload_n (pc := 52) dX0_litter_52 rfl ?_
    refine ax_iconst (pc := 53) (v := 3) dX0_litter_53 (by decide) ?_
    refine ax_iadd (pc := 54) dX0_litter_54 ?_
    refine ax_iret (pc := 55) dX0_litter_55 rfl ⟨_, rfl, ?_, rfl⟩
    unfold sp_dl; rw [e]; exact li_3
  · rw [e]
    refine ax_tswIn (tgt := 48) dX0_litter_12 (by decide) (by decide) rfl (by decide) ?_
    refine ax_iload_n (pc := 48) dX0_litter_48 rfl ?_
    refine ax_iconst (pc := 49) (v := 2) dX0_litter_49 (by decide) ?_
    refine ax_idiv (pc := 50) dX0_litter_50 (by decide) ?_
    refine ax_iret (pc := 51) dX0_litter_51 rfl ⟨_, rfl, ?_, rfl⟩
    unfold sp_dl; rw [e]; exact li_a (sp_dr_lt (hD0.2.2 k hk).2.2) (by decide)
  · rw [e]
    refine ax_tswIn (tgt := 56) dX0_litter_12 (by decide) (by decide) rfl (by decide) ?_
    refine ax_iconst (pc := 56) (v := 2) dX0_litter_56 (by decide) ?_
    refine ax_iload_n (pc := 57) dX0_litter_57 rfl ?_
    refine ax_iconst (pc := 58) (v := 3) dX0_litter_58 (by decide) ?_
    refine ax_iadd (pc := 59) dX0_litter_59 ?_
    refine ax_imul (pc := 60) dX0_litter_60 ?_
    refine ax_iret (pc := 61) dX0_litter_61 rfl ⟨_, rfl, ?_, rfl⟩
    unfold sp_dl; rw [e]; exact li_5
set_option maxHeartbeats 4000000 in
set_option maxRecDepth 100000 in
theorem c_X0_flour (dom : List Nat) (h : mh_H) (D : sp_D) (fi a ka fa ra : Nat) (hD : dyP D fi a ka fa ra h) (k t c : Nat) (hk : k < 9) (hfi : fi < 512) (hD0 : sp_D0 D) (ht : t ≤ 4) (hc : c ≤ 40) : Mt mX0_flour dom 1 [.ref a, .int (nI k), .int (nI t), .int (nI c)] h (mx_Ri (fun v' h' => v' = nI (sp_df D fi k t c) ∧ h' = h)) := by
  refine Mt.of (L := [some (.ref a), some (.int (nI k)), some (.int (nI t)), some (.int (nI c)), none]) rfl (Nat.le_of_ble_eq_true rfl) rfl ?_
  obtain ⟨h1, h2, h3, h4⟩ := id hD
  refine ax_aload_n (pc := 0) dX0_flour_0 rfl ?_
  refine ax_getf (pc := 1) fX0_15 dX0_flour_1 (by first | assumption | rfl) rfl ?_
  refine ax_iload_n (pc := 4) dX0_flour_4 rfl ?_
  refine ax_iald (pc := 5) dX0_flour_5 (by first | assumption | rfl) (ni_in9 hk (by decide)) ?_
  refine At.ti (x' := nI (D.2.2.1 k)) (by show nI _ = _; rw [ni_cl (by omega)]) ?_
  refine ax_istore4 (pc := 6) dX0_flour_6 rfl (by decide) ?_
  refine ax_aload_n (pc := 8) dX0_flour_8 rfl ?_
  refine ax_getf (pc := 9) fX0_9 dX0_flour_9 (by first | assumption | rfl) rfl ?_
  refine ax_iload_n (pc := 12) dX0_flour_12 rfl ?_
  refine ax_iald (pc := 13) dX0_flour_13 (by first | assumption | rfl) (ni_in9 hk (by decide)) ?_
  refine At.ti (x' := nI (D.2.1 k)) (by show nI _ = _; rw [ni_cl (by omega)]) ?_
  have hk6 := (hD0.2.2 k hk).1
  rcases (show D.2.1 k = 0 ∨ D.2.1 k = 1 ∨ D.2.1 k = 2 ∨ D.2.1 k = 3 ∨ D.2.1 k = 4 ∨ D.2.1 k = 5 by omega) with e | e | e | e | e | e
  · rw [e]
    refine ax_tswOut (tgt := 117) dX0_flour_14 (by decide) (by decide) ?_
    refine ax_iconst (pc := 117) (v := 0) dX0_flour_117 (by decide) ?_
    refine ax_iload (pc := 118) dX0_flour_118 rfl ?_
    refine ax_iload_n (pc := 120) dX0_flour_120 rfl ?_
    refine ax_imul (pc := 121) dX0_flour_121 ?_
    refine ax_iload_n (pc := 122) dX0_flour_122 rfl ?_
    refine ax_isub (pc := 123) dX0_flour_123 ?_
    refine ax_max (pc := 124) tw_319 dX0_flour_124 (by decide) (Nat.le_of_ble_eq_true rfl) tw_max ?_
    refine ax_iret (pc := 127) dX0_flour_127 rfl ⟨_, rfl, ?_, rfl⟩
    unfold sp_df; rw [e]; exact fl_o (hD0.2.2 k hk).2.1 ht hc (by decide)
  · rw [e]
    refine ax_tswIn (tgt := 48) dX0_flour_14 (by decide) (by decide) rfl (by decide) ?_
    refine ax_iconst (pc := 48) (v := 0) dX0_flour_48 (by decide) ?_
    refine ax_iconst (pc := 49) (v := 2) dX0_flour_49 (by decide) ?_
    refine ax_iload (pc := 50) dX0_flour_50 rfl ?_
    refine ax_imul (pc := 52) dX0_flour_52 ?_
    refine ax_iload_n (pc := 53) dX0_flour_53 rfl ?_
    refine ax_imul (pc := 54) dX0_flour_54 ?_
    refine ax_iload_n (pc := 55) dX0_flour_55 rfl ?_
    refine ax_isub (pc := 56) dX0_flour_56 ?_
    refine ax_max (pc := 57) tw_319 dX0_flour_57 (by decide) (Nat.le_of_ble_eq_true rfl) tw_max ?_
    refine ax_iret (pc := 60) dX0_flour_60 rfl ⟨_, rfl, ?_, rfl⟩
    unfold sp_df; rw [e]; exact fl_1 (hD0.2.2 k hk).2.1 ht hc
  · rw [e]
    refine ax_tswIn (tgt := 61) dX0_flour_14 (by decide) (by decide) rfl (by decide) ?_
    refine ax_iconst (pc := 61) (v := 0) dX0_flour_61 (by decide) ?_
    refine ax_iload (pc := 62) dX0_flour_62 rfl ?_
    refine ax_iload_n (pc := 64) dX0_flour_64 rfl ?_
    refine ax_iconst (pc := 65) (v := 1) dX0_flour_65 (by decide) ?_
    refine ax_min (pc := 66) tw_322 dX0_flour_66 (by decide) (Nat.le_of_ble_eq_true rfl) tw_min ?_
    refine ax_imul (pc := 69) dX0_flour_69 ?_
    refine ax_iload_n (pc := 70) dX0_flour_70 rfl ?_
    refine ax_isub (pc := 71) dX0_flour_71 ?_
    refine ax_max (pc := 72) tw_319 dX0_flour_72 (by decide) (Nat.le_of_ble_eq_true rfl) tw_max ?_
    refine ax_iret (pc := 75) dX0_flour_75 rfl ⟨_, rfl, ?_, rfl⟩
    unfold sp_df; rw [e]; exact fl_2 (hD0.2.2 k hk).2.1 ht hc
  · rw [e]
    refine ax_tswIn (tgt := 117) dX0_flour_14 (by decide) (by decide) rfl (by decide) ?_
    refine ax_iconst (pc := 117) (v := 0) dX0_flour_117 (by decide) ?_
    refine ax_iload (pc := 118) dX0_flour_118 rfl ?_
    refine ax_iload_n (pc := 120) dX0_flour_120 rfl ?_
    refine ax_imul (pc := 121) dX0_flour_121 ?_
    refine ax_iload_n (pc := 122) dX0_flour_122 rfl ?_
    refine ax_isub (pc := 123) dX0_flour_123 ?_
    refine ax_max (pc := 124) tw_319 dX0_flour_124 (by decide) (Nat.le_of_ble_eq_true rfl) tw_max ?_
    refine ax_iret (pc := 127) dX0_flour_127 rfl ⟨_, rfl, ?_, rfl⟩
    unfold sp_df; rw [e]; exact fl_o (hD0.2.2 k hk).2.1 ht hc (by decide)
  · rw [e]
    refine ax_tswIn (tgt := 76) dX0_flour_14 (by decide) (by decide) rfl (by decide) ?_
    refine ax_iconst (pc := 76) (v := 0) dX0_flour_76 (by decide) ?_
    refine ax_iconst (pc := 77) (v := 2) dX0_flour_77 (by decide) ?_
    refine ax_iload (pc := 78) dX0_flour_78 rfl ?_
    refine ax_imul (pc := 80) dX0_flour_80 ?_
    refine ax_iload_n (pc := 81) dX0_flour_81 rfl ?_
    refine ax_imul (pc := 82) dX0_flour_82 ?_
    refine ax_iload_n (pc := 83) dX0_flour_83 rfl ?_
    refine ax_isub (pc := 84) dX0_flour_84 ?_
    refine ax_max (pc := 85) tw_319 dX0_flour_85 (by decide) (Nat.le_of_ble_eq_true rfl) tw_max ?_
    refine ax_iload_n (pc := 88) dX0_flour_88 rfl ?_
    refine ax_iconst (pc := 89) (v := 4) dX0_flour_89 (by decide) ?_
    refine ax_icmpne (pc := 90) (tgt := 97) dX0_flour_90 (by decide) (fun c90 => ?_) (fun c90 => ?_)
    · refine ax_iconst (pc := 97) (v := 0) dX0_flour_97 (by decide) ?_
      refine ax_iadd (pc := 98) dX0_flour_98 ?_
      refine ax_iret (pc := 99) dX0_flour_99 rfl ⟨_, rfl, ?_, rfl⟩
      unfold sp_df; rw [e]; by_cases c91 : nI t = 4 <;> first | exact absurd c91 c90 | exact absurd c90 c91 | exact fl_4 (hD0.2.2 k hk).2.1 ht hc c91 | exact fl_4n (hD0.2.2 k hk).2.1 ht hc c91
    · refine ax_iconst (pc := 93) (v := 5) dX0_flour_93 (by decide) ?_
      refine ax_goto (pc := 94) (tgt := 98) dX0_flour_94 (by decide) ?_
      refine ax_iadd (pc := 98) dX0_flour_98 ?_
      refine ax_iret (pc := 99) dX0_flour_99 rfl ⟨_, rfl, ?_, rfl⟩
      unfold sp_df; rw [e]; by_cases c91 : nI t = 4 <;> first | exact absurd c91 c90 | exact absurd c90 c91 | exact fl_4 (hD0.2.2 k hk).2.1 ht hc c91 | exact fl_4n (hD0.2.2 k hk).2.1 ht hc c91
  · rw [e]
    refine ax_tswIn (tgt := 100) dX0_flour_14 (by decide) (by decide) rfl (by decide) ?_
    refine ax_iconst (pc := 100) (v := 0) dX0_flour_100 (by decide) ?_
    refine ax_iload (pc := 101) dX0_flour_101 rfl ?_
    refine ax_iload_n (pc := 103) dX0_flour_103 rfl ?_
    refine ax_imul (pc := 104) dX0_flour_104 ?_
    refine ax_iload_n (pc := 105) dX0_flour_105 rfl ?_
    refine ax_isub (pc := 106) dX0_flour_106 ?_
    refine ax_aload_n (pc := 107) dX0_flour_107 rfl ?_
    refine ax_iload_n (pc := 108) dX0_flour_108 rfl ?_
    refine ax_eVi1 (pc := 109) vX0_47 dX0_flour_109 (by decide) (by first | assumption | rfl) (Nat.le_of_ble_eq_true rfl) (c_X0_drift _ _ D fi a ka fa ra hD k hk hfi) ?_
    refine ax_isub (pc := 112) dX0_flour_112 ?_
    refine ax_max (pc := 113) tw_319 dX0_flour_113 (by decide) (Nat.le_of_ble_eq_true rfl) tw_max ?_
    refine ax_iret (pc := 116) dX0_flour_116 rfl ⟨_, rfl, ?_, rfl⟩
    unfold sp_df; rw [e]; exact fl_5 (hD0.2.2 k hk).2.1 (sp_dr_lt (hD0.2.2 k hk).2.2) ht hc
set_option maxHeartbeats 4000000 in
set_option maxRecDepth 100000 in
theorem c_X3_goRound (dom : List Nat) (h : mh_H) (D : sp_D) (fi a b ka fa ra x0 x1 x2 x4 : Nat) (x3 : Bool) (hw : h a = wc (x0, x1, x2, x3, x4)) (hD : dyP D fi b ka fa ra h) (hD0 : sp_D0 D) (hW0 : sp_W0 D.1 (x0, x1, x2, x3, x4)) (hfi : fi < 512) : Mt mX3_goRound dom 2 [.ref a, .ref b] h (mx_Ri (fun v' h' => v' = nI (sp_wf D fi (x0, x1, x2, x3, x4)) ∧ h' = mh_up h a (wc (sp_st D fi (x0, x1, x2, x3, x4))))) := by
  refine Mt.of (L := [some (.ref a), some (.ref b), none]) rfl (Nat.le_of_ble_eq_true rfl) rfl ?_
  obtain ⟨h1, h2, h3, h4⟩ := id hD
  have h9 : x0 < 9 := Nat.lt_of_lt_of_le hW0.1 hD0.2.1
  have hn9 := hD0.2.1
  have hf9 : sp_df D fi x0 x1 x2 ≤ 77 := sp_wf_le hD0 hW0
  have hba : b ≠ a := fun q => by rw [q, hw] at h1; exact absurd h1 (by intro z; injection z with z; injection z with z; injection z with z; exact absurd z (by decide))
  have hka : ka ≠ a := fun q => by rw [q, hw] at h2; cases h2
  have hfa : fa ≠ a := fun q => by rw [q, hw] at h3; cases h3
  have hra : ra ≠ a := fun q => by rw [q, hw] at h4; cases h4
  refine ax_aload_n (pc := 0) dX3_goRound_0 rfl ?_
  refine ax_aload_n (pc := 1) dX3_goRound_1 rfl ?_
  refine ax_getf (pc := 2) fX3_9 dX3_goRound_2 (by first | assumption | exact mh_up_s | exact (mh_up_n hba).trans h1) rfl ?_
  refine ax_aload_n (pc := 5) dX3_goRound_5 rfl ?_
  refine ax_getf (pc := 6) fX3_15 dX3_goRound_6 (by first | assumption | exact mh_up_s | exact (mh_up_n hba).trans h1) rfl ?_
  refine ax_aload_n (pc := 9) dX3_goRound_9 rfl ?_
  refine ax_getf (pc := 10) fX3_18 dX3_goRound_10 (by first | assumption | exact mh_up_s | exact (mh_up_n hba).trans h1) rfl ?_
  refine ax_eVi3 (pc := 13) vX3_28 dX3_goRound_13 (by decide) (by first | assumption | exact mh_up_s | exact (mh_up_n hba).trans h1) (Nat.le_of_ble_eq_true rfl) (c_X0_flour _ _ D fi b ka fa ra hD x0 x1 x2 h9 hfi hD0 hW0.2.1 hW0.2.2) ?_
  refine ax_istore2 (pc := 16) dX3_goRound_16 rfl (by decide) ?_
  refine ax_aload_n (pc := 17) dX3_goRound_17 rfl ?_
  refine ax_dup (pc := 18) dX3_goRound_18 rfl ?_
  refine ax_getf (pc := 19) fX3_25 dX3_goRound_19 (by first | assumption | exact mh_up_s | exact (mh_up_n hba).trans h1) rfl ?_
  refine ax_iload_n (pc := 22) dX3_goRound_22 rfl ?_
  refine ax_iadd (pc := 23) dX3_goRound_23 ?_
  refine At.ti (x' := nI (x4 + sp_df D fi x0 x1 x2)) (nI_add _ _) ?_
  refine ax_puti4 (pc := 24) gX3_25 dX3_goRound_24 (by first | assumption | exact mh_up_s | exact (mh_up_n hba).trans h1) ?_
  have hD2 : dyP D fi b ka fa ra (mh_up h a (mh_ob 3 [.int (nI x0), .int (nI x1), .int (nI x2), .int (bb x3), .int (nI (x4 + sp_df D fi x0 x1 x2))])) := ⟨(mh_up_n hba).trans h1, (mh_up_n hka).trans h2, (mh_up_n hfa).trans h3, (mh_up_n hra).trans h4⟩
  refine ax_aload_n (pc := 27) dX3_goRound_27 rfl ?_
  refine ax_bipush (pc := 28) (v := 40) dX3_goRound_28 (by decide) ?_
  refine ax_aload_n (pc := 30) dX3_goRound_30 rfl ?_
  refine ax_getf (pc := 31) fX3_18 dX3_goRound_31 (by first | assumption | exact mh_up_s | exact (mh_up_n hba).trans h1) rfl ?_
  refine ax_aload_n (pc := 34) dX3_goRound_34 rfl ?_
  refine ax_aload_n (pc := 35) dX3_goRound_35 rfl ?_
  refine ax_getf (pc := 36) fX3_9 dX3_goRound_36 (by first | assumption | exact mh_up_s | exact (mh_up_n hba).trans h1) rfl ?_
  refine ax_eVi1 (pc := 39) vX3_34 dX3_goRound_39 (by decide) (by first | assumption | exact mh_up_s | exact (mh_up_n hba).trans h1) (Nat.le_of_ble_eq_true rfl) (c_X0_litter _ _ D fi b ka fa ra hD2 x0 h9 hfi hD0) ?_
  refine ax_iadd (pc := 42) dX3_goRound_42 ?_
  refine ax_min (pc := 43) tw_330 dX3_goRound_43 (by decide) (Nat.le_of_ble_eq_true rfl) tw_min ?_
  refine At.ti (x' := nI (min 40 (x2 + sp_dl D fi x0))) (cl_min hW0.2.2 (sp_li_le (sp_dr_lt (hD0.2.2 x0 h9).2.2))) ?_
  refine ax_puti2u (pc := 46) gX3_18 dX3_goRound_46 ?_
  refine ax_iload_n (pc := 49) dX3_goRound_49 rfl ?_
  refine ax_ifne (pc := 50) (tgt := 57) dX3_goRound_50 (by decide) (fun c50 => ?_) (fun c50 => ?_)
  · have hv0 : sp_df D fi x0 x1 x2 = 0 ↔ nI (sp_df D fi x0 x1 x2) = 0 := ⟨fun q => by rw [q]; rfl, fun q => (nI_eq (by omega) (by decide)).mp q⟩
    refine ax_aload_n (pc := 57) dX3_goRound_57 rfl ?_
    refine ax_aload_n (pc := 58) dX3_goRound_58 rfl ?_
    refine ax_getf (pc := 59) fX3_47 dX3_goRound_59 (by first | assumption | exact mh_up_s | exact (mh_up_n hba).trans h1) rfl ?_
    refine ax_eVv1 (pc := 62) vX3_50 dX3_goRound_62 (by decide) (by first | assumption | exact mh_up_s | exact (mh_up_n hba).trans h1) (Nat.le_of_ble_eq_true rfl) (c_X3_pass _ _ a x0 x1 (min 40 (x2 + sp_dl D fi x0)) (x4 + sp_df D fi x0 x1 x2) D.1 _ mh_up_s hW0.1 (by omega)) ?_
    refine At.hp mh_up_uu ?_
    refine ax_iload_n (pc := 65) dX3_goRound_65 rfl ?_
    refine ax_iret (pc := 66) dX3_goRound_66 rfl ?_
    refine ⟨_, rfl, rfl, ?_⟩
    unfold sp_st sp_mv sp_wf
    dsimp only
    first | rw [if_pos (hv0.mpr c50)] | rw [if_neg (fun q => c50 (hv0.mp q))]
  · refine ax_aload_n (pc := 53) dX3_goRound_53 rfl ?_
    refine ax_eVv0 (pc := 54) vX3_44 dX3_goRound_54 (by decide) (by first | assumption | exact mh_up_s | exact (mh_up_n hba).trans h1) (Nat.le_of_ble_eq_true rfl) (c_X3_turn _ _ a x0 x1 (min 40 (x2 + sp_dl D fi x0)) (x4 + sp_df D fi x0 x1 x2) x3 mh_up_s) ?_
    refine At.hp mh_up_uu ?_
    have hv0 : sp_df D fi x0 x1 x2 = 0 ↔ nI (sp_df D fi x0 x1 x2) = 0 := ⟨fun q => by rw [q]; rfl, fun q => (nI_eq (by omega) (by decide)).mp q⟩
    refine ax_aload_n (pc := 57) dX3_goRound_57 rfl ?_
    refine ax_aload_n (pc := 58) dX3_goRound_58 rfl ?_
    refine ax_getf (pc := 59) fX3_47 dX3_goRound_59 (by first | assumption | exact mh_up_s | exact (mh_up_n hba).trans h1) rfl ?_
    refine ax_eVv1 (pc := 62) vX3_50 dX3_goRound_62 (by decide) (by first | assumption | exact mh_up_s | exact (mh_up_n hba).trans h1) (Nat.le_of_ble_eq_true rfl) (c_X3_pass _ _ a x0 x1 (min 40 (x2 + sp_dl D fi x0)) (x4 + sp_df D fi x0 x1 x2) D.1 _ mh_up_s hW0.1 (by omega)) ?_
    refine At.hp mh_up_uu ?_
    refine ax_iload_n (pc := 65) dX3_goRound_65 rfl ?_
    refine ax_iret (pc := 66) dX3_goRound_66 rfl ?_
    refine ⟨_, rfl, rfl, ?_⟩
    unfold sp_st sp_mv sp_wf
    dsimp only
    first | rw [if_pos (hv0.mpr c50)] | rw [if_neg (fun q => c50 (hv0.mp q))]
