theorem lg_le {a b : Int32} : a.toInt64 ≤ b.toInt64 ↔ a ≤ b := by rw [Int64.le_iff_toInt_le, Int32.le_iff_toInt_le, Int32.toInt_toInt64, Int32.toInt_toInt64]
theorem lg_lt {a b : Int32} : a.toInt64 < b.toInt64 ↔ a < b := by rw [Int64.lt_iff_toInt_lt, Int32.lt_iff_toInt_lt, Int32.toInt_toInt64, Int32.toInt_toInt64]
set_option maxHeartbeats 4000000 in
set_option maxRecDepth 100000 in
theorem c_X5_in (dom : List Nat) (h : mh_H) (v lo hi : Int32) (a b : Int64) (ha : a = lo.toInt64) (hb : b = hi.toInt64) : Mt mX5_in dom 0 [.long v.toInt64, .long a, .long b] h (mx_Ri (fun v' h' => v' = (if lo ≤ v ∧ v ≤ hi then 1 else 0) ∧ h' = h)) := by
  refine Mt.of (L := [some (.long v.toInt64), none, some (.long a), none, some (.long b), none]) rfl (Nat.le_of_ble_eq_true rfl) rfl ?_
  subst ha
  subst hb
  refine ax_lload_n (pc := 0) dX5_in_0 rfl ?_
  refine ax_lload_n (pc := 1) dX5_in_1 rfl ?_
  refine ax_lcmp (pc := 2) dX5_in_2 ?_
  refine ax_iflt (pc := 3) (tgt := 17) dX5_in_3 (by decide) (fun c3a => ?_) (fun c3a => ?_)
  · first | rw [lg_cmp_lt, lg_lt] at c3a | (rw [lg_cmp_lt, lg_lt] at c3a; rw [lg_cmp_gt, lg_lt] at c10)
    refine ax_iconst (pc := 17) (v := 0) dX5_in_17 (by decide) ?_
    refine ax_zret (pc := 18) dX5_in_18 rfl (by first | rfl | exact bi_n) ?_
    exact ⟨_, rfl, by first | exact (if_pos ⟨Int32.not_lt.mp c3a, Int32.not_lt.mp c10⟩).symm | exact (if_neg (fun q => absurd q.1 (Int32.not_le.mpr c3a))).symm | exact (if_neg (fun q => absurd q.2 (Int32.not_le.mpr ((lg_lt).mp ((lg_cmp_gt _ _).mp c10))))).symm, rfl⟩
  · refine ax_lload_n (pc := 6) dX5_in_6 rfl ?_
    refine ax_lload (pc := 7) dX5_in_7 rfl ?_
    refine ax_lcmp (pc := 9) dX5_in_9 ?_
    refine ax_ifgt (pc := 10) (tgt := 17) dX5_in_10 (by decide) (fun c10 => ?_) (fun c10 => ?_)
    · first | rw [lg_cmp_lt, lg_lt] at c3a | (rw [lg_cmp_lt, lg_lt] at c3a; rw [lg_cmp_gt, lg_lt] at c10)
      refine ax_iconst (pc := 17) (v := 0) dX5_in_17 (by decide) ?_
      refine ax_zret (pc := 18) dX5_in_18 rfl (by first | rfl | exact bi_n) ?_
      exact ⟨_, rfl, by first | exact (if_pos ⟨Int32.not_lt.mp c3a, Int32.not_lt.mp c10⟩).symm | exact (if_neg (fun q => absurd q.1 (Int32.not_le.mpr c3a))).symm | exact (if_neg (fun q => absurd q.2 (Int32.not_le.mpr ((lg_lt).mp ((lg_cmp_gt _ _).mp c10))))).symm, rfl⟩
    · rw [lg_cmp_lt, lg_lt] at c3a
      rw [lg_cmp_gt, lg_lt] at c10
      refine ax_iconst (pc := 13) (v := 1) dX5_in_13 (by decide) ?_
      refine ax_goto (pc := 14) (tgt := 18) dX5_in_14 (by decide) ?_
      refine ax_zret (pc := 18) dX5_in_18 rfl (by first | rfl | exact bi_n) ?_
      exact ⟨_, rfl, by first | exact (if_pos ⟨Int32.not_lt.mp c3a, Int32.not_lt.mp c10⟩).symm | exact (if_neg (fun q => absurd q.1 (Int32.not_le.mpr c3a))).symm | exact (if_neg (fun q => absurd q.2 (Int32.not_le.mpr ((lg_lt).mp ((lg_cmp_gt _ _).mp c10))))).symm, rfl⟩
set_option maxHeartbeats 4000000 in
set_option maxRecDepth 100000 in
theorem c_X5_has (dom : List Nat) (h : mh_H) (a k : Nat) (ha : a < 2 ^ 31) (hk : k < 31) : Mt mX5_has dom 0 [.int (nI a), .int (nI k)] h (mx_Ri (fun v' h' => v' = (if a.testBit k = true then 1 else 0) ∧ h' = h)) := by
  refine Mt.of (L := [some (.int (nI a)), some (.int (nI k))]) rfl (Nat.le_of_ble_eq_true rfl) rfl ?_
  refine ax_iload_n (pc := 0) dX5_has_0 rfl ?_
  refine ax_iload_n (pc := 1) dX5_has_1 rfl ?_
  refine ax_ishr (pc := 2) dX5_has_2 ?_
  refine ax_iconst (pc := 3) (v := 1) dX5_has_3 (by decide) ?_
  refine ax_iand (pc := 4) dX5_has_4 ?_
  refine ax_iconst (pc := 5) (v := 1) dX5_has_5 (by decide) ?_
  refine ax_icmpne (pc := 6) (tgt := 13) dX5_has_6 (by decide) (fun c6a => ?_) (fun c6a => ?_)
  · refine ax_iconst (pc := 13) (v := 0) dX5_has_13 (by decide) ?_
    refine ax_zret (pc := 14) dX5_has_14 rfl (by first | rfl | exact bi_n) ?_
    rw [ni_bit1 ha hk] at c6a
    exact ⟨_, rfl, by first | exact (if_pos c6a).symm | exact (if_neg c6a).symm, rfl⟩
  · refine ax_iconst (pc := 9) (v := 1) dX5_has_9 (by decide) ?_
    refine ax_goto (pc := 10) (tgt := 14) dX5_has_10 (by decide) ?_
    refine ax_zret (pc := 14) dX5_has_14 rfl (by first | rfl | exact bi_n) ?_
    rw [ni_bit1 ha hk] at c6a
    exact ⟨_, rfl, by first | exact (if_pos c6a).symm | exact (if_neg c6a).symm, rfl⟩
theorem bc_st {a j : Nat} (ha : a < 2 ^ 31) (hj : j < 31) : nI (sp_bc a j) + (nI a >>> (nI j &&& 31) &&& 1) = nI (sp_bc a (j + 1)) := by
  rw [ni_bit ha hj, nI_add, sp_bc]
  congr 2
  have h1 : a.testBit j = true ↔ a / 2 ^ j % 2 = 1 := by rw [Nat.testBit_eq_decide_div_mod_eq]; exact decide_eq_true_iff
  have h2 : a / 2 ^ j % 2 < 2 := Nat.mod_lt _ (by decide)
  split
  · rename_i q; exact h1.mp q
  · rename_i q
    have : ¬ a / 2 ^ j % 2 = 1 := fun z => q (h1.mpr z)
    omega
set_option maxHeartbeats 4000000 in
set_option maxRecDepth 100000 in
theorem l_X5_bits (dom : List Nat) (h : mh_H) (a : Nat) (ha : a < 2 ^ 31) : ∀ (nn j : Nat), j + nn = 10 → At mX5_bits dom 0 4 [some (.int (nI a)), some (.int (nI (sp_bc a j))), some (.int (nI j))] [] h (mx_Ri (fun v' h' => v' = nI (sp_bc a 10) ∧ h' = h)) := by
  intro nn
  induction nn with
  | zero =>
    intro j hj
    have hj : j = 10 := by omega
    subst hj
    refine ax_iload_n (pc := 4) dX5_bits_4 rfl ?_
    refine ax_bipush (pc := 5) (v := 10) dX5_bits_5 (by decide) ?_
    refine ax_icmpge (pc := 7) (tgt := 24) dX5_bits_7 (by decide) (fun _ => ?_) (fun q => absurd (by decide) q)
    refine ax_iload_n (pc := 24) dX5_bits_24 rfl ?_
    refine ax_iret (pc := 25) dX5_bits_25 rfl ?_
    exact ⟨_, rfl, rfl, rfl⟩
  | succ nn ih =>
    intro j hj
    have hlt : j < 10 := by omega
    refine ax_iload_n (pc := 4) dX5_bits_4 rfl ?_
    refine ax_bipush (pc := 5) (v := 10) dX5_bits_5 (by decide) ?_
    refine ax_icmpge (pc := 7) (tgt := 24) dX5_bits_7 (by decide) (fun q => absurd q (by rw [n_10, nI_leI (by decide) (by omega)]; omega)) (fun _ => ?_)
    refine ax_iload_n (pc := 10) dX5_bits_10 rfl ?_
    refine ax_iload_n (pc := 11) dX5_bits_11 rfl ?_
    refine ax_iload_n (pc := 12) dX5_bits_12 rfl ?_
    refine ax_ishr (pc := 13) dX5_bits_13 ?_
    refine ax_iconst (pc := 14) (v := 1) dX5_bits_14 (by decide) ?_
    refine ax_iand (pc := 15) dX5_bits_15 ?_
    refine ax_iadd (pc := 16) dX5_bits_16 ?_
    refine At.ti (bc_st ha (by omega)) ?_
    refine ax_istore1 (pc := 17) dX5_bits_17 rfl (by decide) ?_
    refine ax_inc2p1 (pc := 18) dX5_bits_18 rfl (by decide) ?_
    refine ax_goto (pc := 21) (tgt := 4) dX5_bits_21 (by decide) ?_
    rw [nI_1]
    exact ih (j + 1) (by omega)
set_option maxHeartbeats 4000000 in
set_option maxRecDepth 100000 in
theorem c_X5_bits (dom : List Nat) (h : mh_H) (a : Nat) (ha : a < 2 ^ 31) : Mt mX5_bits dom 0 [.int (nI a)] h (mx_Ri (fun v' h' => v' = nI (sp_bc a 10) ∧ h' = h)) := by
  refine Mt.of (L := [some (.int (nI a)), none, none]) rfl (Nat.le_of_ble_eq_true rfl) rfl ?_
  refine ax_iconst (pc := 0) (v := 0) dX5_bits_0 (by decide) ?_
  refine ax_istore1 (pc := 1) dX5_bits_1 rfl (by decide) ?_
  refine ax_iconst (pc := 2) (v := 0) dX5_bits_2 (by decide) ?_
  refine ax_istore2 (pc := 3) dX5_bits_3 rfl (by decide) ?_
  exact l_X5_bits dom h a ha 10 0 (by omega)
set_option maxHeartbeats 4000000 in
set_option maxRecDepth 100000 in
theorem c_X5_smaller (dom : List Nat) (h : mh_H) (a b : Int32) : Mt mX5_smaller dom 0 [.int a, .int b] h (mx_Ri (fun v' h' => v' = (if a < b then a else b) ∧ h' = h)) := by
  refine Mt.of (L := [some (.int a), some (.int b)]) rfl (Nat.le_of_ble_eq_true rfl) rfl ?_
  refine ax_iload_n (pc := 0) dX5_smaller_0 rfl ?_
  refine ax_iload_n (pc := 1) dX5_smaller_1 rfl ?_
  refine ax_icmpge (pc := 2) (tgt := 9) dX5_smaller_2 (by decide) (fun c2a => ?_) (fun c2a => ?_)
  · refine ax_iload_n (pc := 9) dX5_smaller_9 rfl ?_
    refine ax_iret (pc := 10) dX5_smaller_10 rfl ?_
    exact ⟨_, rfl, by first | exact (if_pos (Int32.not_le.mp c2a)).symm | exact (if_neg (Int32.not_lt.mpr c2a)).symm, rfl⟩
  · refine ax_iload_n (pc := 5) dX5_smaller_5 rfl ?_
    refine ax_goto (pc := 6) (tgt := 10) dX5_smaller_6 (by decide) ?_
    refine ax_iret (pc := 10) dX5_smaller_10 rfl ?_
    exact ⟨_, rfl, by first | exact (if_pos (Int32.not_le.mp c2a)).symm | exact (if_neg (Int32.not_lt.mpr c2a)).symm, rfl⟩
set_option maxHeartbeats 4000000 in
set_option maxRecDepth 100000 in
theorem c_X5_larger (dom : List Nat) (h : mh_H) (a b : Int32) : Mt mX5_larger dom 0 [.int a, .int b] h (mx_Ri (fun v' h' => v' = (if a < b then b else a) ∧ h' = h)) := by
  refine Mt.of (L := [some (.int a), some (.int b)]) rfl (Nat.le_of_ble_eq_true rfl) rfl ?_
  refine ax_iload_n (pc := 0) dX5_larger_0 rfl ?_
  refine ax_iload_n (pc := 1) dX5_larger_1 rfl ?_
  refine ax_icmpge (pc := 2) (tgt := 9) dX5_larger_2 (by decide) (fun c2a => ?_) (fun c2a => ?_)
  · refine ax_iload_n (pc := 9) dX5_larger_9 rfl ?_
    refine ax_iret (pc := 10) dX5_larger_10 rfl ?_
    exact ⟨_, rfl, by first | exact (if_pos (Int32.not_le.mp c2a)).symm | exact (if_neg (Int32.not_lt.mpr c2a)).symm, rfl⟩
  · refine ax_iload_n (pc := 5) dX5_larger_5 rfl ?_
    refine ax_goto (pc := 6) (tgt := 10) dX5_larger_6 (by decide) ?_
    refine ax_iret (pc := 10) dX5_larger_10 rfl ?_
    exact ⟨_, rfl, by first | exact (if_pos (Int32.not_le.mp c2a)).symm | exact (if_neg (Int32.not_lt.mpr c2a)).symm, rfl⟩
set_option maxHeartbeats 4000000 in
set_option maxRecDepth 100000 in
theorem c_X5_kindOf (dom : List Nat) (h : mh_H) (c : Int32) : Mt mX5_kindOf dom 0 [.int c] h (mx_Ri (fun v' h' => v' = sp_let c ∧ h' = h)) := by
  refine Mt.of (L := [some (.int c)]) rfl (Nat.le_of_ble_eq_true rfl) rfl ?_
  refine ax_iload_n (pc := 0) dX5_kindOf_0 rfl ?_
  refine ax_bipush (pc := 1) (v := 100) dX5_kindOf_1 (by decide) ?_
  refine ax_icmpne (pc := 3) (tgt := 10) dX5_kindOf_3 (by decide) (fun c3a => ?_) (fun c3a => ?_)
  · refine ax_iload_n (pc := 10) dX5_kindOf_10 rfl ?_
    refine ax_bipush (pc := 11) (v := 102) dX5_kindOf_11 (by decide) ?_
    refine ax_icmpne (pc := 13) (tgt := 20) dX5_kindOf_13 (by decide) (fun c13 => ?_) (fun c13 => ?_)
    · refine ax_iload_n (pc := 20) dX5_kindOf_20 rfl ?_
      refine ax_bipush (pc := 21) (v := 114) dX5_kindOf_21 (by decide) ?_
      refine ax_icmpne (pc := 23) (tgt := 30) dX5_kindOf_23 (by decide) (fun c23 => ?_) (fun c23 => ?_)
      · refine ax_iload_n (pc := 30) dX5_kindOf_30 rfl ?_
        refine ax_bipush (pc := 31) (v := 112) dX5_kindOf_31 (by decide) ?_
        refine ax_icmpne (pc := 33) (tgt := 40) dX5_kindOf_33 (by decide) (fun c33 => ?_) (fun c33 => ?_)
        · refine ax_iload_n (pc := 40) dX5_kindOf_40 rfl ?_
          refine ax_bipush (pc := 41) (v := 101) dX5_kindOf_41 (by decide) ?_
          refine ax_icmpne (pc := 43) (tgt := 50) dX5_kindOf_43 (by decide) (fun c43 => ?_) (fun c43 => ?_)
          · refine ax_iload_n (pc := 50) dX5_kindOf_50 rfl ?_
            refine ax_bipush (pc := 51) (v := 104) dX5_kindOf_51 (by decide) ?_
            refine ax_icmpne (pc := 53) (tgt := 60) dX5_kindOf_53 (by decide) (fun c53 => ?_) (fun c53 => ?_)
            · refine ax_bipush (pc := 60) (v := -9) dX5_kindOf_60 (by decide) ?_
              refine ax_iret (pc := 62) dX5_kindOf_62 rfl ?_
              exact ⟨_, rfl, by unfold sp_let; simp only [*, if_true, if_false, ite_true, ite_false] <;> decide, rfl⟩
            · refine ax_iconst (pc := 56) (v := 5) dX5_kindOf_56 (by decide) ?_
              refine ax_goto (pc := 57) (tgt := 62) dX5_kindOf_57 (by decide) ?_
              refine ax_iret (pc := 62) dX5_kindOf_62 rfl ?_
              exact ⟨_, rfl, by unfold sp_let; simp only [*, if_true, if_false, ite_true, ite_false] <;> decide, rfl⟩
          · refine ax_iconst (pc := 46) (v := 4) dX5_kindOf_46 (by decide) ?_
            refine ax_goto (pc := 47) (tgt := 62) dX5_kindOf_47 (by decide) ?_
            refine ax_iret (pc := 62) dX5_kindOf_62 rfl ?_
            exact ⟨_, rfl, by unfold sp_let; simp only [*, if_true, if_false, ite_true, ite_false] <;> decide, rfl⟩
        · refine ax_iconst (pc := 36) (v := 3) dX5_kindOf_36 (by decide) ?_
          refine ax_goto (pc := 37) (tgt := 62) dX5_kindOf_37 (by decide) ?_
          refine ax_iret (pc := 62) dX5_kindOf_62 rfl ?_
          exact ⟨_, rfl, by unfold sp_let; simp only [*, if_true, if_false, ite_true, ite_false] <;> decide, rfl⟩
      · refine ax_iconst (pc := 26) (v := 2) dX5_kindOf_26 (by decide) ?_
        refine ax_goto (pc := 27) (tgt := 62) dX5_kindOf_27 (by decide) ?_
        refine ax_iret (pc := 62) dX5_kindOf_62 rfl ?_
        exact ⟨_, rfl, by unfold sp_let; simp only [*, if_true, if_false, ite_true, ite_false] <;> decide, rfl⟩
    · refine ax_iconst (pc := 16) (v := 1) dX5_kindOf_16 (by decide) ?_
      refine ax_goto (pc := 17) (tgt := 62) dX5_kindOf_17 (by decide) ?_
      refine ax_iret (pc := 62) dX5_kindOf_62 rfl ?_
      exact ⟨_, rfl, by unfold sp_let; simp only [*, if_true, if_false, ite_true, ite_false] <;> decide, rfl⟩
  · refine ax_iconst (pc := 6) (v := 0) dX5_kindOf_6 (by decide) ?_
    refine ax_goto (pc := 7) (tgt := 62) dX5_kindOf_7 (by decide) ?_
    refine ax_iret (pc := 62) dX5_kindOf_62 rfl ?_
    exact ⟨_, rfl, by unfold sp_let; simp only [*, if_true, if_false, ite_true, ite_false] <;> decide, rfl⟩
theorem fl_5b {f r t c : Nat} (hf : f < 10) (hr : r < 10) (ht : t ≤ 4) (hc : c ≤ 40) : (if (0 : Int32) < (if (0 : Int32) < nI f * nI t - nI c then nI f * nI t - nI c else 0) - nI r then (if (0 : Int32) < nI f * nI t - nI c then nI f * nI t - nI c else 0) - nI r else 0) = nI (sp_fl 5 f r t c) := by
  have := ft_le hf ht
  rw [pk_mul, ni_sub0 (by omega) (by omega), ni_sub0 (by omega) (by omega)]
  rfl
set_option maxHeartbeats 4000000 in
set_option maxRecDepth 100000 in
theorem c_X5_grindsAs (dom : List Nat) (h : mh_H) (k f r t c : Nat) (hk : k < 6) (hf : f < 10) (hr : r < 10) (ht : t ≤ 4) (hc : c ≤ 40) : Mt mX5_grindsAs dom 1 [.int (nI k), .int (nI f), .int (nI r), .int (nI t), .int (nI c)] h (mx_Ri (fun v' h' => v' = nI (sp_fl k f r t c) ∧ h' = h)) := by
  refine Mt.of (L := [some (.int (nI k)), some (.int (nI f)), some (.int (nI r)), some (.int (nI t)), some (.int (nI c)), none, none, none]) rfl (Nat.le_of_ble_eq_true rfl) rfl ?_
  rcases (show k = 0 ∨ k = 1 ∨ k = 2 ∨ k = 3 ∨ k = 4 ∨ k = 5 by omega) with rfl | rfl | rfl | rfl | rfl | rfl
  · refine ax_iload_n (pc := 0) dX5_grindsAs_0 rfl ?_
    refine ax_iconst (pc := 1) (v := 1) dX5_grindsAs_1 (by decide) ?_
    refine ax_icmpeq (pc := 2) (tgt := 10) dX5_grindsAs_2 (by decide) (fun q => absurd q (by decide)) (fun _ => ?_)
    refine ax_iload_n (pc := 5) dX5_grindsAs_5 rfl ?_
    refine ax_iconst (pc := 6) (v := 4) dX5_grindsAs_6 (by decide) ?_
    refine ax_icmpne (pc := 7) (tgt := 16) dX5_grindsAs_7 (by decide) (fun _ => ?_) (fun q => absurd q (by decide))
    refine ax_iload_n (pc := 16) dX5_grindsAs_16 rfl ?_
    refine ax_istore5 (pc := 17) dX5_grindsAs_17 rfl (by decide) ?_
    refine ax_iload_n (pc := 19) dX5_grindsAs_19 rfl ?_
    refine ax_iconst (pc := 20) (v := 2) dX5_grindsAs_20 (by decide) ?_
    refine ax_icmpne (pc := 21) (tgt := 32) dX5_grindsAs_21 (by decide) (fun _ => ?_) (fun q => absurd q (by decide))
    refine ax_iload_n (pc := 32) dX5_grindsAs_32 rfl ?_
    refine ax_istore6 (pc := 33) dX5_grindsAs_33 rfl (by decide) ?_
    refine ax_iconst (pc := 35) (v := 0) dX5_grindsAs_35 (by decide) ?_
    refine ax_iload (pc := 36) dX5_grindsAs_36 rfl ?_
    refine ax_iload (pc := 38) dX5_grindsAs_38 rfl ?_
    refine ax_imul (pc := 40) dX5_grindsAs_40 ?_
    refine ax_iload (pc := 41) dX5_grindsAs_41 rfl ?_
    refine ax_isub (pc := 43) dX5_grindsAs_43 ?_
    refine ax_eSi2 (pc := 44) sX5_106 dX5_grindsAs_44 (by decide) (Nat.le_of_ble_eq_true rfl) (c_X5_larger _ _ _ _) ?_
    refine ax_istore7 (pc := 47) dX5_grindsAs_47 rfl (by decide) ?_
    refine ax_iload_n (pc := 49) dX5_grindsAs_49 rfl ?_
    refine ax_iconst (pc := 50) (v := 4) dX5_grindsAs_50 (by decide) ?_
    refine ax_icmpne (pc := 51) (tgt := 66) dX5_grindsAs_51 (by decide) (fun _ => ?_) (fun q => absurd q (by decide))
    refine ax_iload_n (pc := 66) dX5_grindsAs_66 rfl ?_
    refine ax_iconst (pc := 67) (v := 5) dX5_grindsAs_67 (by decide) ?_
    refine ax_icmpne (pc := 68) (tgt := 82) dX5_grindsAs_68 (by decide) (fun _ => ?_) (fun q => absurd q (by decide))
    refine ax_iload (pc := 82) dX5_grindsAs_82 rfl ?_
    refine ax_iret (pc := 84) dX5_grindsAs_84 rfl ?_
    refine ⟨_, rfl, ?_, rfl⟩
    exact fl_o hf ht hc (by decide)
  · refine ax_iload_n (pc := 0) dX5_grindsAs_0 rfl ?_
    refine ax_iconst (pc := 1) (v := 1) dX5_grindsAs_1 (by decide) ?_
    refine ax_icmpeq (pc := 2) (tgt := 10) dX5_grindsAs_2 (by decide) (fun _ => ?_) (fun q => absurd (by decide) q)
    refine ax_iconst (pc := 10) (v := 2) dX5_grindsAs_10 (by decide) ?_
    refine ax_iload_n (pc := 11) dX5_grindsAs_11 rfl ?_
    refine ax_imul (pc := 12) dX5_grindsAs_12 ?_
    refine ax_goto (pc := 13) (tgt := 17) dX5_grindsAs_13 (by decide) ?_
    refine ax_istore5 (pc := 17) dX5_grindsAs_17 rfl (by decide) ?_
    refine ax_iload_n (pc := 19) dX5_grindsAs_19 rfl ?_
    refine ax_iconst (pc := 20) (v := 2) dX5_grindsAs_20 (by decide) ?_
    refine ax_icmpne (pc := 21) (tgt := 32) dX5_grindsAs_21 (by decide) (fun _ => ?_) (fun q => absurd q (by decide))
    refine ax_iload_n (pc := 32) dX5_grindsAs_32 rfl ?_
    refine ax_istore6 (pc := 33) dX5_grindsAs_33 rfl (by decide) ?_
    refine ax_iconst (pc := 35) (v := 0) dX5_grindsAs_35 (by decide) ?_
    refine ax_iload (pc := 36) dX5_grindsAs_36 rfl ?_
    refine ax_iload (pc := 38) dX5_grindsAs_38 rfl ?_
    refine ax_imul (pc := 40) dX5_grindsAs_40 ?_
    refine ax_iload (pc := 41) dX5_grindsAs_41 rfl ?_
    refine ax_isub (pc := 43) dX5_grindsAs_43 ?_
    refine ax_eSi2 (pc := 44) sX5_106 dX5_grindsAs_44 (by decide) (Nat.le_of_ble_eq_true rfl) (c_X5_larger _ _ _ _) ?_
    refine ax_istore7 (pc := 47) dX5_grindsAs_47 rfl (by decide) ?_
    refine ax_iload_n (pc := 49) dX5_grindsAs_49 rfl ?_
    refine ax_iconst (pc := 50) (v := 4) dX5_grindsAs_50 (by decide) ?_
    refine ax_icmpne (pc := 51) (tgt := 66) dX5_grindsAs_51 (by decide) (fun _ => ?_) (fun q => absurd q (by decide))
    refine ax_iload_n (pc := 66) dX5_grindsAs_66 rfl ?_
    refine ax_iconst (pc := 67) (v := 5) dX5_grindsAs_67 (by decide) ?_
    refine ax_icmpne (pc := 68) (tgt := 82) dX5_grindsAs_68 (by decide) (fun _ => ?_) (fun q => absurd q (by decide))
    refine ax_iload (pc := 82) dX5_grindsAs_82 rfl ?_
    refine ax_iret (pc := 84) dX5_grindsAs_84 rfl ?_
    refine ⟨_, rfl, ?_, rfl⟩
    exact fl_1 hf ht hc
  · refine ax_iload_n (pc := 0) dX5_grindsAs_0 rfl ?_
    refine ax_iconst (pc := 1) (v := 1) dX5_grindsAs_1 (by decide) ?_
    refine ax_icmpeq (pc := 2) (tgt := 10) dX5_grindsAs_2 (by decide) (fun q => absurd q (by decide)) (fun _ => ?_)
    refine ax_iload_n (pc := 5) dX5_grindsAs_5 rfl ?_
    refine ax_iconst (pc := 6) (v := 4) dX5_grindsAs_6 (by decide) ?_
    refine ax_icmpne (pc := 7) (tgt := 16) dX5_grindsAs_7 (by decide) (fun _ => ?_) (fun q => absurd q (by decide))
    refine ax_iload_n (pc := 16) dX5_grindsAs_16 rfl ?_
    refine ax_istore5 (pc := 17) dX5_grindsAs_17 rfl (by decide) ?_
    refine ax_iload_n (pc := 19) dX5_grindsAs_19 rfl ?_
    refine ax_iconst (pc := 20) (v := 2) dX5_grindsAs_20 (by decide) ?_
    refine ax_icmpne (pc := 21) (tgt := 32) dX5_grindsAs_21 (by decide) (fun q => absurd q (by decide)) (fun _ => ?_)
    refine ax_iconst (pc := 24) (v := 1) dX5_grindsAs_24 (by decide) ?_
    refine ax_iload_n (pc := 25) dX5_grindsAs_25 rfl ?_
    refine ax_eSi2 (pc := 26) sX5_103 dX5_grindsAs_26 (by decide) (Nat.le_of_ble_eq_true rfl) (c_X5_smaller _ _ _ _) ?_
    refine ax_goto (pc := 29) (tgt := 33) dX5_grindsAs_29 (by decide) ?_
    refine ax_istore6 (pc := 33) dX5_grindsAs_33 rfl (by decide) ?_
    refine ax_iconst (pc := 35) (v := 0) dX5_grindsAs_35 (by decide) ?_
    refine ax_iload (pc := 36) dX5_grindsAs_36 rfl ?_
    refine ax_iload (pc := 38) dX5_grindsAs_38 rfl ?_
    refine ax_imul (pc := 40) dX5_grindsAs_40 ?_
    refine ax_iload (pc := 41) dX5_grindsAs_41 rfl ?_
    refine ax_isub (pc := 43) dX5_grindsAs_43 ?_
    refine ax_eSi2 (pc := 44) sX5_106 dX5_grindsAs_44 (by decide) (Nat.le_of_ble_eq_true rfl) (c_X5_larger _ _ _ _) ?_
    refine ax_istore7 (pc := 47) dX5_grindsAs_47 rfl (by decide) ?_
    refine ax_iload_n (pc := 49) dX5_grindsAs_49 rfl ?_
    refine ax_iconst (pc := 50) (v := 4) dX5_grindsAs_50 (by decide) ?_
    refine ax_icmpne (pc := 51) (tgt := 66) dX5_grindsAs_51 (by decide) (fun _ => ?_) (fun q => absurd q (by decide))
    refine ax_iload_n (pc := 66) dX5_grindsAs_66 rfl ?_
    refine ax_iconst (pc := 67) (v := 5) dX5_grindsAs_67 (by decide) ?_
    refine ax_icmpne (pc := 68) (tgt := 82) dX5_grindsAs_68 (by decide) (fun _ => ?_) (fun q => absurd q (by decide))
    refine ax_iload (pc := 82) dX5_grindsAs_82 rfl ?_
    refine ax_iret (pc := 84) dX5_grindsAs_84 rfl ?_
    refine ⟨_, rfl, ?_, rfl⟩
    exact fl_2 hf ht hc
  · refine ax_iload_n (pc := 0) dX5_grindsAs_0 rfl ?_
    refine ax_iconst (pc := 1) (v := 1) dX5_grindsAs_1 (by decide) ?_
    refine ax_icmpeq (pc := 2) (tgt := 10) dX5_grindsAs_2 (by decide) (fun q => absurd q (by decide)) (fun _ => ?_)
    refine ax_iload_n (pc := 5) dX5_grindsAs_5 rfl ?_
    refine ax_iconst (pc := 6) (v := 4) dX5_grindsAs_6 (by decide) ?_
    refine ax_icmpne (pc := 7) (tgt := 16) dX5_grindsAs_7 (by decide) (fun _ => ?_) (fun q => absurd q (by decide))
    refine ax_iload_n (pc := 16) dX5_grindsAs_16 rfl ?_
    refine ax_istore5 (pc := 17) dX5_grindsAs_17 rfl (by decide) ?_
    refine ax_iload_n (pc := 19) dX5_grindsAs_19 rfl ?_
    refine ax_iconst (pc := 20) (v := 2) dX5_grindsAs_20 (by decide) ?_
    refine ax_icmpne (pc := 21) (tgt := 32) dX5_grindsAs_21 (by decide) (fun _ => ?_) (fun q => absurd q (by decide))
    refine ax_iload_n (pc := 32) dX5_grindsAs_32 rfl ?_
    refine ax_istore6 (pc := 33) dX5_grindsAs_33 rfl (by decide) ?_
    refine ax_iconst (pc := 35) (v := 0) dX5_grindsAs_35 (by decide) ?_
    refine ax_iload (pc := 36) dX5_grindsAs_36 rfl ?_
    refine ax_iload (pc := 38) dX5_grindsAs_38 rfl ?_
    refine ax_imul (pc := 40) dX5_grindsAs_40 ?_
    refine ax_iload (pc := 41) dX5_grindsAs_41 rfl ?_
    refine ax_isub (pc := 43) dX5_grindsAs_43 ?_
    refine ax_eSi2 (pc := 44) sX5_106 dX5_grindsAs_44 (by decide) (Nat.le_of_ble_eq_true rfl) (c_X5_larger _ _ _ _) ?_
    refine ax_istore7 (pc := 47) dX5_grindsAs_47 rfl (by decide) ?_
    refine ax_iload_n (pc := 49) dX5_grindsAs_49 rfl ?_
    refine ax_iconst (pc := 50) (v := 4) dX5_grindsAs_50 (by decide) ?_
    refine ax_icmpne (pc := 51) (tgt := 66) dX5_grindsAs_51 (by decide) (fun _ => ?_) (fun q => absurd q (by decide))
    refine ax_iload_n (pc := 66) dX5_grindsAs_66 rfl ?_
    refine ax_iconst (pc := 67) (v := 5) dX5_grindsAs_67 (by decide) ?_
    refine ax_icmpne (pc := 68) (tgt := 82) dX5_grindsAs_68 (by decide) (fun _ => ?_) (fun q => absurd q (by decide))
    refine ax_iload (pc := 82) dX5_grindsAs_82 rfl ?_
    refine ax_iret (pc := 84) dX5_grindsAs_84 rfl ?_
    refine ⟨_, rfl, ?_, rfl⟩
    exact fl_o hf ht hc (by decide)
  · refine ax_iload_n (pc := 0) dX5_grindsAs_0 rfl ?_
    refine ax_iconst (pc := 1) (v := 1) dX5_grindsAs_1 (by decide) ?_
    refine ax_icmpeq (pc := 2) (tgt := 10) dX5_grindsAs_2 (by decide) (fun q => absurd q (by decide)) (fun _ => ?_)
    refine ax_iload_n (pc := 5) dX5_grindsAs_5 rfl ?_
    refine ax_iconst (pc := 6) (v := 4) dX5_grindsAs_6 (by decide) ?_
    refine ax_icmpne (pc := 7) (tgt := 16) dX5_grindsAs_7 (by decide) (fun q => absurd q (by decide)) (fun _ => ?_)
    refine ax_iconst (pc := 10) (v := 2) dX5_grindsAs_10 (by decide) ?_
    refine ax_iload_n (pc := 11) dX5_grindsAs_11 rfl ?_
    refine ax_imul (pc := 12) dX5_grindsAs_12 ?_
    refine ax_goto (pc := 13) (tgt := 17) dX5_grindsAs_13 (by decide) ?_
    refine ax_istore5 (pc := 17) dX5_grindsAs_17 rfl (by decide) ?_
    refine ax_iload_n (pc := 19) dX5_grindsAs_19 rfl ?_
    refine ax_iconst (pc := 20) (v := 2) dX5_grindsAs_20 (by decide) ?_
    refine ax_icmpne (pc := 21) (tgt := 32) dX5_grindsAs_21 (by decide) (fun _ => ?_) (fun q => absurd q (by decide))
    refine ax_iload_n (pc := 32) dX5_grindsAs_32 rfl ?_
    refine ax_istore6 (pc := 33) dX5_grindsAs_33 rfl (by decide) ?_
    refine ax_iconst (pc := 35) (v := 0) dX5_grindsAs_35 (by decide) ?_
    refine ax_iload (pc := 36) dX5_grindsAs_36 rfl ?_
    refine ax_iload (pc := 38) dX5_grindsAs_38 rfl ?_
    refine ax_imul (pc := 40) dX5_grindsAs_40 ?_
    refine ax_iload (pc := 41) dX5_grindsAs_41 rfl ?_
    refine ax_isub (pc := 43) dX5_grindsAs_43 ?_
    refine ax_eSi2 (pc := 44) sX5_106 dX5_grindsAs_44 (by decide) (Nat.le_of_ble_eq_true rfl) (c_X5_larger _ _ _ _) ?_
    refine ax_istore7 (pc := 47) dX5_grindsAs_47 rfl (by decide) ?_
    refine ax_iload_n (pc := 49) dX5_grindsAs_49 rfl ?_
    refine ax_iconst (pc := 50) (v := 4) dX5_grindsAs_50 (by decide) ?_
    refine ax_icmpne (pc := 51) (tgt := 66) dX5_grindsAs_51 (by decide) (fun q => absurd q (by decide)) (fun _ => ?_)
    refine ax_iload_n (pc := 54) dX5_grindsAs_54 rfl ?_
    refine ax_iconst (pc := 55) (v := 4) dX5_grindsAs_55 (by decide) ?_
    refine ax_icmpne (pc := 56) (tgt := 66) dX5_grindsAs_56 (by decide) (fun c56 => ?_) (fun c56 => ?_)
    · refine ax_iload_n (pc := 66) dX5_grindsAs_66 rfl ?_
      refine ax_iconst (pc := 67) (v := 5) dX5_grindsAs_67 (by decide) ?_
      refine ax_icmpne (pc := 68) (tgt := 82) dX5_grindsAs_68 (by decide) (fun _ => ?_) (fun q => absurd q (by decide))
      refine ax_iload (pc := 82) dX5_grindsAs_82 rfl ?_
      refine ax_iret (pc := 84) dX5_grindsAs_84 rfl ?_
      refine ⟨_, rfl, ?_, rfl⟩
      first | exact fl_4 hf ht hc c56 | exact (Int32.add_zero _).symm.trans (fl_4n hf ht hc c56)
    · refine ax_iload (pc := 59) dX5_grindsAs_59 rfl ?_
      refine ax_iconst (pc := 61) (v := 5) dX5_grindsAs_61 (by decide) ?_
      refine ax_iadd (pc := 62) dX5_grindsAs_62 ?_
      refine ax_goto (pc := 63) (tgt := 84) dX5_grindsAs_63 (by decide) ?_
      refine ax_iret (pc := 84) dX5_grindsAs_84 rfl ?_
      refine ⟨_, rfl, ?_, rfl⟩
      first | exact fl_4 hf ht hc c56 | exact (Int32.add_zero _).symm.trans (fl_4n hf ht hc c56)
  · refine ax_iload_n (pc := 0) dX5_grindsAs_0 rfl ?_
    refine ax_iconst (pc := 1) (v := 1) dX5_grindsAs_1 (by decide) ?_
    refine ax_icmpeq (pc := 2) (tgt := 10) dX5_grindsAs_2 (by decide) (fun q => absurd q (by decide)) (fun _ => ?_)
    refine ax_iload_n (pc := 5) dX5_grindsAs_5 rfl ?_
    refine ax_iconst (pc := 6) (v := 4) dX5_grindsAs_6 (by decide) ?_
    refine ax_icmpne (pc := 7) (tgt := 16) dX5_grindsAs_7 (by decide) (fun _ => ?_) (fun q => absurd q (by decide))
    refine ax_iload_n (pc := 16) dX5_grindsAs_16 rfl ?_
    refine ax_istore5 (pc := 17) dX5_grindsAs_17 rfl (by decide) ?_
    refine ax_iload_n (pc := 19) dX5_grindsAs_19 rfl ?_
    refine ax_iconst (pc := 20) (v := 2) dX5_grindsAs_20 (by decide) ?_
    refine ax_icmpne (pc := 21) (tgt := 32) dX5_grindsAs_21 (by decide) (fun _ => ?_) (fun q => absurd q (by decide))
    refine ax_iload_n (pc := 32) dX5_grindsAs_32 rfl ?_
    refine ax_istore6 (pc := 33) dX5_grindsAs_33 rfl (by decide) ?_
    refine ax_iconst (pc := 35) (v := 0) dX5_grindsAs_35 (by decide) ?_
    refine ax_iload (pc := 36) dX5_grindsAs_36 rfl ?_
    refine ax_iload (pc := 38) dX5_grindsAs_38 rfl ?_
    refine ax_imul (pc := 40) dX5_grindsAs_40 ?_
    refine ax_iload (pc := 41) dX5_grindsAs_41 rfl ?_
    refine ax_isub (pc := 43) dX5_grindsAs_43 ?_
    refine ax_eSi2 (pc := 44) sX5_106 dX5_grindsAs_44 (by decide) (Nat.le_of_ble_eq_true rfl) (c_X5_larger _ _ _ _) ?_
    refine ax_istore7 (pc := 47) dX5_grindsAs_47 rfl (by decide) ?_
    refine ax_iload_n (pc := 49) dX5_grindsAs_49 rfl ?_
    refine ax_iconst (pc := 50) (v := 4) dX5_grindsAs_50 (by decide) ?_
    refine ax_icmpne (pc := 51) (tgt := 66) dX5_grindsAs_51 (by decide) (fun _ => ?_) (fun q => absurd q (by decide))
    refine ax_iload_n (pc := 66) dX5_grindsAs_66 rfl ?_
    refine ax_iconst (pc := 67) (v := 5) dX5_grindsAs_67 (by decide) ?_
    refine ax_icmpne (pc := 68) (tgt := 82) dX5_grindsAs_68 (by decide) (fun q => absurd q (by decide)) (fun _ => ?_)
    refine ax_iconst (pc := 71) (v := 0) dX5_grindsAs_71 (by decide) ?_
    refine ax_iload (pc := 72) dX5_grindsAs_72 rfl ?_
    refine ax_iload_n (pc := 74) dX5_grindsAs_74 rfl ?_
    refine ax_isub (pc := 75) dX5_grindsAs_75 ?_
    refine ax_eSi2 (pc := 76) sX5_106 dX5_grindsAs_76 (by decide) (Nat.le_of_ble_eq_true rfl) (c_X5_larger _ _ _ _) ?_
    refine ax_goto (pc := 79) (tgt := 84) dX5_grindsAs_79 (by decide) ?_
    refine ax_iret (pc := 84) dX5_grindsAs_84 rfl ?_
    refine ⟨_, rfl, ?_, rfl⟩
    exact fl_5b hf hr ht hc
set_option maxHeartbeats 4000000 in
set_option maxRecDepth 100000 in
theorem c_X5_leavesAs (dom : List Nat) (h : mh_H) (k r : Nat) (hk : k < 6) (hr : r < 10) : Mt mX5_leavesAs dom 0 [.int (nI k), .int (nI r)] h (mx_Ri (fun v' h' => v' = nI (sp_li k r) ∧ h' = h)) := by
  refine Mt.of (L := [some (.int (nI k)), some (.int (nI r))]) rfl (Nat.le_of_ble_eq_true rfl) rfl ?_
  rcases (show k = 0 ∨ k = 1 ∨ k = 2 ∨ k = 3 ∨ k = 4 ∨ k = 5 by omega) with rfl | rfl | rfl | rfl | rfl | rfl
  · refine ax_iload_n (pc := 0) dX5_leavesAs_0 rfl ?_
    refine ax_iconst (pc := 1) (v := 1) dX5_leavesAs_1 (by decide) ?_
    refine ax_icmpeq (pc := 2) (tgt := 10) dX5_leavesAs_2 (by decide) (fun q => absurd q (by decide)) (fun _ => ?_)
    refine ax_iload_n (pc := 5) dX5_leavesAs_5 rfl ?_
    refine ax_iconst (pc := 6) (v := 4) dX5_leavesAs_6 (by decide) ?_
    refine ax_icmpne (pc := 7) (tgt := 16) dX5_leavesAs_7 (by decide) (fun _ => ?_) (fun q => absurd q (by decide))
    refine ax_iload_n (pc := 16) dX5_leavesAs_16 rfl ?_
    refine ax_iconst (pc := 17) (v := 3) dX5_leavesAs_17 (by decide) ?_
    refine ax_icmpne (pc := 18) (tgt := 27) dX5_leavesAs_18 (by decide) (fun _ => ?_) (fun q => absurd q (by decide))
    refine ax_iload_n (pc := 27) dX5_leavesAs_27 rfl ?_
    refine ax_iconst (pc := 28) (v := 5) dX5_leavesAs_28 (by decide) ?_
    refine ax_icmpne (pc := 29) (tgt := 40) dX5_leavesAs_29 (by decide) (fun _ => ?_) (fun q => absurd q (by decide))
    refine ax_iload_n (pc := 40) dX5_leavesAs_40 rfl ?_
    refine ax_iret (pc := 41) dX5_leavesAs_41 rfl ?_
    refine ⟨_, rfl, ?_, rfl⟩
    exact li_o (by decide)
  · refine ax_iload_n (pc := 0) dX5_leavesAs_0 rfl ?_
    refine ax_iconst (pc := 1) (v := 1) dX5_leavesAs_1 (by decide) ?_
    refine ax_icmpeq (pc := 2) (tgt := 10) dX5_leavesAs_2 (by decide) (fun _ => ?_) (fun q => absurd (by decide) q)
    refine ax_iload_n (pc := 10) dX5_leavesAs_10 rfl ?_
    refine ax_iconst (pc := 11) (v := 2) dX5_leavesAs_11 (by decide) ?_
    refine ax_idiv (pc := 12) dX5_leavesAs_12 (by decide) ?_
    refine ax_goto (pc := 13) (tgt := 41) dX5_leavesAs_13 (by decide) ?_
    refine ax_iret (pc := 41) dX5_leavesAs_41 rfl ?_
    refine ⟨_, rfl, ?_, rfl⟩
    exact li_a hr (by decide)
  · refine ax_iload_n (pc := 0) dX5_leavesAs_0 rfl ?_
    refine ax_iconst (pc := 1) (v := 1) dX5_leavesAs_1 (by decide) ?_
    refine ax_icmpeq (pc := 2) (tgt := 10) dX5_leavesAs_2 (by decide) (fun q => absurd q (by decide)) (fun _ => ?_)
    refine ax_iload_n (pc := 5) dX5_leavesAs_5 rfl ?_
    refine ax_iconst (pc := 6) (v := 4) dX5_leavesAs_6 (by decide) ?_
    refine ax_icmpne (pc := 7) (tgt := 16) dX5_leavesAs_7 (by decide) (fun _ => ?_) (fun q => absurd q (by decide))
    refine ax_iload_n (pc := 16) dX5_leavesAs_16 rfl ?_
    refine ax_iconst (pc := 17) (v := 3) dX5_leavesAs_17 (by decide) ?_
    refine ax_icmpne (pc := 18) (tgt := 27) dX5_leavesAs_18 (by decide) (fun _ => ?_) (fun q => absurd q (by decide))
    refine ax_iload_n (pc := 27) dX5_leavesAs_27 rfl ?_
    refine ax_iconst (pc := 28) (v := 5) dX5_leavesAs_28 (by decide) ?_
    refine ax_icmpne (pc := 29) (tgt := 40) dX5_leavesAs_29 (by decide) (fun _ => ?_) (fun q => absurd q (by decide))
    refine ax_iload_n (pc := 40) dX5_leavesAs_40 rfl ?_
    refine ax_iret (pc := 41) dX5_leavesAs_41 rfl ?_
    refine ⟨_, rfl, ?_, rfl⟩
    exact li_o (by decide)
  · refine ax_iload_n (pc := 0) dX5_leavesAs_0 rfl ?_
    refine ax_iconst (pc := 1) (v := 1) dX5_leavesAs_1 (by decide) ?_
    refine ax_icmpeq (pc := 2) (tgt := 10) dX5_leavesAs_2 (by decide) (fun q => absurd q (by decide)) (fun _ => ?_)
    refine ax_iload_n (pc := 5) dX5_leavesAs_5 rfl ?_
    refine ax_iconst (pc := 6) (v := 4) dX5_leavesAs_6 (by decide) ?_
    refine ax_icmpne (pc := 7) (tgt := 16) dX5_leavesAs_7 (by decide) (fun _ => ?_) (fun q => absurd q (by decide))
    refine ax_iload_n (pc := 16) dX5_leavesAs_16 rfl ?_
    refine ax_iconst (pc := 17) (v := 3) dX5_leavesAs_17 (by decide) ?_
    refine ax_icmpne (pc := 18) (tgt := 27) dX5_leavesAs_18 (by decide) (fun q => absurd q (by decide)) (fun _ => ?_)
    refine ax_iload_n (pc := 21) dX5_leavesAs_21 rfl ?_
    refine ax_iconst (pc := 22) (v := 3) dX5_leavesAs_22 (by decide) ?_
    refine ax_iadd (pc := 23) dX5_leavesAs_23 ?_
    refine ax_goto (pc := 24) (tgt := 41) dX5_leavesAs_24 (by decide) ?_
    refine ax_iret (pc := 41) dX5_leavesAs_41 rfl ?_
    refine ⟨_, rfl, ?_, rfl⟩
    exact li_3
  · refine ax_iload_n (pc := 0) dX5_leavesAs_0 rfl ?_
    refine ax_iconst (pc := 1) (v := 1) dX5_leavesAs_1 (by decide) ?_
    refine ax_icmpeq (pc := 2) (tgt := 10) dX5_leavesAs_2 (by decide) (fun q => absurd q (by decide)) (fun _ => ?_)
    refine ax_iload_n (pc := 5) dX5_leavesAs_5 rfl ?_
    refine ax_iconst (pc := 6) (v := 4) dX5_leavesAs_6 (by decide) ?_
    refine ax_icmpne (pc := 7) (tgt := 16) dX5_leavesAs_7 (by decide) (fun q => absurd q (by decide)) (fun _ => ?_)
    refine ax_iload_n (pc := 10) dX5_leavesAs_10 rfl ?_
    refine ax_iconst (pc := 11) (v := 2) dX5_leavesAs_11 (by decide) ?_
    refine ax_idiv (pc := 12) dX5_leavesAs_12 (by decide) ?_
    refine ax_goto (pc := 13) (tgt := 41) dX5_leavesAs_13 (by decide) ?_
    refine ax_iret (pc := 41) dX5_leavesAs_41 rfl ?_
    refine ⟨_, rfl, ?_, rfl⟩
    exact li_a hr (by decide)
  · refine ax_iload_n (pc := 0) dX5_leavesAs_0 rfl ?_
    refine ax_iconst (pc := 1) (v := 1) dX5_leavesAs_1 (by decide) ?_
    refine ax_icmpeq (pc := 2) (tgt := 10) dX5_leavesAs_2 (by decide) (fun q => absurd q (by decide)) (fun _ => ?_)
    refine ax_iload_n (pc := 5) dX5_leavesAs_5 rfl ?_
    refine ax_iconst (pc := 6) (v := 4) dX5_leavesAs_6 (by decide) ?_
    refine ax_icmpne (pc := 7) (tgt := 16) dX5_leavesAs_7 (by decide) (fun _ => ?_) (fun q => absurd q (by decide))
    refine ax_iload_n (pc := 16) dX5_leavesAs_16 rfl ?_
    refine ax_iconst (pc := 17) (v := 3) dX5_leavesAs_17 (by decide) ?_
    refine ax_icmpne (pc := 18) (tgt := 27) dX5_leavesAs_18 (by decide) (fun _ => ?_) (fun q => absurd q (by decide))
    refine ax_iload_n (pc := 27) dX5_leavesAs_27 rfl ?_
    refine ax_iconst (pc := 28) (v := 5) dX5_leavesAs_28 (by decide) ?_
    refine ax_icmpne (pc := 29) (tgt := 40) dX5_leavesAs_29 (by decide) (fun q => absurd q (by decide)) (fun _ => ?_)
    refine ax_iconst (pc := 32) (v := 2) dX5_leavesAs_32 (by decide) ?_
    refine ax_iload_n (pc := 33) dX5_leavesAs_33 rfl ?_
    refine ax_iconst (pc := 34) (v := 3) dX5_leavesAs_34 (by decide) ?_
    refine ax_iadd (pc := 35) dX5_leavesAs_35 ?_
    refine ax_imul (pc := 36) dX5_leavesAs_36 ?_
    refine ax_goto (pc := 37) (tgt := 41) dX5_leavesAs_37 (by decide) ?_
    refine ax_iret (pc := 41) dX5_leavesAs_41 rfl ?_
    refine ⟨_, rfl, ?_, rfl⟩
    exact li_5
theorem sp_is_j {k q : Nat} : sp_is k q = true ↔ (k = q ∨ (k = 4 ∧ q = 1)) ∨ (k = 5 ∧ q = 3) := by
  unfold sp_is
  simp only [Bool.or_eq_true, Bool.and_eq_true, beq_iff_eq]
set_option maxHeartbeats 4000000 in
set_option maxRecDepth 100000 in
theorem c_X5_isOf (dom : List Nat) (h : mh_H) (k q : Nat) (hk : k < 6) (hq : q < 6) : Mt mX5_isOf dom 0 [.int (nI k), .int (nI q)] h (mx_Ri (fun v' h' => v' = (if sp_is k q = true then 1 else 0) ∧ h' = h)) := by
  refine Mt.of (L := [some (.int (nI k)), some (.int (nI q))]) rfl (Nat.le_of_ble_eq_true rfl) rfl ?_
  refine ax_iload_n (pc := 0) dX5_isOf_0 rfl ?_
  refine ax_iload_n (pc := 1) dX5_isOf_1 rfl ?_
  refine ax_icmpeq (pc := 2) (tgt := 25) dX5_isOf_2 (by decide) (fun c2a => ?_) (fun c2a => ?_)
  · refine ax_iconst (pc := 25) (v := 1) dX5_isOf_25 (by decide) ?_
    refine ax_goto (pc := 26) (tgt := 30) dX5_isOf_26 (by decide) ?_
    refine ax_zret (pc := 30) dX5_isOf_30 rfl (by first | rfl | exact bi_n) ?_
    simp only [n_4, n_1, n_5, n_3, nI_eq (show k < 2 ^ 31 by omega) (show q < 2 ^ 31 by omega), nI_eq (show k < 2 ^ 31 by omega) (show 4 < 2 ^ 31 by decide), nI_eq (show k < 2 ^ 31 by omega) (show 5 < 2 ^ 31 by decide), nI_eq (show q < 2 ^ 31 by omega) (show 1 < 2 ^ 31 by decide), nI_eq (show q < 2 ^ 31 by omega) (show 3 < 2 ^ 31 by decide)] at *
    exact ⟨_, rfl, by first | exact (if_pos (sp_is_j.mpr (by omega))).symm | exact (if_neg (fun z => by have := sp_is_j.mp z; omega)).symm, rfl⟩
  · refine ax_iload_n (pc := 5) dX5_isOf_5 rfl ?_
    refine ax_iconst (pc := 6) (v := 4) dX5_isOf_6 (by decide) ?_
    refine ax_icmpne (pc := 7) (tgt := 15) dX5_isOf_7 (by decide) (fun c7a => ?_) (fun c7a => ?_)
    · refine ax_iload_n (pc := 15) dX5_isOf_15 rfl ?_
      refine ax_iconst (pc := 16) (v := 5) dX5_isOf_16 (by decide) ?_
      refine ax_icmpne (pc := 17) (tgt := 29) dX5_isOf_17 (by decide) (fun c17 => ?_) (fun c17 => ?_)
      · refine ax_iconst (pc := 29) (v := 0) dX5_isOf_29 (by decide) ?_
        refine ax_zret (pc := 30) dX5_isOf_30 rfl (by first | rfl | exact bi_n) ?_
        simp only [n_4, n_1, n_5, n_3, nI_eq (show k < 2 ^ 31 by omega) (show q < 2 ^ 31 by omega), nI_eq (show k < 2 ^ 31 by omega) (show 4 < 2 ^ 31 by decide), nI_eq (show k < 2 ^ 31 by omega) (show 5 < 2 ^ 31 by decide), nI_eq (show q < 2 ^ 31 by omega) (show 1 < 2 ^ 31 by decide), nI_eq (show q < 2 ^ 31 by omega) (show 3 < 2 ^ 31 by decide)] at *
        exact ⟨_, rfl, by first | exact (if_pos (sp_is_j.mpr (by omega))).symm | exact (if_neg (fun z => by have := sp_is_j.mp z; omega)).symm, rfl⟩
      · refine ax_iload_n (pc := 20) dX5_isOf_20 rfl ?_
        refine ax_iconst (pc := 21) (v := 3) dX5_isOf_21 (by decide) ?_
        refine ax_icmpne (pc := 22) (tgt := 29) dX5_isOf_22 (by decide) (fun c22 => ?_) (fun c22 => ?_)
        · refine ax_iconst (pc := 29) (v := 0) dX5_isOf_29 (by decide) ?_
          refine ax_zret (pc := 30) dX5_isOf_30 rfl (by first | rfl | exact bi_n) ?_
          simp only [n_4, n_1, n_5, n_3, nI_eq (show k < 2 ^ 31 by omega) (show q < 2 ^ 31 by omega), nI_eq (show k < 2 ^ 31 by omega) (show 4 < 2 ^ 31 by decide), nI_eq (show k < 2 ^ 31 by omega) (show 5 < 2 ^ 31 by decide), nI_eq (show q < 2 ^ 31 by omega) (show 1 < 2 ^ 31 by decide), nI_eq (show q < 2 ^ 31 by omega) (show 3 < 2 ^ 31 by decide)] at *
          exact ⟨_, rfl, by first | exact (if_pos (sp_is_j.mpr (by omega))).symm | exact (if_neg (fun z => by have := sp_is_j.mp z; omega)).symm, rfl⟩
        · refine ax_iconst (pc := 25) (v := 1) dX5_isOf_25 (by decide) ?_
          refine ax_goto (pc := 26) (tgt := 30) dX5_isOf_26 (by decide) ?_
          refine ax_zret (pc := 30) dX5_isOf_30 rfl (by first | rfl | exact bi_n) ?_
          simp only [n_4, n_1, n_5, n_3, nI_eq (show k < 2 ^ 31 by omega) (show q < 2 ^ 31 by omega), nI_eq (show k < 2 ^ 31 by omega) (show 4 < 2 ^ 31 by decide), nI_eq (show k < 2 ^ 31 by omega) (show 5 < 2 ^ 31 by decide), nI_eq (show q < 2 ^ 31 by omega) (show 1 < 2 ^ 31 by decide), nI_eq (show q < 2 ^ 31 by omega) (show 3 < 2 ^ 31 by decide)] at *
          exact ⟨_, rfl, by first | exact (if_pos (sp_is_j.mpr (by omega))).symm | exact (if_neg (fun z => by have := sp_is_j.mp z; omega)).symm, rfl⟩
    · refine ax_iload_n (pc := 10) dX5_isOf_10 rfl ?_
      refine ax_iconst (pc := 11) (v := 1) dX5_isOf_11 (by decide) ?_
      refine ax_icmpeq (pc := 12) (tgt := 25) dX5_isOf_12 (by decide) (fun c12 => ?_) (fun c12 => ?_)
      · refine ax_iconst (pc := 25) (v := 1) dX5_isOf_25 (by decide) ?_
        refine ax_goto (pc := 26) (tgt := 30) dX5_isOf_26 (by decide) ?_
        refine ax_zret (pc := 30) dX5_isOf_30 rfl (by first | rfl | exact bi_n) ?_
        simp only [n_4, n_1, n_5, n_3, nI_eq (show k < 2 ^ 31 by omega) (show q < 2 ^ 31 by omega), nI_eq (show k < 2 ^ 31 by omega) (show 4 < 2 ^ 31 by decide), nI_eq (show k < 2 ^ 31 by omega) (show 5 < 2 ^ 31 by decide), nI_eq (show q < 2 ^ 31 by omega) (show 1 < 2 ^ 31 by decide), nI_eq (show q < 2 ^ 31 by omega) (show 3 < 2 ^ 31 by decide)] at *
        exact ⟨_, rfl, by first | exact (if_pos (sp_is_j.mpr (by omega))).symm | exact (if_neg (fun z => by have := sp_is_j.mp z; omega)).symm, rfl⟩
      · refine ax_iload_n (pc := 15) dX5_isOf_15 rfl ?_
        refine ax_iconst (pc := 16) (v := 5) dX5_isOf_16 (by decide) ?_
        refine ax_icmpne (pc := 17) (tgt := 29) dX5_isOf_17 (by decide) (fun c17 => ?_) (fun c17 => ?_)
        · refine ax_iconst (pc := 29) (v := 0) dX5_isOf_29 (by decide) ?_
          refine ax_zret (pc := 30) dX5_isOf_30 rfl (by first | rfl | exact bi_n) ?_
          simp only [n_4, n_1, n_5, n_3, nI_eq (show k < 2 ^ 31 by omega) (show q < 2 ^ 31 by omega), nI_eq (show k < 2 ^ 31 by omega) (show 4 < 2 ^ 31 by decide), nI_eq (show k < 2 ^ 31 by omega) (show 5 < 2 ^ 31 by decide), nI_eq (show q < 2 ^ 31 by omega) (show 1 < 2 ^ 31 by decide), nI_eq (show q < 2 ^ 31 by omega) (show 3 < 2 ^ 31 by decide)] at *
          exact ⟨_, rfl, by first | exact (if_pos (sp_is_j.mpr (by omega))).symm | exact (if_neg (fun z => by have := sp_is_j.mp z; omega)).symm, rfl⟩
        · refine ax_iload_n (pc := 20) dX5_isOf_20 rfl ?_
          refine ax_iconst (pc := 21) (v := 3) dX5_isOf_21 (by decide) ?_
          refine ax_icmpne (pc := 22) (tgt := 29) dX5_isOf_22 (by decide) (fun c22 => ?_) (fun c22 => ?_)
          · refine ax_iconst (pc := 29) (v := 0) dX5_isOf_29 (by decide) ?_
            refine ax_zret (pc := 30) dX5_isOf_30 rfl (by first | rfl | exact bi_n) ?_
            simp only [n_4, n_1, n_5, n_3, nI_eq (show k < 2 ^ 31 by omega) (show q < 2 ^ 31 by omega), nI_eq (show k < 2 ^ 31 by omega) (show 4 < 2 ^ 31 by decide), nI_eq (show k < 2 ^ 31 by omega) (show 5 < 2 ^ 31 by decide), nI_eq (show q < 2 ^ 31 by omega) (show 1 < 2 ^ 31 by decide), nI_eq (show q < 2 ^ 31 by omega) (show 3 < 2 ^ 31 by decide)] at *
            exact ⟨_, rfl, by first | exact (if_pos (sp_is_j.mpr (by omega))).symm | exact (if_neg (fun z => by have := sp_is_j.mp z; omega)).symm, rfl⟩
          · refine ax_iconst (pc := 25) (v := 1) dX5_isOf_25 (by decide) ?_
            refine ax_goto (pc := 26) (tgt := 30) dX5_isOf_26 (by decide) ?_
            refine ax_zret (pc := 30) dX5_isOf_30 rfl (by first | rfl | exact bi_n) ?_
            simp only [n_4, n_1, n_5, n_3, nI_eq (show k < 2 ^ 31 by omega) (show q < 2 ^ 31 by omega), nI_eq (show k < 2 ^ 31 by omega) (show 4 < 2 ^ 31 by decide), nI_eq (show k < 2 ^ 31 by omega) (show 5 < 2 ^ 31 by decide), nI_eq (show q < 2 ^ 31 by omega) (show 1 < 2 ^ 31 by decide), nI_eq (show q < 2 ^ 31 by omega) (show 3 < 2 ^ 31 by decide)] at *
            exact ⟨_, rfl, by first | exact (if_pos (sp_is_j.mpr (by omega))).symm | exact (if_neg (fun z => by have := sp_is_j.mp z; omega)).symm, rfl⟩
