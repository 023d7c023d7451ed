def sp_fd (f : Nat → Int32) (m : Nat) : Nat → Nat → Int32
  | 0, _ => -9
  | r + 1, i => if m ≤ i then nI m else if ¬ (48 ≤ f i ∧ f i ≤ 57) then nI i else sp_fd f m r (i + 1)
/-- the fault of an item from place s on; -9: none -/
def sp_fi (f : Nat → Int32) (m s : Nat) : Int32 := if sp_let (f s) = -9 then nI s else sp_fd f m 2 (s + 1)
/-- the fault of a text, from place i on, with c days ahead of it; n: enough rounds -/
def sp_ft (f : Nat → Int32) (m : Nat) : Nat → Nat → Nat → Int32
  | 0, c, _ => if c < 2 then nI m else -9
  | n + 1, c, i => if m ≤ i then (if c < 2 then nI m else -9) else if f i = 32 then sp_ft f m n c (i + 1) else if c = 9 then nI i else if sp_fi f m i = -9 then sp_ft f m n (c + 1) (i + 3) else sp_fi f m i
theorem sp_ft_e {f : Nat → Int32} {m n c i : Nat} (h : m ≤ i) : sp_ft f m n c i = if c < 2 then nI m else -9 := by
  cases n with
  | zero => rfl
  | succ n => rw [sp_ft, if_pos h]
set_option maxHeartbeats 4000000 in
set_option maxRecDepth 100000 in
theorem l_X4_item (dom : List Nat) (h : mh_H) (a p m : Nat) (f : Nat → Int32) (ha : h a = mh_ob 2 [.ref p, .int (nI m)]) (hp : h p = mh_ia 0 60 f) (hm : m ≤ 60) (s : Nat) (hs : s < m) : ∀ (nn j : Nat), j + nn = s + 3 → At mX4_faultOfItem dom 1 20 [some (.ref a), some (.int (nI s)), some (.int (nI j))] [] h (mx_Ri (fun v' h' => v' = sp_fd f m nn j ∧ h' = h)) := by
  intro nn
  induction nn with
  | zero =>
    intro j hj
    have hj : j = s + 3 := by omega
    subst hj
    refine ax_iload_n (pc := 20) dX4_faultOfItem_20 rfl ?_
    refine ax_iload_n (pc := 21) dX4_faultOfItem_21 rfl ?_
    refine ax_iconst (pc := 22) (v := 2) dX4_faultOfItem_22 (by decide) ?_
    refine ax_iadd (pc := 23) dX4_faultOfItem_23 ?_
    refine ax_icmpgt (pc := 24) (tgt := 64) dX4_faultOfItem_24 (by decide) (fun _ => ?_) (fun q => absurd (by rw [n_2, nI_add, nI_ltI (by omega) (by omega)]; omega) q)
    refine ax_bipush (pc := 64) (v := -9) dX4_faultOfItem_64 (by decide) ?_
    refine ax_iret (pc := 66) dX4_faultOfItem_66 rfl ?_
    exact ⟨_, rfl, rfl, rfl⟩
  | succ nn ih =>
    intro j hj
    have hlt : j < s + 3 := by omega
    refine ax_iload_n (pc := 20) dX4_faultOfItem_20 rfl ?_
    refine ax_iload_n (pc := 21) dX4_faultOfItem_21 rfl ?_
    refine ax_iconst (pc := 22) (v := 2) dX4_faultOfItem_22 (by decide) ?_
    refine ax_iadd (pc := 23) dX4_faultOfItem_23 ?_
    refine ax_icmpgt (pc := 24) (tgt := 64) dX4_faultOfItem_24 (by decide) (fun q => absurd q (by rw [n_2, nI_add, nI_ltI (by omega) (by omega)]; omega)) (fun _ => ?_)
    refine ax_iload_n (pc := 27) dX4_faultOfItem_27 rfl ?_
    refine ax_aload_n (pc := 28) dX4_faultOfItem_28 rfl ?_
    refine ax_getf (pc := 29) fX4_98 dX4_faultOfItem_29 (by first | assumption | rfl) rfl ?_
    refine ax_icmplt (pc := 32) (tgt := 40) dX4_faultOfItem_32 (by decide) (fun c32 => ?_) (fun c32 => ?_)
    · rw [nI_ltI (by omega) (by omega)] at c32
      refine ax_aload_n (pc := 40) dX4_faultOfItem_40 rfl ?_
      refine ax_getf (pc := 41) fX4_91 dX4_faultOfItem_41 (by first | assumption | rfl) rfl ?_
      refine ax_iload_n (pc := 44) dX4_faultOfItem_44 rfl ?_
      refine ax_iald (pc := 45) dX4_faultOfItem_45 (by first | assumption | rfl) (ni_in9 (by omega) (by decide)) ?_
      refine ax_bipush (pc := 46) (v := 48) dX4_faultOfItem_46 (by decide) ?_
      refine ax_bipush (pc := 48) (v := 57) dX4_faultOfItem_48 (by decide) ?_
      refine ax_eSi3 (pc := 50) sX4_133 dX4_faultOfItem_50 (by decide) (Nat.le_of_ble_eq_true rfl) (c_X4_within _ _ _ _ _) ?_
      refine ax_ifneB (pc := 53) (tgt := 58) dX4_faultOfItem_53 (by decide) (fun c53 => ?_) (fun c53 => ?_)
      · rw [ni_cl (by omega)] at c53
        refine ax_inc2p1 (pc := 58) dX4_faultOfItem_58 rfl (by decide) ?_
        refine ax_goto (pc := 61) (tgt := 20) dX4_faultOfItem_61 (by decide) ?_
        rw [nI_1]
        rw [sp_fd, if_neg (by omega), if_neg (not_not_intro c53)]
        exact ih (j + 1) (by omega)
      · rw [ni_cl (by omega)] at c53
        refine ax_iload_n (pc := 56) dX4_faultOfItem_56 rfl ?_
        refine ax_iret (pc := 57) dX4_faultOfItem_57 rfl ⟨_, rfl, ?_, rfl⟩
        rw [sp_fd, if_neg (by omega), if_pos c53]
    · refine ax_aload_n (pc := 35) dX4_faultOfItem_35 rfl ?_
      rw [nI_ltI (by omega) (by omega)] at c32
      refine ax_getf (pc := 36) fX4_98 dX4_faultOfItem_36 (by first | assumption | rfl) rfl ?_
      refine ax_iret (pc := 39) dX4_faultOfItem_39 rfl ⟨_, rfl, ?_, rfl⟩
      rw [sp_fd, if_pos (by omega)]
set_option maxHeartbeats 4000000 in
set_option maxRecDepth 100000 in
theorem c_X4_faultOfItem (dom : List Nat) (h : mh_H) (a p m : Nat) (f : Nat → Int32) (ha : h a = mh_ob 2 [.ref p, .int (nI m)]) (hp : h p = mh_ia 0 60 f) (hm : m ≤ 60) (s : Nat) (hs : s < m) : Mt mX4_faultOfItem dom 1 [.ref a, .int (nI s)] h (mx_Ri (fun v' h' => v' = sp_fi f m s ∧ h' = h)) := by
  refine Mt.of (L := [some (.ref a), some (.int (nI s)), none]) rfl (Nat.le_of_ble_eq_true rfl) rfl ?_
  refine ax_aload_n (pc := 0) dX4_faultOfItem_0 rfl ?_
  refine ax_getf (pc := 1) fX4_91 dX4_faultOfItem_1 (by first | assumption | rfl) rfl ?_
  refine ax_iload_n (pc := 4) dX4_faultOfItem_4 rfl ?_
  refine ax_iald (pc := 5) dX4_faultOfItem_5 (by first | assumption | rfl) (ni_in9 (by omega) (by decide)) ?_
  refine ax_eSi1 (pc := 6) sX4_283 dX4_faultOfItem_6 (by decide) (Nat.le_of_ble_eq_true rfl) (c_X4_kindByLetter _ _ _) ?_
  rw [ni_cl (by omega)]
  refine ax_bipush (pc := 9) (v := -9) dX4_faultOfItem_9 (by decide) ?_
  refine ax_icmpne (pc := 11) (tgt := 16) dX4_faultOfItem_11 (by decide) (fun c11 => ?_) (fun c11 => ?_)
  · refine ax_iload_n (pc := 16) dX4_faultOfItem_16 rfl ?_
    refine ax_iconst (pc := 17) (v := 1) dX4_faultOfItem_17 (by decide) ?_
    refine ax_iadd (pc := 18) dX4_faultOfItem_18 ?_
    refine ax_istore2 (pc := 19) dX4_faultOfItem_19 rfl (by decide) ?_
    rw [nI_1]
    unfold sp_fi
    rw [if_neg c11]
    exact l_X4_item dom h a p m f ha hp hm s hs 2 (s + 1) (by omega)
  · refine ax_iload_n (pc := 14) dX4_faultOfItem_14 rfl ?_
    refine ax_iret (pc := 15) dX4_faultOfItem_15 rfl ⟨_, rfl, ?_, rfl⟩
    unfold sp_fi; rw [if_pos c11]
theorem ni_ne9 {i : Nat} (h : i < 100) : ¬ nI i = -9 := fun e => by
  have := congrArg Int32.toInt e
  rw [nI_toInt (by omega), z_m9] at this
  omega
set_option maxHeartbeats 4000000 in
set_option maxRecDepth 100000 in
theorem l_X4_faultOf (dom : List Nat) (h : mh_H) (a p m : Nat) (f : Nat → Int32) (ha : h a = mh_ob 2 [.ref p, .int (nI m)]) (hp : h p = mh_ia 0 60 f) (hm : m ≤ 60) : ∀ (nn c i : Nat) (l3 : Option Value), m ≤ i + nn → i ≤ 62 → c ≤ 9 → At mX4_faultOf dom 2 4 [some (.ref a), some (.int (nI c)), some (.int (nI i)), l3] [] h (mx_Ri (fun v' h' => v' = sp_ft f m nn c i ∧ h' = h)) := by
  intro nn
  induction nn with
  | zero =>
    intro c i l3 hi hi2 hc
    refine ax_iload_n (pc := 4) dX4_faultOf_4 rfl ?_
    refine ax_aload_n (pc := 5) dX4_faultOf_5 rfl ?_
    refine ax_getf (pc := 6) fX4_98 dX4_faultOf_6 (by first | assumption | rfl) rfl ?_
    refine ax_icmpge (pc := 9) (tgt := 62) dX4_faultOf_9 (by decide) (fun _ => ?_) (fun q => absurd (nI_le (by omega) (by omega)) q)
    refine ax_iload_n (pc := 62) dX4_faultOf_62 rfl ?_
    refine ax_iconst (pc := 63) (v := 2) dX4_faultOf_63 (by decide) ?_
    refine ax_icmpge (pc := 64) (tgt := 74) dX4_faultOf_64 (by decide) (fun c64 => ?_) (fun c64 => ?_)
    · refine ax_bipush (pc := 74) (v := -9) dX4_faultOf_74 (by decide) ?_
      refine ax_iret (pc := 76) dX4_faultOf_76 rfl ?_
      rw [n_2, nI_leI (by decide) (by omega)] at c64
      exact ⟨_, rfl, by rw [sp_ft_e (by omega)]; first | rw [if_pos (by omega)] | rw [if_neg (by omega)], rfl⟩
    · refine ax_aload_n (pc := 67) dX4_faultOf_67 rfl ?_
      refine ax_getf (pc := 68) fX4_98 dX4_faultOf_68 (by first | assumption | rfl) rfl ?_
      refine ax_goto (pc := 71) (tgt := 76) dX4_faultOf_71 (by decide) ?_
      refine ax_iret (pc := 76) dX4_faultOf_76 rfl ?_
      rw [n_2, nI_leI (by decide) (by omega)] at c64
      exact ⟨_, rfl, by rw [sp_ft_e (by omega)]; first | rw [if_pos (by omega)] | rw [if_neg (by omega)], rfl⟩
  | succ nn ih =>
    intro c i l3 hi hi2 hc
    by_cases hmi : m ≤ i
    · refine ax_iload_n (pc := 4) dX4_faultOf_4 rfl ?_
      refine ax_aload_n (pc := 5) dX4_faultOf_5 rfl ?_
      refine ax_getf (pc := 6) fX4_98 dX4_faultOf_6 (by first | assumption | rfl) rfl ?_
      refine ax_icmpge (pc := 9) (tgt := 62) dX4_faultOf_9 (by decide) (fun _ => ?_) (fun q => absurd (nI_le (by omega) (by omega)) q)
      refine ax_iload_n (pc := 62) dX4_faultOf_62 rfl ?_
      refine ax_iconst (pc := 63) (v := 2) dX4_faultOf_63 (by decide) ?_
      refine ax_icmpge (pc := 64) (tgt := 74) dX4_faultOf_64 (by decide) (fun c64 => ?_) (fun c64 => ?_)
      · refine ax_bipush (pc := 74) (v := -9) dX4_faultOf_74 (by decide) ?_
        refine ax_iret (pc := 76) dX4_faultOf_76 rfl ?_
        rw [n_2, nI_leI (by decide) (by omega)] at c64
        exact ⟨_, rfl, by rw [sp_ft_e (by omega)]; first | rw [if_pos (by omega)] | rw [if_neg (by omega)], rfl⟩
      · refine ax_aload_n (pc := 67) dX4_faultOf_67 rfl ?_
        refine ax_getf (pc := 68) fX4_98 dX4_faultOf_68 (by first | assumption | rfl) rfl ?_
        refine ax_goto (pc := 71) (tgt := 76) dX4_faultOf_71 (by decide) ?_
        refine ax_iret (pc := 76) dX4_faultOf_76 rfl ?_
        rw [n_2, nI_leI (by decide) (by omega)] at c64
        exact ⟨_, rfl, by rw [sp_ft_e (by omega)]; first | rw [if_pos (by omega)] | rw [if_neg (by omega)], rfl⟩
    · refine ax_iload_n (pc := 4) dX4_faultOf_4 rfl ?_
      refine ax_aload_n (pc := 5) dX4_faultOf_5 rfl ?_
      refine ax_getf (pc := 6) fX4_98 dX4_faultOf_6 (by first | assumption | rfl) rfl ?_
      refine ax_icmpge (pc := 9) (tgt := 62) dX4_faultOf_9 (by decide) (fun q => absurd q (nI_ge (by omega) (by omega))) (fun _ => ?_)
      refine ax_aload_n (pc := 12) dX4_faultOf_12 rfl ?_
      refine ax_getf (pc := 13) fX4_91 dX4_faultOf_13 (by first | assumption | rfl) rfl ?_
      refine ax_iload_n (pc := 16) dX4_faultOf_16 rfl ?_
      refine ax_iald (pc := 17) dX4_faultOf_17 (by first | assumption | rfl) (ni_in9 (by omega) (by decide)) ?_
      rw [ni_cl (by omega)]
      refine ax_bipush (pc := 18) (v := 32) dX4_faultOf_18 (by decide) ?_
      refine ax_icmpne (pc := 20) (tgt := 29) dX4_faultOf_20 (by decide) (fun c20 => ?_) (fun c20 => ?_)
      · refine ax_iload_n (pc := 29) dX4_faultOf_29 rfl ?_
        refine ax_bipush (pc := 30) (v := 9) dX4_faultOf_30 (by decide) ?_
        refine ax_icmpne (pc := 32) (tgt := 39) dX4_faultOf_32 (by decide) (fun c32 => ?_) (fun c32 => ?_)
        · rw [n_9, nI_eq (by omega) (by decide)] at c32
          refine ax_aload_n (pc := 39) dX4_faultOf_39 rfl ?_
          refine ax_iload_n (pc := 40) dX4_faultOf_40 rfl ?_
          refine ax_eSi2 (pc := 41) sX4_280 dX4_faultOf_41 (by decide) (Nat.le_of_ble_eq_true rfl) (c_X4_faultOfItem _ _ a p m f ha hp hm i (by omega)) ?_
          refine ax_istore3 (pc := 44) dX4_faultOf_44 rfl (by decide) ?_
          refine ax_iload_n (pc := 45) dX4_faultOf_45 rfl ?_
          refine ax_bipush (pc := 46) (v := -9) dX4_faultOf_46 (by decide) ?_
          refine ax_icmpeq (pc := 48) (tgt := 53) dX4_faultOf_48 (by decide) (fun c48 => ?_) (fun c48 => ?_)
          · first | exact absurd c48 (ni_ne9 (by omega)) | (refine ax_inc1p1 (pc := 53) dX4_faultOf_53 rfl (by decide) ?_; refine ax_inc2p3 (pc := 56) dX4_faultOf_56 rfl (by decide) ?_; refine ax_goto (pc := 59) (tgt := 4) dX4_faultOf_59 (by decide) ?_; rw [nI_1, n_3, nI_add, sp_ft, if_neg (by omega), if_neg c20, if_neg c32, if_pos c48]; exact ih (c + 1) (i + 3) _ (by omega) (by omega) (by omega))
          · refine ax_iload_n (pc := 51) dX4_faultOf_51 rfl ?_
            refine ax_iret (pc := 52) dX4_faultOf_52 rfl ⟨_, rfl, ?_, rfl⟩
            rw [sp_ft, if_neg (by omega), if_neg c20]
            first | rw [if_pos c32] | rw [if_neg c32, if_neg c48]
        · rw [n_9, nI_eq (by omega) (by decide)] at c32
          refine ax_iload_n (pc := 35) dX4_faultOf_35 rfl ?_
          refine ax_goto (pc := 36) (tgt := 44) dX4_faultOf_36 (by decide) ?_
          refine ax_istore3 (pc := 44) dX4_faultOf_44 rfl (by decide) ?_
          refine ax_iload_n (pc := 45) dX4_faultOf_45 rfl ?_
          refine ax_bipush (pc := 46) (v := -9) dX4_faultOf_46 (by decide) ?_
          refine ax_icmpeq (pc := 48) (tgt := 53) dX4_faultOf_48 (by decide) (fun c48 => ?_) (fun c48 => ?_)
          · first | exact absurd c48 (ni_ne9 (by omega)) | (refine ax_inc1p1 (pc := 53) dX4_faultOf_53 rfl (by decide) ?_; refine ax_inc2p3 (pc := 56) dX4_faultOf_56 rfl (by decide) ?_; refine ax_goto (pc := 59) (tgt := 4) dX4_faultOf_59 (by decide) ?_; rw [nI_1, n_3, nI_add, sp_ft, if_neg (by omega), if_neg c20, if_neg c32, if_pos c48]; exact ih (c + 1) (i + 3) _ (by omega) (by omega) (by omega))
          · refine ax_iload_n (pc := 51) dX4_faultOf_51 rfl ?_
            refine ax_iret (pc := 52) dX4_faultOf_52 rfl ⟨_, rfl, ?_, rfl⟩
            rw [sp_ft, if_neg (by omega), if_neg c20]
            first | rw [if_pos c32] | rw [if_neg c32, if_neg c48]
      · refine ax_inc2p1 (pc := 23) dX4_faultOf_23 rfl (by decide) ?_
        refine ax_goto (pc := 26) (tgt := 4) dX4_faultOf_26 (by decide) ?_
        rw [nI_1, sp_ft, if_neg (by omega), if_pos c20]
        exact ih c (i + 1) l3 (by omega) (by omega) hc
set_option maxHeartbeats 4000000 in
set_option maxRecDepth 100000 in
theorem c_X4_faultOf (dom : List Nat) (h : mh_H) (a p m : Nat) (f : Nat → Int32) (ha : h a = mh_ob 2 [.ref p, .int (nI m)]) (hp : h p = mh_ia 0 60 f) (hm : m ≤ 60) : Mt mX4_faultOf dom 2 [.ref a] h (mx_Ri (fun v' h' => v' = sp_ft f m m 0 0 ∧ h' = h)) := by
  refine Mt.of (L := [some (.ref a), none, none, none]) rfl (Nat.le_of_ble_eq_true rfl) rfl ?_
  refine ax_iconst (pc := 0) (v := 0) dX4_faultOf_0 (by decide) ?_
  refine ax_istore1 (pc := 1) dX4_faultOf_1 rfl (by decide) ?_
  refine ax_iconst (pc := 2) (v := 0) dX4_faultOf_2 (by decide) ?_
  refine ax_istore2 (pc := 3) dX4_faultOf_3 rfl (by decide) ?_
  exact l_X4_faultOf dom h a p m f ha hp hm m 0 0 none (by omega) (by omega) (by omega)
set_option maxHeartbeats 4000000 in
set_option maxRecDepth 100000 in
theorem c_X4_missingPlace (dom : List Nat) (h : mh_H) (a p : Nat) (sz : Int32) (ha : h a = mh_ob 2 [.ref p, .int sz]) (i : Int32) : Mt mX4_missingPlace dom 1 [.ref a, .int i] h (mx_Ri (fun v' h' => v' = (if sz < 0 then 1 else if 0 ≤ i ∧ i ≤ sz - 1 then 0 else 2) ∧ h' = h)) := by
  refine Mt.of (L := [some (.ref a), some (.int i)]) rfl (Nat.le_of_ble_eq_true rfl) rfl ?_
  refine ax_aload_n (pc := 0) dX4_missingPlace_0 rfl ?_
  refine ax_eVi0 (pc := 1) vX4_94 dX4_missingPlace_1 (by decide) (by first | assumption | rfl) (Nat.le_of_ble_eq_true rfl) (c_X2_isThere _ _ a p sz ha) ?_
  refine ax_ifneB (pc := 4) (tgt := 9) dX4_missingPlace_4 (by decide) (fun c4 => ?_) (fun c4 => ?_)
  · refine ax_aload_n (pc := 9) dX4_missingPlace_9 rfl ?_
    refine ax_iload_n (pc := 10) dX4_missingPlace_10 rfl ?_
    refine ax_iconst (pc := 11) (v := 1) dX4_missingPlace_11 (by decide) ?_
    refine ax_eVi2 (pc := 12) vX4_101 dX4_missingPlace_12 (by decide) (by first | assumption | rfl) (Nat.le_of_ble_eq_true rfl) (c_X2_hasFrom _ _ a p sz ha _ _) ?_
    refine ax_ifeqB (pc := 15) (tgt := 22) dX4_missingPlace_15 (by decide) (fun c15 => ?_) (fun c15 => ?_)
    · refine ax_iconst (pc := 22) (v := 2) dX4_missingPlace_22 (by decide) ?_
      refine ax_iret (pc := 23) dX4_missingPlace_23 rfl ⟨_, rfl, ?_, rfl⟩
      rw [if_neg (Int32.not_lt.mpr c4)]
      first | exact (if_pos c15).symm | exact (if_neg c15).symm
    · refine ax_iconst (pc := 18) (v := 0) dX4_missingPlace_18 (by decide) ?_
      refine ax_goto (pc := 19) (tgt := 23) dX4_missingPlace_19 (by decide) ?_
      refine ax_iret (pc := 23) dX4_missingPlace_23 rfl ⟨_, rfl, ?_, rfl⟩
      rw [if_neg (Int32.not_lt.mpr c4)]
      first | exact (if_pos c15).symm | exact (if_neg c15).symm
  · refine ax_iconst (pc := 7) (v := 1) dX4_missingPlace_7 (by decide) ?_
    refine ax_iret (pc := 8) dX4_missingPlace_8 rfl ⟨_, rfl, ?_, rfl⟩
    rw [if_pos (Int32.not_le.mp c4)]
/-- a row of m places tells what was ground: 1, 5, 3 what is wrong; 0 -/
def sp_neg (f : Nat → Int32) : Nat → Nat → Bool
  | 0, _ => false
  | n + 1, j => if f j < 0 then true else sp_neg f n (j + 1)
set_option maxHeartbeats 4000000 in
set_option maxRecDepth 100000 in
theorem l_X4_wrong (dom : List Nat) (h : mh_H) (a p m : Nat) (f : Nat → Int32) (ha : h a = mh_ob 2 [.ref p, .int (nI m)]) (hp : h p = mh_ia 0 60 f) (hm : m ≤ 60) : ∀ (nn j : Nat), j + nn = m → At mX4_wrongNumbers dom 1 26 [some (.ref a), some (.int (nI j))] [] h (mx_Ri (fun v' h' => v' = (if sp_neg f nn j = true then 3 else 0) ∧ h' = h)) := by
  intro nn
  induction nn with
  | zero =>
    intro j hj
    have hj : j = m := by omega
    subst hj
    refine ax_iload_n (pc := 26) dX4_wrongNumbers_26 rfl ?_
    refine ax_aload_n (pc := 27) dX4_wrongNumbers_27 rfl ?_
    refine ax_getf (pc := 28) fX4_98 dX4_wrongNumbers_28 (by first | assumption | rfl) rfl ?_
    refine ax_icmpge (pc := 31) (tgt := 51) dX4_wrongNumbers_31 (by decide) (fun _ => ?_) (fun q => absurd (nI_le (Nat.le_refl _) (by omega)) q)
    refine ax_iconst (pc := 51) (v := 0) dX4_wrongNumbers_51 (by decide) ?_
    refine ax_iret (pc := 52) dX4_wrongNumbers_52 rfl ?_
    exact ⟨_, rfl, rfl, rfl⟩
  | succ nn ih =>
    intro j hj
    have hlt : j < m := by omega
    refine ax_iload_n (pc := 26) dX4_wrongNumbers_26 rfl ?_
    refine ax_aload_n (pc := 27) dX4_wrongNumbers_27 rfl ?_
    refine ax_getf (pc := 28) fX4_98 dX4_wrongNumbers_28 (by first | assumption | rfl) rfl ?_
    refine ax_icmpge (pc := 31) (tgt := 51) dX4_wrongNumbers_31 (by decide) (fun q => absurd q (nI_ge hlt (by omega))) (fun _ => ?_)
    refine ax_aload_n (pc := 34) dX4_wrongNumbers_34 rfl ?_
    refine ax_getf (pc := 35) fX4_91 dX4_wrongNumbers_35 (by first | assumption | rfl) rfl ?_
    refine ax_iload_n (pc := 38) dX4_wrongNumbers_38 rfl ?_
    refine ax_iald (pc := 39) dX4_wrongNumbers_39 (by first | assumption | rfl) (ni_in9 (by omega) (by decide)) ?_
    rw [ni_cl (by omega)]
    refine ax_ifge (pc := 40) (tgt := 45) dX4_wrongNumbers_40 (by decide) (fun c40 => ?_) (fun c40 => ?_)
    · refine ax_inc1p1 (pc := 45) dX4_wrongNumbers_45 rfl (by decide) ?_
      refine ax_goto (pc := 48) (tgt := 26) dX4_wrongNumbers_48 (by decide) ?_
      rw [nI_1, sp_neg, if_neg (Int32.not_lt.mpr c40)]
      exact ih (j + 1) (by omega)
    · refine ax_iconst (pc := 43) (v := 3) dX4_wrongNumbers_43 (by decide) ?_
      refine ax_iret (pc := 44) dX4_wrongNumbers_44 rfl ⟨_, rfl, ?_, rfl⟩
      rw [sp_neg, if_pos (Int32.not_le.mp c40)]
      rfl
set_option maxHeartbeats 4000000 in
set_option maxRecDepth 100000 in
theorem c_X4_wrongNumbers0 (dom : List Nat) (h : mh_H) (a p : Nat) (sz : Int32) (ha : h a = mh_ob 2 [.ref p, .int sz]) (hs : sz < 0) : Mt mX4_wrongNumbers dom 1 [.ref a] h (mx_Ri (fun v' h' => v' = 1 ∧ h' = h)) := by
  refine Mt.of (L := [some (.ref a), none]) rfl (Nat.le_of_ble_eq_true rfl) rfl ?_
  refine ax_aload_n (pc := 0) dX4_wrongNumbers_0 rfl ?_
  refine ax_eVi0 (pc := 1) vX4_94 dX4_wrongNumbers_1 (by decide) (by first | assumption | rfl) (Nat.le_of_ble_eq_true rfl) (c_X2_isThere _ _ a p sz ha) ?_
  refine ax_ifneB (pc := 4) (tgt := 9) dX4_wrongNumbers_4 (by decide) (fun c4 => ?_) (fun c4 => ?_)
  · exact absurd c4 (Int32.not_le.mpr hs)
  · refine ax_iconst (pc := 7) (v := 1) dX4_wrongNumbers_7 (by decide) ?_
    refine ax_iret (pc := 8) dX4_wrongNumbers_8 rfl ?_
    exact ⟨_, rfl, rfl, rfl⟩
set_option maxHeartbeats 4000000 in
set_option maxRecDepth 100000 in
theorem c_X4_wrongNumbers (dom : List Nat) (h : mh_H) (a p m : Nat) (f : Nat → Int32) (ha : h a = mh_ob 2 [.ref p, .int (nI m)]) (hp : h p = mh_ia 0 60 f) (hm : m ≤ 60) : Mt mX4_wrongNumbers dom 1 [.ref a] h (mx_Ri (fun v' h' => v' = (if 1 ≤ m ∧ m ≤ 20 then (if sp_neg f m 0 = true then 3 else 0) else 5) ∧ h' = h)) := by
  refine Mt.of (L := [some (.ref a), none]) rfl (Nat.le_of_ble_eq_true rfl) rfl ?_
  refine ax_aload_n (pc := 0) dX4_wrongNumbers_0 rfl ?_
  refine ax_eVi0 (pc := 1) vX4_94 dX4_wrongNumbers_1 (by decide) (by first | assumption | rfl) (Nat.le_of_ble_eq_true rfl) (c_X2_isThere _ _ a p _ ha) ?_
  refine ax_ifneB (pc := 4) (tgt := 9) dX4_wrongNumbers_4 (by decide) (fun c4 => ?_) (fun c4 => ?_)
  · refine ax_aload_n (pc := 9) dX4_wrongNumbers_9 rfl ?_
    refine ax_getf (pc := 10) fX4_98 dX4_wrongNumbers_10 (by first | assumption | rfl) rfl ?_
    refine ax_iconst (pc := 13) (v := 1) dX4_wrongNumbers_13 (by decide) ?_
    refine ax_bipush (pc := 14) (v := 20) dX4_wrongNumbers_14 (by decide) ?_
    refine ax_eSi3 (pc := 16) sX4_133 dX4_wrongNumbers_16 (by decide) (Nat.le_of_ble_eq_true rfl) (c_X4_within _ _ _ _ _) ?_
    refine ax_ifneB (pc := 19) (tgt := 24) dX4_wrongNumbers_19 (by decide) (fun c19 => ?_) (fun c19 => ?_)
    · rw [n_1, n_20, nI_leI (by decide) (by omega), nI_leI (by omega) (by decide)] at c19
      refine ax_iconst (pc := 24) (v := 0) dX4_wrongNumbers_24 (by decide) ?_
      refine ax_istore1 (pc := 25) dX4_wrongNumbers_25 rfl (by decide) ?_
      rw [if_pos c19]
      exact l_X4_wrong dom h a p m f ha hp hm m 0 (by omega)
    · rw [n_1, n_20, nI_leI (by decide) (by omega), nI_leI (by omega) (by decide)] at c19
      refine ax_iconst (pc := 22) (v := 5) dX4_wrongNumbers_22 (by decide) ?_
      refine ax_iret (pc := 23) dX4_wrongNumbers_23 rfl ⟨_, rfl, ?_, rfl⟩
      rw [if_neg c19]
  · exact absurd (nI_pos' (by omega)) c4
