theorem mh_r2 {h : mh_H} {k f : Nat} {a a' b : mh_E} (n1 : k ≠ f) : mh_up (mh_up (mh_up h k a) f b) k a' = mh_up (mh_up h k a') f b := by rw [mh_up_cm (Ne.symm n1), mh_up_uu]
theorem mh_r3 {h : mh_H} {k f r : Nat} {a a' b c : mh_E} (n1 : k ≠ f) (n2 : k ≠ r) : mh_up (mh_up (mh_up (mh_up h k a) f b) r c) k a' = mh_up (mh_up (mh_up h k a') f b) r c := by rw [mh_up_cm (Ne.symm n2), mh_r2 n1]
theorem mh_r4 {h : mh_H} {k f r s : Nat} {a a' b c d : mh_E} (n1 : k ≠ f) (n2 : k ≠ r) (n3 : k ≠ s) : mh_up (mh_up (mh_up (mh_up (mh_up h k a) f b) r c) s d) k a' = mh_up (mh_up (mh_up (mh_up h k a') f b) r c) s d := by rw [mh_up_cm (Ne.symm n3), mh_r3 n1 n2]
theorem At.ib {y : mt_I} {dom : List Nat} {d pc : Nat} {L : List (Option Value)} {st : List Value} {h : mh_H} {Q : Option Value → mh_H → Prop} {a t n : Nat} {f f' : Nat → Int32} (ha : h a = mh_ia t n f) (hf : ∀ j, j < n → f j = f' j) (K : At y dom d pc L st (mh_up h a (mh_ia t n f')) Q) : At y dom d pc L st h Q := At.hp (mh_up_id ha).symm (At.ia hf K)
/-- the guess (7; 14, 15, 16) holds these days -/
def gsH (h : mh_H) (D : sp_D) (fi : Nat) : mh_H := mh_up (mh_up (mh_up (mh_up h 14 (mh_ia 0 9 (fun j => nI (D.2.1 j)))) 15 (mh_ia 0 9 (fun j => nI (D.2.2.1 j)))) 16 (mh_ia 0 9 (fun j => nI (D.2.2.2 j)))) 7 (mh_ob 0 [.ref 14, .ref 15, .ref 16, .int (nI D.1), .int (nI fi)])
def gsX (h : mh_H) : Prop := ∃ (x0 x1 : Value) (k f r : Nat → Int32), h 7 = mh_ob 0 [.ref 14, .ref 15, .ref 16, x0, x1] ∧ h 14 = mh_ia 0 9 k ∧ h 15 = mh_ia 0 9 f ∧ h 16 = mh_ia 0 9 r
theorem gsH_P (h : mh_H) (D : sp_D) (fi : Nat) : dyP D fi 7 14 15 16 (gsH h D fi) := ⟨rfl, rfl, rfl, rfl⟩
theorem gsH_X (h : mh_H) (D : sp_D) (fi : Nat) : gsX (gsH h D fi) := ⟨_, _, _, _, _, rfl, rfl, rfl, rfl⟩
theorem gsH_n {h : mh_H} {D : sp_D} {fi k : Nat} (hk : k ≠ 7 ∧ k ≠ 14 ∧ k ≠ 15 ∧ k ≠ 16) : gsH h D fi k = h k := by
  unfold gsH
  rw [mh_up_n hk.1, mh_up_n hk.2.2.2, mh_up_n hk.2.2.1, mh_up_n hk.2.1]
theorem gsH_gs {h : mh_H} {D D' : sp_D} {fi fi' : Nat} : gsH (gsH h D fi) D' fi' = gsH h D' fi' := by
  unfold gsH
  rw [mh_r4 (k := 14) (by decide) (by decide) (by decide), mh_r3 (k := 15) (by decide) (by decide), mh_r2 (k := 16) (by decide), mh_up_uu]
def up_n (f : Nat → Nat) (k v : Nat) : Nat → Nat := fun j => if j = k then v else f j
theorem up_nI (f : Nat → Nat) (k v : Nat) : upd (fun j => nI (f j)) k (nI v) = fun j => nI (up_n f k v j) := by
  funext j
  unfold upd up_n
  split <;> rfl
theorem gsH_k {h : mh_H} {D : sp_D} {fi k v : Nat} : mh_up (gsH h D fi) 14 (mh_ia 0 9 (upd (fun j => nI (D.2.1 j)) k (nI v))) = gsH h (D.1, up_n D.2.1 k v, D.2.2.1, D.2.2.2) fi := by
  unfold gsH
  rw [up_nI, mh_r4 (k := 14) (by decide) (by decide) (by decide)]
theorem gsH_f {h : mh_H} {D : sp_D} {fi k v : Nat} : mh_up (gsH h D fi) 15 (mh_ia 0 9 (upd (fun j => nI (D.2.2.1 j)) k (nI v))) = gsH h (D.1, D.2.1, up_n D.2.2.1 k v, D.2.2.2) fi := by
  unfold gsH
  rw [up_nI, mh_r3 (k := 15) (by decide) (by decide)]
theorem gsH_d {h : mh_H} {D : sp_D} {fi fi' : Nat} : mh_up (gsH h D fi) 7 (mh_ob 0 [.ref 14, .ref 15, .ref 16, .int (nI D.1), .int (nI fi')]) = gsH h D fi' := by
  unfold gsH
  rw [mh_up_uu]
theorem gsH_8 {h : mh_H} {D : sp_D} {fi k : Nat} {e : mh_E} (hk : k ≠ 7 ∧ k ≠ 14 ∧ k ≠ 15 ∧ k ≠ 16) : mh_up (gsH h D fi) k e = gsH (mh_up h k e) D fi := by
  unfold gsH
  rw [mh_up_cm (Ne.symm hk.1), mh_up_cm (k := 16) (Ne.symm hk.2.2.2), mh_up_cm (k := 15) (Ne.symm hk.2.2.1), mh_up_cm (k := 14) (Ne.symm hk.2.1)]
set_option maxHeartbeats 4000000 in
set_option maxRecDepth 100000 in
theorem l_X0_copyOf (dom : List Nat) (h : mh_H) (k1 f1 r1 k2 f2 r2 : Nat → Int32) (x0 x1 : Value) (y0 y1 : Int32) (ha : h 7 = mh_ob 0 [.ref 14, .ref 15, .ref 16, x0, x1]) (hb : h 3 = mh_ob 0 [.ref 11, .ref 12, .ref 13, .int y0, .int y1]) (hka : h 11 = mh_ia 0 9 k2) (hfa : h 12 = mh_ia 0 9 f2) (hra : h 13 = mh_ia 0 9 r2) : ∀ (nn j : Nat), j + nn = 9 → At mX0_copyOf dom 0 2 [some (.ref 7), some (.ref 3), some (.int (nI j))] [] (mh_up (mh_up (mh_up h 14 (mh_ia 0 9 (sl_cp k2 k1 j))) 15 (mh_ia 0 9 (sl_cp f2 f1 j))) 16 (mh_ia 0 9 (sl_cp r2 r1 j))) (mx_Rv (fun h' => h' = mh_up (mh_up (mh_up (mh_up h 14 (mh_ia 0 9 k2)) 15 (mh_ia 0 9 f2)) 16 (mh_ia 0 9 r2)) 7 (mh_ob 0 [.ref 14, .ref 15, .ref 16, .int y0, .int y1]))) := by
  intro nn
  induction nn with
  | zero =>
    intro j hj
    have hj : j = 9 := by omega
    subst hj
    refine ax_iload_n (pc := 2) dX0_copyOf_2 rfl ?_
    refine ax_bipush (pc := 3) (v := 9) dX0_copyOf_3 (by decide) ?_
    refine ax_icmpge (pc := 5) (tgt := 50) dX0_copyOf_5 (by decide) (fun _ => ?_) (fun q => absurd (by decide) q)
    refine At.ib (a := 14) (f' := k2) rfl (fun j hj => if_pos hj) ?_
    refine At.hp (mh_r3 (by decide) (by decide)) ?_
    refine At.ib (a := 15) (f' := f2) rfl (fun j hj => if_pos hj) ?_
    refine At.hp (mh_r2 (by decide)) ?_
    refine At.ib (a := 16) (f' := r2) rfl (fun j hj => if_pos hj) ?_
    refine At.hp mh_up_uu ?_
    refine ax_aload_n (pc := 50) dX0_copyOf_50 rfl ?_
    refine ax_aload_n (pc := 51) dX0_copyOf_51 rfl ?_
    refine ax_getf (pc := 52) fX0_21 dX0_copyOf_52 (by first | assumption | rfl) rfl ?_
    refine ax_puti3 (pc := 55) gX0_21 dX0_copyOf_55 (by first | assumption | rfl) ?_
    refine ax_aload_n (pc := 58) dX0_copyOf_58 rfl ?_
    refine ax_aload_n (pc := 59) dX0_copyOf_59 rfl ?_
    refine ax_getf (pc := 60) fX0_25 dX0_copyOf_60 (by first | assumption | rfl) rfl ?_
    refine ax_puti4u (pc := 63) gX0_25 dX0_copyOf_63 ?_
    refine ax_vret (pc := 66) dX0_copyOf_66 rfl ?_
    exact ⟨rfl, rfl⟩
  | succ nn ih =>
    intro j hj
    have hlt : j < 9 := by omega
    refine ax_iload_n (pc := 2) dX0_copyOf_2 rfl ?_
    refine ax_bipush (pc := 3) (v := 9) dX0_copyOf_3 (by decide) ?_
    refine ax_icmpge (pc := 5) (tgt := 50) dX0_copyOf_5 (by decide) (fun q => absurd q (by rw [n_9, nI_leI (by decide) (by omega)]; omega)) (fun _ => ?_)
    refine ax_aload_n (pc := 8) dX0_copyOf_8 rfl ?_
    refine ax_getf (pc := 9) fX0_9 dX0_copyOf_9 (by first | assumption | rfl) rfl ?_
    refine ax_iload_n (pc := 12) dX0_copyOf_12 rfl ?_
    refine ax_aload_n (pc := 13) dX0_copyOf_13 rfl ?_
    refine ax_getf (pc := 14) fX0_9 dX0_copyOf_14 (by first | assumption | rfl) rfl ?_
    refine ax_iload_n (pc := 17) dX0_copyOf_17 rfl ?_
    refine ax_iald (pc := 18) dX0_copyOf_18 (by first | assumption | rfl) (ni_in9 (by omega) (by decide)) ?_
    refine ax_iast (pc := 19) dX0_copyOf_19 (by first | assumption | rfl) (ni_in9 (by omega) (by decide)) ?_
    refine At.hp (mh_r3 (by decide) (by decide)) ?_
    refine ax_aload_n (pc := 20) dX0_copyOf_20 rfl ?_
    refine ax_getf (pc := 21) fX0_15 dX0_copyOf_21 (by first | assumption | rfl) rfl ?_
    refine ax_iload_n (pc := 24) dX0_copyOf_24 rfl ?_
    refine ax_aload_n (pc := 25) dX0_copyOf_25 rfl ?_
    refine ax_getf (pc := 26) fX0_15 dX0_copyOf_26 (by first | assumption | rfl) rfl ?_
    refine ax_iload_n (pc := 29) dX0_copyOf_29 rfl ?_
    refine ax_iald (pc := 30) dX0_copyOf_30 (by first | assumption | rfl) (ni_in9 (by omega) (by decide)) ?_
    refine ax_iast (pc := 31) dX0_copyOf_31 (by first | assumption | rfl) (ni_in9 (by omega) (by decide)) ?_
    refine At.hp (mh_r2 (by decide)) ?_
    refine ax_aload_n (pc := 32) dX0_copyOf_32 rfl ?_
    refine ax_getf (pc := 33) fX0_18 dX0_copyOf_33 (by first | assumption | rfl) rfl ?_
    refine ax_iload_n (pc := 36) dX0_copyOf_36 rfl ?_
    refine ax_aload_n (pc := 37) dX0_copyOf_37 rfl ?_
    refine ax_getf (pc := 38) fX0_18 dX0_copyOf_38 (by first | assumption | rfl) rfl ?_
    refine ax_iload_n (pc := 41) dX0_copyOf_41 rfl ?_
    refine ax_iald (pc := 42) dX0_copyOf_42 (by first | assumption | rfl) (ni_in9 (by omega) (by decide)) ?_
    refine ax_iast (pc := 43) dX0_copyOf_43 (by first | assumption | rfl) (ni_in9 (by omega) (by decide)) ?_
    refine At.hp mh_up_uu ?_
    rw [ni_cl (by omega), sl_cpS, sl_cpS, sl_cpS]
    refine ax_inc2p1 (pc := 44) dX0_copyOf_44 rfl (by decide) ?_
    refine ax_goto (pc := 47) (tgt := 2) dX0_copyOf_47 (by decide) ?_
    rw [nI_1]
    exact ih (j + 1) (by omega)
set_option maxHeartbeats 4000000 in
set_option maxRecDepth 100000 in
theorem c_X0_copyOf (dom : List Nat) (h : mh_H) (D : sp_D) (fi : Nat) (hX : gsX h) (hD : dyP D fi 3 11 12 13 h) : Mt mX0_copyOf dom 0 [.ref 7, .ref 3] h (mx_Rv (fun h' => h' = gsH h D fi)) := by
  refine Mt.of (L := [some (.ref 7), some (.ref 3), none]) rfl (Nat.le_of_ble_eq_true rfl) rfl ?_
  obtain ⟨h1, h2, h3, h4⟩ := id hD
  obtain ⟨x0, x1, k1, f1, r1, g1, g2, g3, g4⟩ := id hX
  refine ax_iconst (pc := 0) (v := 0) dX0_copyOf_0 (by decide) ?_
  refine ax_istore2 (pc := 1) dX0_copyOf_1 rfl (by decide) ?_
  refine At.hp (mh_up_id (k := 14) (e := mh_ia 0 9 (sl_cp (fun j => nI (D.2.1 j)) k1 0)) g2).symm ?_
  refine At.hp (mh_up_id (k := 15) (e := mh_ia 0 9 (sl_cp (fun j => nI (D.2.2.1 j)) f1 0)) ((mh_up_n (by decide)).trans g3)).symm ?_
  refine At.hp (mh_up_id (k := 16) (e := mh_ia 0 9 (sl_cp (fun j => nI (D.2.2.2 j)) r1 0)) ((mh_up_n (by decide)).trans ((mh_up_n (by decide)).trans g4))).symm ?_
  exact l_X0_copyOf dom h k1 f1 r1 _ _ _ x0 x1 _ _ g1 h1 h2 h3 h4 9 0 (by omega)
def sp_is (k q : Nat) : Bool := k == q || (k == 4 && q == 1) || (k == 5 && q == 3)
def sp_let (c : Int32) : Int32 := if c = 100 then 0 else if c = 102 then 1 else if c = 114 then 2 else if c = 112 then 3 else if c = 101 then 4 else if c = 104 then 5 else -9
set_option maxHeartbeats 4000000 in
set_option maxRecDepth 100000 in
theorem c_X4_isOfKind (dom : List Nat) (h : mh_H) (k q : Int32) : Mt mX4_isOfKind dom 0 [.int k, .int q] h (mx_Ri (fun v' h' => v' = (if k = q ∨ (k = 4 ∧ q = 1) ∨ (k = 5 ∧ q = 3) then 1 else 0) ∧ h' = h)) := by
  refine Mt.of (L := [some (.int k), some (.int q)]) rfl (Nat.le_of_ble_eq_true rfl) rfl ?_
  refine ax_iload_n (pc := 0) dX4_isOfKind_0 rfl ?_
  refine ax_iload_n (pc := 1) dX4_isOfKind_1 rfl ?_
  refine ax_icmpeq (pc := 2) (tgt := 25) dX4_isOfKind_2 (by decide) (fun c2 => ?_) (fun c2 => ?_)
  · refine ax_iconst (pc := 25) (v := 1) dX4_isOfKind_25 (by decide) ?_
    refine ax_goto (pc := 26) (tgt := 30) dX4_isOfKind_26 (by decide) ?_
    refine ax_zret (pc := 30) dX4_isOfKind_30 rfl (by first | rfl | exact bi_n) ?_
    exact ⟨_, rfl, by first | exact (if_pos (by simp_all)).symm | exact (if_neg (by simp_all)).symm, rfl⟩
  · refine ax_iload_n (pc := 5) dX4_isOfKind_5 rfl ?_
    refine ax_iconst (pc := 6) (v := 4) dX4_isOfKind_6 (by decide) ?_
    refine ax_icmpne (pc := 7) (tgt := 15) dX4_isOfKind_7 (by decide) (fun c7 => ?_) (fun c7 => ?_)
    · refine ax_iload_n (pc := 15) dX4_isOfKind_15 rfl ?_
      refine ax_iconst (pc := 16) (v := 5) dX4_isOfKind_16 (by decide) ?_
      refine ax_icmpne (pc := 17) (tgt := 29) dX4_isOfKind_17 (by decide) (fun c17 => ?_) (fun c17 => ?_)
      · refine ax_iconst (pc := 29) (v := 0) dX4_isOfKind_29 (by decide) ?_
        refine ax_zret (pc := 30) dX4_isOfKind_30 rfl (by first | rfl | exact bi_n) ?_
        exact ⟨_, rfl, by first | exact (if_pos (by simp_all)).symm | exact (if_neg (by simp_all)).symm, rfl⟩
      · refine ax_iload_n (pc := 20) dX4_isOfKind_20 rfl ?_
        refine ax_iconst (pc := 21) (v := 3) dX4_isOfKind_21 (by decide) ?_
        refine ax_icmpne (pc := 22) (tgt := 29) dX4_isOfKind_22 (by decide) (fun c22 => ?_) (fun c22 => ?_)
        · refine ax_iconst (pc := 29) (v := 0) dX4_isOfKind_29 (by decide) ?_
          refine ax_zret (pc := 30) dX4_isOfKind_30 rfl (by first | rfl | exact bi_n) ?_
          exact ⟨_, rfl, by first | exact (if_pos (by simp_all)).symm | exact (if_neg (by simp_all)).symm, rfl⟩
        · refine ax_iconst (pc := 25) (v := 1) dX4_isOfKind_25 (by decide) ?_
          refine ax_goto (pc := 26) (tgt := 30) dX4_isOfKind_26 (by decide) ?_
          refine ax_zret (pc := 30) dX4_isOfKind_30 rfl (by first | rfl | exact bi_n) ?_
          exact ⟨_, rfl, by first | exact (if_pos (by simp_all)).symm | exact (if_neg (by simp_all)).symm, rfl⟩
    · refine ax_iload_n (pc := 10) dX4_isOfKind_10 rfl ?_
      refine ax_iconst (pc := 11) (v := 1) dX4_isOfKind_11 (by decide) ?_
      refine ax_icmpeq (pc := 12) (tgt := 25) dX4_isOfKind_12 (by decide) (fun c12 => ?_) (fun c12 => ?_)
      · refine ax_iconst (pc := 25) (v := 1) dX4_isOfKind_25 (by decide) ?_
        refine ax_goto (pc := 26) (tgt := 30) dX4_isOfKind_26 (by decide) ?_
        refine ax_zret (pc := 30) dX4_isOfKind_30 rfl (by first | rfl | exact bi_n) ?_
        exact ⟨_, rfl, by first | exact (if_pos (by simp_all)).symm | exact (if_neg (by simp_all)).symm, rfl⟩
      · refine ax_iload_n (pc := 15) dX4_isOfKind_15 rfl ?_
        refine ax_iconst (pc := 16) (v := 5) dX4_isOfKind_16 (by decide) ?_
        refine ax_icmpne (pc := 17) (tgt := 29) dX4_isOfKind_17 (by decide) (fun c17 => ?_) (fun c17 => ?_)
        · refine ax_iconst (pc := 29) (v := 0) dX4_isOfKind_29 (by decide) ?_
          refine ax_zret (pc := 30) dX4_isOfKind_30 rfl (by first | rfl | exact bi_n) ?_
          exact ⟨_, rfl, by first | exact (if_pos (by simp_all)).symm | exact (if_neg (by simp_all)).symm, rfl⟩
        · refine ax_iload_n (pc := 20) dX4_isOfKind_20 rfl ?_
          refine ax_iconst (pc := 21) (v := 3) dX4_isOfKind_21 (by decide) ?_
          refine ax_icmpne (pc := 22) (tgt := 29) dX4_isOfKind_22 (by decide) (fun c22 => ?_) (fun c22 => ?_)
          · refine ax_iconst (pc := 29) (v := 0) dX4_isOfKind_29 (by decide) ?_
            refine ax_zret (pc := 30) dX4_isOfKind_30 rfl (by first | rfl | exact bi_n) ?_
            exact ⟨_, rfl, by first | exact (if_pos (by simp_all)).symm | exact (if_neg (by simp_all)).symm, rfl⟩
          · refine ax_iconst (pc := 25) (v := 1) dX4_isOfKind_25 (by decide) ?_
            refine ax_goto (pc := 26) (tgt := 30) dX4_isOfKind_26 (by decide) ?_
            refine ax_zret (pc := 30) dX4_isOfKind_30 rfl (by first | rfl | exact bi_n) ?_
            exact ⟨_, rfl, by first | exact (if_pos (by simp_all)).symm | exact (if_neg (by simp_all)).symm, rfl⟩
theorem sp_is_i {k q : Nat} (hk : k < 6) (hq : q < 6) : (nI k = nI q ∨ (nI k = 4 ∧ nI q = 1) ∨ (nI k = 5 ∧ nI q = 3)) ↔ sp_is k q = true := by
  rw [nI_eq (by omega) (by omega), n_4, n_1, n_5, n_3, nI_eq (by omega) (by decide), nI_eq (by omega) (by decide), nI_eq (by omega) (by decide), nI_eq (by omega) (by decide)]
  unfold sp_is
  simp only [Bool.or_eq_true, Bool.and_eq_true, beq_iff_eq, or_assoc]
theorem sp_let_o {c : Int32} (h : c.toInt < 100 ∨ 114 < c.toInt) : sp_let c = -9 := by
  have ne : ∀ v : Int32, 100 ≤ v.toInt → v.toInt ≤ 114 → ¬ c = v := fun v h1 h2 e => by rw [e] at h; omega
  unfold sp_let
  rw [if_neg (ne _ (by decide) (by decide)), if_neg (ne _ (by decide) (by decide)), if_neg (ne _ (by decide) (by decide)), if_neg (ne _ (by decide) (by decide)), if_neg (ne _ (by decide) (by decide)), if_neg (ne _ (by decide) (by decide))]
def sp_cn (K : Nat → Nat) (q : Nat) : Nat → Nat
  | 0 => 0
  | n + 1 => sp_cn K q n + (if sp_is (K n) q = true then 1 else 0)
theorem sp_cn_le (K : Nat → Nat) (q n : Nat) : sp_cn K q n ≤ n := by
  induction n with
  | zero => exact Nat.le_refl _
  | succ n ih => unfold sp_cn; split <;> omega
set_option maxHeartbeats 4000000 in
set_option maxRecDepth 100000 in
theorem c_X4_kindByLetter (dom : List Nat) (h : mh_H) (c : Int32) : Mt mX4_kindByLetter dom 0 [.int c] h (mx_Ri (fun v' h' => v' = sp_let c ∧ h' = h)) := by
  refine Mt.of (L := [some (.int c)]) rfl (Nat.le_of_ble_eq_true rfl) rfl ?_
  refine ax_iload_n (pc := 0) dX4_kindByLetter_0 rfl ?_
  rcases (show (c.toInt < 100 ∨ 114 < c.toInt) ∨ c.toInt = 100 ∨ c.toInt = 101 ∨ c.toInt = 102 ∨ c.toInt = 103 ∨ c.toInt = 104 ∨ c.toInt = 105 ∨ c.toInt = 106 ∨ c.toInt = 107 ∨ c.toInt = 108 ∨ c.toInt = 109 ∨ c.toInt = 110 ∨ c.toInt = 111 ∨ c.toInt = 112 ∨ c.toInt = 113 ∨ c.toInt = 114 by omega) with hr | e | e | e | e | e | e | e | e | e | e | e | e | e | e | e
  · refine ax_tswOut (tgt := 88) dX4_kindByLetter_1 hr (by decide) ?_
    refine ax_bipush (pc := 88) (v := -9) dX4_kindByLetter_88 (by decide) ?_
    refine ax_iret (pc := 90) dX4_kindByLetter_90 rfl ?_
    first | exact ⟨_, rfl, by decide, rfl⟩ | exact ⟨_, rfl, (sp_let_o hr).symm, rfl⟩
  · obtain rfl : c = 100 := Int32.toInt_inj.mp (e.trans (by decide))
    refine ax_tswIn (tgt := 76) dX4_kindByLetter_1 (by decide) (by decide) rfl (by decide) ?_
    refine ax_iconst (pc := 76) (v := 0) dX4_kindByLetter_76 (by decide) ?_
    refine ax_iret (pc := 77) dX4_kindByLetter_77 rfl ?_
    first | exact ⟨_, rfl, by decide, rfl⟩ | exact ⟨_, rfl, (sp_let_o hr).symm, rfl⟩
  · obtain rfl : c = 101 := Int32.toInt_inj.mp (e.trans (by decide))
    refine ax_tswIn (tgt := 84) dX4_kindByLetter_1 (by decide) (by decide) rfl (by decide) ?_
    refine ax_iconst (pc := 84) (v := 4) dX4_kindByLetter_84 (by decide) ?_
    refine ax_iret (pc := 85) dX4_kindByLetter_85 rfl ?_
    first | exact ⟨_, rfl, by decide, rfl⟩ | exact ⟨_, rfl, (sp_let_o hr).symm, rfl⟩
  · obtain rfl : c = 102 := Int32.toInt_inj.mp (e.trans (by decide))
    refine ax_tswIn (tgt := 78) dX4_kindByLetter_1 (by decide) (by decide) rfl (by decide) ?_
    refine ax_iconst (pc := 78) (v := 1) dX4_kindByLetter_78 (by decide) ?_
    refine ax_iret (pc := 79) dX4_kindByLetter_79 rfl ?_
    first | exact ⟨_, rfl, by decide, rfl⟩ | exact ⟨_, rfl, (sp_let_o hr).symm, rfl⟩
  · obtain rfl : c = 103 := Int32.toInt_inj.mp (e.trans (by decide))
    refine ax_tswIn (tgt := 88) dX4_kindByLetter_1 (by decide) (by decide) rfl (by decide) ?_
    refine ax_bipush (pc := 88) (v := -9) dX4_kindByLetter_88 (by decide) ?_
    refine ax_iret (pc := 90) dX4_kindByLetter_90 rfl ?_
    first | exact ⟨_, rfl, by decide, rfl⟩ | exact ⟨_, rfl, (sp_let_o hr).symm, rfl⟩
  · obtain rfl : c = 104 := Int32.toInt_inj.mp (e.trans (by decide))
    refine ax_tswIn (tgt := 86) dX4_kindByLetter_1 (by decide) (by decide) rfl (by decide) ?_
    refine ax_iconst (pc := 86) (v := 5) dX4_kindByLetter_86 (by decide) ?_
    refine ax_iret (pc := 87) dX4_kindByLetter_87 rfl ?_
    first | exact ⟨_, rfl, by decide, rfl⟩ | exact ⟨_, rfl, (sp_let_o hr).symm, rfl⟩
  · obtain rfl : c = 105 := Int32.toInt_inj.mp (e.trans (by decide))
    refine ax_tswIn (tgt := 88) dX4_kindByLetter_1 (by decide) (by decide) rfl (by decide) ?_
    refine ax_bipush (pc := 88) (v := -9) dX4_kindByLetter_88 (by decide) ?_
    refine ax_iret (pc := 90) dX4_kindByLetter_90 rfl ?_
    first | exact ⟨_, rfl, by decide, rfl⟩ | exact ⟨_, rfl, (sp_let_o hr).symm, rfl⟩
  · obtain rfl : c = 106 := Int32.toInt_inj.mp (e.trans (by decide))
    refine ax_tswIn (tgt := 88) dX4_kindByLetter_1 (by decide) (by decide) rfl (by decide) ?_
    refine ax_bipush (pc := 88) (v := -9) dX4_kindByLetter_88 (by decide) ?_
    refine ax_iret (pc := 90) dX4_kindByLetter_90 rfl ?_
    first | exact ⟨_, rfl, by decide, rfl⟩ | exact ⟨_, rfl, (sp_let_o hr).symm, rfl⟩
  · obtain rfl : c = 107 := Int32.toInt_inj.mp (e.trans (by decide))
    refine ax_tswIn (tgt := 88) dX4_kindByLetter_1 (by decide) (by decide) rfl (by decide) ?_
    refine ax_bipush (pc := 88) (v := -9) dX4_kindByLetter_88 (by decide) ?_
    refine ax_iret (pc := 90) dX4_kindByLetter_90 rfl ?_
    first | exact ⟨_, rfl, by decide, rfl⟩ | exact ⟨_, rfl, (sp_let_o hr).symm, rfl⟩
  · obtain rfl : c = 108 := Int32.toInt_inj.mp (e.trans (by decide))
    refine ax_tswIn (tgt := 88) dX4_kindByLetter_1 (by decide) (by decide) rfl (by decide) ?_
    refine ax_bipush (pc := 88) (v := -9) dX4_kindByLetter_88 (by decide) ?_
    refine ax_iret (pc := 90) dX4_kindByLetter_90 rfl ?_
    first | exact ⟨_, rfl, by decide, rfl⟩ | exact ⟨_, rfl, (sp_let_o hr).symm, rfl⟩
  · obtain rfl : c = 109 := Int32.toInt_inj.mp (e.trans (by decide))
    refine ax_tswIn (tgt := 88) dX4_kindByLetter_1 (by decide) (by decide) rfl (by decide) ?_
    refine ax_bipush (pc := 88) (v := -9) dX4_kindByLetter_88 (by decide) ?_
    refine ax_iret (pc := 90) dX4_kindByLetter_90 rfl ?_
    first | exact ⟨_, rfl, by decide, rfl⟩ | exact ⟨_, rfl, (sp_let_o hr).symm, rfl⟩
  · obtain rfl : c = 110 := Int32.toInt_inj.mp (e.trans (by decide))
    refine ax_tswIn (tgt := 88) dX4_kindByLetter_1 (by decide) (by decide) rfl (by decide) ?_
    refine ax_bipush (pc := 88) (v := -9) dX4_kindByLetter_88 (by decide) ?_
    refine ax_iret (pc := 90) dX4_kindByLetter_90 rfl ?_
    first | exact ⟨_, rfl, by decide, rfl⟩ | exact ⟨_, rfl, (sp_let_o hr).symm, rfl⟩
  · obtain rfl : c = 111 := Int32.toInt_inj.mp (e.trans (by decide))
    refine ax_tswIn (tgt := 88) dX4_kindByLetter_1 (by decide) (by decide) rfl (by decide) ?_
    refine ax_bipush (pc := 88) (v := -9) dX4_kindByLetter_88 (by decide) ?_
    refine ax_iret (pc := 90) dX4_kindByLetter_90 rfl ?_
    first | exact ⟨_, rfl, by decide, rfl⟩ | exact ⟨_, rfl, (sp_let_o hr).symm, rfl⟩
  · obtain rfl : c = 112 := Int32.toInt_inj.mp (e.trans (by decide))
    refine ax_tswIn (tgt := 82) dX4_kindByLetter_1 (by decide) (by decide) rfl (by decide) ?_
    refine ax_iconst (pc := 82) (v := 3) dX4_kindByLetter_82 (by decide) ?_
    refine ax_iret (pc := 83) dX4_kindByLetter_83 rfl ?_
    first | exact ⟨_, rfl, by decide, rfl⟩ | exact ⟨_, rfl, (sp_let_o hr).symm, rfl⟩
  · obtain rfl : c = 113 := Int32.toInt_inj.mp (e.trans (by decide))
    refine ax_tswIn (tgt := 88) dX4_kindByLetter_1 (by decide) (by decide) rfl (by decide) ?_
    refine ax_bipush (pc := 88) (v := -9) dX4_kindByLetter_88 (by decide) ?_
    refine ax_iret (pc := 90) dX4_kindByLetter_90 rfl ?_
    first | exact ⟨_, rfl, by decide, rfl⟩ | exact ⟨_, rfl, (sp_let_o hr).symm, rfl⟩
  · obtain rfl : c = 114 := Int32.toInt_inj.mp (e.trans (by decide))
    refine ax_tswIn (tgt := 80) dX4_kindByLetter_1 (by decide) (by decide) rfl (by decide) ?_
    refine ax_iconst (pc := 80) (v := 2) dX4_kindByLetter_80 (by decide) ?_
    refine ax_iret (pc := 81) dX4_kindByLetter_81 rfl ?_
    first | exact ⟨_, rfl, by decide, rfl⟩ | exact ⟨_, rfl, (sp_let_o hr).symm, rfl⟩
set_option maxHeartbeats 4000000 in
set_option maxRecDepth 100000 in
theorem l_X0_howMany (dom : List Nat) (h : mh_H) (D : sp_D) (fi a ka fa ra q : Nat) (hD : dyP D fi a ka fa ra h) (hq : q < 6) (hn : D.1 ≤ 9) (hK : ∀ j, j < 9 → D.2.1 j < 6) : ∀ (nn j : Nat), j + nn = D.1 → At mX0_howManyOf dom 1 4 [some (.ref a), some (.int (nI q)), some (.int (nI (sp_cn D.2.1 q j))), some (.int (nI j))] [] h (mx_Ri (fun v' h' => v' = nI (sp_cn D.2.1 q D.1) ∧ h' = h)) := by
  intro nn
  induction nn with
  | zero =>
    intro j hj
    have hj : j = D.1 := by omega
    subst hj
    refine ax_iload_n (pc := 4) dX0_howManyOf_4 rfl ?_
    refine ax_aload_n (pc := 5) dX0_howManyOf_5 rfl ?_
    refine ax_getf (pc := 6) fX0_21 dX0_howManyOf_6 (by first | exact hD.1 | exact hD.2.1) rfl ?_
    refine ax_icmpge (pc := 9) (tgt := 34) dX0_howManyOf_9 (by decide) (fun _ => ?_) (fun q => absurd (nI_le (Nat.le_refl _) (by omega)) q)
    refine ax_iload_n (pc := 34) dX0_howManyOf_34 rfl ?_
    refine ax_iret (pc := 35) dX0_howManyOf_35 rfl ?_
    exact ⟨_, rfl, rfl, rfl⟩
  | succ nn ih =>
    intro j hj
    have hlt : j < D.1 := by omega
    refine ax_iload_n (pc := 4) dX0_howManyOf_4 rfl ?_
    refine ax_aload_n (pc := 5) dX0_howManyOf_5 rfl ?_
    refine ax_getf (pc := 6) fX0_21 dX0_howManyOf_6 (by first | exact hD.1 | exact hD.2.1) rfl ?_
    refine ax_icmpge (pc := 9) (tgt := 34) dX0_howManyOf_9 (by decide) (fun q => absurd q (nI_ge hlt (by omega))) (fun _ => ?_)
    refine ax_aload_n (pc := 12) dX0_howManyOf_12 rfl ?_
    refine ax_getf (pc := 13) fX0_9 dX0_howManyOf_13 (by first | exact hD.1 | exact hD.2.1) rfl ?_
    refine ax_iload_n (pc := 16) dX0_howManyOf_16 rfl ?_
    refine ax_iald (pc := 17) dX0_howManyOf_17 (by first | exact hD.1 | exact hD.2.1) (ni_in9 (by omega) (by decide)) ?_
    refine ax_iload_n (pc := 18) dX0_howManyOf_18 rfl ?_
    refine ax_eNi2 (pc := 19) nX0_50 dX0_howManyOf_19 (by decide) (Nat.le_of_ble_eq_true rfl) (c_X4_isOfKind _ _ _ _) ?_
    refine ax_ifeqB (pc := 22) (tgt := 28) dX0_howManyOf_22 (by decide) (fun c22 => ?_) (fun c22 => ?_)
    · refine ax_inc3p1 (pc := 28) dX0_howManyOf_28 rfl (by decide) ?_
      refine ax_goto (pc := 31) (tgt := 4) dX0_howManyOf_31 (by decide) ?_
      rw [ni_cl (by omega), sp_is_i (hK j (by omega)) hq] at c22
      have e2 : sp_cn D.2.1 q (j + 1) = sp_cn D.2.1 q j + (if sp_is (D.2.1 j) q = true then 1 else 0) := rfl
      first | rw [if_pos c22] at e2 | rw [if_neg c22] at e2
      first | rw [nI_1, nI_1, ← e2] | rw [nI_1, show sp_cn D.2.1 q j = sp_cn D.2.1 q (j + 1) from e2.symm]
      exact ih (j + 1) (by omega)
    · refine ax_inc2p1 (pc := 25) dX0_howManyOf_25 rfl (by decide) ?_
      refine ax_inc3p1 (pc := 28) dX0_howManyOf_28 rfl (by decide) ?_
      refine ax_goto (pc := 31) (tgt := 4) dX0_howManyOf_31 (by decide) ?_
      rw [ni_cl (by omega), sp_is_i (hK j (by omega)) hq] at c22
      have e2 : sp_cn D.2.1 q (j + 1) = sp_cn D.2.1 q j + (if sp_is (D.2.1 j) q = true then 1 else 0) := rfl
      first | rw [if_pos c22] at e2 | rw [if_neg c22] at e2
      first | rw [nI_1, nI_1, ← e2] | rw [nI_1, show sp_cn D.2.1 q j = sp_cn D.2.1 q (j + 1) from e2.symm]
      exact ih (j + 1) (by omega)
set_option maxHeartbeats 4000000 in
set_option maxRecDepth 100000 in
theorem c_X0_howManyOf (dom : List Nat) (h : mh_H) (D : sp_D) (fi a ka fa ra q : Nat) (hD : dyP D fi a ka fa ra h) (hq : q < 6) (hn : D.1 ≤ 9) (hK : ∀ j, j < 9 → D.2.1 j < 6) : Mt mX0_howManyOf dom 1 [.ref a, .int (nI q)] h (mx_Ri (fun v' h' => v' = nI (sp_cn D.2.1 q D.1) ∧ h' = h)) := by
  refine Mt.of (L := [some (.ref a), some (.int (nI q)), none, none]) rfl (Nat.le_of_ble_eq_true rfl) rfl ?_
  refine ax_iconst (pc := 0) (v := 0) dX0_howManyOf_0 (by decide) ?_
  refine ax_istore2 (pc := 1) dX0_howManyOf_1 rfl (by decide) ?_
  refine ax_iconst (pc := 2) (v := 0) dX0_howManyOf_2 (by decide) ?_
  refine ax_istore3 (pc := 3) dX0_howManyOf_3 rfl (by decide) ?_
  exact l_X0_howMany dom h D fi a ka fa ra q hD hq hn hK D.1 0 (by omega)
