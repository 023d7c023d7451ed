theorem fin_i {P : Int32 × sg} {v : Int32} {s' : sg} {h' : mh_H} (e : P = (v, s')) (c : CP s' h') : mx_Ri (fun v' h' => v' = P.1 ∧ CP P.2 h') (some (.int v)) h' := ⟨v, rfl, by rw [e], by rw [e]; exact c⟩
theorem fin_v {P : Int32 × sg} {v v2 : Int32} {s' : sg} {h' : mh_H} (e : P = (v2, s')) (c : CP s' h') (hv : v = v2) : mx_Ri (fun v' h' => v' = P.1 ∧ CP P.2 h') (some (.int v)) h' := ⟨v, rfl, by rw [e]; exact hv, by rw [e]; exact c⟩
theorem ix_5 {r : Int32} (h : 0 ≤ r ∧ r ≤ 5) : ∃ j, j < 6 ∧ r = nI j := by
  obtain ⟨j, h1, h2⟩ := nI_of2 (n := 5) (M := 5) rfl (Int32.not_lt.mpr h.1) h.2
  exact ⟨j, by omega, h2⟩
theorem ix_3 {r : Int32} (h : 0 ≤ r ∧ r ≤ 3) : ∃ j, j < 4 ∧ r = nI j := by
  obtain ⟨j, h1, h2⟩ := nI_of2 (n := 3) (M := 3) rfl (Int32.not_lt.mpr h.1) h.2
  exact ⟨j, by omega, h2⟩
theorem ix_2 {r : Int32} (h : 0 ≤ r ∧ r ≤ 2) : ∃ j, j < 3 ∧ r = nI j := by
  obtain ⟨j, h1, h2⟩ := nI_of2 (n := 2) (M := 2) rfl (Int32.not_lt.mpr h.1) h.2
  exact ⟨j, by omega, h2⟩
def sp_row (s : sg) (r n : Int32) : Int32 × sg := if ¬ (0 ≤ r ∧ r ≤ 5) ∨ 40 < n then (-1, s) else if n < 0 then (-3, u_fnd s 5) else (n, u_rows s (va_fn (s_rz s) r.toNatClampNeg n) (va_fn (s_rc s) r.toNatClampNeg (sl_fil (s_rc s r.toNatClampNeg) n.toNatClampNeg 0)))
def sp_lay (s : sg) (r i v : Int32) : Int32 × sg := if ¬ (0 ≤ r ∧ r ≤ 5) then (-1, s) else if s_rz s r.toNatClampNeg < 0 then (-3, u_fnd s 1) else if ¬ (0 ≤ i ∧ i ≤ s_rz s r.toNatClampNeg - 1) then (-3, u_fnd s 2) else (1, u_rows (u_ask s (s_rc s r.toNatClampNeg i.toNatClampNeg)) (s_rz s) (va_fn (s_rc s) r.toNatClampNeg (upd (s_rc s r.toNatClampNeg) i.toNatClampNeg v)))
def sp_at (s : sg) (r i : Int32) : Int32 × sg := if ¬ (0 ≤ r ∧ r ≤ 5) then (-1, s) else if s_rz s r.toNatClampNeg < 0 then (-3, u_fnd s 1) else if ¬ (0 ≤ i ∧ i ≤ s_rz s r.toNatClampNeg - 1) then (-3, u_fnd s 2) else (1, u_ask s (s_rc s r.toNatClampNeg i.toNatClampNeg))
def sp_tear (s : sg) (r : Int32) : Int32 × sg := if ¬ (0 ≤ r ∧ r ≤ 5) then (-1, s) else if s_rz s r.toNatClampNeg < 0 then (-3, u_fnd s 1) else (1, u_rows s (va_fn (s_rz s) r.toNatClampNeg (-1)) (s_rc s))
/-- a row's part that is there -/
theorem CP_rw {s : sg} {h : mh_H} {r : Nat} {z : Int32} (hr : r < 6) (c : CP s h) : CP (u_rows s (va_fn (s_rz s) r z) (s_rc s)) (mh_up h (20 + r) (mh_ob 2 [.ref (30 + r), .int z])) := by
  have h1 := CP_row (z := z) (q := s_rc s r) hr c
  have e1 : va_fn (s_rc s) r (s_rc s r) = s_rc s := by
    funext j
    unfold va_fn
    split
    · rename_i e; rw [e]
    · rfl
  rw [e1] at h1
  rwa [mh_up_id (k := 30 + r) ((mh_up_n (by omega)).trans (c.2.2.1 r hr).2)] at h1
theorem CP_rq {s : sg} {h : mh_H} {r : Nat} {q : Nat → Int32} (hr : r < 6) (c : CP s h) : CP (u_rows s (s_rz s) (va_fn (s_rc s) r q)) (mh_up h (30 + r) (mh_ia 0 60 q)) := by
  have h1 := CP_row (z := s_rz s r) (q := q) hr c
  have e1 : va_fn (s_rz s) r (s_rz s r) = s_rz s := by
    funext j
    unfold va_fn
    split
    · rename_i e; rw [e]
    · rfl
  rw [e1] at h1
  rwa [mh_up_id (k := 20 + r) (c.2.2.1 r hr).1] at h1
set_option maxHeartbeats 4000000 in
set_option maxRecDepth 100000 in
theorem c_X4_found (dom : List Nat) (h : mh_H) (s : sg) (f : Nat) (hf : f < 6) (hc : CP s h) : Mt mX4_found dom 0 [.ref 0, .int (nI f)] h (mx_Ri (fun v' h' => v' = -3 ∧ CP (u_fnd s f) h')) := by
  refine Mt.of (L := [some (.ref 0), some (.int (nI f))]) rfl (Nat.le_of_ble_eq_true rfl) rfl ?_
  obtain ⟨c1, c2, c3, c4, c5, c6, c7, c8, c9⟩ := id hc
  refine ax_aload_n (pc := 0) dX4_found_0 rfl ?_
  refine ax_iload_n (pc := 1) dX4_found_1 rfl ?_
  refine ax_puti12 (pc := 2) gX4_64 dX4_found_2 (by first | exact c1.1 | exact c1.2 | exact c2.1 | exact c2.2.1 | exact c2.2.2.1 | exact c2.2.2.2 | assumption | rfl) ?_
  refine ax_aload_n (pc := 5) dX4_found_5 rfl ?_
  refine ax_getf (pc := 6) fX4_67 dX4_found_6 (by first | exact c1.1 | exact c1.2 | exact c2.1 | exact c2.2.1 | exact c2.2.2.1 | exact c2.2.2.2 | assumption | rfl) rfl ?_
  refine ax_iload_n (pc := 9) dX4_found_9 rfl ?_
  refine ax_dup2 (pc := 10) dX4_found_10 rfl rfl ?_
  refine ax_iald (pc := 11) dX4_found_11 (by first | exact c1.1 | exact c1.2 | exact c2.1 | exact c2.2.1 | exact c2.2.2.1 | exact c2.2.2.2 | assumption | rfl) (ni_in9 hf (by decide)) ?_
  refine ax_iconst (pc := 12) (v := 1) dX4_found_12 (by decide) ?_
  refine ax_iadd (pc := 13) dX4_found_13 ?_
  refine ax_iast (pc := 14) dX4_found_14 (by first | exact c1.1 | exact c1.2 | exact c2.1 | exact c2.2.1 | exact c2.2.2.1 | exact c2.2.2.2 | assumption | rfl) (ni_in9 hf (by decide)) ?_
  refine ax_bipush (pc := 15) (v := -3) dX4_found_15 (by decide) ?_
  refine ax_iret (pc := 17) dX4_found_17 rfl ?_
  rw [ni_cl (by omega)]
  exact ⟨_, rfl, rfl, CP_fnd hc⟩
set_option maxHeartbeats 4000000 in
set_option maxRecDepth 100000 in
theorem c_X4_row (dom : List Nat) (h : mh_H) (s : sg) (r n : Int32) (hc : CP s h) (hv : IV s) : Mt mX4_row dom 2 [.ref 0, .int r, .int n] h (mx_Ri (fun v' h' => v' = (sp_row s r n).1 ∧ CP (sp_row s r n).2 h')) := by
  refine Mt.of (L := [some (.ref 0), some (.int r), some (.int n)]) rfl (Nat.le_of_ble_eq_true rfl) rfl ?_
  obtain ⟨c1, c2, c3, c4, c5, c6, c7, c8, c9⟩ := id hc
  refine ax_iload_n (pc := 0) dX4_row_0 rfl ?_
  refine ax_eSi1 (pc := 1) sX4_75 dX4_row_1 (by decide) (Nat.le_of_ble_eq_true rfl) (c_X4_isRow _ _ _) ?_
  refine ax_ifeqB (pc := 4) (tgt := 13) dX4_row_4 (by decide) (fun c4 => ?_) (fun c4 => ?_)
  · refine ax_iconst (pc := 13) (v := -1) dX4_row_13 (by decide) ?_
    refine ax_iret (pc := 14) dX4_row_14 rfl ?_
    exact fin_i (by unfold sp_row; first | exact if_pos (Or.inl c4) | exact if_pos (Or.inr (Int32.not_le.mp c10))) hc
  · refine ax_iload_n (pc := 7) dX4_row_7 rfl ?_
    refine ax_bipush (pc := 8) (v := 40) dX4_row_8 (by decide) ?_
    refine ax_icmple (pc := 10) (tgt := 15) dX4_row_10 (by decide) (fun c10 => ?_) (fun c10 => ?_)
    · refine ax_iload_n (pc := 15) dX4_row_15 rfl ?_
      refine ax_ifge (pc := 16) (tgt := 25) dX4_row_16 (by decide) (fun c16 => ?_) (fun c16 => ?_)
      · obtain ⟨j, hj, rfl⟩ := ix_5 c4
        obtain ⟨k, hk, rfl⟩ := nI_of2 (n := 40) (M := 40) rfl (Int32.not_lt.mpr c16) c10
        refine ax_aload_n (pc := 25) dX4_row_25 rfl ?_
        refine ax_getf (pc := 26) fX4_11 dX4_row_26 (by first | exact c1.1 | exact c1.2 | exact c2.1 | exact c2.2.1 | exact c2.2.2.1 | exact c2.2.2.2 | assumption | rfl) rfl ?_
        refine ax_iload_n (pc := 29) dX4_row_29 rfl ?_
        refine ax_aald (pc := 30) dX4_row_30 (by first | exact c1.1 | exact c1.2 | exact c2.1 | exact c2.2.1 | exact c2.2.2.1 | exact c2.2.2.2 | assumption | rfl) (by decide) (ni_in9 hj (by decide)) (by rw [ni_cl (by omega)]) ?_
        refine ax_iload_n (pc := 31) dX4_row_31 rfl ?_
        refine ax_iconst (pc := 32) (v := 0) dX4_row_32 (by decide) ?_
        refine ax_eVv2 (pc := 33) vX4_83 dX4_row_33 (by decide) (c3 j hj).1 (Nat.le_of_ble_eq_true rfl) (c_X2_make _ _ (20 + j) (30 + j) k _ 0 _ (c3 j hj).1 (c3 j hj).2 (by omega)) ?_
        refine ax_iload_n (pc := 36) dX4_row_36 rfl ?_
        refine ax_iret (pc := 37) dX4_row_37 rfl ?_
        refine fin_i (by unfold sp_row; rw [if_neg (by rintro (q | q); exact q c4; exact absurd c10 (Int32.not_le.mpr q)), if_neg (Int32.not_lt.mpr c16), ni_cl (by omega), ni_cl (by omega)]) ?_
        exact CP_row hj hc
      · refine ax_aload_n (pc := 19) dX4_row_19 rfl ?_
        refine ax_iconst (pc := 20) (v := 5) dX4_row_20 (by decide) ?_
        refine ax_cVi1 (pc := 21) vX4_79 dX4_row_21 (by decide) (by first | exact c1.1 | exact c1.2 | exact c2.1 | exact c2.2.1 | exact c2.2.2.1 | exact c2.2.2.2 | assumption | rfl) (Nat.le_of_ble_eq_true rfl) (c_X4_found _ _ s 5 (by decide) hc) (fun v1 h1 hq => ?_)
        obtain ⟨rfl, hq⟩ := hq
        refine ax_iret (pc := 24) dX4_row_24 rfl ?_
        exact fin_i (by unfold sp_row; rw [if_neg (by rintro (q | q); exact q c4; exact absurd c10 (Int32.not_le.mpr q)), if_pos (Int32.not_le.mp c16)]) hq
    · refine ax_iconst (pc := 13) (v := -1) dX4_row_13 (by decide) ?_
      refine ax_iret (pc := 14) dX4_row_14 rfl ?_
      exact fin_i (by unfold sp_row; first | exact if_pos (Or.inl c4) | exact if_pos (Or.inr (Int32.not_le.mp c10))) hc
/-- a place that there is -/
theorem pl_in {z i : Int32} {M : Nat} (hz : z = -1 ∨ ∃ m, m ≤ M ∧ z = nI m) (hM : M < 100) (h1 : ¬ z < 0) (h2 : 0 ≤ i ∧ i ≤ z - 1) : ∃ m k, m ≤ M ∧ z = nI m ∧ k < m ∧ i = nI k := by
  rcases hz with rfl | ⟨m, hm, rfl⟩
  · exact absurd (by decide) h1
  · obtain ⟨k, hk, rfl⟩ := nI_of (Int32.not_lt.mpr h2.1)
    cases m with
    | zero => exact absurd h2 (by rintro ⟨a, b⟩; exact absurd (Int32.le_trans a b) (by decide))
    | succ m =>
      have h3 := h2.2
      rw [n_1, nI_s (by omega), nI_leI hk (by omega)] at h3
      exact ⟨m + 1, k, hm, rfl, by omega, rfl⟩
set_option maxHeartbeats 4000000 in
set_option maxRecDepth 100000 in
theorem c_X4_lay (dom : List Nat) (h : mh_H) (s : sg) (r i v : Int32) (hc : CP s h) (hv : IV s) : Mt mX4_lay dom 2 [.ref 0, .int r, .int i, .int v] h (mx_Ri (fun v' h' => v' = (sp_lay s r i v).1 ∧ CP (sp_lay s r i v).2 h')) := by
  refine Mt.of (L := [some (.ref 0), some (.int r), some (.int i), some (.int v), none]) rfl (Nat.le_of_ble_eq_true rfl) rfl ?_
  obtain ⟨c1, c2, c3, c4, c5, c6, c7, c8, c9⟩ := id hc
  refine ax_iload_n (pc := 0) dX4_lay_0 rfl ?_
  refine ax_eSi1 (pc := 1) sX4_75 dX4_lay_1 (by decide) (Nat.le_of_ble_eq_true rfl) (c_X4_isRow _ _ _) ?_
  refine ax_ifneB (pc := 4) (tgt := 9) dX4_lay_4 (by decide) (fun c4 => ?_) (fun c4 => ?_)
  · obtain ⟨j, hj, rfl⟩ := ix_5 c4
    refine ax_aload_n (pc := 9) dX4_lay_9 rfl ?_
    refine ax_getf (pc := 10) fX4_11 dX4_lay_10 (by first | exact c1.1 | exact c1.2 | exact c2.1 | exact c2.2.1 | exact c2.2.2.1 | exact c2.2.2.2 | assumption | rfl) rfl ?_
    refine ax_iload_n (pc := 13) dX4_lay_13 rfl ?_
    refine ax_aald (pc := 14) dX4_lay_14 (by first | exact c1.1 | exact c1.2 | exact c2.1 | exact c2.2.1 | exact c2.2.2.1 | exact c2.2.2.2 | assumption | rfl) (by decide) (ni_in9 hj (by decide)) (by rw [ni_cl (by omega)]) ?_
    refine ax_iload_n (pc := 15) dX4_lay_15 rfl ?_
    refine ax_eSi2 (pc := 16) sX4_87 dX4_lay_16 (by decide) (Nat.le_of_ble_eq_true rfl) (c_X4_missingPlace _ _ (20 + j) (30 + j) _ (c3 j hj).1 _) ?_
    have hm : (s_rz s j < 0) ∨ (¬ s_rz s j < 0 ∧ ¬ (0 ≤ i ∧ i ≤ s_rz s j - 1)) ∨ (¬ s_rz s j < 0 ∧ (0 ≤ i ∧ i ≤ s_rz s j - 1)) := by
      by_cases q1 : s_rz s j < 0
      · exact Or.inl q1
      · by_cases q2 : 0 ≤ i ∧ i ≤ s_rz s j - 1
        · exact Or.inr (Or.inr ⟨q1, q2⟩)
        · exact Or.inr (Or.inl ⟨q1, q2⟩)
    rcases hm with hm | hm | hm
    · rw [if_pos hm]
      refine ax_istore4 (pc := 19) dX4_lay_19 rfl (by decide) ?_
      refine ax_iload (pc := 21) dX4_lay_21 rfl ?_
      refine ax_ifeq (pc := 23) (tgt := 33) dX4_lay_23 (by decide) (fun q => absurd q (by decide : ¬ (1 : Int32) = 0)) (fun _ => ?_)
      refine ax_aload_n (pc := 26) dX4_lay_26 rfl ?_
      refine ax_iload (pc := 27) dX4_lay_27 rfl ?_
      refine ax_cVi1 (pc := 29) vX4_79 dX4_lay_29 (by decide) (by first | exact c1.1 | exact c1.2 | exact c2.1 | exact c2.2.1 | exact c2.2.2.1 | exact c2.2.2.2 | assumption | rfl) (Nat.le_of_ble_eq_true rfl) (c_X4_found _ _ s 1 (by decide) hc) (fun v1 h1 hq => ?_)
      obtain ⟨rfl, hq⟩ := hq
      refine ax_iret (pc := 32) dX4_lay_32 rfl ?_
      exact fin_i (by unfold sp_lay; rw [if_neg (not_not_intro c4), ni_cl (by omega), if_pos hm]) hq
    · rw [if_neg hm.1, if_neg hm.2]
      refine ax_istore4 (pc := 19) dX4_lay_19 rfl (by decide) ?_
      refine ax_iload (pc := 21) dX4_lay_21 rfl ?_
      refine ax_ifeq (pc := 23) (tgt := 33) dX4_lay_23 (by decide) (fun q => absurd q (by decide : ¬ (2 : Int32) = 0)) (fun _ => ?_)
      refine ax_aload_n (pc := 26) dX4_lay_26 rfl ?_
      refine ax_iload (pc := 27) dX4_lay_27 rfl ?_
      refine ax_cVi1 (pc := 29) vX4_79 dX4_lay_29 (by decide) (by first | exact c1.1 | exact c1.2 | exact c2.1 | exact c2.2.1 | exact c2.2.2.1 | exact c2.2.2.2 | assumption | rfl) (Nat.le_of_ble_eq_true rfl) (c_X4_found _ _ s 2 (by decide) hc) (fun v1 h1 hq => ?_)
      obtain ⟨rfl, hq⟩ := hq
      refine ax_iret (pc := 32) dX4_lay_32 rfl ?_
      exact fin_i (by unfold sp_lay; rw [if_neg (not_not_intro c4), ni_cl (by omega), if_neg hm.1, if_pos hm.2]) hq
    · rw [if_neg hm.1, if_pos hm.2]
      refine ax_istore4 (pc := 19) dX4_lay_19 rfl (by decide) ?_
      refine ax_iload (pc := 21) dX4_lay_21 rfl ?_
      refine ax_ifeq (pc := 23) (tgt := 33) dX4_lay_23 (by decide) (fun _ => ?_) (fun q => absurd (rfl : (0 : Int32) = 0) q)
      refine ax_aload_n (pc := 33) dX4_lay_33 rfl ?_
      refine ax_aload_n (pc := 34) dX4_lay_34 rfl ?_
      refine ax_getf (pc := 35) fX4_11 dX4_lay_35 (by first | exact c1.1 | exact c1.2 | exact c2.1 | exact c2.2.1 | exact c2.2.2.1 | exact c2.2.2.2 | assumption | rfl) rfl ?_
      refine ax_iload_n (pc := 38) dX4_lay_38 rfl ?_
      refine ax_aald (pc := 39) dX4_lay_39 (by first | exact c1.1 | exact c1.2 | exact c2.1 | exact c2.2.1 | exact c2.2.2.1 | exact c2.2.2.2 | assumption | rfl) (by decide) (ni_in9 hj (by decide)) (by rw [ni_cl (by omega)]) ?_
      refine ax_getf (pc := 40) fX4_91 dX4_lay_40 (c3 j hj).1 rfl ?_
      refine ax_iload_n (pc := 43) dX4_lay_43 rfl ?_
      refine ax_iald (pc := 44) dX4_lay_44 (c3 j hj).2 (by obtain ⟨m, k, h1, h2, h3, h4⟩ := pl_in (hv.1 j hj) (by decide) hm.1 hm.2; rw [h4]; exact ni_in9 (by omega) (by decide)) ?_
      refine ax_puti9 (pc := 45) gX4_53 dX4_lay_45 (by first | exact c1.1 | exact c1.2 | exact c2.1 | exact c2.2.1 | exact c2.2.2.1 | exact c2.2.2.2 | assumption | rfl) ?_
      refine ax_aload_n (pc := 48) dX4_lay_48 rfl ?_
      refine ax_getf (pc := 49) fX4_11 dX4_lay_49 (by first | exact c1.1 | exact c1.2 | exact c2.1 | exact c2.2.1 | exact c2.2.2.1 | exact c2.2.2.2 | assumption | rfl) rfl ?_
      refine ax_iload_n (pc := 52) dX4_lay_52 rfl ?_
      refine ax_aald (pc := 53) dX4_lay_53 (by first | exact c1.1 | exact c1.2 | exact c2.1 | exact c2.2.1 | exact c2.2.2.1 | exact c2.2.2.2 | assumption | rfl) (by decide) (ni_in9 hj (by decide)) (by rw [ni_cl (by omega)]) ?_
      refine ax_getf (pc := 54) fX4_91 dX4_lay_54 ((mh_up_n (by omega)).trans (c3 j hj).1) rfl ?_
      refine ax_iload_n (pc := 57) dX4_lay_57 rfl ?_
      refine ax_iload_n (pc := 58) dX4_lay_58 rfl ?_
      refine ax_iast (pc := 59) dX4_lay_59 ((mh_up_n (by omega)).trans (c3 j hj).2) (by obtain ⟨m, k, h1, h2, h3, h4⟩ := pl_in (hv.1 j hj) (by decide) hm.1 hm.2; rw [h4]; exact ni_in9 (by omega) (by decide)) ?_
      refine ax_iconst (pc := 60) (v := 1) dX4_lay_60 (by decide) ?_
      refine ax_iret (pc := 61) dX4_lay_61 rfl ?_
      exact fin_i (by unfold sp_lay; rw [if_neg (not_not_intro c4), ni_cl (by omega), if_neg hm.1, if_neg (not_not_intro hm.2)]; rfl) (CP_rq (s := u_ask s _) hj (CP_ask hc))
  · refine ax_iconst (pc := 7) (v := -1) dX4_lay_7 (by decide) ?_
    refine ax_iret (pc := 8) dX4_lay_8 rfl ?_
    exact fin_i (by unfold sp_lay; exact if_pos c4) hc
set_option maxHeartbeats 4000000 in
set_option maxRecDepth 100000 in
theorem c_X4_at (dom : List Nat) (h : mh_H) (s : sg) (r i : Int32) (hc : CP s h) (hv : IV s) : Mt mX4_at dom 2 [.ref 0, .int r, .int i] h (mx_Ri (fun v' h' => v' = (sp_at s r i).1 ∧ CP (sp_at s r i).2 h')) := by
  refine Mt.of (L := [some (.ref 0), some (.int r), some (.int i), none]) rfl (Nat.le_of_ble_eq_true rfl) rfl ?_
  obtain ⟨c1, c2, c3, c4, c5, c6, c7, c8, c9⟩ := id hc
  refine ax_iload_n (pc := 0) dX4_at_0 rfl ?_
  refine ax_eSi1 (pc := 1) sX4_75 dX4_at_1 (by decide) (Nat.le_of_ble_eq_true rfl) (c_X4_isRow _ _ _) ?_
  refine ax_ifneB (pc := 4) (tgt := 9) dX4_at_4 (by decide) (fun c4 => ?_) (fun c4 => ?_)
  · obtain ⟨j, hj, rfl⟩ := ix_5 c4
    refine ax_aload_n (pc := 9) dX4_at_9 rfl ?_
    refine ax_getf (pc := 10) fX4_11 dX4_at_10 (by first | exact c1.1 | exact c1.2 | exact c2.1 | exact c2.2.1 | exact c2.2.2.1 | exact c2.2.2.2 | assumption | rfl) rfl ?_
    refine ax_iload_n (pc := 13) dX4_at_13 rfl ?_
    refine ax_aald (pc := 14) dX4_at_14 (by first | exact c1.1 | exact c1.2 | exact c2.1 | exact c2.2.1 | exact c2.2.2.1 | exact c2.2.2.2 | assumption | rfl) (by decide) (ni_in9 hj (by decide)) (by rw [ni_cl (by omega)]) ?_
    refine ax_iload_n (pc := 15) dX4_at_15 rfl ?_
    refine ax_eSi2 (pc := 16) sX4_87 dX4_at_16 (by decide) (Nat.le_of_ble_eq_true rfl) (c_X4_missingPlace _ _ (20 + j) (30 + j) _ (c3 j hj).1 _) ?_
    have hm : (s_rz s j < 0) ∨ (¬ s_rz s j < 0 ∧ ¬ (0 ≤ i ∧ i ≤ s_rz s j - 1)) ∨ (¬ s_rz s j < 0 ∧ (0 ≤ i ∧ i ≤ s_rz s j - 1)) := by
      by_cases q1 : s_rz s j < 0
      · exact Or.inl q1
      · by_cases q2 : 0 ≤ i ∧ i ≤ s_rz s j - 1
        · exact Or.inr (Or.inr ⟨q1, q2⟩)
        · exact Or.inr (Or.inl ⟨q1, q2⟩)
    rcases hm with hm | hm | hm
    · rw [if_pos hm]
      refine ax_istore3 (pc := 19) dX4_at_19 rfl (by decide) ?_
      refine ax_iload_n (pc := 20) dX4_at_20 rfl ?_
      refine ax_ifeq (pc := 21) (tgt := 30) dX4_at_21 (by decide) (fun q => absurd q (by decide : ¬ (1 : Int32) = 0)) (fun _ => ?_)
      refine ax_aload_n (pc := 24) dX4_at_24 rfl ?_
      refine ax_iload_n (pc := 25) dX4_at_25 rfl ?_
      refine ax_cVi1 (pc := 26) vX4_79 dX4_at_26 (by decide) (by first | exact c1.1 | exact c1.2 | exact c2.1 | exact c2.2.1 | exact c2.2.2.1 | exact c2.2.2.2 | assumption | rfl) (Nat.le_of_ble_eq_true rfl) (c_X4_found _ _ s 1 (by decide) hc) (fun v1 h1 hq => ?_)
      obtain ⟨rfl, hq⟩ := hq
      refine ax_iret (pc := 29) dX4_at_29 rfl ?_
      exact fin_i (by unfold sp_at; rw [if_neg (not_not_intro c4), ni_cl (by omega), if_pos hm]) hq
    · rw [if_neg hm.1, if_neg hm.2]
      refine ax_istore3 (pc := 19) dX4_at_19 rfl (by decide) ?_
      refine ax_iload_n (pc := 20) dX4_at_20 rfl ?_
      refine ax_ifeq (pc := 21) (tgt := 30) dX4_at_21 (by decide) (fun q => absurd q (by decide : ¬ (2 : Int32) = 0)) (fun _ => ?_)
      refine ax_aload_n (pc := 24) dX4_at_24 rfl ?_
      refine ax_iload_n (pc := 25) dX4_at_25 rfl ?_
      refine ax_cVi1 (pc := 26) vX4_79 dX4_at_26 (by decide) (by first | exact c1.1 | exact c1.2 | exact c2.1 | exact c2.2.1 | exact c2.2.2.1 | exact c2.2.2.2 | assumption | rfl) (Nat.le_of_ble_eq_true rfl) (c_X4_found _ _ s 2 (by decide) hc) (fun v1 h1 hq => ?_)
      obtain ⟨rfl, hq⟩ := hq
      refine ax_iret (pc := 29) dX4_at_29 rfl ?_
      exact fin_i (by unfold sp_at; rw [if_neg (not_not_intro c4), ni_cl (by omega), if_neg hm.1, if_pos hm.2]) hq
    · rw [if_neg hm.1, if_pos hm.2]
      refine ax_istore3 (pc := 19) dX4_at_19 rfl (by decide) ?_
      refine ax_iload_n (pc := 20) dX4_at_20 rfl ?_
      refine ax_ifeq (pc := 21) (tgt := 30) dX4_at_21 (by decide) (fun _ => ?_) (fun q => absurd (rfl : (0 : Int32) = 0) q)
      refine ax_aload_n (pc := 30) dX4_at_30 rfl ?_
      refine ax_aload_n (pc := 31) dX4_at_31 rfl ?_
      refine ax_getf (pc := 32) fX4_11 dX4_at_32 (by first | exact c1.1 | exact c1.2 | exact c2.1 | exact c2.2.1 | exact c2.2.2.1 | exact c2.2.2.2 | assumption | rfl) rfl ?_
      refine ax_iload_n (pc := 35) dX4_at_35 rfl ?_
      refine ax_aald (pc := 36) dX4_at_36 (by first | exact c1.1 | exact c1.2 | exact c2.1 | exact c2.2.1 | exact c2.2.2.1 | exact c2.2.2.2 | assumption | rfl) (by decide) (ni_in9 hj (by decide)) (by rw [ni_cl (by omega)]) ?_
      refine ax_getf (pc := 37) fX4_91 dX4_at_37 (c3 j hj).1 rfl ?_
      refine ax_iload_n (pc := 40) dX4_at_40 rfl ?_
      refine ax_iald (pc := 41) dX4_at_41 (c3 j hj).2 (by obtain ⟨m, k, h1, h2, h3, h4⟩ := pl_in (hv.1 j hj) (by decide) hm.1 hm.2; rw [h4]; exact ni_in9 (by omega) (by decide)) ?_
      refine ax_puti9 (pc := 42) gX4_53 dX4_at_42 (by first | exact c1.1 | exact c1.2 | exact c2.1 | exact c2.2.1 | exact c2.2.2.1 | exact c2.2.2.2 | assumption | rfl) ?_
      refine ax_iconst (pc := 45) (v := 1) dX4_at_45 (by decide) ?_
      refine ax_iret (pc := 46) dX4_at_46 rfl ?_
      exact fin_i (by unfold sp_at; rw [if_neg (not_not_intro c4), ni_cl (by omega), if_neg hm.1, if_neg (not_not_intro hm.2)]) (CP_ask hc)
  · refine ax_iconst (pc := 7) (v := -1) dX4_at_7 (by decide) ?_
    refine ax_iret (pc := 8) dX4_at_8 rfl ?_
    exact fin_i (by unfold sp_at; exact if_pos c4) hc
