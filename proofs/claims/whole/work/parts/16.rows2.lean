theorem sb_toInt {m k : Nat} (hm : m < 2 ^ 30) (hk : k < 2 ^ 31) : (nI m - nI k).toInt = (m : Int) - k := by
  rw [Int32.toInt_sub, nI_toInt (by omega), nI_toInt hk]
  exact Int.bmod_eq_of_le (by omega) (by omega)
theorem has_in {z i n : Int32} {M : Nat} (hz : z = -1 ∨ ∃ m, m ≤ M ∧ z = nI m) (hM : M < 100) (h1 : ¬ z < 0) (hn : ¬ n < 0) (h2 : 0 ≤ i ∧ i ≤ z - n) : ∃ m k a, m ≤ M ∧ z = nI m ∧ n = nI k ∧ i = nI a ∧ a + k ≤ m := by
  rcases hz with rfl | ⟨m, hm, rfl⟩
  · exact absurd (by decide) h1
  · obtain ⟨k, hk, rfl⟩ := nI_of hn
    obtain ⟨a, ha, rfl⟩ := nI_of (Int32.not_lt.mpr h2.1)
    have h3 := h2.2
    rw [Int32.le_iff_toInt_le, sb_toInt (by omega) hk, nI_toInt ha] at h3
    exact ⟨m, k, a, hm, rfl, rfl, rfl, by omega⟩
theorem z_m {z : Int32} {M : Nat} (hz : z = -1 ∨ ∃ m, m ≤ M ∧ z = nI m) (h1 : ¬ z < 0) : ∃ m, m ≤ M ∧ z = nI m := by
  rcases hz with rfl | h
  · exact absurd (by decide) h1
  · exact h
def sp_copy (s : sg) (r i t j n : Int32) : Int32 × sg := if ¬ (0 ≤ r ∧ r ≤ 5) ∨ ¬ (0 ≤ t ∧ t ≤ 5) then (-1, s) else if n < 0 then (-3, u_fnd s 5) else if s_rz s r.toNatClampNeg < 0 ∨ s_rz s t.toNatClampNeg < 0 then (-3, u_fnd s 1) else if ¬ (0 ≤ i ∧ i ≤ s_rz s r.toNatClampNeg - n) ∨ ¬ (0 ≤ j ∧ j ≤ s_rz s t.toNatClampNeg - n) then (-3, u_fnd s 2) else (1, u_rows s (s_rz s) (va_fn (s_rc s) t.toNatClampNeg (va_cpy (s_rc s r.toNatClampNeg) (s_rc s t.toNatClampNeg) i.toNatClampNeg j.toNatClampNeg n.toNatClampNeg)))
def sp_mean (s : sg) (r : Int32) : Int32 × sg := if ¬ (0 ≤ r ∧ r ≤ 5) then (-1, s) else if s_rz s r.toNatClampNeg < 0 then (-3, u_fnd s 1) else if s_rz s r.toNatClampNeg = 0 then (-3, u_fnd s 4) else (1, u_ask s (sl_sum (s_rc s r.toNatClampNeg) (s_rz s r.toNatClampNeg).toNatClampNeg / (s_rz s r.toNatClampNeg).toInt64).toInt32)
def sp_text (s : sg) (r n : Int32) : Int32 × sg := if ¬ (0 ≤ r ∧ r ≤ 3) ∨ 60 < n then (-1, s) else if n < 0 then (-3, u_fnd s 5) else (n, u_texts s (va_fn (s_tz s) r.toNatClampNeg n) (va_fn (s_tc s) r.toNatClampNeg (sl_fil (s_tc s r.toNatClampNeg) n.toNatClampNeg 32)))
def sp_put (s : sg) (r i v : Int32) : Int32 × sg := if ¬ (0 ≤ r ∧ r ≤ 3) then (-1, s) else if s_tz s r.toNatClampNeg < 0 then (-3, u_fnd s 1) else if ¬ (0 ≤ i ∧ i ≤ s_tz s r.toNatClampNeg - 1) then (-3, u_fnd s 2) else (s_tc s r.toNatClampNeg i.toNatClampNeg + 1000, u_texts s (s_tz s) (va_fn (s_tc s) r.toNatClampNeg (upd (s_tc s r.toNatClampNeg) i.toNatClampNeg v.toInt8.toInt32)))
def sp_fault (s : sg) (r : Int32) : Int32 × sg := if ¬ (0 ≤ r ∧ r ≤ 3) then (-1, s) else if s_tz s r.toNatClampNeg < 0 then (-3, u_fnd s 1) else (sp_ft (s_tc s r.toNatClampNeg) (s_tz s r.toNatClampNeg).toNatClampNeg (s_tz s r.toNatClampNeg).toNatClampNeg 0 0, s)
theorem CP_tq {s : sg} {h : mh_H} {r : Nat} {q : Nat → Int32} (hr : r < 4) (c : CP s h) : CP (u_texts s (s_tz s) (va_fn (s_tc s) r q)) (mh_up h (50 + r) (mh_ia 0 60 q)) := by
  have h1 := CP_txt (z := s_tz s r) (q := q) hr c
  have e1 : va_fn (s_tz s) r (s_tz s r) = s_tz s := by
    funext j
    unfold va_fn
    split
    · rename_i e; rw [e]
    · rfl
  rw [e1] at h1
  rwa [mh_up_id (k := 40 + r) (c.2.2.2.1 r hr).1] at h1
set_option maxHeartbeats 4000000 in
set_option maxRecDepth 100000 in
theorem c_X4_tear (dom : List Nat) (h : mh_H) (s : sg) (r : Int32) (hc : CP s h) (hv : IV s) : Mt mX4_tear dom 2 [.ref 0, .int r] h (mx_Ri (fun v' h' => v' = (sp_tear s r).1 ∧ CP (sp_tear s r).2 h')) := by
  refine Mt.of (L := [some (.ref 0), some (.int r)]) rfl (Nat.le_of_ble_eq_true rfl) rfl ?_
  obtain ⟨c1, c2, c3, c4, c5, c6, c7, c8, c9⟩ := id hc
  refine ax_iload_n (pc := 0) dX4_tear_0 rfl ?_
  refine ax_eSi1 (pc := 1) sX4_75 dX4_tear_1 (by decide) (Nat.le_of_ble_eq_true rfl) (c_X4_isRow _ _ _) ?_
  refine ax_ifneB (pc := 4) (tgt := 9) dX4_tear_4 (by decide) (fun c4 => ?_) (fun c4 => ?_)
  · obtain ⟨j, hj, rfl⟩ := ix_5 c4
    refine ax_aload_n (pc := 9) dX4_tear_9 rfl ?_
    refine ax_getf (pc := 10) fX4_11 dX4_tear_10 (by first | exact c1.1 | exact c1.2 | exact c2.1 | exact c2.2.1 | exact c2.2.2.1 | exact c2.2.2.2 | assumption | rfl) rfl ?_
    refine ax_iload_n (pc := 13) dX4_tear_13 rfl ?_
    refine ax_aald (pc := 14) dX4_tear_14 (by first | exact c1.1 | exact c1.2 | exact c2.1 | exact c2.2.1 | exact c2.2.2.1 | exact c2.2.2.2 | assumption | rfl) (by decide) (ni_in9 hj (by decide)) (by rw [ni_cl (by omega)]) ?_
    refine ax_eVi0 (pc := 15) vX4_94 dX4_tear_15 (by decide) (c3 j hj).1 (Nat.le_of_ble_eq_true rfl) (c_X2_isThere _ _ _ _ _ (c3 j hj).1) ?_
    refine ax_ifneB (pc := 18) (tgt := 27) dX4_tear_18 (by decide) (fun c18 => ?_) (fun c18 => ?_)
    · refine ax_aload_n (pc := 27) dX4_tear_27 rfl ?_
      refine ax_getf (pc := 28) fX4_11 dX4_tear_28 (by first | exact c1.1 | exact c1.2 | exact c2.1 | exact c2.2.1 | exact c2.2.2.1 | exact c2.2.2.2 | assumption | rfl) rfl ?_
      refine ax_iload_n (pc := 31) dX4_tear_31 rfl ?_
      refine ax_aald (pc := 32) dX4_tear_32 (by first | exact c1.1 | exact c1.2 | exact c2.1 | exact c2.2.1 | exact c2.2.2.1 | exact c2.2.2.2 | assumption | rfl) (by decide) (ni_in9 hj (by decide)) (by rw [ni_cl (by omega)]) ?_
      refine ax_iconst (pc := 33) (v := -1) dX4_tear_33 (by decide) ?_
      refine ax_puti1 (pc := 34) gX4_98 dX4_tear_34 (c3 j hj).1 ?_
      refine ax_iconst (pc := 37) (v := 1) dX4_tear_37 (by decide) ?_
      refine ax_iret (pc := 38) dX4_tear_38 rfl ?_
      exact fin_i (by unfold sp_tear; rw [if_neg (not_not_intro c4), ni_cl (by omega), if_neg (Int32.not_lt.mpr c18)]) (CP_rw hj hc)
    · refine ax_aload_n (pc := 21) dX4_tear_21 rfl ?_
      refine ax_iconst (pc := 22) (v := 1) dX4_tear_22 (by decide) ?_
      refine ax_cVi1 (pc := 23) vX4_79 dX4_tear_23 (by decide) (by first | exact c1.1 | exact c1.2 | exact c2.1 | exact c2.2.1 | exact c2.2.2.1 | exact c2.2.2.2 | assumption | rfl) (Nat.le_of_ble_eq_true rfl) (c_X4_found _ _ s 1 (by decide) hc) (fun v1 h1 hq => ?_)
      obtain ⟨rfl, hq⟩ := hq
      refine ax_iret (pc := 26) dX4_tear_26 rfl ?_
      exact fin_i (by unfold sp_tear; rw [if_neg (not_not_intro c4), ni_cl (by omega), if_pos (Int32.not_le.mp c18)]) hq
  · refine ax_iconst (pc := 7) (v := -1) dX4_tear_7 (by decide) ?_
    refine ax_iret (pc := 8) dX4_tear_8 rfl ?_
    exact fin_i (by unfold sp_tear; exact if_pos c4) hc
set_option maxHeartbeats 4000000 in
set_option maxRecDepth 100000 in
theorem c_X4_mean (dom : List Nat) (h : mh_H) (s : sg) (r : Int32) (hc : CP s h) (hv : IV s) : Mt mX4_mean dom 2 [.ref 0, .int r] h (mx_Ri (fun v' h' => v' = (sp_mean s r).1 ∧ CP (sp_mean s r).2 h')) := by
  refine Mt.of (L := [some (.ref 0), some (.int r)]) rfl (Nat.le_of_ble_eq_true rfl) rfl ?_
  obtain ⟨c1, c2, c3, c4, c5, c6, c7, c8, c9⟩ := id hc
  refine ax_iload_n (pc := 0) dX4_mean_0 rfl ?_
  refine ax_eSi1 (pc := 1) sX4_75 dX4_mean_1 (by decide) (Nat.le_of_ble_eq_true rfl) (c_X4_isRow _ _ _) ?_
  refine ax_ifneB (pc := 4) (tgt := 9) dX4_mean_4 (by decide) (fun c4 => ?_) (fun c4 => ?_)
  · obtain ⟨j, hj, rfl⟩ := ix_5 c4
    refine ax_aload_n (pc := 9) dX4_mean_9 rfl ?_
    refine ax_getf (pc := 10) fX4_11 dX4_mean_10 (by first | exact c1.1 | exact c1.2 | exact c2.1 | exact c2.2.1 | exact c2.2.2.1 | exact c2.2.2.2 | assumption | rfl) rfl ?_
    refine ax_iload_n (pc := 13) dX4_mean_13 rfl ?_
    refine ax_aald (pc := 14) dX4_mean_14 (by first | exact c1.1 | exact c1.2 | exact c2.1 | exact c2.2.1 | exact c2.2.2.1 | exact c2.2.2.2 | assumption | rfl) (by decide) (ni_in9 hj (by decide)) (by rw [ni_cl (by omega)]) ?_
    refine ax_eVi0 (pc := 15) vX4_94 dX4_mean_15 (by decide) (c3 j hj).1 (Nat.le_of_ble_eq_true rfl) (c_X2_isThere _ _ _ _ _ (c3 j hj).1) ?_
    refine ax_ifneB (pc := 18) (tgt := 27) dX4_mean_18 (by decide) (fun c18 => ?_) (fun c18 => ?_)
    · refine ax_aload_n (pc := 27) dX4_mean_27 rfl ?_
      refine ax_getf (pc := 28) fX4_11 dX4_mean_28 (by first | exact c1.1 | exact c1.2 | exact c2.1 | exact c2.2.1 | exact c2.2.2.1 | exact c2.2.2.2 | assumption | rfl) rfl ?_
      refine ax_iload_n (pc := 31) dX4_mean_31 rfl ?_
      refine ax_aald (pc := 32) dX4_mean_32 (by first | exact c1.1 | exact c1.2 | exact c2.1 | exact c2.2.1 | exact c2.2.2.1 | exact c2.2.2.2 | assumption | rfl) (by decide) (ni_in9 hj (by decide)) (by rw [ni_cl (by omega)]) ?_
      refine ax_getf (pc := 33) fX4_98 dX4_mean_33 (c3 j hj).1 rfl ?_
      refine ax_ifne (pc := 36) (tgt := 45) dX4_mean_36 (by decide) (fun c36 => ?_) (fun c36 => ?_)
      · obtain ⟨m, hm, e⟩ := z_m (hv.1 j hj) (Int32.not_lt.mpr c18)
        refine ax_aload_n (pc := 45) dX4_mean_45 rfl ?_
        refine ax_aload_n (pc := 46) dX4_mean_46 rfl ?_
        refine ax_getf (pc := 47) fX4_11 dX4_mean_47 (by first | exact c1.1 | exact c1.2 | exact c2.1 | exact c2.2.1 | exact c2.2.2.1 | exact c2.2.2.2 | assumption | rfl) rfl ?_
        refine ax_iload_n (pc := 50) dX4_mean_50 rfl ?_
        refine ax_aald (pc := 51) dX4_mean_51 (by first | exact c1.1 | exact c1.2 | exact c2.1 | exact c2.2.1 | exact c2.2.2.1 | exact c2.2.2.2 | assumption | rfl) (by decide) (ni_in9 hj (by decide)) (by rw [ni_cl (by omega)]) ?_
        refine ax_eVl0 (pc := 52) vX4_111 dX4_mean_52 (by decide) (c3 j hj).1 (Nat.le_of_ble_eq_true rfl) (c_X2_sum _ _ (20 + j) (30 + j) m _ ((c3 j hj).1.trans (by rw [e])) (c3 j hj).2 (by omega)) ?_
        refine ax_aload_n (pc := 55) dX4_mean_55 rfl ?_
        refine ax_getf (pc := 56) fX4_11 dX4_mean_56 (by first | exact c1.1 | exact c1.2 | exact c2.1 | exact c2.2.1 | exact c2.2.2.1 | exact c2.2.2.2 | assumption | rfl) rfl ?_
        refine ax_iload_n (pc := 59) dX4_mean_59 rfl ?_
        refine ax_aald (pc := 60) dX4_mean_60 (by first | exact c1.1 | exact c1.2 | exact c2.1 | exact c2.2.1 | exact c2.2.2.1 | exact c2.2.2.2 | assumption | rfl) (by decide) (ni_in9 hj (by decide)) (by rw [ni_cl (by omega)]) ?_
        refine ax_getf (pc := 61) fX4_98 dX4_mean_61 (c3 j hj).1 rfl ?_
        refine ax_i2l (pc := 64) dX4_mean_64 ?_
        refine ax_ldiv (pc := 65) dX4_mean_65 (by rw [e, nI_l (by omega)]; intro q; rw [show (0 : Int64) = lN 0 from rfl, lN_eq (by omega) (by decide)] at q; exact c36 (by rw [e, q]; rfl)) ?_
        refine ax_l2i (pc := 66) dX4_mean_66 ?_
        refine ax_puti9 (pc := 67) gX4_53 dX4_mean_67 (by first | exact c1.1 | exact c1.2 | exact c2.1 | exact c2.2.1 | exact c2.2.2.1 | exact c2.2.2.2 | assumption | rfl) ?_
        refine ax_iconst (pc := 70) (v := 1) dX4_mean_70 (by decide) ?_
        refine ax_iret (pc := 71) dX4_mean_71 rfl ?_
        exact fin_i (by unfold sp_mean; rw [if_neg (not_not_intro c4), ni_cl (by omega), if_neg (Int32.not_lt.mpr c18), if_neg c36, show (s_rz s j).toNatClampNeg = m by rw [e, ni_cl (by omega)]]) (CP_ask hc)
      · refine ax_aload_n (pc := 39) dX4_mean_39 rfl ?_
        refine ax_iconst (pc := 40) (v := 4) dX4_mean_40 (by decide) ?_
        refine ax_cVi1 (pc := 41) vX4_79 dX4_mean_41 (by decide) (by first | exact c1.1 | exact c1.2 | exact c2.1 | exact c2.2.1 | exact c2.2.2.1 | exact c2.2.2.2 | assumption | rfl) (Nat.le_of_ble_eq_true rfl) (c_X4_found _ _ s 4 (by decide) hc) (fun v1 h1 hq => ?_)
        obtain ⟨rfl, hq⟩ := hq
        refine ax_iret (pc := 44) dX4_mean_44 rfl ?_
        exact fin_i (by unfold sp_mean; rw [if_neg (not_not_intro c4), ni_cl (by omega), if_neg (Int32.not_lt.mpr c18), if_pos c36]) hq
    · refine ax_aload_n (pc := 21) dX4_mean_21 rfl ?_
      refine ax_iconst (pc := 22) (v := 1) dX4_mean_22 (by decide) ?_
      refine ax_cVi1 (pc := 23) vX4_79 dX4_mean_23 (by decide) (by first | exact c1.1 | exact c1.2 | exact c2.1 | exact c2.2.1 | exact c2.2.2.1 | exact c2.2.2.2 | assumption | rfl) (Nat.le_of_ble_eq_true rfl) (c_X4_found _ _ s 1 (by decide) hc) (fun v1 h1 hq => ?_)
      obtain ⟨rfl, hq⟩ := hq
      refine ax_iret (pc := 26) dX4_mean_26 rfl ?_
      exact fin_i (by unfold sp_mean; rw [if_neg (not_not_intro c4), ni_cl (by omega), if_pos (Int32.not_le.mp c18)]) hq
  · refine ax_iconst (pc := 7) (v := -1) dX4_mean_7 (by decide) ?_
    refine ax_iret (pc := 8) dX4_mean_8 rfl ?_
    exact fin_i (by unfold sp_mean; exact if_pos c4) hc
set_option maxHeartbeats 4000000 in
set_option maxRecDepth 100000 in
theorem c_X4_text (dom : List Nat) (h : mh_H) (s : sg) (r n : Int32) (hc : CP s h) (hv : IV s) : Mt mX4_text dom 2 [.ref 0, .int r, .int n] h (mx_Ri (fun v' h' => v' = (sp_text s r n).1 ∧ CP (sp_text s r n).2 h')) := by
  refine Mt.of (L := [some (.ref 0), some (.int r), some (.int n)]) rfl (Nat.le_of_ble_eq_true rfl) rfl ?_
  obtain ⟨c1, c2, c3, c4, c5, c6, c7, c8, c9⟩ := id hc
  have c4a := c4
  refine ax_iload_n (pc := 0) dX4_text_0 rfl ?_
  refine ax_eSi1 (pc := 1) sX4_115 dX4_text_1 (by decide) (Nat.le_of_ble_eq_true rfl) (c_X4_isText _ _ _) ?_
  refine ax_ifeqB (pc := 4) (tgt := 13) dX4_text_4 (by decide) (fun c4 => ?_) (fun c4 => ?_)
  · refine ax_iconst (pc := 13) (v := -1) dX4_text_13 (by decide) ?_
    refine ax_iret (pc := 14) dX4_text_14 rfl ?_
    exact fin_i (by unfold sp_text; first | exact if_pos (Or.inl c4) | exact if_pos (Or.inr (Int32.not_le.mp c10))) hc
  · refine ax_iload_n (pc := 7) dX4_text_7 rfl ?_
    refine ax_bipush (pc := 8) (v := 60) dX4_text_8 (by decide) ?_
    refine ax_icmple (pc := 10) (tgt := 15) dX4_text_10 (by decide) (fun c10 => ?_) (fun c10 => ?_)
    · refine ax_iload_n (pc := 15) dX4_text_15 rfl ?_
      refine ax_ifge (pc := 16) (tgt := 25) dX4_text_16 (by decide) (fun c16 => ?_) (fun c16 => ?_)
      · obtain ⟨j, hj, rfl⟩ := ix_3 c4
        obtain ⟨k, hk, rfl⟩ := nI_of2 (n := 60) (M := 60) rfl (Int32.not_lt.mpr c16) c10
        refine ax_aload_n (pc := 25) dX4_text_25 rfl ?_
        refine ax_getf (pc := 26) fX4_15 dX4_text_26 (by first | exact c1.1 | exact c1.2 | exact c2.1 | exact c2.2.1 | exact c2.2.2.1 | exact c2.2.2.2 | assumption | rfl) rfl ?_
        refine ax_iload_n (pc := 29) dX4_text_29 rfl ?_
        refine ax_aald (pc := 30) dX4_text_30 (by first | exact c1.1 | exact c1.2 | exact c2.1 | exact c2.2.1 | exact c2.2.2.1 | exact c2.2.2.2 | assumption | rfl) (by decide) (ni_in9 hj (by decide)) (by rw [ni_cl (by omega)]) ?_
        refine ax_iload_n (pc := 31) dX4_text_31 rfl ?_
        refine ax_bipush (pc := 32) (v := 32) dX4_text_32 (by decide) ?_
        refine ax_eVv2 (pc := 34) vX4_83 dX4_text_34 (by decide) (c4a j hj).1 (Nat.le_of_ble_eq_true rfl) (c_X2_make _ _ (40 + j) (50 + j) k _ 32 _ (c4a j hj).1 (c4a j hj).2 (by omega)) ?_
        refine ax_iload_n (pc := 37) dX4_text_37 rfl ?_
        refine ax_iret (pc := 38) dX4_text_38 rfl ?_
        refine fin_i (by unfold sp_text; rw [if_neg (by rintro (q | q); exact q c4; exact absurd c10 (Int32.not_le.mpr q)), if_neg (Int32.not_lt.mpr c16), ni_cl (by omega), ni_cl (by omega)]) ?_
        exact CP_txt hj hc
      · refine ax_aload_n (pc := 19) dX4_text_19 rfl ?_
        refine ax_iconst (pc := 20) (v := 5) dX4_text_20 (by decide) ?_
        refine ax_cVi1 (pc := 21) vX4_79 dX4_text_21 (by decide) (by first | exact c1.1 | exact c1.2 | exact c2.1 | exact c2.2.1 | exact c2.2.2.1 | exact c2.2.2.2 | assumption | rfl) (Nat.le_of_ble_eq_true rfl) (c_X4_found _ _ s 5 (by decide) hc) (fun v1 h1 hq => ?_)
        obtain ⟨rfl, hq⟩ := hq
        refine ax_iret (pc := 24) dX4_text_24 rfl ?_
        exact fin_i (by unfold sp_text; rw [if_neg (by rintro (q | q); exact q c4; exact absurd c10 (Int32.not_le.mpr q)), if_pos (Int32.not_le.mp c16)]) hq
    · refine ax_iconst (pc := 13) (v := -1) dX4_text_13 (by decide) ?_
      refine ax_iret (pc := 14) dX4_text_14 rfl ?_
      exact fin_i (by unfold sp_text; first | exact if_pos (Or.inl c4) | exact if_pos (Or.inr (Int32.not_le.mp c10))) hc
set_option maxHeartbeats 4000000 in
set_option maxRecDepth 100000 in
theorem c_X4_fault (dom : List Nat) (h : mh_H) (s : sg) (r : Int32) (hc : CP s h) (hv : IV s) : Mt mX4_fault dom 3 [.ref 0, .int r] h (mx_Ri (fun v' h' => v' = (sp_fault s r).1 ∧ CP (sp_fault s r).2 h')) := by
  refine Mt.of (L := [some (.ref 0), some (.int r)]) rfl (Nat.le_of_ble_eq_true rfl) rfl ?_
  obtain ⟨c1, c2, c3, c4, c5, c6, c7, c8, c9⟩ := id hc
  have c4a := c4
  refine ax_iload_n (pc := 0) dX4_fault_0 rfl ?_
  refine ax_eSi1 (pc := 1) sX4_115 dX4_fault_1 (by decide) (Nat.le_of_ble_eq_true rfl) (c_X4_isText _ _ _) ?_
  refine ax_ifneB (pc := 4) (tgt := 9) dX4_fault_4 (by decide) (fun c4 => ?_) (fun c4 => ?_)
  · obtain ⟨j, hj, rfl⟩ := ix_3 c4
    refine ax_aload_n (pc := 9) dX4_fault_9 rfl ?_
    refine ax_getf (pc := 10) fX4_15 dX4_fault_10 (by first | exact c1.1 | exact c1.2 | exact c2.1 | exact c2.2.1 | exact c2.2.2.1 | exact c2.2.2.2 | assumption | rfl) rfl ?_
    refine ax_iload_n (pc := 13) dX4_fault_13 rfl ?_
    refine ax_aald (pc := 14) dX4_fault_14 (by first | exact c1.1 | exact c1.2 | exact c2.1 | exact c2.2.1 | exact c2.2.2.1 | exact c2.2.2.2 | assumption | rfl) (by decide) (ni_in9 hj (by decide)) (by rw [ni_cl (by omega)]) ?_
    refine ax_eVi0 (pc := 15) vX4_94 dX4_fault_15 (by decide) (c4a j hj).1 (Nat.le_of_ble_eq_true rfl) (c_X2_isThere _ _ _ _ _ (c4a j hj).1) ?_
    refine ax_ifneB (pc := 18) (tgt := 27) dX4_fault_18 (by decide) (fun c18 => ?_) (fun c18 => ?_)
    · obtain ⟨m, hm, e⟩ := z_m (hv.2.1 j hj) (Int32.not_lt.mpr c18)
      refine ax_aload_n (pc := 27) dX4_fault_27 rfl ?_
      refine ax_getf (pc := 28) fX4_15 dX4_fault_28 (by first | exact c1.1 | exact c1.2 | exact c2.1 | exact c2.2.1 | exact c2.2.2.1 | exact c2.2.2.2 | assumption | rfl) rfl ?_
      refine ax_iload_n (pc := 31) dX4_fault_31 rfl ?_
      refine ax_aald (pc := 32) dX4_fault_32 (by first | exact c1.1 | exact c1.2 | exact c2.1 | exact c2.2.1 | exact c2.2.2.1 | exact c2.2.2.2 | assumption | rfl) (by decide) (ni_in9 hj (by decide)) (by rw [ni_cl (by omega)]) ?_
      refine ax_eSi1 (pc := 33) sX4_118 dX4_fault_33 (by decide) (Nat.le_of_ble_eq_true rfl) (c_X4_faultOf _ _ (40 + j) (50 + j) m _ ((c4a j hj).1.trans (by rw [e])) (c4a j hj).2 (by omega)) ?_
      refine ax_iret (pc := 36) dX4_fault_36 rfl ?_
      exact fin_i (by unfold sp_fault; rw [if_neg (not_not_intro c4), ni_cl (by omega), if_neg (Int32.not_lt.mpr c18), show (s_tz s j).toNatClampNeg = m by rw [e, ni_cl (by omega)]]) hc
    · refine ax_aload_n (pc := 21) dX4_fault_21 rfl ?_
      refine ax_iconst (pc := 22) (v := 1) dX4_fault_22 (by decide) ?_
      refine ax_cVi1 (pc := 23) vX4_79 dX4_fault_23 (by decide) (by first | exact c1.1 | exact c1.2 | exact c2.1 | exact c2.2.1 | exact c2.2.2.1 | exact c2.2.2.2 | assumption | rfl) (Nat.le_of_ble_eq_true rfl) (c_X4_found _ _ s 1 (by decide) hc) (fun v1 h1 hq => ?_)
      obtain ⟨rfl, hq⟩ := hq
      refine ax_iret (pc := 26) dX4_fault_26 rfl ?_
      exact fin_i (by unfold sp_fault; rw [if_neg (not_not_intro c4), ni_cl (by omega), if_pos (Int32.not_le.mp c18)]) hq
  · refine ax_iconst (pc := 7) (v := -1) dX4_fault_7 (by decide) ?_
    refine ax_iret (pc := 8) dX4_fault_8 rfl ?_
    exact fin_i (by unfold sp_fault; exact if_pos c4) hc
set_option maxHeartbeats 4000000 in
set_option maxRecDepth 100000 in
theorem c_X4_put (dom : List Nat) (h : mh_H) (s : sg) (r i v : Int32) (hc : CP s h) (hv : IV s) : Mt mX4_put dom 2 [.ref 0, .int r, .int i, .int v] h (mx_Ri (fun v' h' => v' = (sp_put s r i v).1 ∧ CP (sp_put s r i v).2 h')) := by
  refine Mt.of (L := [some (.ref 0), some (.int r), some (.int i), some (.int v), none, none]) rfl (Nat.le_of_ble_eq_true rfl) rfl ?_
  obtain ⟨c1, c2, c3, c4, c5, c6, c7, c8, c9⟩ := id hc
  have c4a := c4
  refine ax_iload_n (pc := 0) dX4_put_0 rfl ?_
  refine ax_eSi1 (pc := 1) sX4_115 dX4_put_1 (by decide) (Nat.le_of_ble_eq_true rfl) (c_X4_isText _ _ _) ?_
  refine ax_ifneB (pc := 4) (tgt := 9) dX4_put_4 (by decide) (fun c4 => ?_) (fun c4 => ?_)
  · obtain ⟨j, hj, rfl⟩ := ix_3 c4
    refine ax_aload_n (pc := 9) dX4_put_9 rfl ?_
    refine ax_getf (pc := 10) fX4_15 dX4_put_10 (by first | exact c1.1 | exact c1.2 | exact c2.1 | exact c2.2.1 | exact c2.2.2.1 | exact c2.2.2.2 | assumption | rfl) rfl ?_
    refine ax_iload_n (pc := 13) dX4_put_13 rfl ?_
    refine ax_aald (pc := 14) dX4_put_14 (by first | exact c1.1 | exact c1.2 | exact c2.1 | exact c2.2.1 | exact c2.2.2.1 | exact c2.2.2.2 | assumption | rfl) (by decide) (ni_in9 hj (by decide)) (by rw [ni_cl (by omega)]) ?_
    refine ax_iload_n (pc := 15) dX4_put_15 rfl ?_
    refine ax_eSi2 (pc := 16) sX4_87 dX4_put_16 (by decide) (Nat.le_of_ble_eq_true rfl) (c_X4_missingPlace _ _ (40 + j) (50 + j) _ (c4a j hj).1 _) ?_
    have hm : (s_tz s j < 0) ∨ (¬ s_tz s j < 0 ∧ ¬ (0 ≤ i ∧ i ≤ s_tz s j - 1)) ∨ (¬ s_tz s j < 0 ∧ (0 ≤ i ∧ i ≤ s_tz s j - 1)) := by
      by_cases q1 : s_tz s j < 0
      · exact Or.inl q1
      · by_cases q2 : 0 ≤ i ∧ i ≤ s_tz s j - 1
        · exact Or.inr (Or.inr ⟨q1, q2⟩)
        · exact Or.inr (Or.inl ⟨q1, q2⟩)
    rcases hm with hm | hm | hm
    · rw [if_pos hm]
      refine ax_istore4 (pc := 19) dX4_put_19 rfl (by decide) ?_
      refine ax_iload (pc := 21) dX4_put_21 rfl ?_
      refine ax_ifeq (pc := 23) (tgt := 33) dX4_put_23 (by decide) (fun q => absurd q (by decide : ¬ (1 : Int32) = 0)) (fun _ => ?_)
      refine ax_aload_n (pc := 26) dX4_put_26 rfl ?_
      refine ax_iload (pc := 27) dX4_put_27 rfl ?_
      refine ax_cVi1 (pc := 29) vX4_79 dX4_put_29 (by decide) (by first | exact c1.1 | exact c1.2 | exact c2.1 | exact c2.2.1 | exact c2.2.2.1 | exact c2.2.2.2 | assumption | rfl) (Nat.le_of_ble_eq_true rfl) (c_X4_found _ _ s 1 (by decide) hc) (fun v1 h1 hq => ?_)
      obtain ⟨rfl, hq⟩ := hq
      refine ax_iret (pc := 32) dX4_put_32 rfl ?_
      exact fin_i (by unfold sp_put; rw [if_neg (not_not_intro c4), ni_cl (by omega), if_pos hm]) hq
    · rw [if_neg hm.1, if_neg hm.2]
      refine ax_istore4 (pc := 19) dX4_put_19 rfl (by decide) ?_
      refine ax_iload (pc := 21) dX4_put_21 rfl ?_
      refine ax_ifeq (pc := 23) (tgt := 33) dX4_put_23 (by decide) (fun q => absurd q (by decide : ¬ (2 : Int32) = 0)) (fun _ => ?_)
      refine ax_aload_n (pc := 26) dX4_put_26 rfl ?_
      refine ax_iload (pc := 27) dX4_put_27 rfl ?_
      refine ax_cVi1 (pc := 29) vX4_79 dX4_put_29 (by decide) (by first | exact c1.1 | exact c1.2 | exact c2.1 | exact c2.2.1 | exact c2.2.2.1 | exact c2.2.2.2 | assumption | rfl) (Nat.le_of_ble_eq_true rfl) (c_X4_found _ _ s 2 (by decide) hc) (fun v1 h1 hq => ?_)
      obtain ⟨rfl, hq⟩ := hq
      refine ax_iret (pc := 32) dX4_put_32 rfl ?_
      exact fin_i (by unfold sp_put; rw [if_neg (not_not_intro c4), ni_cl (by omega), if_neg hm.1, if_pos hm.2]) hq
    · rw [if_neg hm.1, if_pos hm.2]
      refine ax_istore4 (pc := 19) dX4_put_19 rfl (by decide) ?_
      refine ax_iload (pc := 21) dX4_put_21 rfl ?_
      refine ax_ifeq (pc := 23) (tgt := 33) dX4_put_23 (by decide) (fun _ => ?_) (fun q => absurd (rfl : (0 : Int32) = 0) q)
      refine ax_aload_n (pc := 33) dX4_put_33 rfl ?_
      refine ax_getf (pc := 34) fX4_15 dX4_put_34 (by first | exact c1.1 | exact c1.2 | exact c2.1 | exact c2.2.1 | exact c2.2.2.1 | exact c2.2.2.2 | assumption | rfl) rfl ?_
      refine ax_iload_n (pc := 37) dX4_put_37 rfl ?_
      refine ax_aald (pc := 38) dX4_put_38 (by first | exact c1.1 | exact c1.2 | exact c2.1 | exact c2.2.1 | exact c2.2.2.1 | exact c2.2.2.2 | assumption | rfl) (by decide) (ni_in9 hj (by decide)) (by rw [ni_cl (by omega)]) ?_
      refine ax_getf (pc := 39) fX4_91 dX4_put_39 (c4a j hj).1 rfl ?_
      refine ax_iload_n (pc := 42) dX4_put_42 rfl ?_
      refine ax_iald (pc := 43) dX4_put_43 (c4a j hj).2 (by obtain ⟨m, k, h1, h2, h3, h4⟩ := pl_in (hv.2.1 j hj) (by decide) hm.1 hm.2; rw [h4]; exact ni_in9 (by omega) (by decide)) ?_
      refine ax_istore5 (pc := 44) dX4_put_44 rfl (by decide) ?_
      refine ax_aload_n (pc := 46) dX4_put_46 rfl ?_
      refine ax_getf (pc := 47) fX4_15 dX4_put_47 (by first | exact c1.1 | exact c1.2 | exact c2.1 | exact c2.2.1 | exact c2.2.2.1 | exact c2.2.2.2 | assumption | rfl) rfl ?_
      refine ax_iload_n (pc := 50) dX4_put_50 rfl ?_
      refine ax_aald (pc := 51) dX4_put_51 (by first | exact c1.1 | exact c1.2 | exact c2.1 | exact c2.2.1 | exact c2.2.2.1 | exact c2.2.2.2 | assumption | rfl) (by decide) (ni_in9 hj (by decide)) (by rw [ni_cl (by omega)]) ?_
      refine ax_getf (pc := 52) fX4_91 dX4_put_52 (c4a j hj).1 rfl ?_
      refine ax_iload_n (pc := 55) dX4_put_55 rfl ?_
      refine ax_iload_n (pc := 56) dX4_put_56 rfl ?_
      refine ax_i2b (pc := 57) dX4_put_57 ?_
      refine ax_iast (pc := 58) dX4_put_58 (c4a j hj).2 (by obtain ⟨m, k, h1, h2, h3, h4⟩ := pl_in (hv.2.1 j hj) (by decide) hm.1 hm.2; rw [h4]; exact ni_in9 (by omega) (by decide)) ?_
      refine ax_iload (pc := 59) dX4_put_59 rfl ?_
      refine ax_sipush (pc := 61) (v := 1000) dX4_put_61 (by decide) ?_
      refine ax_iadd (pc := 64) dX4_put_64 ?_
      refine ax_iret (pc := 65) dX4_put_65 rfl ?_
      exact fin_i (by unfold sp_put; rw [if_neg (not_not_intro c4), ni_cl (by omega), if_neg hm.1, if_neg (not_not_intro hm.2)]) (CP_tq hj hc)
  · refine ax_iconst (pc := 7) (v := -1) dX4_put_7 (by decide) ?_
    refine ax_iret (pc := 8) dX4_put_8 rfl ?_
    exact fin_i (by unfold sp_put; exact if_pos c4) hc
set_option maxHeartbeats 4000000 in
set_option maxRecDepth 100000 in
theorem c_X4_copy (dom : List Nat) (h : mh_H) (s : sg) (r i t j n : Int32) (hc : CP s h) (hv : IV s) : Mt mX4_copy dom 2 [.ref 0, .int r, .int i, .int t, .int j, .int n] h (mx_Ri (fun v' h' => v' = (sp_copy s r i t j n).1 ∧ CP (sp_copy s r i t j n).2 h')) := by
  refine Mt.of (L := [some (.ref 0), some (.int r), some (.int i), some (.int t), some (.int j), some (.int n)]) rfl (Nat.le_of_ble_eq_true rfl) rfl ?_
  obtain ⟨c1, c2, c3, c4, c5, c6, c7, c8, c9⟩ := id hc
  refine ax_iload_n (pc := 0) dX4_copy_0 rfl ?_
  refine ax_eSi1 (pc := 1) sX4_75 dX4_copy_1 (by decide) (Nat.le_of_ble_eq_true rfl) (c_X4_isRow _ _ _) ?_
  refine ax_ifeqB (pc := 4) (tgt := 14) dX4_copy_4 (by decide) (fun c4 => ?_) (fun c4 => ?_)
  · refine ax_iconst (pc := 14) (v := -1) dX4_copy_14 (by decide) ?_
    refine ax_iret (pc := 15) dX4_copy_15 rfl ?_
    exact fin_i (by unfold sp_copy; first | exact if_pos (Or.inl c4) | exact if_pos (Or.inr c11)) hc
  · refine ax_iload_n (pc := 7) dX4_copy_7 rfl ?_
    refine ax_eSi1 (pc := 8) sX4_75 dX4_copy_8 (by decide) (Nat.le_of_ble_eq_true rfl) (c_X4_isRow _ _ _) ?_
    refine ax_ifneB (pc := 11) (tgt := 16) dX4_copy_11 (by decide) (fun c11 => ?_) (fun c11 => ?_)
    · refine ax_iload (pc := 16) dX4_copy_16 rfl ?_
      refine ax_ifge (pc := 18) (tgt := 27) dX4_copy_18 (by decide) (fun c18 => ?_) (fun c18 => ?_)
      · obtain ⟨a, ha, rfl⟩ := ix_5 c4
        obtain ⟨b, hb, rfl⟩ := ix_5 c11
        refine ax_aload_n (pc := 27) dX4_copy_27 rfl ?_
        refine ax_getf (pc := 28) fX4_11 dX4_copy_28 (by first | exact c1.1 | exact c1.2 | exact c2.1 | exact c2.2.1 | exact c2.2.2.1 | exact c2.2.2.2 | assumption | rfl) rfl ?_
        refine ax_iload_n (pc := 31) dX4_copy_31 rfl ?_
        refine ax_aald (pc := 32) dX4_copy_32 (by first | exact c1.1 | exact c1.2 | exact c2.1 | exact c2.2.1 | exact c2.2.2.1 | exact c2.2.2.2 | assumption | rfl) (by decide) (ni_in9 ha (by decide)) (by rw [ni_cl (by omega)]) ?_
        refine ax_eVi0 (pc := 33) vX4_94 dX4_copy_33 (by decide) (c3 a ha).1 (Nat.le_of_ble_eq_true rfl) (c_X2_isThere _ _ _ _ _ (c3 a ha).1) ?_
        refine ax_ifeqB (pc := 36) (tgt := 51) dX4_copy_36 (by decide) (fun c36 => ?_) (fun c36 => ?_)
        · refine ax_aload_n (pc := 51) dX4_copy_51 rfl ?_
          refine ax_iconst (pc := 52) (v := 1) dX4_copy_52 (by decide) ?_
          refine ax_cVi1 (pc := 53) vX4_79 dX4_copy_53 (by decide) (by first | exact c1.1 | exact c1.2 | exact c2.1 | exact c2.2.1 | exact c2.2.2.1 | exact c2.2.2.2 | assumption | rfl) (Nat.le_of_ble_eq_true rfl) (c_X4_found _ _ s 1 (by decide) hc) (fun v1 h1 hq => ?_)
          obtain ⟨rfl, hq⟩ := hq
          refine ax_iret (pc := 56) dX4_copy_56 rfl ?_
          exact fin_i (by unfold sp_copy; rw [if_neg (by rintro (q | q); exact q c4; exact q c11), if_neg (Int32.not_lt.mpr c18), ni_cl (by omega), ni_cl (by omega)]; first | exact if_pos (Or.inl (Int32.not_le.mp c36)) | exact if_pos (Or.inr (Int32.not_le.mp c48))) hq
        · refine ax_aload_n (pc := 39) dX4_copy_39 rfl ?_
          refine ax_getf (pc := 40) fX4_11 dX4_copy_40 (by first | exact c1.1 | exact c1.2 | exact c2.1 | exact c2.2.1 | exact c2.2.2.1 | exact c2.2.2.2 | assumption | rfl) rfl ?_
          refine ax_iload_n (pc := 43) dX4_copy_43 rfl ?_
          refine ax_aald (pc := 44) dX4_copy_44 (by first | exact c1.1 | exact c1.2 | exact c2.1 | exact c2.2.1 | exact c2.2.2.1 | exact c2.2.2.2 | assumption | rfl) (by decide) (ni_in9 hb (by decide)) (by rw [ni_cl (by omega)]) ?_
          refine ax_eVi0 (pc := 45) vX4_94 dX4_copy_45 (by decide) (c3 b hb).1 (Nat.le_of_ble_eq_true rfl) (c_X2_isThere _ _ _ _ _ (c3 b hb).1) ?_
          refine ax_ifneB (pc := 48) (tgt := 57) dX4_copy_48 (by decide) (fun c48 => ?_) (fun c48 => ?_)
          · refine ax_aload_n (pc := 57) dX4_copy_57 rfl ?_
            refine ax_getf (pc := 58) fX4_11 dX4_copy_58 (by first | exact c1.1 | exact c1.2 | exact c2.1 | exact c2.2.1 | exact c2.2.2.1 | exact c2.2.2.2 | assumption | rfl) rfl ?_
            refine ax_iload_n (pc := 61) dX4_copy_61 rfl ?_
            refine ax_aald (pc := 62) dX4_copy_62 (by first | exact c1.1 | exact c1.2 | exact c2.1 | exact c2.2.1 | exact c2.2.2.1 | exact c2.2.2.2 | assumption | rfl) (by decide) (ni_in9 ha (by decide)) (by rw [ni_cl (by omega)]) ?_
            refine ax_iload_n (pc := 63) dX4_copy_63 rfl ?_
            refine ax_iload (pc := 64) dX4_copy_64 rfl ?_
            refine ax_eVi2 (pc := 66) vX4_101 dX4_copy_66 (by decide) (c3 a ha).1 (Nat.le_of_ble_eq_true rfl) (c_X2_hasFrom _ _ _ _ _ (c3 a ha).1 _ _) ?_
            refine ax_ifeqB (pc := 69) (tgt := 88) dX4_copy_69 (by decide) (fun c69 => ?_) (fun c69 => ?_)
            · refine ax_aload_n (pc := 88) dX4_copy_88 rfl ?_
              refine ax_iconst (pc := 89) (v := 2) dX4_copy_89 (by decide) ?_
              refine ax_cVi1 (pc := 90) vX4_79 dX4_copy_90 (by decide) (by first | exact c1.1 | exact c1.2 | exact c2.1 | exact c2.2.1 | exact c2.2.2.1 | exact c2.2.2.2 | assumption | rfl) (Nat.le_of_ble_eq_true rfl) (c_X4_found _ _ s 2 (by decide) hc) (fun v1 h1 hq => ?_)
              obtain ⟨rfl, hq⟩ := hq
              refine ax_iret (pc := 93) dX4_copy_93 rfl ?_
              exact fin_i (by unfold sp_copy; rw [if_neg (by rintro (q | q); exact q c4; exact q c11), if_neg (Int32.not_lt.mpr c18), ni_cl (by omega), ni_cl (by omega), if_neg (by rintro (q | q); exact absurd c36 (Int32.not_le.mpr q); exact absurd c48 (Int32.not_le.mpr q))]; first | exact if_pos (Or.inl c69) | exact if_pos (Or.inr c85)) hq
            · refine ax_aload_n (pc := 72) dX4_copy_72 rfl ?_
              refine ax_getf (pc := 73) fX4_11 dX4_copy_73 (by first | exact c1.1 | exact c1.2 | exact c2.1 | exact c2.2.1 | exact c2.2.2.1 | exact c2.2.2.2 | assumption | rfl) rfl ?_
              refine ax_iload_n (pc := 76) dX4_copy_76 rfl ?_
              refine ax_aald (pc := 77) dX4_copy_77 (by first | exact c1.1 | exact c1.2 | exact c2.1 | exact c2.2.1 | exact c2.2.2.1 | exact c2.2.2.2 | assumption | rfl) (by decide) (ni_in9 hb (by decide)) (by rw [ni_cl (by omega)]) ?_
              refine ax_iload (pc := 78) dX4_copy_78 rfl ?_
              refine ax_iload (pc := 80) dX4_copy_80 rfl ?_
              refine ax_eVi2 (pc := 82) vX4_101 dX4_copy_82 (by decide) (c3 b hb).1 (Nat.le_of_ble_eq_true rfl) (c_X2_hasFrom _ _ _ _ _ (c3 b hb).1 _ _) ?_
              refine ax_ifneB (pc := 85) (tgt := 94) dX4_copy_85 (by decide) (fun c85 => ?_) (fun c85 => ?_)
              · obtain ⟨m1, k1, a1, q1, q2, q3, q4, q5⟩ := has_in (hv.1 a ha) (by decide) (Int32.not_lt.mpr c36) (Int32.not_lt.mpr c18) c69
                obtain ⟨m2, k2, a2, p1, p2, p3, p4, p5⟩ := has_in (hv.1 b hb) (by decide) (Int32.not_lt.mpr c48) (Int32.not_lt.mpr c18) c85
                have ek : k1 = k2 := (nI_eq (by omega) (by omega)).mp (q3.symm.trans p3)
                refine ax_aload_n (pc := 94) dX4_copy_94 rfl ?_
                refine ax_getf (pc := 95) fX4_11 dX4_copy_95 (by first | exact c1.1 | exact c1.2 | exact c2.1 | exact c2.2.1 | exact c2.2.2.1 | exact c2.2.2.2 | assumption | rfl) rfl ?_
                refine ax_iload_n (pc := 98) dX4_copy_98 rfl ?_
                refine ax_aald (pc := 99) dX4_copy_99 (by first | exact c1.1 | exact c1.2 | exact c2.1 | exact c2.2.1 | exact c2.2.2.1 | exact c2.2.2.2 | assumption | rfl) (by decide) (ni_in9 ha (by decide)) (by rw [ni_cl (by omega)]) ?_
                refine ax_getf (pc := 100) fX4_91 dX4_copy_100 (c3 a ha).1 rfl ?_
                refine ax_iload_n (pc := 103) dX4_copy_103 rfl ?_
                refine ax_aload_n (pc := 104) dX4_copy_104 rfl ?_
                refine ax_getf (pc := 105) fX4_11 dX4_copy_105 (by first | exact c1.1 | exact c1.2 | exact c2.1 | exact c2.2.1 | exact c2.2.2.1 | exact c2.2.2.2 | assumption | rfl) rfl ?_
                refine ax_iload_n (pc := 108) dX4_copy_108 rfl ?_
                refine ax_aald (pc := 109) dX4_copy_109 (by first | exact c1.1 | exact c1.2 | exact c2.1 | exact c2.2.1 | exact c2.2.2.1 | exact c2.2.2.2 | assumption | rfl) (by decide) (ni_in9 hb (by decide)) (by rw [ni_cl (by omega)]) ?_
                refine ax_getf (pc := 110) fX4_91 dX4_copy_110 (c3 b hb).1 rfl ?_
                refine ax_iload (pc := 113) dX4_copy_113 rfl ?_
                refine ax_iload (pc := 115) dX4_copy_115 rfl ?_
                refine ax_acopy (pc := 117) tw_247 dX4_copy_117 (by decide) (Nat.le_of_ble_eq_true rfl) tw_acopy (c3 a ha).2 (c3 b hb).2 (Int32.not_lt.mpr c69.1) (Int32.not_lt.mpr c85.1) (Int32.not_lt.mpr c18) (by rw [q3, q4, ni_cl (by omega), ni_cl (by omega)]; omega) (by rw [p3, p4, ni_cl (by omega), ni_cl (by omega)]; omega) ?_
                refine ax_iconst (pc := 120) (v := 1) dX4_copy_120 (by decide) ?_
                refine ax_iret (pc := 121) dX4_copy_121 rfl ?_
                exact fin_i (by unfold sp_copy; rw [if_neg (by rintro (q | q); exact q c4; exact q c11), if_neg (Int32.not_lt.mpr c18), ni_cl (by omega), ni_cl (by omega), if_neg (by rintro (q | q); exact absurd c36 (Int32.not_le.mpr q); exact absurd c48 (Int32.not_le.mpr q)), if_neg (by rintro (q | q); exact q c69; exact q c85)]) (CP_rq hb hc)
              · refine ax_aload_n (pc := 88) dX4_copy_88 rfl ?_
                refine ax_iconst (pc := 89) (v := 2) dX4_copy_89 (by decide) ?_
                refine ax_cVi1 (pc := 90) vX4_79 dX4_copy_90 (by decide) (by first | exact c1.1 | exact c1.2 | exact c2.1 | exact c2.2.1 | exact c2.2.2.1 | exact c2.2.2.2 | assumption | rfl) (Nat.le_of_ble_eq_true rfl) (c_X4_found _ _ s 2 (by decide) hc) (fun v1 h1 hq => ?_)
                obtain ⟨rfl, hq⟩ := hq
                refine ax_iret (pc := 93) dX4_copy_93 rfl ?_
                exact fin_i (by unfold sp_copy; rw [if_neg (by rintro (q | q); exact q c4; exact q c11), if_neg (Int32.not_lt.mpr c18), ni_cl (by omega), ni_cl (by omega), if_neg (by rintro (q | q); exact absurd c36 (Int32.not_le.mpr q); exact absurd c48 (Int32.not_le.mpr q))]; first | exact if_pos (Or.inl c69) | exact if_pos (Or.inr c85)) hq
          · refine ax_aload_n (pc := 51) dX4_copy_51 rfl ?_
            refine ax_iconst (pc := 52) (v := 1) dX4_copy_52 (by decide) ?_
            refine ax_cVi1 (pc := 53) vX4_79 dX4_copy_53 (by decide) (by first | exact c1.1 | exact c1.2 | exact c2.1 | exact c2.2.1 | exact c2.2.2.1 | exact c2.2.2.2 | assumption | rfl) (Nat.le_of_ble_eq_true rfl) (c_X4_found _ _ s 1 (by decide) hc) (fun v1 h1 hq => ?_)
            obtain ⟨rfl, hq⟩ := hq
            refine ax_iret (pc := 56) dX4_copy_56 rfl ?_
            exact fin_i (by unfold sp_copy; rw [if_neg (by rintro (q | q); exact q c4; exact q c11), if_neg (Int32.not_lt.mpr c18), ni_cl (by omega), ni_cl (by omega)]; first | exact if_pos (Or.inl (Int32.not_le.mp c36)) | exact if_pos (Or.inr (Int32.not_le.mp c48))) hq
      · refine ax_aload_n (pc := 21) dX4_copy_21 rfl ?_
        refine ax_iconst (pc := 22) (v := 5) dX4_copy_22 (by decide) ?_
        refine ax_cVi1 (pc := 23) vX4_79 dX4_copy_23 (by decide) (by first | exact c1.1 | exact c1.2 | exact c2.1 | exact c2.2.1 | exact c2.2.2.1 | exact c2.2.2.2 | assumption | rfl) (Nat.le_of_ble_eq_true rfl) (c_X4_found _ _ s 5 (by decide) hc) (fun v1 h1 hq => ?_)
        obtain ⟨rfl, hq⟩ := hq
        refine ax_iret (pc := 26) dX4_copy_26 rfl ?_
        exact fin_i (by unfold sp_copy; rw [if_neg (by rintro (q | q); exact q c4; exact q c11), if_pos (Int32.not_le.mp c18)]) hq
    · refine ax_iconst (pc := 14) (v := -1) dX4_copy_14 (by decide) ?_
      refine ax_iret (pc := 15) dX4_copy_15 rfl ?_
      exact fin_i (by unfold sp_copy; first | exact if_pos (Or.inl c4) | exact if_pos (Or.inr c11)) hc
