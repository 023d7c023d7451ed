def sp_ct (p : Nat → Bool) : Nat → Nat
  | 0 => 0
  | n + 1 => sp_ct p n + (if p n = true then 1 else 0)
theorem sp_ct_le (p : Nat → Bool) (n : Nat) : sp_ct p n ≤ n := by
  induction n with
  | zero => exact Nat.le_refl _
  | succ n ih => unfold sp_ct; split <;> omega
def sp_mxn (g : Nat → Nat) : Nat → Nat
  | 0 => 0
  | n + 1 => max (sp_mxn g n) (g n)
theorem sp_mxn_le {g : Nat → Nat} {M : Nat} (hg : ∀ j, g j ≤ M) (n : Nat) : sp_mxn g n ≤ M := by
  induction n with
  | zero => exact Nat.zero_le _
  | succ n ih => exact Nat.max_le.mpr ⟨ih, hg n⟩
/-- what day k would grind through a hatch t, were it of kind b -/
def sp_fk (s : sg) (k t b : Nat) : Nat := sp_fl b ((s_D s).2.2.1 k) (sp_dr (s_D s) (s_fi s) k) t (s_w s).2.2.1
def sp_gc (s : sg) (k t v : Nat) : Nat := sp_ct (fun b => decide (sp_fk s k t b = v)) 6
def sp_gp (s : sg) (k t : Nat) : Nat := sp_mxn (fun a => sp_gc s k t (sp_fk s k t a)) 6
def sp_mn (i0 m0 : Int32) (g : Nat → Nat) : Nat → Int32 × Int32
  | 0 => (i0, m0)
  | j + 1 => if nI (g j) < (sp_mn i0 m0 g j).2 then (nI j, nI (g j)) else sp_mn i0 m0 g j
theorem sp_mn_t {i0 m0 : Int32} {g : Nat → Nat} {j : Nat} (h : nI (g j) < (sp_mn i0 m0 g j).2) : sp_mn i0 m0 g (j + 1) = (nI j, nI (g j)) := if_pos h
theorem sp_mn_f {i0 m0 : Int32} {g : Nat → Nat} {j : Nat} (h : ¬ nI (g j) < (sp_mn i0 m0 g j).2) : sp_mn i0 m0 g (j + 1) = sp_mn i0 m0 g j := if_neg h
def sp_look (s : sg) (k : Int32) : Int32 × sg := if ¬ isD s k then (-1, s) else ((sp_mn 0 7 (sp_gp s k.toNatClampNeg) 5).1, u_ask s (sp_mn 0 7 (sp_gp s k.toNatClampNeg) 5).2)
theorem sp_fk_e {s : sg} {k t x : Nat} : sp_df (dK (s_D s) k x) (s_fi s) k t (s_w s).2.2.1 = sp_fk s k t x := by
  unfold sp_df sp_fk
  rw [show (dK (s_D s) k x).2.1 k = x from up_n_s]
  rfl
set_option maxHeartbeats 4000000 in
set_option maxRecDepth 100000 in
theorem l_X4_kindsGrinding (dom : List Nat) (s : sg) (k : Nat) (h9 : k < 9) (hD0 : sp_D0 (s_D s)) (hW0 : sp_W0 (s_D s).1 (s_w s)) (hfi : s_fi s < 512) (t : Nat) (ht : t ≤ 4) (v : Nat) (hv : v < 1000) : ∀ (nn j : Nat), j + nn = 6 → ∀ (H : mh_H) (x : Nat), (CP s H ∧ dyP (dK (s_D s) k x) (s_fi s) 7 14 15 16 H) → At mX4_kindsGrinding dom 2 6 [some (.ref 0), some (.int (nI k)), some (.int (nI t)), some (.int (nI v)), some (.int (nI (sp_ct (fun b => decide (sp_fk s k t b = v)) j))), some (.int (nI j))] [] H (mx_Ri (fun v' h' => v' = nI (sp_gc s k t v) ∧ CP s h' ∧ ∃ x', dyP (dK (s_D s) k x') (s_fi s) 7 14 15 16 h')) := by
  intro nn
  induction nn with
  | zero =>
    intro j hj H x hinv
    have hj : j = 6 := by omega
    subst hj
    refine ax_iload (pc := 6) dX4_kindsGrinding_6 rfl ?_
    refine ax_bipush (pc := 8) (v := 6) dX4_kindsGrinding_8 (by decide) ?_
    refine ax_icmpge (pc := 10) (tgt := 53) dX4_kindsGrinding_10 (by decide) (fun _ => ?_) (fun q => absurd (by decide) q)
    refine ax_iload (pc := 53) dX4_kindsGrinding_53 rfl ?_
    refine ax_iret (pc := 55) dX4_kindsGrinding_55 rfl ?_
    exact ⟨_, rfl, rfl, hinv.1, x, hinv.2⟩
  | succ nn ih =>
    intro j hj H x hinv
    have hlt : j < 6 := by omega
    obtain ⟨c1, c2, c3, c4, c5, c6, c7, c8, c9⟩ := id hinv.1
    refine ax_iload (pc := 6) dX4_kindsGrinding_6 rfl ?_
    refine ax_bipush (pc := 8) (v := 6) dX4_kindsGrinding_8 (by decide) ?_
    refine ax_icmpge (pc := 10) (tgt := 53) dX4_kindsGrinding_10 (by decide) (fun q => absurd q (by rw [n_6, nI_leI (by decide) (by omega)]; omega)) (fun _ => ?_)
    refine ax_aload_n (pc := 13) dX4_kindsGrinding_13 rfl ?_
    refine ax_getf (pc := 14) fX4_43 dX4_kindsGrinding_14 (by first | exact c1.1 | exact c6 | exact hinv.2.1 | exact hinv.2.2.1 | exact e1.1 | exact e6 | exact hd2.1) rfl ?_
    refine ax_getf (pc := 17) fX4_141 dX4_kindsGrinding_17 (by first | exact c1.1 | exact c6 | exact hinv.2.1 | exact hinv.2.2.1 | exact e1.1 | exact e6 | exact hd2.1) rfl ?_
    refine ax_iload_n (pc := 20) dX4_kindsGrinding_20 rfl ?_
    refine ax_iload (pc := 21) dX4_kindsGrinding_21 rfl ?_
    refine ax_iast (pc := 23) dX4_kindsGrinding_23 (by first | exact c1.1 | exact c6 | exact hinv.2.1 | exact hinv.2.2.1 | exact e1.1 | exact e6 | exact hd2.1) (ni_in9 h9 (by decide)) ?_
    rw [ni_cl (by omega)]
    have hd2 := dyP_14 (v := j) hinv.2
    have hc2 := CP_14 (q := upd (fun i => nI (up_n (s_D s).2.1 k x i)) k (nI j)) hinv.1
    obtain ⟨e1, e2, e3, e4, e5, e6, e7, e8, e9⟩ := id hc2
    refine ax_aload_n (pc := 24) dX4_kindsGrinding_24 rfl ?_
    refine ax_getf (pc := 25) fX4_43 dX4_kindsGrinding_25 (by first | exact c1.1 | exact c6 | exact hinv.2.1 | exact hinv.2.2.1 | exact e1.1 | exact e6 | exact hd2.1) rfl ?_
    refine ax_iload_n (pc := 28) dX4_kindsGrinding_28 rfl ?_
    refine ax_iload_n (pc := 29) dX4_kindsGrinding_29 rfl ?_
    refine ax_aload_n (pc := 30) dX4_kindsGrinding_30 rfl ?_
    refine ax_getf (pc := 31) fX4_28 dX4_kindsGrinding_31 (by first | exact c1.1 | exact c6 | exact hinv.2.1 | exact hinv.2.2.1 | exact e1.1 | exact e6 | exact hd2.1) rfl ?_
    refine ax_getf (pc := 34) fX4_169 dX4_kindsGrinding_34 (by first | exact c1.1 | exact c6 | exact hinv.2.1 | exact hinv.2.2.1 | exact e1.1 | exact e6 | exact hd2.1) rfl ?_
    refine ax_eVi3 (pc := 37) vX4_150 dX4_kindsGrinding_37 (by decide) (by first | exact c1.1 | exact c6 | exact hinv.2.1 | exact hinv.2.2.1 | exact e1.1 | exact e6 | exact hd2.1) (Nat.le_of_ble_eq_true rfl) (c_X0_flour _ _ (dK (s_D s) k j) (s_fi s) 7 14 15 16 hd2 k t _ h9 hfi (D0_k hD0 (by omega)) ht hW0.2.2) ?_
    rw [sp_fk_e]
    refine ax_iload_n (pc := 40) dX4_kindsGrinding_40 rfl ?_
    refine ax_icmpne (pc := 41) (tgt := 47) dX4_kindsGrinding_41 (by decide) (fun c41 => ?_) (fun c41 => ?_)
    · refine ax_inc5p1 (pc := 47) dX4_kindsGrinding_47 rfl (by decide) ?_
      refine ax_goto (pc := 50) (tgt := 6) dX4_kindsGrinding_50 (by decide) ?_
      have hb : sp_fk s k t j < 100 := Nat.lt_of_le_of_lt (sp_fl_le (hD0.2.2 k h9).2.1 ht) (by decide)
      have cz : nI (sp_fk s k t j) = nI v ↔ (fun b => decide (sp_fk s k t b = v)) j = true := by rw [nI_eq (by omega) (by omega)]; exact (decide_eq_true_iff).symm
      rw [cz] at c41
      have q2 : sp_ct (fun b => decide (sp_fk s k t b = v)) (j + 1) = sp_ct (fun b => decide (sp_fk s k t b = v)) j + (if (fun b => decide (sp_fk s k t b = v)) j = true then 1 else 0) := rfl
      first | rw [if_pos c41] at q2 | rw [if_neg c41] at q2
      first | rw [nI_1, nI_1, ← q2] | rw [nI_1, show sp_ct (fun b => decide (sp_fk s k t b = v)) j = sp_ct (fun b => decide (sp_fk s k t b = v)) (j + 1) from q2.symm]
      exact ih (j + 1) (by omega) _ j ⟨hc2, hd2⟩
    · refine ax_inc4p1 (pc := 44) dX4_kindsGrinding_44 rfl (by decide) ?_
      refine ax_inc5p1 (pc := 47) dX4_kindsGrinding_47 rfl (by decide) ?_
      refine ax_goto (pc := 50) (tgt := 6) dX4_kindsGrinding_50 (by decide) ?_
      have hb : sp_fk s k t j < 100 := Nat.lt_of_le_of_lt (sp_fl_le (hD0.2.2 k h9).2.1 ht) (by decide)
      have cz : nI (sp_fk s k t j) = nI v ↔ (fun b => decide (sp_fk s k t b = v)) j = true := by rw [nI_eq (by omega) (by omega)]; exact (decide_eq_true_iff).symm
      rw [cz] at c41
      have q2 : sp_ct (fun b => decide (sp_fk s k t b = v)) (j + 1) = sp_ct (fun b => decide (sp_fk s k t b = v)) j + (if (fun b => decide (sp_fk s k t b = v)) j = true then 1 else 0) := rfl
      first | rw [if_pos c41] at q2 | rw [if_neg c41] at q2
      first | rw [nI_1, nI_1, ← q2] | rw [nI_1, show sp_ct (fun b => decide (sp_fk s k t b = v)) j = sp_ct (fun b => decide (sp_fk s k t b = v)) (j + 1) from q2.symm]
      exact ih (j + 1) (by omega) _ j ⟨hc2, hd2⟩
set_option maxHeartbeats 4000000 in
set_option maxRecDepth 100000 in
theorem c_X4_kindsGrinding (dom : List Nat) (h : mh_H) (s : sg) (k : Nat) (h9 : k < 9) (hD0 : sp_D0 (s_D s)) (hW0 : sp_W0 (s_D s).1 (s_w s)) (hfi : s_fi s < 512) (t : Nat) (ht : t ≤ 4) (v : Nat) (hv : v < 1000) (x : Nat) (hc : CP s h) (hd : dyP (dK (s_D s) k x) (s_fi s) 7 14 15 16 h) : Mt mX4_kindsGrinding dom 2 [.ref 0, .int (nI k), .int (nI t), .int (nI v)] h (mx_Ri (fun v' h' => v' = nI (sp_gc s k t v) ∧ CP s h' ∧ ∃ x', dyP (dK (s_D s) k x') (s_fi s) 7 14 15 16 h')) := by
  refine Mt.of (L := [some (.ref 0), some (.int (nI k)), some (.int (nI t)), some (.int (nI v)), none, none]) rfl (Nat.le_of_ble_eq_true rfl) rfl ?_
  refine ax_iconst (pc := 0) (v := 0) dX4_kindsGrinding_0 (by decide) ?_
  refine ax_istore4 (pc := 1) dX4_kindsGrinding_1 rfl (by decide) ?_
  refine ax_iconst (pc := 3) (v := 0) dX4_kindsGrinding_3 (by decide) ?_
  refine ax_istore5 (pc := 4) dX4_kindsGrinding_4 rfl (by decide) ?_
  exact l_X4_kindsGrinding dom s k h9 hD0 hW0 hfi t ht v hv 6 0 (by omega) h x ⟨hc, hd⟩
set_option maxHeartbeats 4000000 in
set_option maxRecDepth 100000 in
theorem l_X4_greatestPart (dom : List Nat) (s : sg) (k : Nat) (h9 : k < 9) (hD0 : sp_D0 (s_D s)) (hW0 : sp_W0 (s_D s).1 (s_w s)) (hfi : s_fi s < 512) (t : Nat) (ht : t ≤ 4) : ∀ (nn j : Nat), j + nn = 6 → ∀ (H : mh_H) (x : Nat), (CP s H ∧ dyP (dK (s_D s) k x) (s_fi s) 7 14 15 16 H) → At mX4_greatestPart dom 3 16 [some (.ref 0), some (.int (nI k)), some (.int (nI t)), some (.int (nI (sp_mxn (fun a => sp_gc s k t (sp_fk s k t a)) j))), some (.int (nI j))] [] H (mx_Ri (fun v' h' => v' = nI (sp_gp s k t) ∧ CP s h')) := by
  intro nn
  induction nn with
  | zero =>
    intro j hj H x hinv
    have hj : j = 6 := by omega
    subst hj
    refine ax_iload (pc := 16) dX4_greatestPart_16 rfl ?_
    refine ax_bipush (pc := 18) (v := 6) dX4_greatestPart_18 (by decide) ?_
    refine ax_icmpge (pc := 20) (tgt := 67) dX4_greatestPart_20 (by decide) (fun _ => ?_) (fun q => absurd (by decide) q)
    refine ax_iload_n (pc := 67) dX4_greatestPart_67 rfl ?_
    refine ax_iret (pc := 68) dX4_greatestPart_68 rfl ?_
    exact ⟨_, rfl, rfl, hinv.1⟩
  | succ nn ih =>
    intro j hj H x hinv
    have hlt : j < 6 := by omega
    obtain ⟨c1, c2, c3, c4, c5, c6, c7, c8, c9⟩ := id hinv.1
    refine ax_iload (pc := 16) dX4_greatestPart_16 rfl ?_
    refine ax_bipush (pc := 18) (v := 6) dX4_greatestPart_18 (by decide) ?_
    refine ax_icmpge (pc := 20) (tgt := 67) dX4_greatestPart_20 (by decide) (fun q => absurd q (by rw [n_6, nI_leI (by decide) (by omega)]; omega)) (fun _ => ?_)
    refine ax_aload_n (pc := 23) dX4_greatestPart_23 rfl ?_
    refine ax_getf (pc := 24) fX4_43 dX4_greatestPart_24 (by first | exact c1.1 | exact c6 | exact hinv.2.1 | exact hinv.2.2.1 | exact e1.1 | exact e6 | exact hd2.1) rfl ?_
    refine ax_getf (pc := 27) fX4_141 dX4_greatestPart_27 (by first | exact c1.1 | exact c6 | exact hinv.2.1 | exact hinv.2.2.1 | exact e1.1 | exact e6 | exact hd2.1) rfl ?_
    refine ax_iload_n (pc := 30) dX4_greatestPart_30 rfl ?_
    refine ax_iload (pc := 31) dX4_greatestPart_31 rfl ?_
    refine ax_iast (pc := 33) dX4_greatestPart_33 (by first | exact c1.1 | exact c6 | exact hinv.2.1 | exact hinv.2.2.1 | exact e1.1 | exact e6 | exact hd2.1) (ni_in9 h9 (by decide)) ?_
    rw [ni_cl (by omega)]
    have hd2 := dyP_14 (v := j) hinv.2
    have hc2 := CP_14 (q := upd (fun i => nI (up_n (s_D s).2.1 k x i)) k (nI j)) hinv.1
    obtain ⟨e1, e2, e3, e4, e5, e6, e7, e8, e9⟩ := id hc2
    refine ax_iload_n (pc := 34) dX4_greatestPart_34 rfl ?_
    refine ax_aload_n (pc := 35) dX4_greatestPart_35 rfl ?_
    refine ax_iload_n (pc := 36) dX4_greatestPart_36 rfl ?_
    refine ax_iload_n (pc := 37) dX4_greatestPart_37 rfl ?_
    refine ax_aload_n (pc := 38) dX4_greatestPart_38 rfl ?_
    refine ax_getf (pc := 39) fX4_43 dX4_greatestPart_39 (by first | exact c1.1 | exact c6 | exact hinv.2.1 | exact hinv.2.2.1 | exact e1.1 | exact e6 | exact hd2.1) rfl ?_
    refine ax_iload_n (pc := 42) dX4_greatestPart_42 rfl ?_
    refine ax_iload_n (pc := 43) dX4_greatestPart_43 rfl ?_
    refine ax_aload_n (pc := 44) dX4_greatestPart_44 rfl ?_
    refine ax_getf (pc := 45) fX4_28 dX4_greatestPart_45 (by first | exact c1.1 | exact c6 | exact hinv.2.1 | exact hinv.2.2.1 | exact e1.1 | exact e6 | exact hd2.1) rfl ?_
    refine ax_getf (pc := 48) fX4_169 dX4_greatestPart_48 (by first | exact c1.1 | exact c6 | exact hinv.2.1 | exact hinv.2.2.1 | exact e1.1 | exact e6 | exact hd2.1) rfl ?_
    refine ax_eVi3 (pc := 51) vX4_150 dX4_greatestPart_51 (by decide) (by first | exact c1.1 | exact c6 | exact hinv.2.1 | exact hinv.2.2.1 | exact e1.1 | exact e6 | exact hd2.1) (Nat.le_of_ble_eq_true rfl) (c_X0_flour _ _ (dK (s_D s) k j) (s_fi s) 7 14 15 16 hd2 k t _ h9 hfi (D0_k hD0 (by omega)) ht hW0.2.2) ?_
    rw [sp_fk_e]
    have hb : sp_fk s k t j < 1000 := Nat.lt_of_le_of_lt (sp_fl_le (hD0.2.2 k h9).2.1 ht) (by decide)
    refine ax_cVi3 (pc := 54) vX4_331 dX4_greatestPart_54 (by decide) (by first | exact c1.1 | exact c6 | exact hinv.2.1 | exact hinv.2.2.1 | exact e1.1 | exact e6 | exact hd2.1) (Nat.le_of_ble_eq_true rfl) (c_X4_kindsGrinding _ _ s k h9 hD0 hW0 hfi t ht (sp_fk s k t j) hb j hc2 hd2) (fun v1 h1 hq1 => ?_)
    obtain ⟨rfl, hc3, x3, hd3⟩ := hq1
    refine ax_max (pc := 57) tw_476 dX4_greatestPart_57 (by decide) (Nat.le_of_ble_eq_true rfl) tw_max ?_
    refine At.ti (ni_max (Nat.lt_of_le_of_lt (sp_mxn_le (fun i => sp_ct_le _ 6) j) (by decide)) (Nat.lt_of_le_of_lt (sp_ct_le _ 6) (by decide))) ?_
    refine ax_istore3 (pc := 60) dX4_greatestPart_60 rfl (by decide) ?_
    refine ax_inc4p1 (pc := 61) dX4_greatestPart_61 rfl (by decide) ?_
    refine ax_goto (pc := 64) (tgt := 16) dX4_greatestPart_64 (by decide) ?_
    rw [nI_1]
    exact ih (j + 1) (by omega) _ x3 ⟨hc3, hd3⟩
set_option maxHeartbeats 4000000 in
set_option maxRecDepth 100000 in
theorem c_X4_greatestPart (dom : List Nat) (h : mh_H) (s : sg) (k : Nat) (h9 : k < 9) (hD0 : sp_D0 (s_D s)) (hW0 : sp_W0 (s_D s).1 (s_w s)) (hfi : s_fi s < 512) (t : Nat) (ht : t ≤ 4) (hc : CP s h) : Mt mX4_greatestPart dom 3 [.ref 0, .int (nI k), .int (nI t)] h (mx_Ri (fun v' h' => v' = nI (sp_gp s k t) ∧ CP s h')) := by
  refine Mt.of (L := [some (.ref 0), some (.int (nI k)), some (.int (nI t)), none, none]) rfl (Nat.le_of_ble_eq_true rfl) rfl ?_
  obtain ⟨c1, c2, c3, c4, c5, c6, c7, c8, c9⟩ := id hc
  obtain ⟨gx0, gx1, gk1, gf1, gr1, g7, g14, g15, g16⟩ := id c9.1
  obtain ⟨t0, t1, t2, t3, t4, g8⟩ := id c9.2.1
  refine ax_aload_n (pc := 0) dX4_greatestPart_0 rfl ?_
  refine ax_getf (pc := 1) fX4_43 dX4_greatestPart_1 (by first | exact c1.1 | exact c5.1 | exact c6 | exact c5.2.1 | exact c5.2.2.1 | exact c5.2.2.2 | exact c1.2 | exact c2.1 | exact c2.2.1 | exact c2.2.2.1 | exact c2.2.2.2 | exact g7 | exact g8 | rfl) rfl ?_
  refine ax_aload_n (pc := 4) dX4_greatestPart_4 rfl ?_
  refine ax_getf (pc := 5) fX4_21 dX4_greatestPart_5 (by first | exact c1.1 | exact c5.1 | exact c6 | exact c5.2.1 | exact c5.2.2.1 | exact c5.2.2.2 | exact c1.2 | exact c2.1 | exact c2.2.1 | exact c2.2.2.1 | exact c2.2.2.2 | exact g7 | exact g8 | rfl) rfl ?_
  refine ax_eVv1 (pc := 8) vX4_207 dX4_greatestPart_8 (by decide) (by first | exact c1.1 | exact c5.1 | exact c6 | exact c5.2.1 | exact c5.2.2.1 | exact c5.2.2.2 | exact c1.2 | exact c2.1 | exact c2.2.1 | exact c2.2.2.1 | exact c2.2.2.2 | exact g7 | exact g8 | rfl) (Nat.le_of_ble_eq_true rfl) (c_X0_copyOf _ _ (s_D s) (s_fi s) c9.1 c5) ?_
  refine ax_iconst (pc := 11) (v := 0) dX4_greatestPart_11 (by decide) ?_
  refine ax_istore3 (pc := 12) dX4_greatestPart_12 rfl (by decide) ?_
  refine ax_iconst (pc := 13) (v := 0) dX4_greatestPart_13 (by decide) ?_
  refine ax_istore4 (pc := 14) dX4_greatestPart_14 rfl (by decide) ?_
  exact l_X4_greatestPart dom s k h9 hD0 hW0 hfi t ht 6 0 (by omega) (gsH h (s_D s) (s_fi s)) ((s_D s).2.1 k) ⟨CP_gs hc, by rw [show dK (s_D s) k ((s_D s).2.1 k) = s_D s by show (_, _, _, _) = _; rw [up_n_id]]; exact gsH_P h (s_D s) (s_fi s)⟩
set_option maxHeartbeats 4000000 in
set_option maxRecDepth 100000 in
theorem l_X4_look (dom : List Nat) (s : sg) (k : Nat) (h9 : k < 9) (hD0 : sp_D0 (s_D s)) (hW0 : sp_W0 (s_D s).1 (s_w s)) (hfi : s_fi s < 512) : ∀ (nn j : Nat), j + nn = 5 → ∀ (H : mh_H) (l5 : Option Value), CP s H → At mX4_look dom 4 18 [some (.ref 0), some (.int (nI k)), some (.int (sp_mn 0 7 (sp_gp s k) j).1), some (.int (sp_mn 0 7 (sp_gp s k) j).2), some (.int (nI j)), l5] [] H (mx_Ri (fun v' h' => v' = (((sp_mn 0 7 (sp_gp s k) 5).1, u_ask s (sp_mn 0 7 (sp_gp s k) 5).2)).1 ∧ CP (((sp_mn 0 7 (sp_gp s k) 5).1, u_ask s (sp_mn 0 7 (sp_gp s k) 5).2)).2 h')) := by
  intro nn
  induction nn with
  | zero =>
    intro j hj H l5 hinv
    have hj : j = 5 := by omega
    subst hj
    obtain ⟨c1, c2, c3, c4, c5, c6, c7, c8, c9⟩ := id hinv
    refine ax_iload (pc := 18) dX4_look_18 rfl ?_
    refine ax_iconst (pc := 20) (v := 4) dX4_look_20 (by decide) ?_
    refine ax_icmpgt (pc := 21) (tgt := 51) dX4_look_21 (by decide) (fun _ => ?_) (fun q => absurd (by decide) q)
    refine ax_aload_n (pc := 51) dX4_look_51 rfl ?_
    refine ax_iload_n (pc := 52) dX4_look_52 rfl ?_
    refine ax_puti9 (pc := 53) gX4_53 dX4_look_53 (by exact c1.1) ?_
    refine ax_iload_n (pc := 56) dX4_look_56 rfl ?_
    refine ax_iret (pc := 57) dX4_look_57 rfl ?_
    exact fin_i rfl (CP_ask hinv)
  | succ nn ih =>
    intro j hj H l5 hinv
    have hlt : j < 5 := by omega
    obtain ⟨c1, c2, c3, c4, c5, c6, c7, c8, c9⟩ := id hinv
    refine ax_iload (pc := 18) dX4_look_18 rfl ?_
    refine ax_iconst (pc := 20) (v := 4) dX4_look_20 (by decide) ?_
    refine ax_icmpgt (pc := 21) (tgt := 51) dX4_look_21 (by decide) (fun q => absurd q (by rw [n_4, nI_ltI (by decide) (by omega)]; omega)) (fun _ => ?_)
    refine ax_aload_n (pc := 24) dX4_look_24 rfl ?_
    refine ax_iload_n (pc := 25) dX4_look_25 rfl ?_
    refine ax_iload (pc := 26) dX4_look_26 rfl ?_
    refine ax_cVi2 (pc := 28) vX4_224 dX4_look_28 (by decide) (by exact c1.1) (Nat.le_of_ble_eq_true rfl) (c_X4_greatestPart _ _ s k h9 hD0 hW0 hfi j (by omega) hinv) (fun v1 h1 hq1 => ?_)
    obtain ⟨rfl, hc3⟩ := hq1
    refine ax_istore5 (pc := 31) dX4_look_31 rfl (by decide) ?_
    refine ax_iload (pc := 33) dX4_look_33 rfl ?_
    refine ax_iload_n (pc := 35) dX4_look_35 rfl ?_
    refine ax_icmpge (pc := 36) (tgt := 45) dX4_look_36 (by decide) (fun c36 => ?_) (fun c36 => ?_)
    · refine ax_inc4p1 (pc := 45) dX4_look_45 rfl (by decide) ?_
      refine ax_goto (pc := 48) (tgt := 18) dX4_look_48 (by decide) ?_
      rw [nI_1]
      have ih2 := ih (j + 1) (by omega) h1 (some (.int (nI (sp_gp s k j)))) hc3
      first | rw [sp_mn_f (g := sp_gp s k) (j := j) (Int32.not_lt.mpr c36)] at ih2 | rw [sp_mn_t (g := sp_gp s k) (j := j) (Int32.not_le.mp c36)] at ih2
      exact ih2
    · refine ax_iload (pc := 39) dX4_look_39 rfl ?_
      refine ax_istore3 (pc := 41) dX4_look_41 rfl (by decide) ?_
      refine ax_iload (pc := 42) dX4_look_42 rfl ?_
      refine ax_istore2 (pc := 44) dX4_look_44 rfl (by decide) ?_
      refine ax_inc4p1 (pc := 45) dX4_look_45 rfl (by decide) ?_
      refine ax_goto (pc := 48) (tgt := 18) dX4_look_48 (by decide) ?_
      rw [nI_1]
      have ih2 := ih (j + 1) (by omega) h1 (some (.int (nI (sp_gp s k j)))) hc3
      first | rw [sp_mn_f (g := sp_gp s k) (j := j) (Int32.not_lt.mpr c36)] at ih2 | rw [sp_mn_t (g := sp_gp s k) (j := j) (Int32.not_le.mp c36)] at ih2
      exact ih2
set_option maxHeartbeats 4000000 in
set_option maxRecDepth 100000 in
theorem c_X4_look (dom : List Nat) (h : mh_H) (s : sg) (k : Int32) (hc : CP s h) (hv : IV s) : Mt mX4_look dom 4 [.ref 0, .int k] h (mx_Ri (fun v' h' => v' = (sp_look s k).1 ∧ CP (sp_look s k).2 h')) := by
  refine Mt.of (L := [some (.ref 0), some (.int k), none, none, none, none]) rfl (Nat.le_of_ble_eq_true rfl) rfl ?_
  obtain ⟨c1, c2, c3, c4, c5, c6, c7, c8, c9⟩ := id hc
  obtain ⟨gx0, gx1, gk1, gf1, gr1, g7, g14, g15, g16⟩ := id c9.1
  obtain ⟨t0, t1, t2, t3, t4, g8⟩ := id c9.2.1
  refine ax_aload_n (pc := 0) dX4_look_0 rfl ?_
  refine ax_iload_n (pc := 1) dX4_look_1 rfl ?_
  refine ax_eVi1 (pc := 2) vX4_130 dX4_look_2 (by decide) (by first | exact c1.1 | exact c5.1 | exact c6 | exact c5.2.1 | exact c5.2.2.1 | exact c5.2.2.2 | exact c1.2 | exact c2.1 | exact c2.2.1 | exact c2.2.2.1 | exact c2.2.2.2 | exact g7 | exact g8 | rfl) (Nat.le_of_ble_eq_true rfl) (c_X4_isDay _ _ s _ hc) ?_
  refine ax_ifneB (pc := 5) (tgt := 10) dX4_look_5 (by decide) (fun c5a => ?_) (fun c5a => ?_)
  · obtain ⟨j, hj, rfl, h9, hD0, hW0, hfi⟩ := hv.d c5a
    refine ax_iconst (pc := 10) (v := 0) dX4_look_10 (by decide) ?_
    refine ax_istore2 (pc := 11) dX4_look_11 rfl (by decide) ?_
    refine ax_bipush (pc := 12) (v := 7) dX4_look_12 (by decide) ?_
    refine ax_istore3 (pc := 14) dX4_look_14 rfl (by decide) ?_
    refine ax_iconst (pc := 15) (v := 0) dX4_look_15 (by decide) ?_
    refine ax_istore4 (pc := 16) dX4_look_16 rfl (by decide) ?_
    unfold sp_look
    rw [if_neg (not_not_intro c5a), ni_cl (by omega)]
    exact l_X4_look dom s j h9 hD0 hW0 hfi 5 0 (by omega) h none hc
  · refine ax_iconst (pc := 8) (v := -1) dX4_look_8 (by decide) ?_
    refine ax_iret (pc := 9) dX4_look_9 rfl ?_
    exact fin_i (by unfold sp_look; exact if_pos c5a) hc
/-- what is ground in 8 steps through a hatch t, a grating c -/
def sp_gd (s : sg) (t c : Nat) : Nat := (wi (s_D s) (s_fi s) ((s_t s).1, t, c, (s_t s).2.2.2.1, 0) 8).2.2.2.2
/-- by turns: the miller's (true), the other one's -/
def sp_du (s : sg) : Nat → Bool → Nat → Nat → Nat
  | 0, _, t, c => sp_gd s t c
  | n + 1, true, t, c => max (sp_du s n false t c) (max (sp_du s n false t 0) (sp_du s n false (min 4 (t + 1)) c))
  | n + 1, false, t, c => min (sp_du s n true t c) (sp_du s n true t (min 40 (c + 5)))
theorem sp_gd_le {s : sg} (hD0 : sp_D0 (s_D s)) (hW0 : sp_W0 (s_D s).1 (s_w s)) {t c : Nat} (ht : t ≤ 4) (hc : c ≤ 40) : sp_gd s t c ≤ 616 := by
  have := wi_g (fi := s_fi s) hD0 (w := ((s_t s).1, t, c, (s_t s).2.2.2.1, 0)) ⟨hW0.1, ht, hc⟩ 8
  exact Nat.le_trans this (Nat.le_of_eq (by show 0 + 77 * 8 = 616; rfl))
theorem sp_du_le {s : sg} (hD0 : sp_D0 (s_D s)) (hW0 : sp_W0 (s_D s).1 (s_w s)) : ∀ (n : Nat) (b : Bool) (t c : Nat), t ≤ 4 → c ≤ 40 → sp_du s n b t c ≤ 616
  | 0, _, _, _, ht, hc => sp_gd_le hD0 hW0 ht hc
  | n + 1, true, t, c, ht, hc => Nat.max_le.mpr ⟨sp_du_le hD0 hW0 n false t c ht hc, Nat.max_le.mpr ⟨sp_du_le hD0 hW0 n false t 0 ht (by decide), sp_du_le hD0 hW0 n false _ c (Nat.min_le_left _ _) hc⟩⟩
  | n + 1, false, t, c, ht, hc => Nat.le_trans (Nat.min_le_left _ _) (sp_du_le hD0 hW0 n true t c ht hc)
def sp_duel (s : sg) (n : Int32) : Int32 × sg := if ¬ (0 ≤ n ∧ n ≤ 6) then (-1, s) else if (s_D s).1 = 0 then (-4, s) else (nI (sp_du s n.toNatClampNeg true (s_w s).2.1 (s_w s).2.2.1), s)
set_option maxHeartbeats 4000000 in
set_option maxRecDepth 100000 in
theorem l_X4_gad (dom : List Nat) (h : mh_H) (s : sg) (hc : CP s h) (hD0 : sp_D0 (s_D s)) (hW0 : sp_W0 (s_D s).1 (s_w s)) (hfi : s_fi s < 512) (t c : Nat) (hwd : sp_W0 (s_D s).1 ((s_t s).1, t, c, (s_t s).2.2.2.1, 0)) : ∀ (nn j : Nat), j + nn = 8 → At mX4_groundAfterDuel dom 3 22 [some (.ref 0), some (.int (nI t)), some (.int (nI c)), some (.int (nI j))] [] (mh_up h 8 (wc (wi (s_D s) (s_fi s) ((s_t s).1, t, c, (s_t s).2.2.2.1, 0) j))) (mx_Ri (fun v' h' => v' = nI (sp_gd s t c) ∧ h' = mh_up h 8 (wc (wi (s_D s) (s_fi s) ((s_t s).1, t, c, (s_t s).2.2.2.1, 0) 8)))) := by
  intro nn
  induction nn with
  | zero =>
    intro j hj
    have hj : j = 8 := by omega
    subst hj
    obtain ⟨c1, c2, c3, c4, c5, c6, c7, c8, c9⟩ := id hc
    refine ax_iload_n (pc := 22) dX4_groundAfterDuel_22 rfl ?_
    refine ax_bipush (pc := 23) (v := 8) dX4_groundAfterDuel_23 (by decide) ?_
    refine ax_icmpge (pc := 25) (tgt := 46) dX4_groundAfterDuel_25 (by decide) (fun _ => ?_) (fun q => absurd (by decide) q)
    refine ax_aload_n (pc := 46) dX4_groundAfterDuel_46 rfl ?_
    refine ax_getf (pc := 47) fX4_46 dX4_groundAfterDuel_47 (by first | exact c1.1 | exact mh_up_s | exact c5.1 | exact g8 | exact c2.1) rfl ?_
    refine ax_getf (pc := 50) fX4_196 dX4_groundAfterDuel_50 (by first | exact c1.1 | exact mh_up_s | exact c5.1 | exact g8 | exact c2.1) rfl ?_
    refine ax_iret (pc := 53) dX4_groundAfterDuel_53 rfl ?_
    exact ⟨_, rfl, rfl, rfl⟩
  | succ nn ih =>
    intro j hj
    have hlt : j < 8 := by omega
    obtain ⟨c1, c2, c3, c4, c5, c6, c7, c8, c9⟩ := id hc
    refine ax_iload_n (pc := 22) dX4_groundAfterDuel_22 rfl ?_
    refine ax_bipush (pc := 23) (v := 8) dX4_groundAfterDuel_23 (by decide) ?_
    refine ax_icmpge (pc := 25) (tgt := 46) dX4_groundAfterDuel_25 (by decide) (fun q => absurd q (by rw [n_8, nI_leI (by decide) (by omega)]; omega)) (fun _ => ?_)
    refine ax_aload_n (pc := 28) dX4_groundAfterDuel_28 rfl ?_
    refine ax_getf (pc := 29) fX4_46 dX4_groundAfterDuel_29 (by first | exact c1.1 | exact mh_up_s | exact c5.1 | exact g8 | exact c2.1) rfl ?_
    refine ax_aload_n (pc := 32) dX4_groundAfterDuel_32 rfl ?_
    refine ax_getf (pc := 33) fX4_21 dX4_groundAfterDuel_33 (by first | exact c1.1 | exact mh_up_s | exact c5.1 | exact g8 | exact c2.1) rfl ?_
    refine ax_eVi1 (pc := 36) vX4_189 dX4_groundAfterDuel_36 (by decide) (by first | exact c1.1 | exact mh_up_s | exact c5.1 | exact g8 | exact c2.1) (Nat.le_of_ble_eq_true rfl) (c_X3_goRound _ _ (s_D s) (s_fi s) 8 3 11 12 13 (wi (s_D s) (s_fi s) ((s_t s).1, t, c, (s_t s).2.2.2.1, 0) j).1 (wi (s_D s) (s_fi s) ((s_t s).1, t, c, (s_t s).2.2.2.1, 0) j).2.1 (wi (s_D s) (s_fi s) ((s_t s).1, t, c, (s_t s).2.2.2.1, 0) j).2.2.1 (wi (s_D s) (s_fi s) ((s_t s).1, t, c, (s_t s).2.2.2.1, 0) j).2.2.2.2 (wi (s_D s) (s_fi s) ((s_t s).1, t, c, (s_t s).2.2.2.1, 0) j).2.2.2.1 (by exact mh_up_s) (dyP_k (fun q hq => mh_up_n (by omega)) c5) hD0 (wi_ok hD0 hwd j) hfi) ?_
    refine At.hp mh_up_uu ?_
    refine ax_pop (pc := 39) dX4_groundAfterDuel_39 rfl ?_
    refine ax_inc3p1 (pc := 40) dX4_groundAfterDuel_40 rfl (by decide) ?_
    refine ax_goto (pc := 43) (tgt := 22) dX4_groundAfterDuel_43 (by decide) ?_
    rw [nI_1]
    exact ih (j + 1) (by omega)
set_option maxHeartbeats 4000000 in
set_option maxRecDepth 100000 in
theorem c_X4_groundAfterDuel (dom : List Nat) (h : mh_H) (s : sg) (hc : CP s h) (hD0 : sp_D0 (s_D s)) (hW0 : sp_W0 (s_D s).1 (s_w s)) (hfi : s_fi s < 512) (t c : Nat) (ht : t ≤ 4) (hcc : c ≤ 40) : Mt mX4_groundAfterDuel dom 3 [.ref 0, .int (nI t), .int (nI c)] h (mx_Ri (fun v' h' => v' = nI (sp_gd s t c) ∧ CP s h')) := by
  refine Mt.of (L := [some (.ref 0), some (.int (nI t)), some (.int (nI c)), none]) rfl (Nat.le_of_ble_eq_true rfl) rfl ?_
  obtain ⟨c1, c2, c3, c4, c5, c6, c7, c8, c9⟩ := id hc
  refine ax_aload_n (pc := 0) dX4_groundAfterDuel_0 rfl ?_
  refine ax_eVv0 (pc := 1) vX4_182 dX4_groundAfterDuel_1 (by decide) (by first | exact c1.1 | exact mh_up_s | exact c5.1 | exact g8 | exact c2.1) (Nat.le_of_ble_eq_true rfl) (c_X4_startTrial _ _ s hc) ?_
  refine ax_aload_n (pc := 4) dX4_groundAfterDuel_4 rfl ?_
  refine ax_getf (pc := 5) fX4_46 dX4_groundAfterDuel_5 (by first | exact c1.1 | exact mh_up_s | exact c5.1 | exact g8 | exact c2.1) rfl ?_
  refine ax_iload_n (pc := 8) dX4_groundAfterDuel_8 rfl ?_
  refine ax_puti1u (pc := 9) gX4_166 dX4_groundAfterDuel_9 ?_
  refine ax_aload_n (pc := 12) dX4_groundAfterDuel_12 rfl ?_
  refine ax_getf (pc := 13) fX4_46 dX4_groundAfterDuel_13 (by first | exact c1.1 | exact mh_up_s | exact c5.1 | exact g8 | exact c2.1) rfl ?_
  refine ax_iload_n (pc := 16) dX4_groundAfterDuel_16 rfl ?_
  refine ax_puti2u (pc := 17) gX4_169 dX4_groundAfterDuel_17 ?_
  refine ax_iconst (pc := 20) (v := 0) dX4_groundAfterDuel_20 (by decide) ?_
  refine ax_istore3 (pc := 21) dX4_groundAfterDuel_21 rfl (by decide) ?_
  refine At.mono ?_ (l_X4_gad dom h s hc hD0 hW0 hfi t c ⟨hW0.1, ht, hcc⟩ 8 0 (by omega))
  rintro r h1 ⟨v, rfl, rfl, rfl⟩
  exact ⟨_, rfl, rfl, CP_8 hc⟩
set_option maxHeartbeats 4000000 in
set_option maxRecDepth 100000 in
theorem c_X4_turnsBy (dom : List Nat) (s : sg) (hD0 : sp_D0 (s_D s)) (hW0 : sp_W0 (s_D s).1 (s_w s)) (hfi : s_fi s < 512) : ∀ (n : Nat), n ≤ 6 → (∀ (h : mh_H) (t c : Nat), t ≤ 4 → c ≤ 40 → CP s h → Mt mX4_millersTurn dom (n + 4) [.ref 0, .int (nI n), .int (nI t), .int (nI c)] h (mx_Ri (fun v' h' => v' = nI (sp_du s n true t c) ∧ CP s h'))) ∧ (∀ (h : mh_H) (t c : Nat), t ≤ 4 → c ≤ 40 → CP s h → Mt mX4_throwersTurn dom (n + 4) [.ref 0, .int (nI n), .int (nI t), .int (nI c)] h (mx_Ri (fun v' h' => v' = nI (sp_du s n false t c) ∧ CP s h'))) := by
  intro n
  induction n with
  | zero =>
    intro hn
    constructor
    · intro h t c ht hcc hc
      refine Mt.of (L := [some (.ref 0), some (.int (nI 0)), some (.int (nI t)), some (.int (nI c)), none, none, none]) rfl (Nat.le_of_ble_eq_true rfl) rfl ?_
      obtain ⟨c1, c2, c3, c4, c5, c6, c7, c8, c9⟩ := id hc
      refine ax_iload_n (pc := 0) dX4_millersTurn_0 rfl ?_
      refine ax_ifgt (pc := 1) (tgt := 11) dX4_millersTurn_1 (by decide) (fun q => absurd q (by decide)) (fun _ => ?_)
      refine ax_aload_n (pc := 4) dX4_millersTurn_4 rfl ?_
      refine ax_iload_n (pc := 5) dX4_millersTurn_5 rfl ?_
      refine ax_iload_n (pc := 6) dX4_millersTurn_6 rfl ?_
      refine ax_cVi2 (pc := 7) vX4_334 dX4_millersTurn_7 (by omega) (by exact c1.1) (Nat.le_of_ble_eq_true rfl) (c_X4_groundAfterDuel _ _ s hc hD0 hW0 hfi t c ht hcc) (fun v1 h1 hq1 => ?_)
      obtain ⟨rfl, hc1⟩ := hq1
      refine ax_iret (pc := 10) dX4_millersTurn_10 rfl ?_
      exact ⟨_, rfl, rfl, hc1⟩
    · intro h t c ht hcc hc
      refine Mt.of (L := [some (.ref 0), some (.int (nI 0)), some (.int (nI t)), some (.int (nI c)), none, none]) rfl (Nat.le_of_ble_eq_true rfl) rfl ?_
      obtain ⟨c1, c2, c3, c4, c5, c6, c7, c8, c9⟩ := id hc
      refine ax_iload_n (pc := 0) dX4_throwersTurn_0 rfl ?_
      refine ax_ifgt (pc := 1) (tgt := 11) dX4_throwersTurn_1 (by decide) (fun q => absurd q (by decide)) (fun _ => ?_)
      refine ax_aload_n (pc := 4) dX4_throwersTurn_4 rfl ?_
      refine ax_iload_n (pc := 5) dX4_throwersTurn_5 rfl ?_
      refine ax_iload_n (pc := 6) dX4_throwersTurn_6 rfl ?_
      refine ax_cVi2 (pc := 7) vX4_334 dX4_throwersTurn_7 (by omega) (by exact c1.1) (Nat.le_of_ble_eq_true rfl) (c_X4_groundAfterDuel _ _ s hc hD0 hW0 hfi t c ht hcc) (fun v1 h1 hq1 => ?_)
      obtain ⟨rfl, hc1⟩ := hq1
      refine ax_iret (pc := 10) dX4_throwersTurn_10 rfl ?_
      exact ⟨_, rfl, rfl, hc1⟩
  | succ n ih =>
    intro hn
    have ih := ih (by omega)
    constructor
    · intro h t c ht hcc hc
      refine Mt.of (L := [some (.ref 0), some (.int (nI (n + 1))), some (.int (nI t)), some (.int (nI c)), none, none, none]) rfl (Nat.le_of_ble_eq_true rfl) rfl ?_
      obtain ⟨c1, c2, c3, c4, c5, c6, c7, c8, c9⟩ := id hc
      have ht4 : min 4 (t + 1) ≤ 4 := Nat.min_le_left _ _
      refine ax_iload_n (pc := 0) dX4_millersTurn_0 rfl ?_
      refine ax_ifgt (pc := 1) (tgt := 11) dX4_millersTurn_1 (by decide) (fun _ => ?_) (fun q => absurd (by rw [n_0, nI_ltI (by decide) (by omega)]; omega) q)
      refine ax_aload_n (pc := 11) dX4_millersTurn_11 rfl ?_
      refine ax_iload_n (pc := 12) dX4_millersTurn_12 rfl ?_
      refine ax_iconst (pc := 13) (v := 1) dX4_millersTurn_13 (by decide) ?_
      refine ax_isub (pc := 14) dX4_millersTurn_14 ?_
      rw [nI_pred]
      refine ax_iload_n (pc := 15) dX4_millersTurn_15 rfl ?_
      refine ax_iload_n (pc := 16) dX4_millersTurn_16 rfl ?_
      refine ax_cVi3 (pc := 17) vX4_337 dX4_millersTurn_17 (by omega) (by first | exact c1.1 | exact hc1.1.1 | exact hc2.1.1) (Nat.le_of_ble_eq_true rfl) (ih.2 _ t c ht hcc hc) (fun v1 h1 hq1 => ?_)
      obtain ⟨rfl, hc1⟩ := hq1
      refine ax_istore4 (pc := 20) dX4_millersTurn_20 rfl (by decide) ?_
      refine ax_aload_n (pc := 22) dX4_millersTurn_22 rfl ?_
      refine ax_iload_n (pc := 23) dX4_millersTurn_23 rfl ?_
      refine ax_iconst (pc := 24) (v := 1) dX4_millersTurn_24 (by decide) ?_
      refine ax_isub (pc := 25) dX4_millersTurn_25 ?_
      rw [nI_pred]
      refine ax_iload_n (pc := 26) dX4_millersTurn_26 rfl ?_
      refine ax_iconst (pc := 27) (v := 0) dX4_millersTurn_27 (by decide) ?_
      refine ax_cVi3 (pc := 28) vX4_337 dX4_millersTurn_28 (by omega) (by first | exact c1.1 | exact hc1.1.1 | exact hc2.1.1) (Nat.le_of_ble_eq_true rfl) (ih.2 _ t 0 ht (by decide) hc1) (fun v2 h2 hq2 => ?_)
      obtain ⟨rfl, hc2⟩ := hq2
      refine ax_istore5 (pc := 31) dX4_millersTurn_31 rfl (by decide) ?_
      refine ax_aload_n (pc := 33) dX4_millersTurn_33 rfl ?_
      refine ax_iload_n (pc := 34) dX4_millersTurn_34 rfl ?_
      refine ax_iconst (pc := 35) (v := 1) dX4_millersTurn_35 (by decide) ?_
      refine ax_isub (pc := 36) dX4_millersTurn_36 ?_
      rw [nI_pred]
      refine ax_iconst (pc := 37) (v := 4) dX4_millersTurn_37 (by decide) ?_
      refine ax_iload_n (pc := 38) dX4_millersTurn_38 rfl ?_
      refine ax_iconst (pc := 39) (v := 1) dX4_millersTurn_39 (by decide) ?_
      refine ax_iadd (pc := 40) dX4_millersTurn_40 ?_
      refine ax_min (pc := 41) tw_542 dX4_millersTurn_41 (by omega) (Nat.le_of_ble_eq_true rfl) tw_min ?_
      refine At.ti (x' := nI (min 4 (t + 1))) (by rw [nI_1, n_4, ni_min (by decide) (by omega)]) ?_
      refine ax_iload_n (pc := 44) dX4_millersTurn_44 rfl ?_
      refine ax_cVi3 (pc := 45) vX4_337 dX4_millersTurn_45 (by omega) (by first | exact c1.1 | exact hc1.1.1 | exact hc2.1.1) (Nat.le_of_ble_eq_true rfl) (ih.2 _ (min 4 (t + 1)) c ht4 hcc hc2) (fun v3 h3 hq3 => ?_)
      obtain ⟨rfl, hc3⟩ := hq3
      refine ax_istore6 (pc := 48) dX4_millersTurn_48 rfl (by decide) ?_
      refine ax_iload (pc := 50) dX4_millersTurn_50 rfl ?_
      refine ax_iload (pc := 52) dX4_millersTurn_52 rfl ?_
      refine ax_iload (pc := 54) dX4_millersTurn_54 rfl ?_
      refine ax_max (pc := 56) tw_476 dX4_millersTurn_56 (by omega) (Nat.le_of_ble_eq_true rfl) tw_max ?_
      refine ax_max (pc := 59) tw_476 dX4_millersTurn_59 (by omega) (Nat.le_of_ble_eq_true rfl) tw_max ?_
      have b1 := sp_du_le hD0 hW0 n false t c ht hcc
      have b2 := sp_du_le hD0 hW0 n false t 0 ht (by decide)
      have b3 := sp_du_le hD0 hW0 n false (min 4 (t + 1)) c ht4 hcc
      have b1 := sp_du_le hD0 hW0 n false t c ht hcc
      have b2 := sp_du_le hD0 hW0 n false t 0 ht (by decide)
      have b3 := sp_du_le hD0 hW0 n false (min 4 (t + 1)) c ht4 hcc
      refine ax_iret (pc := 62) dX4_millersTurn_62 rfl ⟨_, rfl, ?_, hc3⟩
      rw [ni_max (by omega) (by omega), ni_max (by omega) (Nat.lt_of_le_of_lt (Nat.max_le.mpr ⟨b2, b3⟩) (by decide))]
      rfl
    · intro h t c ht hcc hc
      refine Mt.of (L := [some (.ref 0), some (.int (nI (n + 1))), some (.int (nI t)), some (.int (nI c)), none, none]) rfl (Nat.le_of_ble_eq_true rfl) rfl ?_
      obtain ⟨c1, c2, c3, c4, c5, c6, c7, c8, c9⟩ := id hc
      have hc40 : min 40 (c + 5) ≤ 40 := Nat.min_le_left _ _
      refine ax_iload_n (pc := 0) dX4_throwersTurn_0 rfl ?_
      refine ax_ifgt (pc := 1) (tgt := 11) dX4_throwersTurn_1 (by decide) (fun _ => ?_) (fun q => absurd (by rw [n_0, nI_ltI (by decide) (by omega)]; omega) q)
      refine ax_aload_n (pc := 11) dX4_throwersTurn_11 rfl ?_
      refine ax_iload_n (pc := 12) dX4_throwersTurn_12 rfl ?_
      refine ax_iconst (pc := 13) (v := 1) dX4_throwersTurn_13 (by decide) ?_
      refine ax_isub (pc := 14) dX4_throwersTurn_14 ?_
      rw [nI_pred]
      refine ax_iload_n (pc := 15) dX4_throwersTurn_15 rfl ?_
      refine ax_iload_n (pc := 16) dX4_throwersTurn_16 rfl ?_
      refine ax_cVi3 (pc := 17) vX4_227 dX4_throwersTurn_17 (by omega) (by first | exact c1.1 | exact hc1.1.1) (Nat.le_of_ble_eq_true rfl) (ih.1 _ t c ht hcc hc) (fun v1 h1 hq1 => ?_)
      obtain ⟨rfl, hc1⟩ := hq1
      refine ax_istore4 (pc := 20) dX4_throwersTurn_20 rfl (by decide) ?_
      refine ax_aload_n (pc := 22) dX4_throwersTurn_22 rfl ?_
      refine ax_iload_n (pc := 23) dX4_throwersTurn_23 rfl ?_
      refine ax_iconst (pc := 24) (v := 1) dX4_throwersTurn_24 (by decide) ?_
      refine ax_isub (pc := 25) dX4_throwersTurn_25 ?_
      rw [nI_pred]
      refine ax_iload_n (pc := 26) dX4_throwersTurn_26 rfl ?_
      refine ax_bipush (pc := 27) (v := 40) dX4_throwersTurn_27 (by decide) ?_
      refine ax_iload_n (pc := 29) dX4_throwersTurn_29 rfl ?_
      refine ax_iconst (pc := 30) (v := 5) dX4_throwersTurn_30 (by decide) ?_
      refine ax_iadd (pc := 31) dX4_throwersTurn_31 ?_
      refine ax_min (pc := 32) tw_542 dX4_throwersTurn_32 (by omega) (Nat.le_of_ble_eq_true rfl) tw_min ?_
      refine At.ti (x' := nI (min 40 (c + 5))) (by rw [n_5, nI_add, n_40, ni_min (by decide) (by omega)]) ?_
      refine ax_cVi3 (pc := 35) vX4_227 dX4_throwersTurn_35 (by omega) (by first | exact c1.1 | exact hc1.1.1) (Nat.le_of_ble_eq_true rfl) (ih.1 _ t (min 40 (c + 5)) ht hc40 hc1) (fun v2 h2 hq2 => ?_)
      obtain ⟨rfl, hc2⟩ := hq2
      refine ax_istore5 (pc := 38) dX4_throwersTurn_38 rfl (by decide) ?_
      refine ax_iload (pc := 40) dX4_throwersTurn_40 rfl ?_
      refine ax_iload (pc := 42) dX4_throwersTurn_42 rfl ?_
      refine ax_min (pc := 44) tw_542 dX4_throwersTurn_44 (by omega) (Nat.le_of_ble_eq_true rfl) tw_min ?_
      have b1 := sp_du_le hD0 hW0 n true t c ht hcc
      have b2 := sp_du_le hD0 hW0 n true t (min 40 (c + 5)) ht hc40
      refine ax_iret (pc := 47) dX4_throwersTurn_47 rfl ⟨_, rfl, ?_, hc2⟩
      rw [ni_min (by omega) (by omega)]
      rfl
set_option maxHeartbeats 4000000 in
set_option maxRecDepth 100000 in
theorem c_X4_duel (dom : List Nat) (h : mh_H) (s : sg) (n : Int32) (hc : CP s h) (hv : IV s) : Mt mX4_duel dom 11 [.ref 0, .int n] h (mx_Ri (fun v' h' => v' = (sp_duel s n).1 ∧ CP (sp_duel s n).2 h')) := by
  refine Mt.of (L := [some (.ref 0), some (.int n)]) rfl (Nat.le_of_ble_eq_true rfl) rfl ?_
  obtain ⟨c1, c2, c3, c4, c5, c6, c7, c8, c9⟩ := id hc
  obtain ⟨gx0, gx1, gk1, gf1, gr1, g7, g14, g15, g16⟩ := id c9.1
  obtain ⟨t0, t1, t2, t3, t4, g8⟩ := id c9.2.1
  refine ax_iload_n (pc := 0) dX4_duel_0 rfl ?_
  refine ax_iconst (pc := 1) (v := 0) dX4_duel_1 (by decide) ?_
  refine ax_bipush (pc := 2) (v := 6) dX4_duel_2 (by decide) ?_
  refine ax_eSi3 (pc := 4) sX4_133 dX4_duel_4 (by decide) (Nat.le_of_ble_eq_true rfl) (c_X4_within _ _ _ _ _) ?_
  refine ax_ifneB (pc := 7) (tgt := 12) dX4_duel_7 (by decide) (fun c7a => ?_) (fun c7a => ?_)
  · refine ax_aload_n (pc := 12) dX4_duel_12 rfl ?_
    refine ax_eVi0 (pc := 13) vX4_154 dX4_duel_13 (by decide) (by first | exact c1.1 | exact c5.1 | exact c6 | exact c5.2.1 | exact c5.2.2.1 | exact c5.2.2.2 | exact c1.2 | exact c2.1 | exact c2.2.1 | exact c2.2.2.1 | exact c2.2.2.2 | exact g7 | exact g8 | rfl) (Nat.le_of_ble_eq_true rfl) (c_X4_noDays _ _ s hc hv) ?_
    refine ax_ifeqB (pc := 16) (tgt := 22) dX4_duel_16 (by decide) (fun c16 => ?_) (fun c16 => ?_)
    · obtain ⟨m, hm, rfl⟩ := nI_of2 (n := 6) (M := 6) rfl (Int32.not_lt.mpr c7a.1) c7a.2
      obtain ⟨hD0, hW0, hfi⟩ := hv.w c16
      refine ax_aload_n (pc := 22) dX4_duel_22 rfl ?_
      refine ax_iload_n (pc := 23) dX4_duel_23 rfl ?_
      refine ax_aload_n (pc := 24) dX4_duel_24 rfl ?_
      refine ax_getf (pc := 25) fX4_28 dX4_duel_25 (by first | exact c1.1 | exact c5.1 | exact c6 | exact c5.2.1 | exact c5.2.2.1 | exact c5.2.2.2 | exact c1.2 | exact c2.1 | exact c2.2.1 | exact c2.2.2.1 | exact c2.2.2.2 | exact g7 | exact g8 | rfl) rfl ?_
      refine ax_getf (pc := 28) fX4_166 dX4_duel_28 (by first | exact c1.1 | exact c5.1 | exact c6 | exact c5.2.1 | exact c5.2.2.1 | exact c5.2.2.2 | exact c1.2 | exact c2.1 | exact c2.2.1 | exact c2.2.2.1 | exact c2.2.2.2 | exact g7 | exact g8 | rfl) rfl ?_
      refine ax_aload_n (pc := 31) dX4_duel_31 rfl ?_
      refine ax_getf (pc := 32) fX4_28 dX4_duel_32 (by first | exact c1.1 | exact c5.1 | exact c6 | exact c5.2.1 | exact c5.2.2.1 | exact c5.2.2.2 | exact c1.2 | exact c2.1 | exact c2.2.1 | exact c2.2.2.1 | exact c2.2.2.2 | exact g7 | exact g8 | rfl) rfl ?_
      refine ax_getf (pc := 35) fX4_169 dX4_duel_35 (by first | exact c1.1 | exact c5.1 | exact c6 | exact c5.2.1 | exact c5.2.2.1 | exact c5.2.2.2 | exact c1.2 | exact c2.1 | exact c2.2.1 | exact c2.2.2.1 | exact c2.2.2.2 | exact g7 | exact g8 | rfl) rfl ?_
      refine ax_cVi3 (pc := 38) vX4_227 dX4_duel_38 (by omega) (by first | exact c1.1 | exact c5.1 | exact c6 | exact c5.2.1 | exact c5.2.2.1 | exact c5.2.2.2 | exact c1.2 | exact c2.1 | exact c2.2.1 | exact c2.2.2.1 | exact c2.2.2.2 | exact g7 | exact g8 | rfl) (Nat.le_of_ble_eq_true rfl) ((c_X4_turnsBy dom s hD0 hW0 hfi m hm).1 _ _ _ hW0.2.1 hW0.2.2 hc) (fun v1 h1 hq1 => ?_)
      obtain ⟨rfl, hc1⟩ := hq1
      refine ax_iret (pc := 41) dX4_duel_41 rfl ?_
      exact fin_i (by unfold sp_duel; rw [if_neg (not_not_intro c7a), if_neg c16, ni_cl (by omega)]) hc1
    · refine ax_bipush (pc := 19) (v := -4) dX4_duel_19 (by decide) ?_
      refine ax_iret (pc := 21) dX4_duel_21 rfl ?_
      exact fin_i (by unfold sp_duel; rw [if_neg (not_not_intro c7a), if_pos c16]) hc
  · refine ax_iconst (pc := 10) (v := -1) dX4_duel_10 (by decide) ?_
    refine ax_iret (pc := 11) dX4_duel_11 rfl ?_
    exact fin_i (by unfold sp_duel; exact if_pos c7a) hc
