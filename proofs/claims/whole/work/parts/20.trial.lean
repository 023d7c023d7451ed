theorem IV.row {s : sg} {q m : Nat} {c : Nat → Nat → Int32} (hv : IV s) (hq : q < 6) (hm : m ≤ 40) : IV (u_rows s (va_fn (s_rz s) q (nI m)) c) := by
  obtain ⟨v1, v2, v3, v4, v5⟩ := hv
  refine ⟨fun r hr => ?_, v2, v3, v4, v5⟩
  by_cases h : r = q
  · subst h
    exact Or.inr ⟨m, hm, va_fn_s⟩
  · have := v1 r hr
    show va_fn (s_rz s) q (nI m) r = -1 ∨ ∃ m', m' ≤ 40 ∧ va_fn (s_rz s) q (nI m) r = nI m'
    rw [va_fn_n h]
    exact this
/-- the wheel behind n steps -/
def wi (D : sp_D) (fi : Nat) (w : sp_W) : Nat → sp_W
  | 0 => w
  | n + 1 => sp_st D fi (wi D fi w n)
def z0 (w : sp_W) : sp_W := (w.1, w.2.1, w.2.2.1, w.2.2.2.1, 0)
theorem wi_ok {D : sp_D} {fi : Nat} {w : sp_W} (hD : sp_D0 D) (h : sp_W0 D.1 w) (n : Nat) : sp_W0 D.1 (wi D fi w n) := by
  induction n with
  | zero => exact h
  | succ n ih => exact sp_st_ok hD ih
theorem wi_g {D : sp_D} {fi : Nat} {w : sp_W} (hD : sp_D0 D) (h : sp_W0 D.1 w) (n : Nat) : (wi D fi w n).2.2.2.2 ≤ w.2.2.2.2 + 77 * n := by
  induction n with
  | zero => exact Nat.le_refl _
  | succ n ih =>
    have h1 := sp_wf_le (fi := fi) hD (wi_ok (fi := fi) hD h n)
    show (wi D fi w n).2.2.2.2 + sp_wf D fi (wi D fi w n) ≤ _
    omega
/-- the trial of a state at its start -/
abbrev s_t (s : sg) : sp_W := z0 (s_w s)
abbrev s_wi (s : sg) (n : Nat) : sp_W := wi (s_D s) (s_fi s) (s_t s) n
def sp_mill (s : sg) (n : Int32) : Int32 × sg := if ¬ (0 ≤ n ∧ n ≤ 60) then (-1, s) else if (s_D s).1 = 0 then (-4, s) else (nI (s_wi s n.toNatClampNeg).2.2.2.2, u_ask s (nI (s_wi s n.toNatClampNeg).1))
/-- the first step from j on, of n, that grinds nothing -/
def sp_tn (s : sg) : Nat → Nat → Int32 × sg
  | 0, _ => (-9, s)
  | n + 1, j => if sp_wf (s_D s) (s_fi s) (s_wi s j) = 0 then (nI (j + 1), u_ask s (nI (s_wi s j).1)) else sp_tn s n (j + 1)
def sp_turns (s : sg) : Int32 × sg := if (s_D s).1 = 0 then (-4, s) else sp_tn s 60 0
def sp_zc (s : sg) : Nat → Nat
  | 0 => 0
  | j + 1 => sp_zc s j + (if sp_wf (s_D s) (s_fi s) (s_wi s j) = 0 then 1 else 0)
def sp_bk (s : sg) (f : Nat → Int32) (n : Nat) : Nat → Int32 := fun j => if j < n then nI (sp_wf (s_D s) (s_fi s) (s_wi s j)) else f j
def sp_book (s : sg) (n r : Int32) : Int32 × sg := if ¬ (1 ≤ n ∧ n ≤ 20) ∨ ¬ (0 ≤ r ∧ r ≤ 5) then (-1, s) else if (s_D s).1 = 0 then (-4, s) else (nI (sp_zc s n.toNatClampNeg), u_rows s (va_fn (s_rz s) r.toNatClampNeg n) (va_fn (s_rc s) r.toNatClampNeg (sp_bk s (s_rc s r.toNatClampNeg) n.toNatClampNeg)))
/-- the first of the greatest -/
def sp_mx (i0 m0 : Int32) (g : Nat → Nat) : Nat → Int32 × Int32
  | 0 => (i0, m0)
  | j + 1 => if (sp_mx i0 m0 g j).2 < nI (g j) then (nI j, nI (g j)) else sp_mx i0 m0 g j
theorem sp_mx_t {i0 m0 : Int32} {g : Nat → Nat} {j : Nat} (h : (sp_mx i0 m0 g j).2 < nI (g j)) : sp_mx i0 m0 g (j + 1) = (nI j, nI (g j)) := if_pos h
theorem sp_mx_f {i0 m0 : Int32} {g : Nat → Nat} {j : Nat} (h : ¬ (sp_mx i0 m0 g j).2 < nI (g j)) : sp_mx i0 m0 g (j + 1) = sp_mx i0 m0 g j := if_neg h
def sp_hg (s : sg) (n t : Nat) : Nat := (wi (s_D s) (s_fi s) ((s_t s).1, t, (s_t s).2.2.1, (s_t s).2.2.2.1, 0) n).2.2.2.2
def sp_best (s : sg) (n : Int32) : Int32 × sg := if ¬ (1 ≤ n ∧ n ≤ 20) then (-1, s) else if (s_D s).1 = 0 then (-4, s) else ((sp_mx 0 (-1) (sp_hg s n.toNatClampNeg) 5).1, u_ask s (sp_mx 0 (-1) (sp_hg s n.toNatClampNeg) 5).2)
def sp_fg (s : sg) (n k : Nat) : Nat := (wi (s_D s) (s_fi s ||| 2 ^ k) (s_t s) n).2.2.2.2
def sp_fishes (s : sg) (n : Int32) : Int32 × sg := if ¬ (1 ≤ n ∧ n ≤ 20) then (-1, s) else if (s_D s).1 = 0 then (-4, s) else if (sp_mx (-9) (nI (s_wi s n.toNatClampNeg).2.2.2.2) (sp_fg s n.toNatClampNeg) (s_D s).1).1 = -9 then (-9, s) else ((sp_mx (-9) (nI (s_wi s n.toNatClampNeg).2.2.2.2) (sp_fg s n.toNatClampNeg) (s_D s).1).1, u_ask s (sp_mx (-9) (nI (s_wi s n.toNatClampNeg).2.2.2.2) (sp_fg s n.toNatClampNeg) (s_D s).1).2)
set_option maxHeartbeats 4000000 in
set_option maxRecDepth 100000 in
theorem c_X4_startTrial (dom : List Nat) (h : mh_H) (s : sg) (hc : CP s h) : Mt mX4_startTrial dom 1 [.ref 0] h (mx_Rv (fun h' => h' = mh_up h 8 (wc (s_t s)))) := by
  refine Mt.of (L := [some (.ref 0)]) rfl (Nat.le_of_ble_eq_true rfl) rfl ?_
  obtain ⟨c1, c2, c3, c4, c5, c6, c7, c8, c9⟩ := id hc
  obtain ⟨gx0, gx1, gk1, gf1, gr1, g7, g14, g15, g16⟩ := id c9.1
  obtain ⟨t0, t1, t2, t3, t4, g8⟩ := id c9.2.1
  refine ax_aload_n (pc := 0) dX4_startTrial_0 rfl ?_
  refine ax_getf (pc := 1) fX4_46 dX4_startTrial_1 (by first | exact c1.1 | exact g8 | exact c6) rfl ?_
  refine ax_aload_n (pc := 4) dX4_startTrial_4 rfl ?_
  refine ax_getf (pc := 5) fX4_28 dX4_startTrial_5 (by first | exact c1.1 | exact g8 | exact c6) rfl ?_
  refine ax_eVv1 (pc := 8) vX4_313 dX4_startTrial_8 (by decide) (by first | exact c1.1 | exact g8 | exact c6) (Nat.le_of_ble_eq_true rfl) (c_X3_copyOf _ _ 8 4 (s_w s).1 (s_w s).2.1 (s_w s).2.2.1 (s_w s).2.2.2.2 _ _ _ _ _ (s_w s).2.2.2.1 (by decide) g8 c6) ?_
  refine ax_aload_n (pc := 11) dX4_startTrial_11 rfl ?_
  refine ax_getf (pc := 12) fX4_46 dX4_startTrial_12 (by first | exact c1.1 | exact g8 | exact c6) rfl ?_
  refine ax_iconst (pc := 15) (v := 0) dX4_startTrial_15 (by decide) ?_
  refine ax_puti4u (pc := 16) gX4_196 dX4_startTrial_16 ?_
  refine ax_vret (pc := 19) dX4_startTrial_19 rfl ?_
  exact ⟨rfl, rfl⟩
set_option maxHeartbeats 4000000 in
set_option maxRecDepth 100000 in
theorem l_X4_groundIn (dom : List Nat) (h : mh_H) (D : sp_D) (fi b k f r : Nat) (w : sp_W) (ask fin : Int32) (up lo : Int64) (h0 : h 0 = o4 ask up lo fin) (hD : dyP D fi b k f r h) (hn8 : b ≠ 8 ∧ k ≠ 8 ∧ f ≠ 8 ∧ r ≠ 8) (hD0 : sp_D0 D) (hW0 : sp_W0 D.1 w) (hfi : fi < 512) (m : Nat) (hm : m ≤ 60) : ∀ (nn j : Nat), j + nn = m → At mX4_groundIn dom 3 2 [some (.ref 0), some (.int (nI m)), some (.ref b), some (.int (nI j))] [] (mh_up h 8 (wc (wi D fi w j))) (mx_Ri (fun v' h' => v' = nI (wi D fi w m).2.2.2.2 ∧ h' = mh_up h 8 (wc (wi D fi w m)))) := by
  intro nn
  induction nn with
  | zero =>
    intro j hj
    have hj : j = m := by omega
    subst hj
    refine ax_iload_n (pc := 2) dX4_groundIn_2 rfl ?_
    refine ax_iload_n (pc := 3) dX4_groundIn_3 rfl ?_
    refine ax_icmpge (pc := 4) (tgt := 22) dX4_groundIn_4 (by decide) (fun _ => ?_) (fun q => absurd (nI_le (Nat.le_refl _) (by omega)) q)
    refine ax_aload_n (pc := 22) dX4_groundIn_22 rfl ?_
    refine ax_getf (pc := 23) fX4_46 dX4_groundIn_23 (by first | exact h0 | exact mh_up_s) rfl ?_
    refine ax_getf (pc := 26) fX4_196 dX4_groundIn_26 (by first | exact h0 | exact mh_up_s) rfl ?_
    refine ax_iret (pc := 29) dX4_groundIn_29 rfl ?_
    exact ⟨_, rfl, rfl, rfl⟩
  | succ nn ih =>
    intro j hj
    have hlt : j < m := by omega
    refine ax_iload_n (pc := 2) dX4_groundIn_2 rfl ?_
    refine ax_iload_n (pc := 3) dX4_groundIn_3 rfl ?_
    refine ax_icmpge (pc := 4) (tgt := 22) dX4_groundIn_4 (by decide) (fun q => absurd q (nI_ge hlt (by omega))) (fun _ => ?_)
    refine ax_aload_n (pc := 7) dX4_groundIn_7 rfl ?_
    refine ax_getf (pc := 8) fX4_46 dX4_groundIn_8 (by first | exact h0 | exact mh_up_s) rfl ?_
    refine ax_aload_n (pc := 11) dX4_groundIn_11 rfl ?_
    refine ax_eVi1 (pc := 12) vX4_189 dX4_groundIn_12 (by decide) (by first | exact h0 | exact mh_up_s) (Nat.le_of_ble_eq_true rfl) (c_X3_goRound _ _ D fi 8 b k f r (wi D fi w j).1 (wi D fi w j).2.1 (wi D fi w j).2.2.1 (wi D fi w j).2.2.2.2 (wi D fi w j).2.2.2.1 (by exact mh_up_s) (dyP_k (fun q hq => mh_up_n (by omega)) hD) hD0 (wi_ok hD0 hW0 j) hfi) ?_
    refine At.hp mh_up_uu ?_
    refine ax_pop (pc := 15) dX4_groundIn_15 rfl ?_
    refine ax_inc3p1 (pc := 16) dX4_groundIn_16 rfl (by decide) ?_
    refine ax_goto (pc := 19) (tgt := 2) dX4_groundIn_19 (by decide) ?_
    rw [nI_1]
    exact ih (j + 1) (by omega)
set_option maxHeartbeats 4000000 in
set_option maxRecDepth 100000 in
theorem c_X4_groundIn (dom : List Nat) (h : mh_H) (D : sp_D) (fi b k f r : Nat) (w : sp_W) (ask fin : Int32) (up lo : Int64) (h0 : h 0 = o4 ask up lo fin) (hD : dyP D fi b k f r h) (hn8 : b ≠ 8 ∧ k ≠ 8 ∧ f ≠ 8 ∧ r ≠ 8) (hD0 : sp_D0 D) (hW0 : sp_W0 D.1 w) (hfi : fi < 512) (m : Nat) (hm : m ≤ 60) : Mt mX4_groundIn dom 3 [.ref 0, .int (nI m), .ref b] (mh_up h 8 (wc w)) (mx_Ri (fun v' h' => v' = nI (wi D fi w m).2.2.2.2 ∧ h' = mh_up h 8 (wc (wi D fi w m)))) := by
  refine Mt.of (L := [some (.ref 0), some (.int (nI m)), some (.ref b), none]) rfl (Nat.le_of_ble_eq_true rfl) rfl ?_
  refine ax_iconst (pc := 0) (v := 0) dX4_groundIn_0 (by decide) ?_
  refine ax_istore3 (pc := 1) dX4_groundIn_1 rfl (by decide) ?_
  exact l_X4_groundIn dom h D fi b k f r w ask fin up lo h0 hD hn8 hD0 hW0 hfi m hm m 0 (by omega)
set_option maxHeartbeats 4000000 in
set_option maxRecDepth 100000 in
theorem c_X4_mill (dom : List Nat) (h : mh_H) (s : sg) (n : Int32) (hc : CP s h) (hv : IV s) : Mt mX4_mill dom 4 [.ref 0, .int n] h (mx_Ri (fun v' h' => v' = (sp_mill s n).1 ∧ CP (sp_mill s n).2 h')) := by
  refine Mt.of (L := [some (.ref 0), some (.int n), none]) rfl (Nat.le_of_ble_eq_true rfl) rfl ?_
  obtain ⟨c1, c2, c3, c4, c5, c6, c7, c8, c9⟩ := id hc
  obtain ⟨gx0, gx1, gk1, gf1, gr1, g7, g14, g15, g16⟩ := id c9.1
  obtain ⟨t0, t1, t2, t3, t4, g8⟩ := id c9.2.1
  refine ax_iload_n (pc := 0) dX4_mill_0 rfl ?_
  refine ax_iconst (pc := 1) (v := 0) dX4_mill_1 (by decide) ?_
  refine ax_bipush (pc := 2) (v := 60) dX4_mill_2 (by decide) ?_
  refine ax_eSi3 (pc := 4) sX4_133 dX4_mill_4 (by decide) (Nat.le_of_ble_eq_true rfl) (c_X4_within _ _ _ _ _) ?_
  refine ax_ifneB (pc := 7) (tgt := 12) dX4_mill_7 (by decide) (fun c7a => ?_) (fun c7a => ?_)
  · refine ax_aload_n (pc := 12) dX4_mill_12 rfl ?_
    refine ax_eVi0 (pc := 13) vX4_154 dX4_mill_13 (by decide) (by first | exact c1.1 | exact c5.1 | exact c6 | exact c5.2.1 | exact c5.2.2.1 | exact c5.2.2.2 | exact c1.2 | exact c2.1 | exact c2.2.1 | exact c2.2.2.1 | exact c2.2.2.2 | exact g7 | exact g8 | rfl) (Nat.le_of_ble_eq_true rfl) (c_X4_noDays _ _ s hc hv) ?_
    refine ax_ifeqB (pc := 16) (tgt := 22) dX4_mill_16 (by decide) (fun c16 => ?_) (fun c16 => ?_)
    · obtain ⟨m, hm, rfl⟩ := nI_of2 (n := 60) (M := 60) rfl (Int32.not_lt.mpr c7a.1) c7a.2
      obtain ⟨hD0, hW0, hfi⟩ := hv.w c16
      have hWt : sp_W0 (s_D s).1 (s_t s) := hW0
      refine ax_aload_n (pc := 22) dX4_mill_22 rfl ?_
      refine ax_eVv0 (pc := 23) vX4_182 dX4_mill_23 (by decide) (by first | exact c1.1 | exact c5.1 | exact c6 | exact c5.2.1 | exact c5.2.2.1 | exact c5.2.2.2 | exact c1.2 | exact c2.1 | exact c2.2.1 | exact c2.2.2.1 | exact c2.2.2.2 | exact g7 | exact g8 | rfl) (Nat.le_of_ble_eq_true rfl) (c_X4_startTrial _ _ s hc) ?_
      refine ax_aload_n (pc := 26) dX4_mill_26 rfl ?_
      refine ax_iload_n (pc := 27) dX4_mill_27 rfl ?_
      refine ax_aload_n (pc := 28) dX4_mill_28 rfl ?_
      refine ax_getf (pc := 29) fX4_21 dX4_mill_29 (by first | exact c1.1 | exact c5.1 | exact c6 | exact c5.2.1 | exact c5.2.2.1 | exact c5.2.2.2 | exact c1.2 | exact c2.1 | exact c2.2.1 | exact c2.2.2.1 | exact c2.2.2.2 | exact g7 | exact g8 | rfl) rfl ?_
      refine ax_eVi2 (pc := 32) vX4_185 dX4_mill_32 (by decide) (by first | exact c1.1 | exact c5.1 | exact c6 | exact c5.2.1 | exact c5.2.2.1 | exact c5.2.2.2 | exact c1.2 | exact c2.1 | exact c2.2.1 | exact c2.2.2.1 | exact c2.2.2.2 | exact g7 | exact g8 | rfl) (Nat.le_of_ble_eq_true rfl) (c_X4_groundIn _ h (s_D s) (s_fi s) 3 11 12 13 (s_t s) (s_ask s) (s_fin s) (s_up s) (s_lo s) c1.1 c5 (by decide) hD0 hW0 hfi m (by omega)) ?_
      refine ax_istore2 (pc := 35) dX4_mill_35 rfl (by decide) ?_
      refine ax_aload_n (pc := 36) dX4_mill_36 rfl ?_
      refine ax_aload_n (pc := 37) dX4_mill_37 rfl ?_
      refine ax_getf (pc := 38) fX4_46 dX4_mill_38 (by first | exact c1.1 | exact c5.1 | exact c6 | exact c5.2.1 | exact c5.2.2.1 | exact c5.2.2.2 | exact c1.2 | exact c2.1 | exact c2.2.1 | exact c2.2.2.1 | exact c2.2.2.2 | exact g7 | exact g8 | rfl) rfl ?_
      refine ax_getf (pc := 41) fX4_163 dX4_mill_41 (by first | exact c1.1 | exact c5.1 | exact c6 | exact c5.2.1 | exact c5.2.2.1 | exact c5.2.2.2 | exact c1.2 | exact c2.1 | exact c2.2.1 | exact c2.2.2.1 | exact c2.2.2.2 | exact g7 | exact g8 | rfl) rfl ?_
      refine ax_puti9 (pc := 44) gX4_53 dX4_mill_44 (by first | exact c1.1 | exact c5.1 | exact c6 | exact c5.2.1 | exact c5.2.2.1 | exact c5.2.2.2 | exact c1.2 | exact c2.1 | exact c2.2.1 | exact c2.2.2.1 | exact c2.2.2.2 | exact g7 | exact g8 | rfl) ?_
      refine ax_iload_n (pc := 47) dX4_mill_47 rfl ?_
      refine ax_iret (pc := 48) dX4_mill_48 rfl ?_
      exact fin_i (by unfold sp_mill; rw [if_neg (not_not_intro c7a), if_neg c16, ni_cl (by omega)]) (CP_ask (CP_8 hc))
    · refine ax_bipush (pc := 19) (v := -4) dX4_mill_19 (by decide) ?_
      refine ax_iret (pc := 21) dX4_mill_21 rfl ?_
      exact fin_i (by unfold sp_mill; rw [if_neg (not_not_intro c7a), if_pos c16]) hc
  · refine ax_iconst (pc := 10) (v := -1) dX4_mill_10 (by decide) ?_
    refine ax_iret (pc := 11) dX4_mill_11 rfl ?_
    exact fin_i (by unfold sp_mill; exact if_pos c7a) hc
set_option maxHeartbeats 4000000 in
set_option maxRecDepth 100000 in
theorem l_X4_turns (dom : List Nat) (h : mh_H) (s : sg) (hc : CP s h) (hv : IV s) (h0 : (s_D s).1 ≠ 0) : ∀ (nn j : Nat), j + nn = 60 → ∀ (l2 : Option Value), At mX4_turns dom 3 16 [some (.ref 0), some (.int (nI (j + 1))), l2] [] (mh_up h 8 (wc (s_wi s j))) (mx_Ri (fun v' h' => v' = (sp_tn s nn j).1 ∧ CP (sp_tn s nn j).2 h')) := by
  intro nn
  induction nn with
  | zero =>
    intro j hj l2
    have hj : j = 60 := by omega
    subst hj
    obtain ⟨c1, c2, c3, c4, c5, c6, c7, c8, c9⟩ := id hc
    obtain ⟨gx0, gx1, gk1, gf1, gr1, g7, g14, g15, g16⟩ := id c9.1
    obtain ⟨t0, t1, t2, t3, t4, g8⟩ := id c9.2.1
    refine ax_iload_n (pc := 16) dX4_turns_16 rfl ?_
    refine ax_bipush (pc := 17) (v := 60) dX4_turns_17 (by decide) ?_
    refine ax_icmpgt (pc := 19) (tgt := 57) dX4_turns_19 (by decide) (fun _ => ?_) (fun q => absurd (by decide) q)
    refine ax_bipush (pc := 57) (v := -9) dX4_turns_57 (by decide) ?_
    refine ax_iret (pc := 59) dX4_turns_59 rfl ?_
    exact fin_i rfl (CP_8 hc)
  | succ nn ih =>
    intro j hj l2
    have hlt : j < 60 := by omega
    obtain ⟨c1, c2, c3, c4, c5, c6, c7, c8, c9⟩ := id hc
    obtain ⟨gx0, gx1, gk1, gf1, gr1, g7, g14, g15, g16⟩ := id c9.1
    obtain ⟨t0, t1, t2, t3, t4, g8⟩ := id c9.2.1
    obtain ⟨hD0, hW0, hfi⟩ := hv.w h0
    have hWt : sp_W0 (s_D s).1 (s_t s) := hW0
    refine ax_iload_n (pc := 16) dX4_turns_16 rfl ?_
    refine ax_bipush (pc := 17) (v := 60) dX4_turns_17 (by decide) ?_
    refine ax_icmpgt (pc := 19) (tgt := 57) dX4_turns_19 (by decide) (fun q => absurd q (by rw [n_60, nI_ltI (by decide) (by omega)]; omega)) (fun _ => ?_)
    refine ax_aload_n (pc := 22) dX4_turns_22 rfl ?_
    refine ax_getf (pc := 23) fX4_46 dX4_turns_23 (by first | exact c1.1 | exact mh_up_s | exact c5.1 | exact g8 | exact c2.1) rfl ?_
    refine ax_getf (pc := 26) fX4_163 dX4_turns_26 (by first | exact c1.1 | exact mh_up_s | exact c5.1 | exact g8 | exact c2.1) rfl ?_
    refine ax_istore2 (pc := 29) dX4_turns_29 rfl (by decide) ?_
    refine ax_aload_n (pc := 30) dX4_turns_30 rfl ?_
    refine ax_getf (pc := 31) fX4_46 dX4_turns_31 (by first | exact c1.1 | exact mh_up_s | exact c5.1 | exact g8 | exact c2.1) rfl ?_
    refine ax_aload_n (pc := 34) dX4_turns_34 rfl ?_
    refine ax_getf (pc := 35) fX4_21 dX4_turns_35 (by first | exact c1.1 | exact mh_up_s | exact c5.1 | exact g8 | exact c2.1) rfl ?_
    refine ax_eVi1 (pc := 38) vX4_189 dX4_turns_38 (by decide) (by first | exact c1.1 | exact mh_up_s | exact c5.1 | exact g8 | exact c2.1) (Nat.le_of_ble_eq_true rfl) (c_X3_goRound _ _ (s_D s) (s_fi s) 8 3 11 12 13 (s_wi s j).1 (s_wi s j).2.1 (s_wi s j).2.2.1 (s_wi s j).2.2.2.2 (s_wi s j).2.2.2.1 (by exact mh_up_s) (dyP_k (fun q hq => mh_up_n (by omega)) c5) hD0 (wi_ok hD0 hWt j) hfi) ?_
    refine At.hp mh_up_uu ?_
    refine ax_ifne (pc := 41) (tgt := 51) dX4_turns_41 (by decide) (fun c41 => ?_) (fun c41 => ?_)
    · rw [n_0, nI_eq (by have := sp_wf_le (fi := s_fi s) hD0 (wi_ok (fi := s_fi s) hD0 hWt j); exact Nat.lt_of_le_of_lt this (by decide)) (by decide)] at c41
      refine ax_inc1p1 (pc := 51) dX4_turns_51 rfl (by decide) ?_
      refine ax_goto (pc := 54) (tgt := 16) dX4_turns_54 (by decide) ?_
      rw [nI_1, sp_tn, if_neg c41]
      exact ih (j + 1) (by omega) _
    · rw [n_0, nI_eq (by have := sp_wf_le (fi := s_fi s) hD0 (wi_ok (fi := s_fi s) hD0 hWt j); exact Nat.lt_of_le_of_lt this (by decide)) (by decide)] at c41
      refine ax_aload_n (pc := 44) dX4_turns_44 rfl ?_
      refine ax_iload_n (pc := 45) dX4_turns_45 rfl ?_
      refine ax_puti9 (pc := 46) gX4_53 dX4_turns_46 (by first | exact c1.1 | exact mh_up_s | exact c5.1 | exact g8 | exact c2.1) ?_
      refine ax_iload_n (pc := 49) dX4_turns_49 rfl ?_
      refine ax_iret (pc := 50) dX4_turns_50 rfl ?_
      exact fin_i (by rw [sp_tn, if_pos c41]) (CP_ask (CP_8 hc))
set_option maxHeartbeats 4000000 in
set_option maxRecDepth 100000 in
theorem c_X4_turns (dom : List Nat) (h : mh_H) (s : sg) (hc : CP s h) (hv : IV s) : Mt mX4_turns dom 3 [.ref 0] h (mx_Ri (fun v' h' => v' = (sp_turns s).1 ∧ CP (sp_turns s).2 h')) := by
  refine Mt.of (L := [some (.ref 0), none, none]) rfl (Nat.le_of_ble_eq_true rfl) rfl ?_
  obtain ⟨c1, c2, c3, c4, c5, c6, c7, c8, c9⟩ := id hc
  obtain ⟨gx0, gx1, gk1, gf1, gr1, g7, g14, g15, g16⟩ := id c9.1
  obtain ⟨t0, t1, t2, t3, t4, g8⟩ := id c9.2.1
  refine ax_aload_n (pc := 0) dX4_turns_0 rfl ?_
  refine ax_eVi0 (pc := 1) vX4_154 dX4_turns_1 (by decide) (by first | exact c1.1 | exact c5.1 | exact c6 | exact c5.2.1 | exact c5.2.2.1 | exact c5.2.2.2 | exact c1.2 | exact c2.1 | exact c2.2.1 | exact c2.2.2.1 | exact c2.2.2.2 | exact g7 | exact g8 | rfl) (Nat.le_of_ble_eq_true rfl) (c_X4_noDays _ _ s hc hv) ?_
  refine ax_ifeqB (pc := 4) (tgt := 10) dX4_turns_4 (by decide) (fun c4a => ?_) (fun c4a => ?_)
  · refine ax_aload_n (pc := 10) dX4_turns_10 rfl ?_
    refine ax_eVv0 (pc := 11) vX4_182 dX4_turns_11 (by decide) (by first | exact c1.1 | exact c5.1 | exact c6 | exact c5.2.1 | exact c5.2.2.1 | exact c5.2.2.2 | exact c1.2 | exact c2.1 | exact c2.2.1 | exact c2.2.2.1 | exact c2.2.2.2 | exact g7 | exact g8 | rfl) (Nat.le_of_ble_eq_true rfl) (c_X4_startTrial _ _ s hc) ?_
    refine ax_iconst (pc := 14) (v := 1) dX4_turns_14 (by decide) ?_
    refine ax_istore1 (pc := 15) dX4_turns_15 rfl (by decide) ?_
    rw [show sp_turns s = sp_tn s 60 0 from if_neg c4a]
    exact l_X4_turns dom h s hc hv c4a 60 0 (by omega) none
  · refine ax_bipush (pc := 7) (v := -4) dX4_turns_7 (by decide) ?_
    refine ax_iret (pc := 9) dX4_turns_9 rfl ?_
    exact fin_i (by unfold sp_turns; exact if_pos c4a) hc
set_option maxHeartbeats 4000000 in
set_option maxRecDepth 100000 in
theorem l_X4_best (dom : List Nat) (s : sg) (hv : IV s) (h0 : (s_D s).1 ≠ 0) (m : Nat) (hm : m ≤ 20) : ∀ (nn j : Nat), j + nn = 5 → ∀ (H : mh_H) (l5 : Option Value), CP s H → At mX4_best dom 4 29 [some (.ref 0), some (.int (nI m)), some (.int (sp_mx 0 (-1) (sp_hg s m) j).1), some (.int (sp_mx 0 (-1) (sp_hg s m) j).2), some (.int (nI j)), l5] [] H (mx_Ri (fun v' h' => v' = (sp_mx 0 (-1) (sp_hg s m) 5).1 ∧ CP (u_ask s (sp_mx 0 (-1) (sp_hg s m) 5).2) h')) := by
  intro nn
  induction nn with
  | zero =>
    intro j hj H l5 hinv
    have hj : j = 5 := by omega
    subst hj
    obtain ⟨c1, c2, c3, c4, c5, c6, c7, c8, c9⟩ := id hinv
    obtain ⟨gx0, gx1, gk1, gf1, gr1, g7, g14, g15, g16⟩ := id c9.1
    obtain ⟨t0, t1, t2, t3, t4, g8⟩ := id c9.2.1
    refine ax_iload (pc := 29) dX4_best_29 rfl ?_
    refine ax_iconst (pc := 31) (v := 4) dX4_best_31 (by decide) ?_
    refine ax_icmpgt (pc := 32) (tgt := 77) dX4_best_32 (by decide) (fun _ => ?_) (fun q => absurd (by decide) q)
    refine ax_aload_n (pc := 77) dX4_best_77 rfl ?_
    refine ax_iload_n (pc := 78) dX4_best_78 rfl ?_
    refine ax_puti9 (pc := 79) gX4_53 dX4_best_79 (by exact c1.1) ?_
    refine ax_iload_n (pc := 82) dX4_best_82 rfl ?_
    refine ax_iret (pc := 83) dX4_best_83 rfl ?_
    exact ⟨_, rfl, rfl, CP_ask hinv⟩
  | succ nn ih =>
    intro j hj H l5 hinv
    have hlt : j < 5 := by omega
    obtain ⟨c1, c2, c3, c4, c5, c6, c7, c8, c9⟩ := id hinv
    obtain ⟨gx0, gx1, gk1, gf1, gr1, g7, g14, g15, g16⟩ := id c9.1
    obtain ⟨t0, t1, t2, t3, t4, g8⟩ := id c9.2.1
    obtain ⟨hD0, hW0, hfi⟩ := hv.w h0
    have hWt : sp_W0 (s_D s).1 (s_t s) := hW0
    refine ax_iload (pc := 29) dX4_best_29 rfl ?_
    refine ax_iconst (pc := 31) (v := 4) dX4_best_31 (by decide) ?_
    refine ax_icmpgt (pc := 32) (tgt := 77) dX4_best_32 (by decide) (fun q => absurd q (by rw [n_4, nI_ltI (by decide) (by omega)]; omega)) (fun _ => ?_)
    refine ax_aload_n (pc := 35) dX4_best_35 rfl ?_
    refine ax_eVv0 (pc := 36) vX4_182 dX4_best_36 (by decide) (by first | exact c1.1 | exact mh_up_s | exact c5.1 | exact g8 | exact c2.1) (Nat.le_of_ble_eq_true rfl) (c_X4_startTrial _ _ s hinv) ?_
    refine ax_aload_n (pc := 39) dX4_best_39 rfl ?_
    refine ax_getf (pc := 40) fX4_46 dX4_best_40 (by first | exact c1.1 | exact mh_up_s | exact c5.1 | exact g8 | exact c2.1) rfl ?_
    refine ax_iload (pc := 43) dX4_best_43 rfl ?_
    refine ax_puti1u (pc := 45) gX4_166 dX4_best_45 ?_
    refine ax_aload_n (pc := 48) dX4_best_48 rfl ?_
    refine ax_iload_n (pc := 49) dX4_best_49 rfl ?_
    refine ax_aload_n (pc := 50) dX4_best_50 rfl ?_
    refine ax_getf (pc := 51) fX4_21 dX4_best_51 (by first | exact c1.1 | exact mh_up_s | exact c5.1 | exact g8 | exact c2.1) rfl ?_
    refine ax_eVi2 (pc := 54) vX4_185 dX4_best_54 (by decide) (by first | exact c1.1 | exact mh_up_s | exact c5.1 | exact g8 | exact c2.1) (Nat.le_of_ble_eq_true rfl) (c_X4_groundIn _ H (s_D s) (s_fi s) 3 11 12 13 ((s_t s).1, j, (s_t s).2.2.1, (s_t s).2.2.2.1, 0) (s_ask s) (s_fin s) (s_up s) (s_lo s) c1.1 c5 (by decide) hD0 ⟨hWt.1, by show j ≤ 4; omega, hWt.2.2⟩ hfi m (by omega)) ?_
    refine ax_istore5 (pc := 57) dX4_best_57 rfl (by decide) ?_
    refine ax_iload (pc := 59) dX4_best_59 rfl ?_
    refine ax_iload_n (pc := 61) dX4_best_61 rfl ?_
    refine ax_icmple (pc := 62) (tgt := 71) dX4_best_62 (by decide) (fun c62 => ?_) (fun c62 => ?_)
    · refine ax_inc4p1 (pc := 71) dX4_best_71 rfl (by decide) ?_
      refine ax_goto (pc := 74) (tgt := 29) dX4_best_74 (by decide) ?_
      rw [nI_1]
      have ih2 := ih (j + 1) (by omega) (mh_up H 8 (wc (wi (s_D s) (s_fi s) ((s_t s).1, j, (s_t s).2.2.1, (s_t s).2.2.2.1, 0) m))) (some (.int (nI (sp_hg s m j)))) (CP_8 hinv)
      first | rw [sp_mx_f (g := sp_hg s m) (j := j) (Int32.not_lt.mpr c62)] at ih2 | rw [sp_mx_t (g := sp_hg s m) (j := j) (Int32.not_le.mp c62)] at ih2
      exact ih2
    · refine ax_iload (pc := 65) dX4_best_65 rfl ?_
      refine ax_istore3 (pc := 67) dX4_best_67 rfl (by decide) ?_
      refine ax_iload (pc := 68) dX4_best_68 rfl ?_
      refine ax_istore2 (pc := 70) dX4_best_70 rfl (by decide) ?_
      refine ax_inc4p1 (pc := 71) dX4_best_71 rfl (by decide) ?_
      refine ax_goto (pc := 74) (tgt := 29) dX4_best_74 (by decide) ?_
      rw [nI_1]
      have ih2 := ih (j + 1) (by omega) (mh_up H 8 (wc (wi (s_D s) (s_fi s) ((s_t s).1, j, (s_t s).2.2.1, (s_t s).2.2.2.1, 0) m))) (some (.int (nI (sp_hg s m j)))) (CP_8 hinv)
      first | rw [sp_mx_f (g := sp_hg s m) (j := j) (Int32.not_lt.mpr c62)] at ih2 | rw [sp_mx_t (g := sp_hg s m) (j := j) (Int32.not_le.mp c62)] at ih2
      exact ih2
set_option maxHeartbeats 4000000 in
set_option maxRecDepth 100000 in
theorem c_X4_best (dom : List Nat) (h : mh_H) (s : sg) (n : Int32) (hc : CP s h) (hv : IV s) : Mt mX4_best dom 4 [.ref 0, .int n] h (mx_Ri (fun v' h' => v' = (sp_best s n).1 ∧ CP (sp_best s n).2 h')) := by
  refine Mt.of (L := [some (.ref 0), some (.int n), none, none, none, none]) rfl (Nat.le_of_ble_eq_true rfl) rfl ?_
  obtain ⟨c1, c2, c3, c4, c5, c6, c7, c8, c9⟩ := id hc
  obtain ⟨gx0, gx1, gk1, gf1, gr1, g7, g14, g15, g16⟩ := id c9.1
  obtain ⟨t0, t1, t2, t3, t4, g8⟩ := id c9.2.1
  refine ax_iload_n (pc := 0) dX4_best_0 rfl ?_
  refine ax_iconst (pc := 1) (v := 1) dX4_best_1 (by decide) ?_
  refine ax_bipush (pc := 2) (v := 20) dX4_best_2 (by decide) ?_
  refine ax_eSi3 (pc := 4) sX4_133 dX4_best_4 (by decide) (Nat.le_of_ble_eq_true rfl) (c_X4_within _ _ _ _ _) ?_
  refine ax_ifneB (pc := 7) (tgt := 12) dX4_best_7 (by decide) (fun c7a => ?_) (fun c7a => ?_)
  · refine ax_aload_n (pc := 12) dX4_best_12 rfl ?_
    refine ax_eVi0 (pc := 13) vX4_154 dX4_best_13 (by decide) (by first | exact c1.1 | exact c5.1 | exact c6 | exact c5.2.1 | exact c5.2.2.1 | exact c5.2.2.2 | exact c1.2 | exact c2.1 | exact c2.2.1 | exact c2.2.2.1 | exact c2.2.2.2 | exact g7 | exact g8 | rfl) (Nat.le_of_ble_eq_true rfl) (c_X4_noDays _ _ s hc hv) ?_
    refine ax_ifeqB (pc := 16) (tgt := 22) dX4_best_16 (by decide) (fun c16 => ?_) (fun c16 => ?_)
    · obtain ⟨m, hm, rfl⟩ := nI_of2 (n := 20) (M := 20) rfl (Int32.not_lt.mpr (Int32.le_trans (by decide) c7a.1)) c7a.2
      refine ax_iconst (pc := 22) (v := 0) dX4_best_22 (by decide) ?_
      refine ax_istore2 (pc := 23) dX4_best_23 rfl (by decide) ?_
      refine ax_iconst (pc := 24) (v := -1) dX4_best_24 (by decide) ?_
      refine ax_istore3 (pc := 25) dX4_best_25 rfl (by decide) ?_
      refine ax_iconst (pc := 26) (v := 0) dX4_best_26 (by decide) ?_
      refine ax_istore4 (pc := 27) dX4_best_27 rfl (by decide) ?_
      unfold sp_best
      rw [if_neg (not_not_intro c7a), if_neg c16, ni_cl (by omega)]
      exact l_X4_best dom s hv c16 m hm 5 0 (by omega) h none hc
    · refine ax_bipush (pc := 19) (v := -4) dX4_best_19 (by decide) ?_
      refine ax_iret (pc := 21) dX4_best_21 rfl ?_
      exact fin_i (by unfold sp_best; rw [if_neg (not_not_intro c7a), if_pos c16]) hc
  · refine ax_iconst (pc := 10) (v := -1) dX4_best_10 (by decide) ?_
    refine ax_iret (pc := 11) dX4_best_11 rfl ?_
    exact fin_i (by unfold sp_best; exact if_pos c7a) hc
set_option maxHeartbeats 4000000 in
set_option maxRecDepth 100000 in
theorem l_X4_fishes (dom : List Nat) (s : sg) (hv : IV s) (h0 : (s_D s).1 ≠ 0) (m : Nat) (hm : m ≤ 20) : ∀ (nn j : Nat), j + nn = (s_D s).1 → ∀ (H : mh_H) (l5 : Option Value), CP s H → At mX4_fishes dom 4 42 [some (.ref 0), some (.int (nI m)), some (.int (sp_mx (-9) (nI (s_wi s m).2.2.2.2) (sp_fg s m) j).2), some (.int (sp_mx (-9) (nI (s_wi s m).2.2.2.2) (sp_fg s m) j).1), some (.int (nI j)), l5] [] H (mx_Ri (fun v' h' => (v' = (if (sp_mx (-9) (nI (s_wi s m).2.2.2.2) (sp_fg s m) (s_D s).1).1 = -9 then ((-9 : Int32), s) else ((sp_mx (-9) (nI (s_wi s m).2.2.2.2) (sp_fg s m) (s_D s).1).1, u_ask s (sp_mx (-9) (nI (s_wi s m).2.2.2.2) (sp_fg s m) (s_D s).1).2)).1 ∧ CP (if (sp_mx (-9) (nI (s_wi s m).2.2.2.2) (sp_fg s m) (s_D s).1).1 = -9 then ((-9 : Int32), s) else ((sp_mx (-9) (nI (s_wi s m).2.2.2.2) (sp_fg s m) (s_D s).1).1, u_ask s (sp_mx (-9) (nI (s_wi s m).2.2.2.2) (sp_fg s m) (s_D s).1).2)).2 h'))) := by
  intro nn
  induction nn with
  | zero =>
    intro j hj H l5 hinv
    have hj : j = (s_D s).1 := by omega
    subst hj
    obtain ⟨c1, c2, c3, c4, c5, c6, c7, c8, c9⟩ := id hinv
    obtain ⟨gx0, gx1, gk1, gf1, gr1, g7, g14, g15, g16⟩ := id c9.1
    obtain ⟨t0, t1, t2, t3, t4, g8⟩ := id c9.2.1
    have h9 := hv.2.2.1.1
    refine ax_iload (pc := 42) dX4_fishes_42 rfl ?_
    refine ax_aload_n (pc := 44) dX4_fishes_44 rfl ?_
    refine ax_getf (pc := 45) fX4_21 dX4_fishes_45 (by first | exact c1.1 | exact c5.1 | exact g7 | rfl | exact c9.2.1) rfl ?_
    refine ax_getf (pc := 48) fX4_129 dX4_fishes_48 (by first | exact c1.1 | exact c5.1 | exact g7 | rfl | exact c9.2.1) rfl ?_
    refine ax_icmpge (pc := 51) (tgt := 107) dX4_fishes_51 (by decide) (fun _ => ?_) (fun q => absurd (nI_le (Nat.le_refl _) (by omega)) q)
    refine ax_iload_n (pc := 107) dX4_fishes_107 rfl ?_
    refine ax_bipush (pc := 108) (v := -9) dX4_fishes_108 (by decide) ?_
    refine ax_icmpeq (pc := 110) (tgt := 118) dX4_fishes_110 (by decide) (fun c110 => ?_) (fun c110 => ?_)
    · refine ax_iload_n (pc := 118) dX4_fishes_118 rfl ?_
      by_cases cz : (sp_mx (-9) (nI (s_wi s m).2.2.2.2) (sp_fg s m) (s_D s).1).1 = -9
      · refine ax_iret (pc := 119) dX4_fishes_119 rfl ?_
        first | exact absurd cz c110 | (rw [if_pos cz]; exact ⟨_, rfl, cz, hinv⟩)
      · refine ax_iret (pc := 119) dX4_fishes_119 rfl ?_
        first | exact absurd c110 cz | (rw [if_neg cz]; exact ⟨_, rfl, rfl, CP_ask hinv⟩)
    · refine ax_aload_n (pc := 113) dX4_fishes_113 rfl ?_
      refine ax_iload_n (pc := 114) dX4_fishes_114 rfl ?_
      refine ax_puti9 (pc := 115) gX4_53 dX4_fishes_115 (by first | exact c1.1 | exact c5.1 | exact g7 | rfl | exact c9.2.1) ?_
      refine ax_iload_n (pc := 118) dX4_fishes_118 rfl ?_
      by_cases cz : (sp_mx (-9) (nI (s_wi s m).2.2.2.2) (sp_fg s m) (s_D s).1).1 = -9
      · refine ax_iret (pc := 119) dX4_fishes_119 rfl ?_
        first | exact absurd cz c110 | (rw [if_pos cz]; exact ⟨_, rfl, cz, hinv⟩)
      · refine ax_iret (pc := 119) dX4_fishes_119 rfl ?_
        first | exact absurd c110 cz | (rw [if_neg cz]; exact ⟨_, rfl, rfl, CP_ask hinv⟩)
  | succ nn ih =>
    intro j hj H l5 hinv
    have hlt : j < (s_D s).1 := by omega
    obtain ⟨c1, c2, c3, c4, c5, c6, c7, c8, c9⟩ := id hinv
    obtain ⟨gx0, gx1, gk1, gf1, gr1, g7, g14, g15, g16⟩ := id c9.1
    obtain ⟨t0, t1, t2, t3, t4, g8⟩ := id c9.2.1
    obtain ⟨hD0, hW0, hfi⟩ := hv.w h0
    have hWt : sp_W0 (s_D s).1 (s_t s) := hW0
    have h9 := hv.2.2.1.1
    refine ax_iload (pc := 42) dX4_fishes_42 rfl ?_
    refine ax_aload_n (pc := 44) dX4_fishes_44 rfl ?_
    refine ax_getf (pc := 45) fX4_21 dX4_fishes_45 (by first | exact c1.1 | exact c5.1 | exact g7 | rfl | exact c9.2.1) rfl ?_
    refine ax_getf (pc := 48) fX4_129 dX4_fishes_48 (by first | exact c1.1 | exact c5.1 | exact g7 | rfl | exact c9.2.1) rfl ?_
    refine ax_icmpge (pc := 51) (tgt := 107) dX4_fishes_51 (by decide) (fun q => absurd q (nI_ge hlt (by omega))) (fun _ => ?_)
    refine ax_aload_n (pc := 54) dX4_fishes_54 rfl ?_
    refine ax_getf (pc := 55) fX4_43 dX4_fishes_55 (by first | exact c1.1 | exact c5.1 | exact g7 | rfl | exact c9.2.1) rfl ?_
    refine ax_aload_n (pc := 58) dX4_fishes_58 rfl ?_
    refine ax_getf (pc := 59) fX4_21 dX4_fishes_59 (by first | exact c1.1 | exact c5.1 | exact g7 | rfl | exact c9.2.1) rfl ?_
    refine ax_eVv1 (pc := 62) vX4_207 dX4_fishes_62 (by decide) (by first | exact c1.1 | exact c5.1 | exact g7 | rfl | exact c9.2.1) (Nat.le_of_ble_eq_true rfl) (c_X0_copyOf _ _ (s_D s) (s_fi s) c9.1 c5) ?_
    refine ax_aload_n (pc := 65) dX4_fishes_65 rfl ?_
    refine ax_getf (pc := 66) fX4_43 dX4_fishes_66 (by first | exact c1.1 | exact c5.1 | exact g7 | rfl | exact c9.2.1) rfl ?_
    refine ax_iload (pc := 69) dX4_fishes_69 rfl ?_
    refine ax_eVv1 (pc := 71) vX4_210 dX4_fishes_71 (by decide) (by first | exact c1.1 | exact c5.1 | exact g7 | rfl | exact c9.2.1) (Nat.le_of_ble_eq_true rfl) (c_X0_setFished _ _ _ _ _ _ (s_fi s) 7 (by exact rfl) j (by omega)) ?_
    refine At.hp gsH_d ?_
    refine ax_aload_n (pc := 74) dX4_fishes_74 rfl ?_
    refine ax_eVv0 (pc := 75) vX4_182 dX4_fishes_75 (by decide) (by first | exact c1.1 | exact c5.1 | exact g7 | rfl | exact c9.2.1) (Nat.le_of_ble_eq_true rfl) (c_X4_startTrial _ _ s (CP_gs hinv)) ?_
    refine ax_aload_n (pc := 78) dX4_fishes_78 rfl ?_
    refine ax_iload_n (pc := 79) dX4_fishes_79 rfl ?_
    refine ax_aload_n (pc := 80) dX4_fishes_80 rfl ?_
    refine ax_getf (pc := 81) fX4_43 dX4_fishes_81 (by first | exact c1.1 | exact c5.1 | exact g7 | rfl | exact c9.2.1) rfl ?_
    refine ax_eVi2 (pc := 84) vX4_185 dX4_fishes_84 (by decide) (by first | exact c1.1 | exact c5.1 | exact g7 | rfl | exact c9.2.1) (Nat.le_of_ble_eq_true rfl) (c_X4_groundIn _ (gsH H (s_D s) (s_fi s ||| 2 ^ j)) (s_D s) (s_fi s ||| 2 ^ j) 7 14 15 16 (s_t s) (s_ask s) (s_fin s) (s_up s) (s_lo s) c1.1 (gsH_P _ _ _) (by decide) hD0 hWt (or_lt hfi (by omega)) m (by omega)) ?_
    refine ax_istore5 (pc := 87) dX4_fishes_87 rfl (by decide) ?_
    refine ax_iload (pc := 89) dX4_fishes_89 rfl ?_
    refine ax_iload_n (pc := 91) dX4_fishes_91 rfl ?_
    refine ax_icmple (pc := 92) (tgt := 101) dX4_fishes_92 (by decide) (fun c92 => ?_) (fun c92 => ?_)
    · refine ax_inc4p1 (pc := 101) dX4_fishes_101 rfl (by decide) ?_
      refine ax_goto (pc := 104) (tgt := 42) dX4_fishes_104 (by decide) ?_
      rw [nI_1]
      have ih2 := ih (j + 1) (by omega) (mh_up (gsH H (s_D s) (s_fi s ||| 2 ^ j)) 8 (wc (wi (s_D s) (s_fi s ||| 2 ^ j) (s_t s) m))) (some (.int (nI (sp_fg s m j)))) (CP_8 (CP_gs hinv))
      first | rw [sp_mx_f (g := sp_fg s m) (j := j) (Int32.not_lt.mpr c92)] at ih2 | rw [sp_mx_t (g := sp_fg s m) (j := j) (Int32.not_le.mp c92)] at ih2
      exact ih2
    · refine ax_iload (pc := 95) dX4_fishes_95 rfl ?_
      refine ax_istore2 (pc := 97) dX4_fishes_97 rfl (by decide) ?_
      refine ax_iload (pc := 98) dX4_fishes_98 rfl ?_
      refine ax_istore3 (pc := 100) dX4_fishes_100 rfl (by decide) ?_
      refine ax_inc4p1 (pc := 101) dX4_fishes_101 rfl (by decide) ?_
      refine ax_goto (pc := 104) (tgt := 42) dX4_fishes_104 (by decide) ?_
      rw [nI_1]
      have ih2 := ih (j + 1) (by omega) (mh_up (gsH H (s_D s) (s_fi s ||| 2 ^ j)) 8 (wc (wi (s_D s) (s_fi s ||| 2 ^ j) (s_t s) m))) (some (.int (nI (sp_fg s m j)))) (CP_8 (CP_gs hinv))
      first | rw [sp_mx_f (g := sp_fg s m) (j := j) (Int32.not_lt.mpr c92)] at ih2 | rw [sp_mx_t (g := sp_fg s m) (j := j) (Int32.not_le.mp c92)] at ih2
      exact ih2
set_option maxHeartbeats 4000000 in
set_option maxRecDepth 100000 in
theorem c_X4_fishes (dom : List Nat) (h : mh_H) (s : sg) (n : Int32) (hc : CP s h) (hv : IV s) : Mt mX4_fishes dom 4 [.ref 0, .int n] h (mx_Ri (fun v' h' => v' = (sp_fishes s n).1 ∧ CP (sp_fishes s n).2 h')) := by
  refine Mt.of (L := [some (.ref 0), some (.int n), none, none, none, none]) rfl (Nat.le_of_ble_eq_true rfl) rfl ?_
  obtain ⟨c1, c2, c3, c4, c5, c6, c7, c8, c9⟩ := id hc
  obtain ⟨gx0, gx1, gk1, gf1, gr1, g7, g14, g15, g16⟩ := id c9.1
  obtain ⟨t0, t1, t2, t3, t4, g8⟩ := id c9.2.1
  refine ax_iload_n (pc := 0) dX4_fishes_0 rfl ?_
  refine ax_iconst (pc := 1) (v := 1) dX4_fishes_1 (by decide) ?_
  refine ax_bipush (pc := 2) (v := 20) dX4_fishes_2 (by decide) ?_
  refine ax_eSi3 (pc := 4) sX4_133 dX4_fishes_4 (by decide) (Nat.le_of_ble_eq_true rfl) (c_X4_within _ _ _ _ _) ?_
  refine ax_ifneB (pc := 7) (tgt := 12) dX4_fishes_7 (by decide) (fun c7a => ?_) (fun c7a => ?_)
  · refine ax_aload_n (pc := 12) dX4_fishes_12 rfl ?_
    refine ax_eVi0 (pc := 13) vX4_154 dX4_fishes_13 (by decide) (by first | exact c1.1 | exact c5.1 | exact c6 | exact c5.2.1 | exact c5.2.2.1 | exact c5.2.2.2 | exact c1.2 | exact c2.1 | exact c2.2.1 | exact c2.2.2.1 | exact c2.2.2.2 | exact g7 | exact g8 | rfl) (Nat.le_of_ble_eq_true rfl) (c_X4_noDays _ _ s hc hv) ?_
    refine ax_ifeqB (pc := 16) (tgt := 22) dX4_fishes_16 (by decide) (fun c16 => ?_) (fun c16 => ?_)
    · obtain ⟨m, hm, rfl⟩ := nI_of2 (n := 20) (M := 20) rfl (Int32.not_lt.mpr (Int32.le_trans (by decide) c7a.1)) c7a.2
      obtain ⟨hD0, hW0, hfi⟩ := hv.w c16
      have hWt : sp_W0 (s_D s).1 (s_t s) := hW0
      refine ax_aload_n (pc := 22) dX4_fishes_22 rfl ?_
      refine ax_eVv0 (pc := 23) vX4_182 dX4_fishes_23 (by decide) (by first | exact c1.1 | exact c5.1 | exact c6 | exact c5.2.1 | exact c5.2.2.1 | exact c5.2.2.2 | exact c1.2 | exact c2.1 | exact c2.2.1 | exact c2.2.2.1 | exact c2.2.2.2 | exact g7 | exact g8 | rfl) (Nat.le_of_ble_eq_true rfl) (c_X4_startTrial _ _ s hc) ?_
      refine ax_aload_n (pc := 26) dX4_fishes_26 rfl ?_
      refine ax_iload_n (pc := 27) dX4_fishes_27 rfl ?_
      refine ax_aload_n (pc := 28) dX4_fishes_28 rfl ?_
      refine ax_getf (pc := 29) fX4_21 dX4_fishes_29 (by first | exact c1.1 | exact c5.1 | exact c6 | exact c5.2.1 | exact c5.2.2.1 | exact c5.2.2.2 | exact c1.2 | exact c2.1 | exact c2.2.1 | exact c2.2.2.1 | exact c2.2.2.2 | exact g7 | exact g8 | rfl) rfl ?_
      refine ax_eVi2 (pc := 32) vX4_185 dX4_fishes_32 (by decide) (by first | exact c1.1 | exact c5.1 | exact c6 | exact c5.2.1 | exact c5.2.2.1 | exact c5.2.2.2 | exact c1.2 | exact c2.1 | exact c2.2.1 | exact c2.2.2.1 | exact c2.2.2.2 | exact g7 | exact g8 | rfl) (Nat.le_of_ble_eq_true rfl) (c_X4_groundIn _ h (s_D s) (s_fi s) 3 11 12 13 (s_t s) (s_ask s) (s_fin s) (s_up s) (s_lo s) c1.1 c5 (by decide) hD0 hW0 hfi m (by omega)) ?_
      refine ax_istore2 (pc := 35) dX4_fishes_35 rfl (by decide) ?_
      refine ax_bipush (pc := 36) (v := -9) dX4_fishes_36 (by decide) ?_
      refine ax_istore3 (pc := 38) dX4_fishes_38 rfl (by decide) ?_
      refine ax_iconst (pc := 39) (v := 0) dX4_fishes_39 (by decide) ?_
      refine ax_istore4 (pc := 40) dX4_fishes_40 rfl (by decide) ?_
      unfold sp_fishes
      rw [if_neg (not_not_intro c7a), if_neg c16, ni_cl (by omega)]
      exact l_X4_fishes dom s hv c16 m hm (s_D s).1 0 (by omega) (mh_up h 8 (wc (s_wi s m))) none (CP_8 hc)
    · refine ax_bipush (pc := 19) (v := -4) dX4_fishes_19 (by decide) ?_
      refine ax_iret (pc := 21) dX4_fishes_21 rfl ?_
      exact fin_i (by unfold sp_fishes; rw [if_neg (not_not_intro c7a), if_pos c16]) hc
  · refine ax_iconst (pc := 10) (v := -1) dX4_fishes_10 (by decide) ?_
    refine ax_iret (pc := 11) dX4_fishes_11 rfl ?_
    exact fin_i (by unfold sp_fishes; exact if_pos c7a) hc
theorem sp_bkS {s : sg} {f : Nat → Int32} {j : Nat} : upd (sp_bk s f j) j (nI (sp_wf (s_D s) (s_fi s) (s_wi s j))) = sp_bk s f (j + 1) := by
  funext i
  unfold upd sp_bk
  by_cases h : i = j
  · rw [if_pos h, if_pos (by omega), h]
  · by_cases h2 : i < j
    · rw [if_neg h, if_pos h2, if_pos (by omega)]
    · rw [if_neg h, if_neg h2, if_neg (by omega)]
theorem sp_zc_r (s : sg) (a : Nat → Int32) (b : Nat → Nat → Int32) (n : Nat) : sp_zc (u_rows s a b) n = sp_zc s n := by
  induction n with
  | zero => rfl
  | succ n ih => rw [sp_zc, sp_zc, ih]; rfl
theorem sp_zc_le (s : sg) (n : Nat) : sp_zc s n ≤ n := by
  induction n with
  | zero => exact Nat.le_refl _
  | succ n ih => unfold sp_zc; split <;> omega
set_option maxHeartbeats 4000000 in
set_option maxRecDepth 100000 in
theorem l_X4_book (dom : List Nat) (h : mh_H) (s : sg) (hc : CP s h) (hv : IV s) (h0 : (s_D s).1 ≠ 0) (m q : Nat) (hq : q < 6) (hm : m ≤ 20) (f : Nat → Int32) : ∀ (nn j : Nat), j + nn = m → ∀ (l5 : Option Value), At mX4_book dom 3 49 [some (.ref 0), some (.int (nI m)), some (.int (nI q)), some (.int (nI (sp_zc s j))), some (.int (nI j)), l5] [] (mh_up (mh_up h (30 + q) (mh_ia 0 60 (sp_bk s f j))) 8 (wc (s_wi s j))) (mx_Ri (fun v' h' => v' = nI (sp_zc s m) ∧ h' = (mh_up (mh_up h (30 + q) (mh_ia 0 60 (sp_bk s f m))) 8 (wc (s_wi s m))))) := by
  intro nn
  induction nn with
  | zero =>
    intro j hj l5
    have hj : j = m := by omega
    subst hj
    obtain ⟨c1, c2, c3, c4, c5, c6, c7, c8, c9⟩ := id hc
    obtain ⟨gx0, gx1, gk1, gf1, gr1, g7, g14, g15, g16⟩ := id c9.1
    obtain ⟨t0, t1, t2, t3, t4, g8⟩ := id c9.2.1
    refine ax_iload (pc := 49) dX4_book_49 rfl ?_
    refine ax_iload_n (pc := 51) dX4_book_51 rfl ?_
    refine ax_icmpge (pc := 52) (tgt := 96) dX4_book_52 (by decide) (fun _ => ?_) (fun q => absurd (nI_le (Nat.le_refl _) (by omega)) q)
    refine ax_iload_n (pc := 96) dX4_book_96 rfl ?_
    refine ax_iret (pc := 97) dX4_book_97 rfl ?_
    exact ⟨_, rfl, rfl, rfl⟩
  | succ nn ih =>
    intro j hj l5
    have hlt : j < m := by omega
    obtain ⟨c1, c2, c3, c4, c5, c6, c7, c8, c9⟩ := id hc
    obtain ⟨gx0, gx1, gk1, gf1, gr1, g7, g14, g15, g16⟩ := id c9.1
    obtain ⟨t0, t1, t2, t3, t4, g8⟩ := id c9.2.1
    obtain ⟨hD0, hW0, hfi⟩ := hv.w h0
    have hWt : sp_W0 (s_D s).1 (s_t s) := hW0
    refine ax_iload (pc := 49) dX4_book_49 rfl ?_
    refine ax_iload_n (pc := 51) dX4_book_51 rfl ?_
    refine ax_icmpge (pc := 52) (tgt := 96) dX4_book_52 (by decide) (fun q => absurd q (nI_ge hlt (by omega))) (fun _ => ?_)
    refine ax_aload_n (pc := 55) dX4_book_55 rfl ?_
    refine ax_getf (pc := 56) fX4_46 dX4_book_56 (by first | exact mh_up_s | exact (mh_up_n (by omega)).trans ((mh_up_n (by omega)).trans c1.1) | exact (mh_up_n (by omega)).trans ((mh_up_n (by omega)).trans c5.1) | exact (mh_up_n (by omega)).trans ((mh_up_n (by omega)).trans c2.1) | exact (mh_up_n (by omega)).trans ((mh_up_n (by omega)).trans (c3 q hq).1) | exact (mh_up_n (by omega)).trans mh_up_s) rfl ?_
    refine ax_aload_n (pc := 59) dX4_book_59 rfl ?_
    refine ax_getf (pc := 60) fX4_21 dX4_book_60 (by first | exact mh_up_s | exact (mh_up_n (by omega)).trans ((mh_up_n (by omega)).trans c1.1) | exact (mh_up_n (by omega)).trans ((mh_up_n (by omega)).trans c5.1) | exact (mh_up_n (by omega)).trans ((mh_up_n (by omega)).trans c2.1) | exact (mh_up_n (by omega)).trans ((mh_up_n (by omega)).trans (c3 q hq).1) | exact (mh_up_n (by omega)).trans mh_up_s) rfl ?_
    refine ax_eVi1 (pc := 63) vX4_189 dX4_book_63 (by decide) (by first | exact mh_up_s | exact (mh_up_n (by omega)).trans ((mh_up_n (by omega)).trans c1.1) | exact (mh_up_n (by omega)).trans ((mh_up_n (by omega)).trans c5.1) | exact (mh_up_n (by omega)).trans ((mh_up_n (by omega)).trans c2.1) | exact (mh_up_n (by omega)).trans ((mh_up_n (by omega)).trans (c3 q hq).1) | exact (mh_up_n (by omega)).trans mh_up_s) (Nat.le_of_ble_eq_true rfl) (c_X3_goRound _ _ (s_D s) (s_fi s) 8 3 11 12 13 (s_wi s j).1 (s_wi s j).2.1 (s_wi s j).2.2.1 (s_wi s j).2.2.2.2 (s_wi s j).2.2.2.1 (by exact mh_up_s) (dyP_k (fun k hk => (mh_up_n (by omega)).trans (mh_up_n (by omega))) c5) hD0 (wi_ok hD0 hWt j) hfi) ?_
    refine At.hp mh_up_uu ?_
    refine ax_istore5 (pc := 66) dX4_book_66 rfl (by decide) ?_
    refine ax_aload_n (pc := 68) dX4_book_68 rfl ?_
    refine ax_getf (pc := 69) fX4_11 dX4_book_69 (by first | exact mh_up_s | exact (mh_up_n (by omega)).trans ((mh_up_n (by omega)).trans c1.1) | exact (mh_up_n (by omega)).trans ((mh_up_n (by omega)).trans c5.1) | exact (mh_up_n (by omega)).trans ((mh_up_n (by omega)).trans c2.1) | exact (mh_up_n (by omega)).trans ((mh_up_n (by omega)).trans (c3 q hq).1) | exact (mh_up_n (by omega)).trans mh_up_s) rfl ?_
    refine ax_iload_n (pc := 72) dX4_book_72 rfl ?_
    refine ax_aald (pc := 73) dX4_book_73 (by first | exact mh_up_s | exact (mh_up_n (by omega)).trans ((mh_up_n (by omega)).trans c1.1) | exact (mh_up_n (by omega)).trans ((mh_up_n (by omega)).trans c5.1) | exact (mh_up_n (by omega)).trans ((mh_up_n (by omega)).trans c2.1) | exact (mh_up_n (by omega)).trans ((mh_up_n (by omega)).trans (c3 q hq).1) | exact (mh_up_n (by omega)).trans mh_up_s) (by decide) (ni_in9 hq (by decide)) (by rw [ni_cl (by omega)]) ?_
    refine ax_getf (pc := 74) fX4_91 dX4_book_74 (by first | exact mh_up_s | exact (mh_up_n (by omega)).trans ((mh_up_n (by omega)).trans c1.1) | exact (mh_up_n (by omega)).trans ((mh_up_n (by omega)).trans c5.1) | exact (mh_up_n (by omega)).trans ((mh_up_n (by omega)).trans c2.1) | exact (mh_up_n (by omega)).trans ((mh_up_n (by omega)).trans (c3 q hq).1) | exact (mh_up_n (by omega)).trans mh_up_s) rfl ?_
    refine ax_iload (pc := 77) dX4_book_77 rfl ?_
    refine ax_iload (pc := 79) dX4_book_79 rfl ?_
    refine ax_iast (pc := 81) dX4_book_81 (by first | exact mh_up_s | exact (mh_up_n (by omega)).trans ((mh_up_n (by omega)).trans c1.1) | exact (mh_up_n (by omega)).trans ((mh_up_n (by omega)).trans c5.1) | exact (mh_up_n (by omega)).trans ((mh_up_n (by omega)).trans c2.1) | exact (mh_up_n (by omega)).trans ((mh_up_n (by omega)).trans (c3 q hq).1) | exact (mh_up_n (by omega)).trans mh_up_s) (ni_in9 (by omega) (by decide)) ?_
    rw [ni_cl (by omega)]
    refine At.hp (mh_r2 (by omega)) ?_
    have e9 := sp_bkS (s := s) (f := f) (j := j)
    rw [show sp_wf (s_D s) (s_fi s) ((s_wi s j).1, (s_wi s j).2.1, (s_wi s j).2.2.1, (s_wi s j).2.2.2.1, (s_wi s j).2.2.2.2) = sp_wf (s_D s) (s_fi s) (s_wi s j) from rfl, e9]
    have ez : nI (sp_wf (s_D s) (s_fi s) (s_wi s j)) = 0 ↔ sp_wf (s_D s) (s_fi s) (s_wi s j) = 0 := by rw [n_0, nI_eq (by have := sp_wf_le (fi := s_fi s) hD0 (wi_ok (fi := s_fi s) hD0 hWt j); exact Nat.lt_of_le_of_lt this (by decide)) (by decide)]
    refine ax_iload (pc := 82) dX4_book_82 rfl ?_
    refine ax_ifne (pc := 84) (tgt := 90) dX4_book_84 (by decide) (fun c84 => ?_) (fun c84 => ?_)
    · refine ax_inc4p1 (pc := 90) dX4_book_90 rfl (by decide) ?_
      refine ax_goto (pc := 93) (tgt := 49) dX4_book_93 (by decide) ?_
      have e2 : sp_zc s (j + 1) = sp_zc s j + (if sp_wf (s_D s) (s_fi s) (s_wi s j) = 0 then 1 else 0) := rfl
      first | rw [if_pos (ez.mp c84)] at e2 | rw [if_neg (fun z => c84 (ez.mpr z))] at e2
      first | rw [nI_1, nI_1, ← e2] | rw [nI_1, show sp_zc s j = sp_zc s (j + 1) from e2.symm]
      exact ih (j + 1) (by omega) _
    · refine ax_inc3p1 (pc := 87) dX4_book_87 rfl (by decide) ?_
      refine ax_inc4p1 (pc := 90) dX4_book_90 rfl (by decide) ?_
      refine ax_goto (pc := 93) (tgt := 49) dX4_book_93 (by decide) ?_
      have e2 : sp_zc s (j + 1) = sp_zc s j + (if sp_wf (s_D s) (s_fi s) (s_wi s j) = 0 then 1 else 0) := rfl
      first | rw [if_pos (ez.mp c84)] at e2 | rw [if_neg (fun z => c84 (ez.mpr z))] at e2
      first | rw [nI_1, nI_1, ← e2] | rw [nI_1, show sp_zc s j = sp_zc s (j + 1) from e2.symm]
      exact ih (j + 1) (by omega) _
set_option maxHeartbeats 4000000 in
set_option maxRecDepth 100000 in
theorem c_X4_book (dom : List Nat) (h : mh_H) (s : sg) (n r : Int32) (hc : CP s h) (hv : IV s) : Mt mX4_book dom 3 [.ref 0, .int n, .int r] h (mx_Ri (fun v' h' => v' = (sp_book s n r).1 ∧ CP (sp_book s n r).2 h')) := by
  refine Mt.of (L := [some (.ref 0), some (.int n), some (.int r), none, none, none]) rfl (Nat.le_of_ble_eq_true rfl) rfl ?_
  obtain ⟨c1, c2, c3, c4, c5, c6, c7, c8, c9⟩ := id hc
  obtain ⟨gx0, gx1, gk1, gf1, gr1, g7, g14, g15, g16⟩ := id c9.1
  obtain ⟨t0, t1, t2, t3, t4, g8⟩ := id c9.2.1
  refine ax_iload_n (pc := 0) dX4_book_0 rfl ?_
  refine ax_iconst (pc := 1) (v := 1) dX4_book_1 (by decide) ?_
  refine ax_bipush (pc := 2) (v := 20) dX4_book_2 (by decide) ?_
  refine ax_eSi3 (pc := 4) sX4_133 dX4_book_4 (by decide) (Nat.le_of_ble_eq_true rfl) (c_X4_within _ _ _ _ _) ?_
  refine ax_ifeqB (pc := 7) (tgt := 17) dX4_book_7 (by decide) (fun c7a => ?_) (fun c7a => ?_)
  · refine ax_iconst (pc := 17) (v := -1) dX4_book_17 (by decide) ?_
    refine ax_iret (pc := 18) dX4_book_18 rfl ?_
    exact fin_i (by unfold sp_book; first | exact if_pos (Or.inl c7a) | exact if_pos (Or.inr c14)) hc
  · refine ax_iload_n (pc := 10) dX4_book_10 rfl ?_
    refine ax_eSi1 (pc := 11) sX4_75 dX4_book_11 (by decide) (Nat.le_of_ble_eq_true rfl) (c_X4_isRow _ _ _) ?_
    refine ax_ifneB (pc := 14) (tgt := 19) dX4_book_14 (by decide) (fun c14 => ?_) (fun c14 => ?_)
    · refine ax_aload_n (pc := 19) dX4_book_19 rfl ?_
      refine ax_eVi0 (pc := 20) vX4_154 dX4_book_20 (by decide) (by first | exact c1.1 | exact c5.1 | exact c6 | exact c5.2.1 | exact c5.2.2.1 | exact c5.2.2.2 | exact c1.2 | exact c2.1 | exact c2.2.1 | exact c2.2.2.1 | exact c2.2.2.2 | exact g7 | exact g8 | rfl) (Nat.le_of_ble_eq_true rfl) (c_X4_noDays _ _ s hc hv) ?_
      refine ax_ifeqB (pc := 23) (tgt := 29) dX4_book_23 (by decide) (fun c23 => ?_) (fun c23 => ?_)
      · obtain ⟨m, hm, rfl⟩ := nI_of2 (n := 20) (M := 20) rfl (Int32.not_lt.mpr (Int32.le_trans (by decide) c7a.1)) c7a.2
        obtain ⟨q, hq, rfl⟩ := ix_5 c14
        refine ax_aload_n (pc := 29) dX4_book_29 rfl ?_
        refine ax_getf (pc := 30) fX4_11 dX4_book_30 (by first | exact c1.1 | exact c5.1 | exact c6 | exact c5.2.1 | exact c5.2.2.1 | exact c5.2.2.2 | exact c1.2 | exact c2.1 | exact c2.2.1 | exact c2.2.2.1 | exact c2.2.2.2 | exact g7 | exact g8 | rfl) rfl ?_
        refine ax_iload_n (pc := 33) dX4_book_33 rfl ?_
        refine ax_aald (pc := 34) dX4_book_34 (by first | exact c1.1 | exact c5.1 | exact c6 | exact c5.2.1 | exact c5.2.2.1 | exact c5.2.2.2 | exact c1.2 | exact c2.1 | exact c2.2.1 | exact c2.2.2.1 | exact c2.2.2.2 | exact g7 | exact g8 | rfl) (by decide) (ni_in9 hq (by decide)) (by rw [ni_cl (by omega)]) ?_
        refine ax_iload_n (pc := 35) dX4_book_35 rfl ?_
        refine ax_iconst (pc := 36) (v := 0) dX4_book_36 (by decide) ?_
        refine ax_eVv2 (pc := 37) vX4_83 dX4_book_37 (by decide) (c3 q hq).1 (Nat.le_of_ble_eq_true rfl) (c_X2_make _ _ (20 + q) (30 + q) m _ 0 _ (c3 q hq).1 (c3 q hq).2 (by omega)) ?_
        refine ax_aload_n (pc := 40) dX4_book_40 rfl ?_
        refine ax_eVv0 (pc := 41) vX4_182 dX4_book_41 (by decide) ((mh_up_n (by omega)).trans ((mh_up_n (by omega)).trans c1.1)) (Nat.le_of_ble_eq_true rfl) (c_X4_startTrial _ _ (u_rows s (va_fn (s_rz s) q (nI m)) (va_fn (s_rc s) q (sl_fil (s_rc s q) m 0))) (CP_row hq hc)) ?_
        refine ax_iconst (pc := 44) (v := 0) dX4_book_44 (by decide) ?_
        refine ax_istore3 (pc := 45) dX4_book_45 rfl (by decide) ?_
        refine ax_iconst (pc := 46) (v := 0) dX4_book_46 (by decide) ?_
        refine ax_istore4 (pc := 47) dX4_book_47 rfl (by decide) ?_
        have hc2 := CP_row (z := nI m) (q := sl_fil (s_rc s q) m 0) hq hc
        have hv2 : IV (u_rows s (va_fn (s_rz s) q (nI m)) (va_fn (s_rc s) q (sl_fil (s_rc s q) m 0))) := hv.row hq (by omega)
        refine At.hp (h' := mh_up (mh_up (mh_up (mh_up h (20 + q) (mh_ob 2 [.ref (30 + q), .int (nI m)])) (30 + q) (mh_ia 0 60 (sl_fil (s_rc s q) m 0))) (30 + q) (mh_ia 0 60 (sp_bk (u_rows s (va_fn (s_rz s) q (nI m)) (va_fn (s_rc s) q (sl_fil (s_rc s q) m 0))) (sl_fil (s_rc s q) m 0) 0))) 8 (wc (s_t s))) (by rw [mh_up_uu]; rfl) ?_
        refine At.mono ?_ (l_X4_book dom _ _ hc2 hv2 c23 m q hq hm (sl_fil (s_rc s q) m 0) m 0 (by omega) none)
        rintro r h1 ⟨v, rfl, rfl, rfl⟩
        refine fin_v (by unfold sp_book; rw [if_neg (by rintro (z | z); exact z c7a; exact z c14), if_neg c23, ni_cl (by omega), ni_cl (by omega)]) ?_ (congrArg nI (sp_zc_r _ _ _ _))
        rw [mh_up_uu]
        have e8 : sp_bk (u_rows s (va_fn (s_rz s) q (nI m)) (va_fn (s_rc s) q (sl_fil (s_rc s q) m 0))) (sl_fil (s_rc s q) m 0) m = sp_bk s (s_rc s q) m := by
          funext i
          unfold sp_bk sl_fil
          by_cases hi : i < m
          · rw [if_pos hi, if_pos hi]; rfl
          · rw [if_neg hi, if_neg hi, if_neg hi]
        rw [e8]
        exact CP_8 (CP_row hq hc)
      · refine ax_bipush (pc := 26) (v := -4) dX4_book_26 (by decide) ?_
        refine ax_iret (pc := 28) dX4_book_28 rfl ?_
        exact fin_i (by unfold sp_book; rw [if_neg (by rintro (z | z); exact z c7a; exact z c14), if_pos c23]) hc
    · refine ax_iconst (pc := 17) (v := -1) dX4_book_17 (by decide) ?_
      refine ax_iret (pc := 18) dX4_book_18 rfl ?_
      exact fin_i (by unfold sp_book; first | exact if_pos (Or.inl c7a) | exact if_pos (Or.inr c14)) hc
