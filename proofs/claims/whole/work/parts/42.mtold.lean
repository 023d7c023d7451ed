set_option maxHeartbeats 4000000 in
set_option maxRecDepth 100000 in
theorem c_X5_asked (dom : List Nat) (h : mh_H) (s : sg) (nd : Int32) (sl : Nat → Int32) (tu : Int32) (hm : MB s h sl) : Mt mX5_asked dom 0 [.ref 0] (hM h (xs s nd) sl tu) (mx_Ri (fun v' h' => v' = ((s_ask s, s)).1 ∧ MP ((s_ask s, s)).2 h')) := by
  refine Mt.of (L := [some (.ref 0)]) rfl (Nat.le_of_ble_eq_true rfl) rfl ?_
  refine ax_aload_n (pc := 0) dX5_asked_0 rfl ?_
  refine ax_getf (pc := 1) fX5_75 dX5_asked_1 (by exact hM_0) rfl ?_
  refine ax_iret (pc := 4) dX5_asked_4 rfl ?_
  exact fin_m rfl hm.mp
set_option maxHeartbeats 4000000 in
set_option maxRecDepth 100000 in
theorem c_X5_finding (dom : List Nat) (h : mh_H) (s : sg) (nd : Int32) (sl : Nat → Int32) (tu : Int32) (hm : MB s h sl) : Mt mX5_finding dom 0 [.ref 0] (hM h (xs s nd) sl tu) (mx_Ri (fun v' h' => v' = ((s_fin s, s)).1 ∧ MP ((s_fin s, s)).2 h')) := by
  refine Mt.of (L := [some (.ref 0)]) rfl (Nat.le_of_ble_eq_true rfl) rfl ?_
  refine ax_aload_n (pc := 0) dX5_finding_0 rfl ?_
  refine ax_getf (pc := 1) fX5_57 dX5_finding_1 (by exact hM_0) rfl ?_
  refine ax_iret (pc := 4) dX5_finding_4 rfl ?_
  exact fin_m rfl hm.mp
set_option maxHeartbeats 4000000 in
set_option maxRecDepth 100000 in
theorem c_X5_upper (dom : List Nat) (h : mh_H) (s : sg) (nd : Int32) (sl : Nat → Int32) (tu : Int32) (hm : MB s h sl) : Mt mX5_upper dom 0 [.ref 0] (hM h (xs s nd) sl tu) (mx_Rl (fun v' h' => v' = s_up s ∧ MP s h')) := by
  refine Mt.of (L := [some (.ref 0)]) rfl (Nat.le_of_ble_eq_true rfl) rfl ?_
  refine ax_aload_n (pc := 0) dX5_upper_0 rfl ?_
  refine ax_getf (pc := 1) fX5_193 dX5_upper_1 (by exact hM_0) rfl ?_
  refine ax_lret (pc := 4) dX5_upper_4 rfl ?_
  exact ⟨_, rfl, rfl, hm.mp⟩
set_option maxHeartbeats 4000000 in
set_option maxRecDepth 100000 in
theorem c_X5_lower (dom : List Nat) (h : mh_H) (s : sg) (nd : Int32) (sl : Nat → Int32) (tu : Int32) (hm : MB s h sl) : Mt mX5_lower dom 0 [.ref 0] (hM h (xs s nd) sl tu) (mx_Rl (fun v' h' => v' = s_lo s ∧ MP s h')) := by
  refine Mt.of (L := [some (.ref 0)]) rfl (Nat.le_of_ble_eq_true rfl) rfl ?_
  refine ax_aload_n (pc := 0) dX5_lower_0 rfl ?_
  refine ax_getf (pc := 1) fX5_47 dX5_lower_1 (by exact hM_0) rfl ?_
  refine ax_lret (pc := 4) dX5_lower_4 rfl ?_
  exact ⟨_, rfl, rfl, hm.mp⟩
set_option maxHeartbeats 4000000 in
set_option maxRecDepth 100000 in
theorem c_X5_findings (dom : List Nat) (h : mh_H) (s : sg) (nd : Int32) (sl : Nat → Int32) (tu : Int32) (f : Int32) (hm : MB s h sl) : Mt mX5_findings dom 1 [.ref 0, .int f] (hM h (xs s nd) sl tu) (mx_Ri (fun v' h' => v' = (sp_findings s f).1 ∧ MP (sp_findings s f).2 h')) := by
  refine Mt.of (L := [some (.ref 0), some (.int f)]) rfl (Nat.le_of_ble_eq_true rfl) rfl ?_
  obtain ⟨⟨m1, f2, m2, mf⟩, ⟨m3, f4, m4, mg⟩, ⟨so, fl, dr, md⟩, mn, msl, mk, mc, ⟨wo, mw⟩⟩ := id hm
  refine ax_iload_n (pc := 0) dX5_findings_0 rfl ?_
  refine ax_i2l (pc := 1) dX5_findings_1 ?_
  refine ax_lconst (pc := 2) (v := 1) dX5_findings_2 (by decide) ?_
  refine ax_ldc2 (pc := 3) dX5_findings_3 tw_707 ?_
  refine ax_eSi3 (pc := 6) sX5_63 dX5_findings_6 (by decide) (Nat.le_of_ble_eq_true rfl) (c_X5_in _ _ f 1 5 _ _ (by decide) (by decide)) ?_
  refine ax_ifeqB (pc := 9) (tgt := 21) dX5_findings_9 (by decide) (fun c9a => ?_) (fun c9a => ?_)
  · refine ax_iconst (pc := 21) (v := -1) dX5_findings_21 (by decide) ?_
    refine ax_iret (pc := 22) dX5_findings_22 rfl ?_
    first | exact fin_m (by unfold sp_findings; exact if_pos c9a) hm.mp | exact fin_m (by unfold sp_findings; rw [if_neg (not_not_intro c9a), ni_cl (by omega)]) hm.mp
  · obtain ⟨j, hj, rfl⟩ := ix_5 ⟨Int32.le_trans (by decide) c9a.1, c9a.2⟩
    refine ax_aload_n (pc := 12) dX5_findings_12 rfl ?_
    refine ax_getf (pc := 13) fX5_51 dX5_findings_13 (by exact hM_0) rfl ?_
    refine ax_iload_n (pc := 16) dX5_findings_16 rfl ?_
    refine bx_iaload dX5_findings_17 ((hM_n (by decide)).trans mc) hj (by decide) rfl ?_
    refine ax_goto (pc := 18) (tgt := 22) dX5_findings_18 (by decide) ?_
    refine ax_iret (pc := 22) dX5_findings_22 rfl ?_
    first | exact fin_m (by unfold sp_findings; exact if_pos c9a) hm.mp | exact fin_m (by unfold sp_findings; rw [if_neg (not_not_intro c9a), ni_cl (by omega)]) hm.mp
def pm (m : Nat) (p : Nat → Bool) : Nat → Bool := fun r => decide (r < m) && p r
theorem pm_t {m j : Nat} {p : Nat → Bool} (h1 : j < m) (h2 : p j = true) : sp_ct (pm m p) (j + 1) = sp_ct (pm m p) j + 1 := by
  rw [sp_ct, if_pos (show pm m p j = true by unfold pm; rw [h2, decide_eq_true h1]; rfl)]
theorem pm_f1 {m j : Nat} {p : Nat → Bool} (h1 : m ≤ j) : sp_ct (pm m p) (j + 1) = sp_ct (pm m p) j := by
  rw [sp_ct, if_neg (show ¬ pm m p j = true by unfold pm; rw [decide_eq_false (by omega)]; simp), Nat.add_zero]
theorem pm_f2 {m j : Nat} {p : Nat → Bool} (h2 : ¬ p j = true) : sp_ct (pm m p) (j + 1) = sp_ct (pm m p) j := by
  rw [sp_ct, if_neg (show ¬ pm m p j = true by unfold pm; rw [Bool.and_eq_true]; exact fun z => h2 z.2), Nat.add_zero]
theorem pm_a {m : Nat} {p : Nat → Bool} : ∀ n, n ≤ m → sp_ct (pm m p) n = sp_ct p n
  | 0, _ => rfl
  | n + 1, h => by
    by_cases q : p n = true
    · rw [pm_t (by omega) q, pm_a n (by omega), sp_ct, if_pos q]
    · rw [pm_f2 q, pm_a n (by omega), sp_ct, if_neg q, Nat.add_zero]
theorem pm_e {m : Nat} {p : Nat → Bool} : ∀ d, sp_ct (pm m p) (m + d) = sp_ct p m
  | 0 => pm_a m (Nat.le_refl _)
  | d + 1 => by rw [show m + (d + 1) = (m + d) + 1 from rfl, pm_f1 (by omega), pm_e d]
theorem pm_9 {m : Nat} {p : Nat → Bool} (h : m ≤ 9) : sp_ct (pm m p) 9 = sp_ct p m := by
  have := pm_e (m := m) (p := p) (9 - m)
  rwa [show m + (9 - m) = 9 by omega] at this
theorem cn_ct {K : Nat → Nat} {q : Nat} : ∀ n, sp_ct (fun r => sp_is (K r) q) n = sp_cn K q n
  | 0 => rfl
  | n + 1 => by rw [sp_ct, sp_cn, cn_ct n]
theorem kz_s {o : Option (List (Nat × Nat))} (h : ∀ ds, o = some ds → ds.length ≤ 40) : 0 ≤ kz o ↔ o.isSome = true := by
  cases o with
  | none => exact ⟨fun q => absurd q (by decide), fun q => by simp at q⟩
  | some ds => exact ⟨fun _ => rfl, fun _ => nI_pos' (by have := h ds rfl; omega)⟩
theorem tc_m1 : (-1 : Int32).toNatClampNeg = 0 := by decide
set_option maxHeartbeats 4000000 in
set_option maxRecDepth 100000 in
theorem l_X5_mo0 (dom : List Nat) (h : mh_H) (s : sg) (nd : Int32) (sl : Nat → Int32) (tu : Int32) (hm : MB s h sl) (hv : IV s) : ∀ (nn j : Nat), j + nn = 9 → At mX5_manyOf dom 1 4 [some (.ref 0), some (.int (nI 0)), some (.int (nI (sp_ct (pm 6 (fun r => decide (0 ≤ s_rz s r))) j))), some (.int (nI j))] [] (hM h (xs s nd) sl tu) (mx_Ri (fun v' h' => v' = nI (sp_zt (s_rz s) 6) ∧ h' = (hM h (xs s nd) sl tu))) := by
  intro nn
  induction nn with
  | zero =>
    intro j hj
    have hj : j = 9 := by omega
    subst hj
    obtain ⟨⟨m1, f2, m2, mf⟩, ⟨m3, f4, m4, mg⟩, ⟨so, fl, dr, md⟩, mn, msl, mk, mc, ⟨wo, mw⟩⟩ := id hm
    have hn := hm.now
    have h40 := hv.2.2.2.1.1
    obtain ⟨d5, d6, d7, dR⟩ := id md
    have h9 := hv.2.2.1.1
    refine ax_iload_n (pc := 4) dX5_manyOf_4 rfl ?_
    refine ax_bipush (pc := 5) (v := nI 9) dX5_manyOf_5 (by decide) ?_
    refine ax_icmpge (pc := 7) (tgt := 164) dX5_manyOf_7 (by decide) (fun _ => ?_) (fun q => absurd (by decide) q)
    refine ax_iload_n (pc := 164) dX5_manyOf_164 rfl ?_
    refine ax_iret (pc := 165) dX5_manyOf_165 rfl ?_
    exact ⟨_, rfl, (congrArg nI (pm_9 (by decide))), rfl⟩
  | succ nn ih =>
    intro j hj
    have hlt : j < 9 := by omega
    obtain ⟨⟨m1, f2, m2, mf⟩, ⟨m3, f4, m4, mg⟩, ⟨so, fl, dr, md⟩, mn, msl, mk, mc, ⟨wo, mw⟩⟩ := id hm
    have hn := hm.now
    have h40 := hv.2.2.2.1.1
    obtain ⟨d5, d6, d7, dR⟩ := id md
    have h9 := hv.2.2.1.1
    refine ax_iload_n (pc := 4) dX5_manyOf_4 rfl ?_
    refine ax_bipush (pc := 5) (v := nI 9) dX5_manyOf_5 (by decide) ?_
    refine ax_icmpge (pc := 7) (tgt := 164) dX5_manyOf_7 (by decide) (fun q => absurd q (by rw [nI_leI (by decide) (by omega)]; omega)) (fun _ => ?_)
    refine ax_iload_n (pc := 10) dX5_manyOf_10 rfl ?_
    refine ax_iload_n (pc := 11) dX5_manyOf_11 rfl ?_
    refine ax_ifne (pc := 12) (tgt := 37) dX5_manyOf_12 (by decide) (fun q => absurd q (fun q => q rfl)) (fun _ => ?_)
    refine ax_iload_n (pc := 15) dX5_manyOf_15 rfl ?_
    refine ax_bipush (pc := 16) (v := nI 6) dX5_manyOf_16 (by decide) ?_
    refine ax_icmpge (pc := 18) (tgt := 37) dX5_manyOf_18 (by decide) (fun c18 => ?_) (fun c18 => ?_)
    · refine ax_iconst (pc := 37) (v := nI 0) dX5_manyOf_37 (by decide) ?_
      refine bx_iadd dX5_manyOf_38  ?_
      refine ax_istore2 (pc := 39) dX5_manyOf_39 rfl (by decide) ?_
      refine ax_iload_n (pc := 40) dX5_manyOf_40 rfl ?_
      refine ax_iload_n (pc := 41) dX5_manyOf_41 rfl ?_
      refine ax_iconst (pc := 42) (v := nI 1) dX5_manyOf_42 (by decide) ?_
      refine ax_icmpne (pc := 43) (tgt := 66) dX5_manyOf_43 (by decide) (fun _ => ?_) (fun q => absurd q (by decide))
      refine ax_iconst (pc := 66) (v := nI 0) dX5_manyOf_66 (by decide) ?_
      refine bx_iadd dX5_manyOf_67  ?_
      refine ax_istore2 (pc := 68) dX5_manyOf_68 rfl (by decide) ?_
      refine ax_iload_n (pc := 69) dX5_manyOf_69 rfl ?_
      refine ax_iload_n (pc := 70) dX5_manyOf_70 rfl ?_
      refine ax_iconst (pc := 71) (v := nI 2) dX5_manyOf_71 (by decide) ?_
      refine ax_icmpne (pc := 72) (tgt := 95) dX5_manyOf_72 (by decide) (fun _ => ?_) (fun q => absurd q (by decide))
      refine ax_iconst (pc := 95) (v := nI 0) dX5_manyOf_95 (by decide) ?_
      refine bx_iadd dX5_manyOf_96  ?_
      refine ax_istore2 (pc := 97) dX5_manyOf_97 rfl (by decide) ?_
      refine ax_iload_n (pc := 98) dX5_manyOf_98 rfl ?_
      refine ax_iload_n (pc := 99) dX5_manyOf_99 rfl ?_
      refine ax_iconst (pc := 100) (v := nI 3) dX5_manyOf_100 (by decide) ?_
      refine ax_icmpne (pc := 101) (tgt := 125) dX5_manyOf_101 (by decide) (fun _ => ?_) (fun q => absurd q (by decide))
      refine ax_iload_n (pc := 125) dX5_manyOf_125 rfl ?_
      refine ax_iconst (pc := 126) (v := nI 4) dX5_manyOf_126 (by decide) ?_
      refine ax_icmpne (pc := 127) (tgt := 155) dX5_manyOf_127 (by decide) (fun _ => ?_) (fun q => absurd q (by decide))
      refine ax_iconst (pc := 155) (v := nI 0) dX5_manyOf_155 (by decide) ?_
      refine bx_iadd dX5_manyOf_156  ?_
      refine ax_istore2 (pc := 157) dX5_manyOf_157 rfl (by decide) ?_
      refine ax_inc3p1 (pc := 158) dX5_manyOf_158 rfl (by decide) ?_
      refine ax_goto (pc := 161) (tgt := 4) dX5_manyOf_161 (by decide) ?_
      rw [nI_1]
      have K := ih (j + 1) (by omega)
      first
        | (rw [pm_f1 ((nI_leI (by omega) (by omega)).mp (show nI 6 ≤ nI j from c18))] at K; exact K)
        | (rw [pm_f2 (p := (fun r => decide (0 ≤ s_rz s r))) (j := j) (fun z => absurd (of_decide_eq_true z) (Int32.not_le.mpr c30))] at K; exact K)
        | (rw [pm_t (p := (fun r => decide (0 ≤ s_rz s r))) (j := j) h6 (decide_eq_true (Int32.not_lt.mp c30))] at K; exact K)
    · have h6 : j < 6 := Nat.not_le.mp (fun z => c18 ((nI_leI (by omega) (by omega)).mpr z))
      refine ax_aload_n (pc := 21) dX5_manyOf_21 rfl ?_
      refine ax_getf (pc := 22) fX5_7 dX5_manyOf_22 (by exact hM_0) rfl ?_
      refine ax_iload_n (pc := 25) dX5_manyOf_25 rfl ?_
      refine ax_bipush (pc := 26) (v := nI 6) dX5_manyOf_26 (by decide) ?_
      refine bx_irem dX5_manyOf_28 (by omega) (by decide) (by decide) ?_
      refine bx_iaload dX5_manyOf_29 ((hM_n (by decide)).trans m1) (by omega) (by decide) (congrArg (s_rz s) (Nat.mod_eq_of_lt h6)) ?_
      refine ax_iflt (pc := 30) (tgt := 37) dX5_manyOf_30 (by decide) (fun c30 => ?_) (fun c30 => ?_)
      · refine ax_iconst (pc := 37) (v := nI 0) dX5_manyOf_37 (by decide) ?_
        refine bx_iadd dX5_manyOf_38  ?_
        refine ax_istore2 (pc := 39) dX5_manyOf_39 rfl (by decide) ?_
        refine ax_iload_n (pc := 40) dX5_manyOf_40 rfl ?_
        refine ax_iload_n (pc := 41) dX5_manyOf_41 rfl ?_
        refine ax_iconst (pc := 42) (v := nI 1) dX5_manyOf_42 (by decide) ?_
        refine ax_icmpne (pc := 43) (tgt := 66) dX5_manyOf_43 (by decide) (fun _ => ?_) (fun q => absurd q (by decide))
        refine ax_iconst (pc := 66) (v := nI 0) dX5_manyOf_66 (by decide) ?_
        refine bx_iadd dX5_manyOf_67  ?_
        refine ax_istore2 (pc := 68) dX5_manyOf_68 rfl (by decide) ?_
        refine ax_iload_n (pc := 69) dX5_manyOf_69 rfl ?_
        refine ax_iload_n (pc := 70) dX5_manyOf_70 rfl ?_
        refine ax_iconst (pc := 71) (v := nI 2) dX5_manyOf_71 (by decide) ?_
        refine ax_icmpne (pc := 72) (tgt := 95) dX5_manyOf_72 (by decide) (fun _ => ?_) (fun q => absurd q (by decide))
        refine ax_iconst (pc := 95) (v := nI 0) dX5_manyOf_95 (by decide) ?_
        refine bx_iadd dX5_manyOf_96  ?_
        refine ax_istore2 (pc := 97) dX5_manyOf_97 rfl (by decide) ?_
        refine ax_iload_n (pc := 98) dX5_manyOf_98 rfl ?_
        refine ax_iload_n (pc := 99) dX5_manyOf_99 rfl ?_
        refine ax_iconst (pc := 100) (v := nI 3) dX5_manyOf_100 (by decide) ?_
        refine ax_icmpne (pc := 101) (tgt := 125) dX5_manyOf_101 (by decide) (fun _ => ?_) (fun q => absurd q (by decide))
        refine ax_iload_n (pc := 125) dX5_manyOf_125 rfl ?_
        refine ax_iconst (pc := 126) (v := nI 4) dX5_manyOf_126 (by decide) ?_
        refine ax_icmpne (pc := 127) (tgt := 155) dX5_manyOf_127 (by decide) (fun _ => ?_) (fun q => absurd q (by decide))
        refine ax_iconst (pc := 155) (v := nI 0) dX5_manyOf_155 (by decide) ?_
        refine bx_iadd dX5_manyOf_156  ?_
        refine ax_istore2 (pc := 157) dX5_manyOf_157 rfl (by decide) ?_
        refine ax_inc3p1 (pc := 158) dX5_manyOf_158 rfl (by decide) ?_
        refine ax_goto (pc := 161) (tgt := 4) dX5_manyOf_161 (by decide) ?_
        rw [nI_1]
        have K := ih (j + 1) (by omega)
        first
          | (rw [pm_f1 ((nI_leI (by omega) (by omega)).mp (show nI 6 ≤ nI j from c18))] at K; exact K)
          | (rw [pm_f2 (p := (fun r => decide (0 ≤ s_rz s r))) (j := j) (fun z => absurd (of_decide_eq_true z) (Int32.not_le.mpr c30))] at K; exact K)
          | (rw [pm_t (p := (fun r => decide (0 ≤ s_rz s r))) (j := j) h6 (decide_eq_true (Int32.not_lt.mp c30))] at K; exact K)
      · refine ax_iconst (pc := 33) (v := nI 1) dX5_manyOf_33 (by decide) ?_
        refine ax_goto (pc := 34) (tgt := 38) dX5_manyOf_34 (by decide) ?_
        refine bx_iadd dX5_manyOf_38  ?_
        refine ax_istore2 (pc := 39) dX5_manyOf_39 rfl (by decide) ?_
        refine ax_iload_n (pc := 40) dX5_manyOf_40 rfl ?_
        refine ax_iload_n (pc := 41) dX5_manyOf_41 rfl ?_
        refine ax_iconst (pc := 42) (v := nI 1) dX5_manyOf_42 (by decide) ?_
        refine ax_icmpne (pc := 43) (tgt := 66) dX5_manyOf_43 (by decide) (fun _ => ?_) (fun q => absurd q (by decide))
        refine ax_iconst (pc := 66) (v := nI 0) dX5_manyOf_66 (by decide) ?_
        refine bx_iadd dX5_manyOf_67  ?_
        refine ax_istore2 (pc := 68) dX5_manyOf_68 rfl (by decide) ?_
        refine ax_iload_n (pc := 69) dX5_manyOf_69 rfl ?_
        refine ax_iload_n (pc := 70) dX5_manyOf_70 rfl ?_
        refine ax_iconst (pc := 71) (v := nI 2) dX5_manyOf_71 (by decide) ?_
        refine ax_icmpne (pc := 72) (tgt := 95) dX5_manyOf_72 (by decide) (fun _ => ?_) (fun q => absurd q (by decide))
        refine ax_iconst (pc := 95) (v := nI 0) dX5_manyOf_95 (by decide) ?_
        refine bx_iadd dX5_manyOf_96  ?_
        refine ax_istore2 (pc := 97) dX5_manyOf_97 rfl (by decide) ?_
        refine ax_iload_n (pc := 98) dX5_manyOf_98 rfl ?_
        refine ax_iload_n (pc := 99) dX5_manyOf_99 rfl ?_
        refine ax_iconst (pc := 100) (v := nI 3) dX5_manyOf_100 (by decide) ?_
        refine ax_icmpne (pc := 101) (tgt := 125) dX5_manyOf_101 (by decide) (fun _ => ?_) (fun q => absurd q (by decide))
        refine ax_iload_n (pc := 125) dX5_manyOf_125 rfl ?_
        refine ax_iconst (pc := 126) (v := nI 4) dX5_manyOf_126 (by decide) ?_
        refine ax_icmpne (pc := 127) (tgt := 155) dX5_manyOf_127 (by decide) (fun _ => ?_) (fun q => absurd q (by decide))
        refine ax_iconst (pc := 155) (v := nI 0) dX5_manyOf_155 (by decide) ?_
        refine bx_iadd dX5_manyOf_156  ?_
        refine ax_istore2 (pc := 157) dX5_manyOf_157 rfl (by decide) ?_
        refine ax_inc3p1 (pc := 158) dX5_manyOf_158 rfl (by decide) ?_
        refine ax_goto (pc := 161) (tgt := 4) dX5_manyOf_161 (by decide) ?_
        rw [nI_1]
        have K := ih (j + 1) (by omega)
        first
          | (rw [pm_f1 ((nI_leI (by omega) (by omega)).mp (show nI 6 ≤ nI j from c18))] at K; exact K)
          | (rw [pm_f2 (p := (fun r => decide (0 ≤ s_rz s r))) (j := j) (fun z => absurd (of_decide_eq_true z) (Int32.not_le.mpr c30))] at K; exact K)
          | (rw [pm_t (p := (fun r => decide (0 ≤ s_rz s r))) (j := j) h6 (decide_eq_true (Int32.not_lt.mp c30))] at K; exact K)
set_option maxHeartbeats 4000000 in
set_option maxRecDepth 100000 in
theorem c_X5_mo0 (dom : List Nat) (h : mh_H) (s : sg) (nd : Int32) (sl : Nat → Int32) (tu : Int32) (hm : MB s h sl) (hv : IV s) : Mt mX5_manyOf dom 1 [.ref 0, .int (nI 0)] (hM h (xs s nd) sl tu) (mx_Ri (fun v' h' => v' = nI (sp_zt (s_rz s) 6) ∧ h' = (hM h (xs s nd) sl tu))) := by
  refine Mt.of (L := [some (.ref 0), some (.int (nI 0)), none, none]) rfl (Nat.le_of_ble_eq_true rfl) rfl ?_
  refine ax_iconst (pc := 0) (v := nI 0) dX5_manyOf_0 (by decide) ?_
  refine ax_istore2 (pc := 1) dX5_manyOf_1 rfl (by decide) ?_
  refine ax_iconst (pc := 2) (v := nI 0) dX5_manyOf_2 (by decide) ?_
  refine ax_istore3 (pc := 3) dX5_manyOf_3 rfl (by decide) ?_
  exact l_X5_mo0 dom h s nd sl tu hm hv 9 0 (by omega)
set_option maxHeartbeats 4000000 in
set_option maxRecDepth 100000 in
theorem l_X5_mo1 (dom : List Nat) (h : mh_H) (s : sg) (nd : Int32) (sl : Nat → Int32) (tu : Int32) (hm : MB s h sl) (hv : IV s) : ∀ (nn j : Nat), j + nn = 9 → At mX5_manyOf dom 1 4 [some (.ref 0), some (.int (nI 1)), some (.int (nI (sp_ct (pm 4 (fun r => decide (0 ≤ s_tz s r))) j))), some (.int (nI j))] [] (hM h (xs s nd) sl tu) (mx_Ri (fun v' h' => v' = nI (sp_zt (s_tz s) 4) ∧ h' = (hM h (xs s nd) sl tu))) := by
  intro nn
  induction nn with
  | zero =>
    intro j hj
    have hj : j = 9 := by omega
    subst hj
    obtain ⟨⟨m1, f2, m2, mf⟩, ⟨m3, f4, m4, mg⟩, ⟨so, fl, dr, md⟩, mn, msl, mk, mc, ⟨wo, mw⟩⟩ := id hm
    have hn := hm.now
    have h40 := hv.2.2.2.1.1
    obtain ⟨d5, d6, d7, dR⟩ := id md
    have h9 := hv.2.2.1.1
    refine ax_iload_n (pc := 4) dX5_manyOf_4 rfl ?_
    refine ax_bipush (pc := 5) (v := nI 9) dX5_manyOf_5 (by decide) ?_
    refine ax_icmpge (pc := 7) (tgt := 164) dX5_manyOf_7 (by decide) (fun _ => ?_) (fun q => absurd (by decide) q)
    refine ax_iload_n (pc := 164) dX5_manyOf_164 rfl ?_
    refine ax_iret (pc := 165) dX5_manyOf_165 rfl ?_
    exact ⟨_, rfl, (congrArg nI (pm_9 (by decide))), rfl⟩
  | succ nn ih =>
    intro j hj
    have hlt : j < 9 := by omega
    obtain ⟨⟨m1, f2, m2, mf⟩, ⟨m3, f4, m4, mg⟩, ⟨so, fl, dr, md⟩, mn, msl, mk, mc, ⟨wo, mw⟩⟩ := id hm
    have hn := hm.now
    have h40 := hv.2.2.2.1.1
    obtain ⟨d5, d6, d7, dR⟩ := id md
    have h9 := hv.2.2.1.1
    refine ax_iload_n (pc := 4) dX5_manyOf_4 rfl ?_
    refine ax_bipush (pc := 5) (v := nI 9) dX5_manyOf_5 (by decide) ?_
    refine ax_icmpge (pc := 7) (tgt := 164) dX5_manyOf_7 (by decide) (fun q => absurd q (by rw [nI_leI (by decide) (by omega)]; omega)) (fun _ => ?_)
    refine ax_iload_n (pc := 10) dX5_manyOf_10 rfl ?_
    refine ax_iload_n (pc := 11) dX5_manyOf_11 rfl ?_
    refine ax_ifne (pc := 12) (tgt := 37) dX5_manyOf_12 (by decide) (fun _ => ?_) (fun q => absurd q (by decide))
    refine ax_iconst (pc := 37) (v := nI 0) dX5_manyOf_37 (by decide) ?_
    refine bx_iadd dX5_manyOf_38  ?_
    refine ax_istore2 (pc := 39) dX5_manyOf_39 rfl (by decide) ?_
    refine ax_iload_n (pc := 40) dX5_manyOf_40 rfl ?_
    refine ax_iload_n (pc := 41) dX5_manyOf_41 rfl ?_
    refine ax_iconst (pc := 42) (v := nI 1) dX5_manyOf_42 (by decide) ?_
    refine ax_icmpne (pc := 43) (tgt := 66) dX5_manyOf_43 (by decide) (fun q => absurd q (fun q => q rfl)) (fun _ => ?_)
    refine ax_iload_n (pc := 46) dX5_manyOf_46 rfl ?_
    refine ax_iconst (pc := 47) (v := nI 4) dX5_manyOf_47 (by decide) ?_
    refine ax_icmpge (pc := 48) (tgt := 66) dX5_manyOf_48 (by decide) (fun c48 => ?_) (fun c48 => ?_)
    · refine ax_iconst (pc := 66) (v := nI 0) dX5_manyOf_66 (by decide) ?_
      refine bx_iadd dX5_manyOf_67  ?_
      refine ax_istore2 (pc := 68) dX5_manyOf_68 rfl (by decide) ?_
      refine ax_iload_n (pc := 69) dX5_manyOf_69 rfl ?_
      refine ax_iload_n (pc := 70) dX5_manyOf_70 rfl ?_
      refine ax_iconst (pc := 71) (v := nI 2) dX5_manyOf_71 (by decide) ?_
      refine ax_icmpne (pc := 72) (tgt := 95) dX5_manyOf_72 (by decide) (fun _ => ?_) (fun q => absurd q (by decide))
      refine ax_iconst (pc := 95) (v := nI 0) dX5_manyOf_95 (by decide) ?_
      refine bx_iadd dX5_manyOf_96  ?_
      refine ax_istore2 (pc := 97) dX5_manyOf_97 rfl (by decide) ?_
      refine ax_iload_n (pc := 98) dX5_manyOf_98 rfl ?_
      refine ax_iload_n (pc := 99) dX5_manyOf_99 rfl ?_
      refine ax_iconst (pc := 100) (v := nI 3) dX5_manyOf_100 (by decide) ?_
      refine ax_icmpne (pc := 101) (tgt := 125) dX5_manyOf_101 (by decide) (fun _ => ?_) (fun q => absurd q (by decide))
      refine ax_iload_n (pc := 125) dX5_manyOf_125 rfl ?_
      refine ax_iconst (pc := 126) (v := nI 4) dX5_manyOf_126 (by decide) ?_
      refine ax_icmpne (pc := 127) (tgt := 155) dX5_manyOf_127 (by decide) (fun _ => ?_) (fun q => absurd q (by decide))
      refine ax_iconst (pc := 155) (v := nI 0) dX5_manyOf_155 (by decide) ?_
      refine bx_iadd dX5_manyOf_156  ?_
      refine ax_istore2 (pc := 157) dX5_manyOf_157 rfl (by decide) ?_
      refine ax_inc3p1 (pc := 158) dX5_manyOf_158 rfl (by decide) ?_
      refine ax_goto (pc := 161) (tgt := 4) dX5_manyOf_161 (by decide) ?_
      rw [nI_1]
      have K := ih (j + 1) (by omega)
      first
        | (rw [pm_f1 ((nI_leI (by omega) (by omega)).mp (show nI 4 ≤ nI j from c48))] at K; exact K)
        | (rw [pm_f2 (p := (fun r => decide (0 ≤ s_tz s r))) (j := j) (fun z => absurd (of_decide_eq_true z) (Int32.not_le.mpr c59))] at K; exact K)
        | (rw [pm_t (p := (fun r => decide (0 ≤ s_tz s r))) (j := j) h6 (decide_eq_true (Int32.not_lt.mp c59))] at K; exact K)
    · have h6 : j < 4 := Nat.not_le.mp (fun z => c48 ((nI_leI (by omega) (by omega)).mpr z))
      refine ax_aload_n (pc := 51) dX5_manyOf_51 rfl ?_
      refine ax_getf (pc := 52) fX5_16 dX5_manyOf_52 (by exact hM_0) rfl ?_
      refine ax_iload_n (pc := 55) dX5_manyOf_55 rfl ?_
      refine ax_iconst (pc := 56) (v := nI 4) dX5_manyOf_56 (by decide) ?_
      refine bx_irem dX5_manyOf_57 (by omega) (by decide) (by decide) ?_
      refine bx_iaload dX5_manyOf_58 ((hM_n (by decide)).trans m3) (by omega) (by decide) (congrArg (s_tz s) (Nat.mod_eq_of_lt h6)) ?_
      refine ax_iflt (pc := 59) (tgt := 66) dX5_manyOf_59 (by decide) (fun c59 => ?_) (fun c59 => ?_)
      · refine ax_iconst (pc := 66) (v := nI 0) dX5_manyOf_66 (by decide) ?_
        refine bx_iadd dX5_manyOf_67  ?_
        refine ax_istore2 (pc := 68) dX5_manyOf_68 rfl (by decide) ?_
        refine ax_iload_n (pc := 69) dX5_manyOf_69 rfl ?_
        refine ax_iload_n (pc := 70) dX5_manyOf_70 rfl ?_
        refine ax_iconst (pc := 71) (v := nI 2) dX5_manyOf_71 (by decide) ?_
        refine ax_icmpne (pc := 72) (tgt := 95) dX5_manyOf_72 (by decide) (fun _ => ?_) (fun q => absurd q (by decide))
        refine ax_iconst (pc := 95) (v := nI 0) dX5_manyOf_95 (by decide) ?_
        refine bx_iadd dX5_manyOf_96  ?_
        refine ax_istore2 (pc := 97) dX5_manyOf_97 rfl (by decide) ?_
        refine ax_iload_n (pc := 98) dX5_manyOf_98 rfl ?_
        refine ax_iload_n (pc := 99) dX5_manyOf_99 rfl ?_
        refine ax_iconst (pc := 100) (v := nI 3) dX5_manyOf_100 (by decide) ?_
        refine ax_icmpne (pc := 101) (tgt := 125) dX5_manyOf_101 (by decide) (fun _ => ?_) (fun q => absurd q (by decide))
        refine ax_iload_n (pc := 125) dX5_manyOf_125 rfl ?_
        refine ax_iconst (pc := 126) (v := nI 4) dX5_manyOf_126 (by decide) ?_
        refine ax_icmpne (pc := 127) (tgt := 155) dX5_manyOf_127 (by decide) (fun _ => ?_) (fun q => absurd q (by decide))
        refine ax_iconst (pc := 155) (v := nI 0) dX5_manyOf_155 (by decide) ?_
        refine bx_iadd dX5_manyOf_156  ?_
        refine ax_istore2 (pc := 157) dX5_manyOf_157 rfl (by decide) ?_
        refine ax_inc3p1 (pc := 158) dX5_manyOf_158 rfl (by decide) ?_
        refine ax_goto (pc := 161) (tgt := 4) dX5_manyOf_161 (by decide) ?_
        rw [nI_1]
        have K := ih (j + 1) (by omega)
        first
          | (rw [pm_f1 ((nI_leI (by omega) (by omega)).mp (show nI 4 ≤ nI j from c48))] at K; exact K)
          | (rw [pm_f2 (p := (fun r => decide (0 ≤ s_tz s r))) (j := j) (fun z => absurd (of_decide_eq_true z) (Int32.not_le.mpr c59))] at K; exact K)
          | (rw [pm_t (p := (fun r => decide (0 ≤ s_tz s r))) (j := j) h6 (decide_eq_true (Int32.not_lt.mp c59))] at K; exact K)
      · refine ax_iconst (pc := 62) (v := nI 1) dX5_manyOf_62 (by decide) ?_
        refine ax_goto (pc := 63) (tgt := 67) dX5_manyOf_63 (by decide) ?_
        refine bx_iadd dX5_manyOf_67  ?_
        refine ax_istore2 (pc := 68) dX5_manyOf_68 rfl (by decide) ?_
        refine ax_iload_n (pc := 69) dX5_manyOf_69 rfl ?_
        refine ax_iload_n (pc := 70) dX5_manyOf_70 rfl ?_
        refine ax_iconst (pc := 71) (v := nI 2) dX5_manyOf_71 (by decide) ?_
        refine ax_icmpne (pc := 72) (tgt := 95) dX5_manyOf_72 (by decide) (fun _ => ?_) (fun q => absurd q (by decide))
        refine ax_iconst (pc := 95) (v := nI 0) dX5_manyOf_95 (by decide) ?_
        refine bx_iadd dX5_manyOf_96  ?_
        refine ax_istore2 (pc := 97) dX5_manyOf_97 rfl (by decide) ?_
        refine ax_iload_n (pc := 98) dX5_manyOf_98 rfl ?_
        refine ax_iload_n (pc := 99) dX5_manyOf_99 rfl ?_
        refine ax_iconst (pc := 100) (v := nI 3) dX5_manyOf_100 (by decide) ?_
        refine ax_icmpne (pc := 101) (tgt := 125) dX5_manyOf_101 (by decide) (fun _ => ?_) (fun q => absurd q (by decide))
        refine ax_iload_n (pc := 125) dX5_manyOf_125 rfl ?_
        refine ax_iconst (pc := 126) (v := nI 4) dX5_manyOf_126 (by decide) ?_
        refine ax_icmpne (pc := 127) (tgt := 155) dX5_manyOf_127 (by decide) (fun _ => ?_) (fun q => absurd q (by decide))
        refine ax_iconst (pc := 155) (v := nI 0) dX5_manyOf_155 (by decide) ?_
        refine bx_iadd dX5_manyOf_156  ?_
        refine ax_istore2 (pc := 157) dX5_manyOf_157 rfl (by decide) ?_
        refine ax_inc3p1 (pc := 158) dX5_manyOf_158 rfl (by decide) ?_
        refine ax_goto (pc := 161) (tgt := 4) dX5_manyOf_161 (by decide) ?_
        rw [nI_1]
        have K := ih (j + 1) (by omega)
        first
          | (rw [pm_f1 ((nI_leI (by omega) (by omega)).mp (show nI 4 ≤ nI j from c48))] at K; exact K)
          | (rw [pm_f2 (p := (fun r => decide (0 ≤ s_tz s r))) (j := j) (fun z => absurd (of_decide_eq_true z) (Int32.not_le.mpr c59))] at K; exact K)
          | (rw [pm_t (p := (fun r => decide (0 ≤ s_tz s r))) (j := j) h6 (decide_eq_true (Int32.not_lt.mp c59))] at K; exact K)
set_option maxHeartbeats 4000000 in
set_option maxRecDepth 100000 in
theorem c_X5_mo1 (dom : List Nat) (h : mh_H) (s : sg) (nd : Int32) (sl : Nat → Int32) (tu : Int32) (hm : MB s h sl) (hv : IV s) : Mt mX5_manyOf dom 1 [.ref 0, .int (nI 1)] (hM h (xs s nd) sl tu) (mx_Ri (fun v' h' => v' = nI (sp_zt (s_tz s) 4) ∧ h' = (hM h (xs s nd) sl tu))) := by
  refine Mt.of (L := [some (.ref 0), some (.int (nI 1)), none, none]) rfl (Nat.le_of_ble_eq_true rfl) rfl ?_
  refine ax_iconst (pc := 0) (v := nI 0) dX5_manyOf_0 (by decide) ?_
  refine ax_istore2 (pc := 1) dX5_manyOf_1 rfl (by decide) ?_
  refine ax_iconst (pc := 2) (v := nI 0) dX5_manyOf_2 (by decide) ?_
  refine ax_istore3 (pc := 3) dX5_manyOf_3 rfl (by decide) ?_
  exact l_X5_mo1 dom h s nd sl tu hm hv 9 0 (by omega)
set_option maxHeartbeats 4000000 in
set_option maxRecDepth 100000 in
theorem l_X5_mo2 (dom : List Nat) (h : mh_H) (s : sg) (nd : Int32) (sl : Nat → Int32) (tu : Int32) (hm : MB s h sl) (hv : IV s) : ∀ (nn j : Nat), j + nn = 9 → At mX5_manyOf dom 1 4 [some (.ref 0), some (.int (nI 2)), some (.int (nI (sp_ct (pm 3 (fun k => (s_kp s k).isSome)) j))), some (.int (nI j))] [] (hM h (xs s nd) sl tu) (mx_Ri (fun v' h' => v' = nI (sp_kt (s_kp s) 3) ∧ h' = (hM h (xs s nd) sl tu))) := by
  intro nn
  induction nn with
  | zero =>
    intro j hj
    have hj : j = 9 := by omega
    subst hj
    obtain ⟨⟨m1, f2, m2, mf⟩, ⟨m3, f4, m4, mg⟩, ⟨so, fl, dr, md⟩, mn, msl, mk, mc, ⟨wo, mw⟩⟩ := id hm
    have hn := hm.now
    have h40 := hv.2.2.2.1.1
    obtain ⟨d5, d6, d7, dR⟩ := id md
    have h9 := hv.2.2.1.1
    refine ax_iload_n (pc := 4) dX5_manyOf_4 rfl ?_
    refine ax_bipush (pc := 5) (v := nI 9) dX5_manyOf_5 (by decide) ?_
    refine ax_icmpge (pc := 7) (tgt := 164) dX5_manyOf_7 (by decide) (fun _ => ?_) (fun q => absurd (by decide) q)
    refine ax_iload_n (pc := 164) dX5_manyOf_164 rfl ?_
    refine ax_iret (pc := 165) dX5_manyOf_165 rfl ?_
    exact ⟨_, rfl, (congrArg nI (pm_9 (by decide))), rfl⟩
  | succ nn ih =>
    intro j hj
    have hlt : j < 9 := by omega
    obtain ⟨⟨m1, f2, m2, mf⟩, ⟨m3, f4, m4, mg⟩, ⟨so, fl, dr, md⟩, mn, msl, mk, mc, ⟨wo, mw⟩⟩ := id hm
    have hn := hm.now
    have h40 := hv.2.2.2.1.1
    obtain ⟨d5, d6, d7, dR⟩ := id md
    have h9 := hv.2.2.1.1
    refine ax_iload_n (pc := 4) dX5_manyOf_4 rfl ?_
    refine ax_bipush (pc := 5) (v := nI 9) dX5_manyOf_5 (by decide) ?_
    refine ax_icmpge (pc := 7) (tgt := 164) dX5_manyOf_7 (by decide) (fun q => absurd q (by rw [nI_leI (by decide) (by omega)]; omega)) (fun _ => ?_)
    refine ax_iload_n (pc := 10) dX5_manyOf_10 rfl ?_
    refine ax_iload_n (pc := 11) dX5_manyOf_11 rfl ?_
    refine ax_ifne (pc := 12) (tgt := 37) dX5_manyOf_12 (by decide) (fun _ => ?_) (fun q => absurd q (by decide))
    refine ax_iconst (pc := 37) (v := nI 0) dX5_manyOf_37 (by decide) ?_
    refine bx_iadd dX5_manyOf_38  ?_
    refine ax_istore2 (pc := 39) dX5_manyOf_39 rfl (by decide) ?_
    refine ax_iload_n (pc := 40) dX5_manyOf_40 rfl ?_
    refine ax_iload_n (pc := 41) dX5_manyOf_41 rfl ?_
    refine ax_iconst (pc := 42) (v := nI 1) dX5_manyOf_42 (by decide) ?_
    refine ax_icmpne (pc := 43) (tgt := 66) dX5_manyOf_43 (by decide) (fun _ => ?_) (fun q => absurd q (by decide))
    refine ax_iconst (pc := 66) (v := nI 0) dX5_manyOf_66 (by decide) ?_
    refine bx_iadd dX5_manyOf_67  ?_
    refine ax_istore2 (pc := 68) dX5_manyOf_68 rfl (by decide) ?_
    refine ax_iload_n (pc := 69) dX5_manyOf_69 rfl ?_
    refine ax_iload_n (pc := 70) dX5_manyOf_70 rfl ?_
    refine ax_iconst (pc := 71) (v := nI 2) dX5_manyOf_71 (by decide) ?_
    refine ax_icmpne (pc := 72) (tgt := 95) dX5_manyOf_72 (by decide) (fun q => absurd q (fun q => q rfl)) (fun _ => ?_)
    refine ax_iload_n (pc := 75) dX5_manyOf_75 rfl ?_
    refine ax_iconst (pc := 76) (v := nI 3) dX5_manyOf_76 (by decide) ?_
    refine ax_icmpge (pc := 77) (tgt := 95) dX5_manyOf_77 (by decide) (fun c77 => ?_) (fun c77 => ?_)
    · refine ax_iconst (pc := 95) (v := nI 0) dX5_manyOf_95 (by decide) ?_
      refine bx_iadd dX5_manyOf_96  ?_
      refine ax_istore2 (pc := 97) dX5_manyOf_97 rfl (by decide) ?_
      refine ax_iload_n (pc := 98) dX5_manyOf_98 rfl ?_
      refine ax_iload_n (pc := 99) dX5_manyOf_99 rfl ?_
      refine ax_iconst (pc := 100) (v := nI 3) dX5_manyOf_100 (by decide) ?_
      refine ax_icmpne (pc := 101) (tgt := 125) dX5_manyOf_101 (by decide) (fun _ => ?_) (fun q => absurd q (by decide))
      refine ax_iload_n (pc := 125) dX5_manyOf_125 rfl ?_
      refine ax_iconst (pc := 126) (v := nI 4) dX5_manyOf_126 (by decide) ?_
      refine ax_icmpne (pc := 127) (tgt := 155) dX5_manyOf_127 (by decide) (fun _ => ?_) (fun q => absurd q (by decide))
      refine ax_iconst (pc := 155) (v := nI 0) dX5_manyOf_155 (by decide) ?_
      refine bx_iadd dX5_manyOf_156  ?_
      refine ax_istore2 (pc := 157) dX5_manyOf_157 rfl (by decide) ?_
      refine ax_inc3p1 (pc := 158) dX5_manyOf_158 rfl (by decide) ?_
      refine ax_goto (pc := 161) (tgt := 4) dX5_manyOf_161 (by decide) ?_
      rw [nI_1]
      have K := ih (j + 1) (by omega)
      first
        | (rw [pm_f1 ((nI_leI (by omega) (by omega)).mp (show nI 3 ≤ nI j from c77))] at K; exact K)
        | (rw [pm_f2 (p := (fun k => (s_kp s k).isSome)) (j := j) (fun z => absurd ((kz_s (fun ds hds => (hv.2.2.2.2 j h6 ds hds).1)).mpr z) (Int32.not_le.mpr c88))] at K; exact K)
        | (rw [pm_t (p := (fun k => (s_kp s k).isSome)) (j := j) h6 ((kz_s (fun ds hds => (hv.2.2.2.2 j h6 ds hds).1)).mp (Int32.not_lt.mp c88))] at K; exact K)
    · have h6 : j < 3 := Nat.not_le.mp (fun z => c77 ((nI_leI (by omega) (by omega)).mpr z))
      refine ax_aload_n (pc := 80) dX5_manyOf_80 rfl ?_
      refine ax_getf (pc := 81) fX5_44 dX5_manyOf_81 (by exact hM_0) rfl ?_
      refine ax_iload_n (pc := 84) dX5_manyOf_84 rfl ?_
      refine ax_iconst (pc := 85) (v := nI 3) dX5_manyOf_85 (by decide) ?_
      refine bx_irem dX5_manyOf_86 (by omega) (by decide) (by decide) ?_
      refine bx_iaload dX5_manyOf_87 ((hM_n (by decide)).trans mk) (by omega) (by decide) (congrArg (fun k => kz (s_kp s k)) (Nat.mod_eq_of_lt h6)) ?_
      refine ax_iflt (pc := 88) (tgt := 95) dX5_manyOf_88 (by decide) (fun c88 => ?_) (fun c88 => ?_)
      · refine ax_iconst (pc := 95) (v := nI 0) dX5_manyOf_95 (by decide) ?_
        refine bx_iadd dX5_manyOf_96  ?_
        refine ax_istore2 (pc := 97) dX5_manyOf_97 rfl (by decide) ?_
        refine ax_iload_n (pc := 98) dX5_manyOf_98 rfl ?_
        refine ax_iload_n (pc := 99) dX5_manyOf_99 rfl ?_
        refine ax_iconst (pc := 100) (v := nI 3) dX5_manyOf_100 (by decide) ?_
        refine ax_icmpne (pc := 101) (tgt := 125) dX5_manyOf_101 (by decide) (fun _ => ?_) (fun q => absurd q (by decide))
        refine ax_iload_n (pc := 125) dX5_manyOf_125 rfl ?_
        refine ax_iconst (pc := 126) (v := nI 4) dX5_manyOf_126 (by decide) ?_
        refine ax_icmpne (pc := 127) (tgt := 155) dX5_manyOf_127 (by decide) (fun _ => ?_) (fun q => absurd q (by decide))
        refine ax_iconst (pc := 155) (v := nI 0) dX5_manyOf_155 (by decide) ?_
        refine bx_iadd dX5_manyOf_156  ?_
        refine ax_istore2 (pc := 157) dX5_manyOf_157 rfl (by decide) ?_
        refine ax_inc3p1 (pc := 158) dX5_manyOf_158 rfl (by decide) ?_
        refine ax_goto (pc := 161) (tgt := 4) dX5_manyOf_161 (by decide) ?_
        rw [nI_1]
        have K := ih (j + 1) (by omega)
        first
          | (rw [pm_f1 ((nI_leI (by omega) (by omega)).mp (show nI 3 ≤ nI j from c77))] at K; exact K)
          | (rw [pm_f2 (p := (fun k => (s_kp s k).isSome)) (j := j) (fun z => absurd ((kz_s (fun ds hds => (hv.2.2.2.2 j h6 ds hds).1)).mpr z) (Int32.not_le.mpr c88))] at K; exact K)
          | (rw [pm_t (p := (fun k => (s_kp s k).isSome)) (j := j) h6 ((kz_s (fun ds hds => (hv.2.2.2.2 j h6 ds hds).1)).mp (Int32.not_lt.mp c88))] at K; exact K)
      · refine ax_iconst (pc := 91) (v := nI 1) dX5_manyOf_91 (by decide) ?_
        refine ax_goto (pc := 92) (tgt := 96) dX5_manyOf_92 (by decide) ?_
        refine bx_iadd dX5_manyOf_96  ?_
        refine ax_istore2 (pc := 97) dX5_manyOf_97 rfl (by decide) ?_
        refine ax_iload_n (pc := 98) dX5_manyOf_98 rfl ?_
        refine ax_iload_n (pc := 99) dX5_manyOf_99 rfl ?_
        refine ax_iconst (pc := 100) (v := nI 3) dX5_manyOf_100 (by decide) ?_
        refine ax_icmpne (pc := 101) (tgt := 125) dX5_manyOf_101 (by decide) (fun _ => ?_) (fun q => absurd q (by decide))
        refine ax_iload_n (pc := 125) dX5_manyOf_125 rfl ?_
        refine ax_iconst (pc := 126) (v := nI 4) dX5_manyOf_126 (by decide) ?_
        refine ax_icmpne (pc := 127) (tgt := 155) dX5_manyOf_127 (by decide) (fun _ => ?_) (fun q => absurd q (by decide))
        refine ax_iconst (pc := 155) (v := nI 0) dX5_manyOf_155 (by decide) ?_
        refine bx_iadd dX5_manyOf_156  ?_
        refine ax_istore2 (pc := 157) dX5_manyOf_157 rfl (by decide) ?_
        refine ax_inc3p1 (pc := 158) dX5_manyOf_158 rfl (by decide) ?_
        refine ax_goto (pc := 161) (tgt := 4) dX5_manyOf_161 (by decide) ?_
        rw [nI_1]
        have K := ih (j + 1) (by omega)
        first
          | (rw [pm_f1 ((nI_leI (by omega) (by omega)).mp (show nI 3 ≤ nI j from c77))] at K; exact K)
          | (rw [pm_f2 (p := (fun k => (s_kp s k).isSome)) (j := j) (fun z => absurd ((kz_s (fun ds hds => (hv.2.2.2.2 j h6 ds hds).1)).mpr z) (Int32.not_le.mpr c88))] at K; exact K)
          | (rw [pm_t (p := (fun k => (s_kp s k).isSome)) (j := j) h6 ((kz_s (fun ds hds => (hv.2.2.2.2 j h6 ds hds).1)).mp (Int32.not_lt.mp c88))] at K; exact K)
set_option maxHeartbeats 4000000 in
set_option maxRecDepth 100000 in
theorem c_X5_mo2 (dom : List Nat) (h : mh_H) (s : sg) (nd : Int32) (sl : Nat → Int32) (tu : Int32) (hm : MB s h sl) (hv : IV s) : Mt mX5_manyOf dom 1 [.ref 0, .int (nI 2)] (hM h (xs s nd) sl tu) (mx_Ri (fun v' h' => v' = nI (sp_kt (s_kp s) 3) ∧ h' = (hM h (xs s nd) sl tu))) := by
  refine Mt.of (L := [some (.ref 0), some (.int (nI 2)), none, none]) rfl (Nat.le_of_ble_eq_true rfl) rfl ?_
  refine ax_iconst (pc := 0) (v := nI 0) dX5_manyOf_0 (by decide) ?_
  refine ax_istore2 (pc := 1) dX5_manyOf_1 rfl (by decide) ?_
  refine ax_iconst (pc := 2) (v := nI 0) dX5_manyOf_2 (by decide) ?_
  refine ax_istore3 (pc := 3) dX5_manyOf_3 rfl (by decide) ?_
  exact l_X5_mo2 dom h s nd sl tu hm hv 9 0 (by omega)
set_option maxHeartbeats 4000000 in
set_option maxRecDepth 100000 in
theorem l_X5_mo3 (dom : List Nat) (h : mh_H) (s : sg) (nd : Int32) (sl : Nat → Int32) (tu : Int32) (hm : MB s h sl) (hv : IV s) : ∀ (nn j : Nat), j + nn = 9 → At mX5_manyOf dom 1 4 [some (.ref 0), some (.int (nI 3)), some (.int (nI (sp_ct (pm (s_D s).1 (fun r => sp_is ((s_D s).2.1 r) 1)) j))), some (.int (nI j))] [] (hM h (xs s nd) sl tu) (mx_Ri (fun v' h' => v' = nI (sp_cn (s_D s).2.1 1 (s_D s).1) ∧ h' = (hM h (xs s nd) sl tu))) := by
  intro nn
  induction nn with
  | zero =>
    intro j hj
    have hj : j = 9 := by omega
    subst hj
    obtain ⟨⟨m1, f2, m2, mf⟩, ⟨m3, f4, m4, mg⟩, ⟨so, fl, dr, md⟩, mn, msl, mk, mc, ⟨wo, mw⟩⟩ := id hm
    have hn := hm.now
    have h40 := hv.2.2.2.1.1
    obtain ⟨d5, d6, d7, dR⟩ := id md
    have h9 := hv.2.2.1.1
    refine ax_iload_n (pc := 4) dX5_manyOf_4 rfl ?_
    refine ax_bipush (pc := 5) (v := nI 9) dX5_manyOf_5 (by decide) ?_
    refine ax_icmpge (pc := 7) (tgt := 164) dX5_manyOf_7 (by decide) (fun _ => ?_) (fun q => absurd (by decide) q)
    refine ax_iload_n (pc := 164) dX5_manyOf_164 rfl ?_
    refine ax_iret (pc := 165) dX5_manyOf_165 rfl ?_
    exact ⟨_, rfl, (congrArg nI ((pm_9 h9).trans (cn_ct _))), rfl⟩
  | succ nn ih =>
    intro j hj
    have hlt : j < 9 := by omega
    obtain ⟨⟨m1, f2, m2, mf⟩, ⟨m3, f4, m4, mg⟩, ⟨so, fl, dr, md⟩, mn, msl, mk, mc, ⟨wo, mw⟩⟩ := id hm
    have hn := hm.now
    have h40 := hv.2.2.2.1.1
    obtain ⟨d5, d6, d7, dR⟩ := id md
    have h9 := hv.2.2.1.1
    refine ax_iload_n (pc := 4) dX5_manyOf_4 rfl ?_
    refine ax_bipush (pc := 5) (v := nI 9) dX5_manyOf_5 (by decide) ?_
    refine ax_icmpge (pc := 7) (tgt := 164) dX5_manyOf_7 (by decide) (fun q => absurd q (by rw [nI_leI (by decide) (by omega)]; omega)) (fun _ => ?_)
    refine ax_iload_n (pc := 10) dX5_manyOf_10 rfl ?_
    refine ax_iload_n (pc := 11) dX5_manyOf_11 rfl ?_
    refine ax_ifne (pc := 12) (tgt := 37) dX5_manyOf_12 (by decide) (fun _ => ?_) (fun q => absurd q (by decide))
    refine ax_iconst (pc := 37) (v := nI 0) dX5_manyOf_37 (by decide) ?_
    refine bx_iadd dX5_manyOf_38  ?_
    refine ax_istore2 (pc := 39) dX5_manyOf_39 rfl (by decide) ?_
    refine ax_iload_n (pc := 40) dX5_manyOf_40 rfl ?_
    refine ax_iload_n (pc := 41) dX5_manyOf_41 rfl ?_
    refine ax_iconst (pc := 42) (v := nI 1) dX5_manyOf_42 (by decide) ?_
    refine ax_icmpne (pc := 43) (tgt := 66) dX5_manyOf_43 (by decide) (fun _ => ?_) (fun q => absurd q (by decide))
    refine ax_iconst (pc := 66) (v := nI 0) dX5_manyOf_66 (by decide) ?_
    refine bx_iadd dX5_manyOf_67  ?_
    refine ax_istore2 (pc := 68) dX5_manyOf_68 rfl (by decide) ?_
    refine ax_iload_n (pc := 69) dX5_manyOf_69 rfl ?_
    refine ax_iload_n (pc := 70) dX5_manyOf_70 rfl ?_
    refine ax_iconst (pc := 71) (v := nI 2) dX5_manyOf_71 (by decide) ?_
    refine ax_icmpne (pc := 72) (tgt := 95) dX5_manyOf_72 (by decide) (fun _ => ?_) (fun q => absurd q (by decide))
    refine ax_iconst (pc := 95) (v := nI 0) dX5_manyOf_95 (by decide) ?_
    refine bx_iadd dX5_manyOf_96  ?_
    refine ax_istore2 (pc := 97) dX5_manyOf_97 rfl (by decide) ?_
    refine ax_iload_n (pc := 98) dX5_manyOf_98 rfl ?_
    refine ax_iload_n (pc := 99) dX5_manyOf_99 rfl ?_
    refine ax_iconst (pc := 100) (v := nI 3) dX5_manyOf_100 (by decide) ?_
    refine ax_icmpne (pc := 101) (tgt := 125) dX5_manyOf_101 (by decide) (fun q => absurd q (fun q => q rfl)) (fun _ => ?_)
    refine ax_iload_n (pc := 104) dX5_manyOf_104 rfl ?_
    refine ax_aload_n (pc := 105) dX5_manyOf_105 rfl ?_
    refine ax_getf (pc := 106) fX5_97 dX5_manyOf_106 (by exact hM_0) rfl ?_
    refine ax_icmpge (pc := 109) (tgt := 125) dX5_manyOf_109 (by decide) (fun c109 => ?_) (fun c109 => ?_)
    · refine ax_iload_n (pc := 125) dX5_manyOf_125 rfl ?_
      refine ax_iconst (pc := 126) (v := nI 4) dX5_manyOf_126 (by decide) ?_
      refine ax_icmpne (pc := 127) (tgt := 155) dX5_manyOf_127 (by decide) (fun _ => ?_) (fun q => absurd q (by decide))
      refine ax_iconst (pc := 155) (v := nI 0) dX5_manyOf_155 (by decide) ?_
      refine bx_iadd dX5_manyOf_156  ?_
      refine ax_istore2 (pc := 157) dX5_manyOf_157 rfl (by decide) ?_
      refine ax_inc3p1 (pc := 158) dX5_manyOf_158 rfl (by decide) ?_
      refine ax_goto (pc := 161) (tgt := 4) dX5_manyOf_161 (by decide) ?_
      rw [nI_1]
      have K := ih (j + 1) (by omega)
      first
        | (rw [pm_f1 ((nI_leI (by omega) (by omega)).mp (show nI (s_D s).1 ≤ nI j from c109))] at K; exact K)
        | (rw [pm_f2 (p := (fun r => sp_is ((s_D s).2.1 r) 1)) (j := j) c122] at K; exact K)
        | (rw [pm_t (p := (fun r => sp_is ((s_D s).2.1 r) 1)) (j := j) h6 c122] at K; exact K)
    · have h6 : j < (s_D s).1 := Nat.not_le.mp (fun z => c109 ((nI_leI (by omega) (by omega)).mpr z))
      refine ax_aload_n (pc := 112) dX5_manyOf_112 rfl ?_
      refine ax_getf (pc := 113) fX5_23 dX5_manyOf_113 (by exact hM_0) rfl ?_
      refine ax_iload_n (pc := 116) dX5_manyOf_116 rfl ?_
      refine bx_iaload dX5_manyOf_117 ((hM_n (by decide)).trans d5) (by omega) (by decide) (dR j h6).1 ?_
      refine ax_iconst (pc := 118) (v := nI 1) dX5_manyOf_118 (by decide) ?_
      refine ax_eSi2 (pc := 119) sX5_140 dX5_manyOf_119 (by decide) (Nat.le_of_ble_eq_true rfl) (c_X5_isOf _ _ ((s_D s).2.1 j) 1 (hv.2.2.1.2.2 j (by omega)).1 (by decide)) ?_
      refine ax_ifneB (pc := 122) (tgt := 151) dX5_manyOf_122 (by decide) (fun c122 => ?_) (fun c122 => ?_)
      · refine ax_iconst (pc := 151) (v := nI 1) dX5_manyOf_151 (by decide) ?_
        refine ax_goto (pc := 152) (tgt := 156) dX5_manyOf_152 (by decide) ?_
        refine bx_iadd dX5_manyOf_156  ?_
        refine ax_istore2 (pc := 157) dX5_manyOf_157 rfl (by decide) ?_
        refine ax_inc3p1 (pc := 158) dX5_manyOf_158 rfl (by decide) ?_
        refine ax_goto (pc := 161) (tgt := 4) dX5_manyOf_161 (by decide) ?_
        rw [nI_1]
        have K := ih (j + 1) (by omega)
        first
          | (rw [pm_f1 ((nI_leI (by omega) (by omega)).mp (show nI (s_D s).1 ≤ nI j from c109))] at K; exact K)
          | (rw [pm_f2 (p := (fun r => sp_is ((s_D s).2.1 r) 1)) (j := j) c122] at K; exact K)
          | (rw [pm_t (p := (fun r => sp_is ((s_D s).2.1 r) 1)) (j := j) h6 c122] at K; exact K)
      · refine ax_iload_n (pc := 125) dX5_manyOf_125 rfl ?_
        refine ax_iconst (pc := 126) (v := nI 4) dX5_manyOf_126 (by decide) ?_
        refine ax_icmpne (pc := 127) (tgt := 155) dX5_manyOf_127 (by decide) (fun _ => ?_) (fun q => absurd q (by decide))
        refine ax_iconst (pc := 155) (v := nI 0) dX5_manyOf_155 (by decide) ?_
        refine bx_iadd dX5_manyOf_156  ?_
        refine ax_istore2 (pc := 157) dX5_manyOf_157 rfl (by decide) ?_
        refine ax_inc3p1 (pc := 158) dX5_manyOf_158 rfl (by decide) ?_
        refine ax_goto (pc := 161) (tgt := 4) dX5_manyOf_161 (by decide) ?_
        rw [nI_1]
        have K := ih (j + 1) (by omega)
        first
          | (rw [pm_f1 ((nI_leI (by omega) (by omega)).mp (show nI (s_D s).1 ≤ nI j from c109))] at K; exact K)
          | (rw [pm_f2 (p := (fun r => sp_is ((s_D s).2.1 r) 1)) (j := j) c122] at K; exact K)
          | (rw [pm_t (p := (fun r => sp_is ((s_D s).2.1 r) 1)) (j := j) h6 c122] at K; exact K)
set_option maxHeartbeats 4000000 in
set_option maxRecDepth 100000 in
theorem c_X5_mo3 (dom : List Nat) (h : mh_H) (s : sg) (nd : Int32) (sl : Nat → Int32) (tu : Int32) (hm : MB s h sl) (hv : IV s) : Mt mX5_manyOf dom 1 [.ref 0, .int (nI 3)] (hM h (xs s nd) sl tu) (mx_Ri (fun v' h' => v' = nI (sp_cn (s_D s).2.1 1 (s_D s).1) ∧ h' = (hM h (xs s nd) sl tu))) := by
  refine Mt.of (L := [some (.ref 0), some (.int (nI 3)), none, none]) rfl (Nat.le_of_ble_eq_true rfl) rfl ?_
  refine ax_iconst (pc := 0) (v := nI 0) dX5_manyOf_0 (by decide) ?_
  refine ax_istore2 (pc := 1) dX5_manyOf_1 rfl (by decide) ?_
  refine ax_iconst (pc := 2) (v := nI 0) dX5_manyOf_2 (by decide) ?_
  refine ax_istore3 (pc := 3) dX5_manyOf_3 rfl (by decide) ?_
  exact l_X5_mo3 dom h s nd sl tu hm hv 9 0 (by omega)
set_option maxHeartbeats 4000000 in
set_option maxRecDepth 100000 in
theorem l_X5_mo4 (dom : List Nat) (h : mh_H) (s : sg) (nd : Int32) (sl : Nat → Int32) (tu : Int32) (hm : MB s h sl) (hv : IV s) : ∀ (nn j : Nat), j + nn = 9 → At mX5_manyOf dom 1 4 [some (.ref 0), some (.int (nI 4)), some (.int (nI (sp_ct (pm (s_D s).1 (fun r => sp_is ((s_D s).2.1 r) 3)) j))), some (.int (nI j))] [] (hM h (xs s nd) sl tu) (mx_Ri (fun v' h' => v' = nI (sp_cn (s_D s).2.1 3 (s_D s).1) ∧ h' = (hM h (xs s nd) sl tu))) := by
  intro nn
  induction nn with
  | zero =>
    intro j hj
    have hj : j = 9 := by omega
    subst hj
    obtain ⟨⟨m1, f2, m2, mf⟩, ⟨m3, f4, m4, mg⟩, ⟨so, fl, dr, md⟩, mn, msl, mk, mc, ⟨wo, mw⟩⟩ := id hm
    have hn := hm.now
    have h40 := hv.2.2.2.1.1
    obtain ⟨d5, d6, d7, dR⟩ := id md
    have h9 := hv.2.2.1.1
    refine ax_iload_n (pc := 4) dX5_manyOf_4 rfl ?_
    refine ax_bipush (pc := 5) (v := nI 9) dX5_manyOf_5 (by decide) ?_
    refine ax_icmpge (pc := 7) (tgt := 164) dX5_manyOf_7 (by decide) (fun _ => ?_) (fun q => absurd (by decide) q)
    refine ax_iload_n (pc := 164) dX5_manyOf_164 rfl ?_
    refine ax_iret (pc := 165) dX5_manyOf_165 rfl ?_
    exact ⟨_, rfl, (congrArg nI ((pm_9 h9).trans (cn_ct _))), rfl⟩
  | succ nn ih =>
    intro j hj
    have hlt : j < 9 := by omega
    obtain ⟨⟨m1, f2, m2, mf⟩, ⟨m3, f4, m4, mg⟩, ⟨so, fl, dr, md⟩, mn, msl, mk, mc, ⟨wo, mw⟩⟩ := id hm
    have hn := hm.now
    have h40 := hv.2.2.2.1.1
    obtain ⟨d5, d6, d7, dR⟩ := id md
    have h9 := hv.2.2.1.1
    refine ax_iload_n (pc := 4) dX5_manyOf_4 rfl ?_
    refine ax_bipush (pc := 5) (v := nI 9) dX5_manyOf_5 (by decide) ?_
    refine ax_icmpge (pc := 7) (tgt := 164) dX5_manyOf_7 (by decide) (fun q => absurd q (by rw [nI_leI (by decide) (by omega)]; omega)) (fun _ => ?_)
    refine ax_iload_n (pc := 10) dX5_manyOf_10 rfl ?_
    refine ax_iload_n (pc := 11) dX5_manyOf_11 rfl ?_
    refine ax_ifne (pc := 12) (tgt := 37) dX5_manyOf_12 (by decide) (fun _ => ?_) (fun q => absurd q (by decide))
    refine ax_iconst (pc := 37) (v := nI 0) dX5_manyOf_37 (by decide) ?_
    refine bx_iadd dX5_manyOf_38  ?_
    refine ax_istore2 (pc := 39) dX5_manyOf_39 rfl (by decide) ?_
    refine ax_iload_n (pc := 40) dX5_manyOf_40 rfl ?_
    refine ax_iload_n (pc := 41) dX5_manyOf_41 rfl ?_
    refine ax_iconst (pc := 42) (v := nI 1) dX5_manyOf_42 (by decide) ?_
    refine ax_icmpne (pc := 43) (tgt := 66) dX5_manyOf_43 (by decide) (fun _ => ?_) (fun q => absurd q (by decide))
    refine ax_iconst (pc := 66) (v := nI 0) dX5_manyOf_66 (by decide) ?_
    refine bx_iadd dX5_manyOf_67  ?_
    refine ax_istore2 (pc := 68) dX5_manyOf_68 rfl (by decide) ?_
    refine ax_iload_n (pc := 69) dX5_manyOf_69 rfl ?_
    refine ax_iload_n (pc := 70) dX5_manyOf_70 rfl ?_
    refine ax_iconst (pc := 71) (v := nI 2) dX5_manyOf_71 (by decide) ?_
    refine ax_icmpne (pc := 72) (tgt := 95) dX5_manyOf_72 (by decide) (fun _ => ?_) (fun q => absurd q (by decide))
    refine ax_iconst (pc := 95) (v := nI 0) dX5_manyOf_95 (by decide) ?_
    refine bx_iadd dX5_manyOf_96  ?_
    refine ax_istore2 (pc := 97) dX5_manyOf_97 rfl (by decide) ?_
    refine ax_iload_n (pc := 98) dX5_manyOf_98 rfl ?_
    refine ax_iload_n (pc := 99) dX5_manyOf_99 rfl ?_
    refine ax_iconst (pc := 100) (v := nI 3) dX5_manyOf_100 (by decide) ?_
    refine ax_icmpne (pc := 101) (tgt := 125) dX5_manyOf_101 (by decide) (fun _ => ?_) (fun q => absurd q (by decide))
    refine ax_iload_n (pc := 125) dX5_manyOf_125 rfl ?_
    refine ax_iconst (pc := 126) (v := nI 4) dX5_manyOf_126 (by decide) ?_
    refine ax_icmpne (pc := 127) (tgt := 155) dX5_manyOf_127 (by decide) (fun q => absurd q (fun q => q rfl)) (fun _ => ?_)
    refine ax_iload_n (pc := 130) dX5_manyOf_130 rfl ?_
    refine ax_aload_n (pc := 131) dX5_manyOf_131 rfl ?_
    refine ax_getf (pc := 132) fX5_97 dX5_manyOf_132 (by exact hM_0) rfl ?_
    refine ax_icmpge (pc := 135) (tgt := 155) dX5_manyOf_135 (by decide) (fun c135 => ?_) (fun c135 => ?_)
    · refine ax_iconst (pc := 155) (v := nI 0) dX5_manyOf_155 (by decide) ?_
      refine bx_iadd dX5_manyOf_156  ?_
      refine ax_istore2 (pc := 157) dX5_manyOf_157 rfl (by decide) ?_
      refine ax_inc3p1 (pc := 158) dX5_manyOf_158 rfl (by decide) ?_
      refine ax_goto (pc := 161) (tgt := 4) dX5_manyOf_161 (by decide) ?_
      rw [nI_1]
      have K := ih (j + 1) (by omega)
      first
        | (rw [pm_f1 ((nI_leI (by omega) (by omega)).mp (show nI (s_D s).1 ≤ nI j from c135))] at K; exact K)
        | (rw [pm_f2 (p := (fun r => sp_is ((s_D s).2.1 r) 3)) (j := j) c148] at K; exact K)
        | (rw [pm_t (p := (fun r => sp_is ((s_D s).2.1 r) 3)) (j := j) h6 c148] at K; exact K)
    · have h6 : j < (s_D s).1 := Nat.not_le.mp (fun z => c135 ((nI_leI (by omega) (by omega)).mpr z))
      refine ax_aload_n (pc := 138) dX5_manyOf_138 rfl ?_
      refine ax_getf (pc := 139) fX5_23 dX5_manyOf_139 (by exact hM_0) rfl ?_
      refine ax_iload_n (pc := 142) dX5_manyOf_142 rfl ?_
      refine bx_iaload dX5_manyOf_143 ((hM_n (by decide)).trans d5) (by omega) (by decide) (dR j h6).1 ?_
      refine ax_iconst (pc := 144) (v := nI 3) dX5_manyOf_144 (by decide) ?_
      refine ax_eSi2 (pc := 145) sX5_140 dX5_manyOf_145 (by decide) (Nat.le_of_ble_eq_true rfl) (c_X5_isOf _ _ ((s_D s).2.1 j) 3 (hv.2.2.1.2.2 j (by omega)).1 (by decide)) ?_
      refine ax_ifeqB (pc := 148) (tgt := 155) dX5_manyOf_148 (by decide) (fun c148 => ?_) (fun c148 => ?_)
      · refine ax_iconst (pc := 155) (v := nI 0) dX5_manyOf_155 (by decide) ?_
        refine bx_iadd dX5_manyOf_156  ?_
        refine ax_istore2 (pc := 157) dX5_manyOf_157 rfl (by decide) ?_
        refine ax_inc3p1 (pc := 158) dX5_manyOf_158 rfl (by decide) ?_
        refine ax_goto (pc := 161) (tgt := 4) dX5_manyOf_161 (by decide) ?_
        rw [nI_1]
        have K := ih (j + 1) (by omega)
        first
          | (rw [pm_f1 ((nI_leI (by omega) (by omega)).mp (show nI (s_D s).1 ≤ nI j from c135))] at K; exact K)
          | (rw [pm_f2 (p := (fun r => sp_is ((s_D s).2.1 r) 3)) (j := j) c148] at K; exact K)
          | (rw [pm_t (p := (fun r => sp_is ((s_D s).2.1 r) 3)) (j := j) h6 c148] at K; exact K)
      · refine ax_iconst (pc := 151) (v := nI 1) dX5_manyOf_151 (by decide) ?_
        refine ax_goto (pc := 152) (tgt := 156) dX5_manyOf_152 (by decide) ?_
        refine bx_iadd dX5_manyOf_156  ?_
        refine ax_istore2 (pc := 157) dX5_manyOf_157 rfl (by decide) ?_
        refine ax_inc3p1 (pc := 158) dX5_manyOf_158 rfl (by decide) ?_
        refine ax_goto (pc := 161) (tgt := 4) dX5_manyOf_161 (by decide) ?_
        rw [nI_1]
        have K := ih (j + 1) (by omega)
        first
          | (rw [pm_f1 ((nI_leI (by omega) (by omega)).mp (show nI (s_D s).1 ≤ nI j from c135))] at K; exact K)
          | (rw [pm_f2 (p := (fun r => sp_is ((s_D s).2.1 r) 3)) (j := j) c148] at K; exact K)
          | (rw [pm_t (p := (fun r => sp_is ((s_D s).2.1 r) 3)) (j := j) h6 c148] at K; exact K)
set_option maxHeartbeats 4000000 in
set_option maxRecDepth 100000 in
theorem c_X5_mo4 (dom : List Nat) (h : mh_H) (s : sg) (nd : Int32) (sl : Nat → Int32) (tu : Int32) (hm : MB s h sl) (hv : IV s) : Mt mX5_manyOf dom 1 [.ref 0, .int (nI 4)] (hM h (xs s nd) sl tu) (mx_Ri (fun v' h' => v' = nI (sp_cn (s_D s).2.1 3 (s_D s).1) ∧ h' = (hM h (xs s nd) sl tu))) := by
  refine Mt.of (L := [some (.ref 0), some (.int (nI 4)), none, none]) rfl (Nat.le_of_ble_eq_true rfl) rfl ?_
  refine ax_iconst (pc := 0) (v := nI 0) dX5_manyOf_0 (by decide) ?_
  refine ax_istore2 (pc := 1) dX5_manyOf_1 rfl (by decide) ?_
  refine ax_iconst (pc := 2) (v := nI 0) dX5_manyOf_2 (by decide) ?_
  refine ax_istore3 (pc := 3) dX5_manyOf_3 rfl (by decide) ?_
  exact l_X5_mo4 dom h s nd sl tu hm hv 9 0 (by omega)
set_option maxHeartbeats 4000000 in
set_option maxRecDepth 100000 in
theorem c_X5_cnt (dom : List Nat) (h : mh_H) (s : sg) (nd : Int32) (sl : Nat → Int32) (tu : Int32) (hm : MB s h sl) (hv : IV s) (q : Nat) (hq : q ≤ 12) : Mt mX5_count dom 2 [.ref 0, .int (nI q)] (hM h (xs s nd) sl tu) (mx_Ri (fun v' h' => v' = sp_cv s q ∧ h' = (hM h (xs s nd) sl tu))) := by
  refine Mt.of (L := [some (.ref 0), some (.int (nI q)), none]) rfl (Nat.le_of_ble_eq_true rfl) rfl ?_
  obtain ⟨⟨m1, f2, m2, mf⟩, ⟨m3, f4, m4, mg⟩, ⟨so, fl, dr, md⟩, mn, msl, mk, mc, ⟨wo, mw⟩⟩ := id hm
  have hn := hm.now
  have h40 := hv.2.2.2.1.1
  obtain ⟨d5, d6, d7, dR⟩ := id md
  refine ax_iload_n (pc := 0) dX5_count_0 rfl ?_
  refine ax_i2l (pc := 1) dX5_count_1 ?_
  refine ax_lconst (pc := 2) (v := 0) dX5_count_2 (by decide) ?_
  refine ax_ldc2 (pc := 3) dX5_count_3 tw_950 ?_
  refine ax_eSi3 (pc := 6) sX5_63 dX5_count_6 (by decide) (Nat.le_of_ble_eq_true rfl) (c_X5_in _ _ (nI q) 0 12 _ _ (by decide) (by decide)) ?_
  refine ax_ifneB (pc := 9) (tgt := 14) dX5_count_9 (by decide) (fun c9a => ?_) (fun c9a => ?_)
  · refine ax_aload_n (pc := 14) dX5_count_14 rfl ?_
    refine ax_eVi0 (pc := 15) vX5_123 dX5_count_15 (by decide) (by exact hM_0) (Nat.le_of_ble_eq_true rfl) (c_X5_now _ h (xs s nd) sl tu (s_ds s).length rfl) ?_
    refine ax_istore2 (pc := 18) dX5_count_18 rfl (by decide) ?_
    rcases (show q = 0 ∨ q = 1 ∨ q = 2 ∨ q = 3 ∨ q = 4 ∨ q = 5 ∨ q = 6 ∨ q = 7 ∨ q = 8 ∨ q = 9 ∨ q = 10 ∨ q = 11 ∨ q = 12 by omega) with rfl | rfl | rfl | rfl | rfl | rfl | rfl | rfl | rfl | rfl | rfl | rfl | rfl
    · refine ax_iload_n (pc := 19) dX5_count_19 rfl ?_
      refine ax_ifne (pc := 20) (tgt := 30) dX5_count_20 (by decide) (fun q => absurd q (fun q => q rfl)) (fun _ => ?_)
      refine ax_aload_n (pc := 23) dX5_count_23 rfl ?_
      refine ax_getf (pc := 24) fX5_97 dX5_count_24 (by exact hM_0) rfl ?_
      refine ax_goto (pc := 27) (tgt := 148) dX5_count_27 (by decide) ?_
      refine ax_iret (pc := 148) dX5_count_148 rfl ?_
      exact ⟨_, rfl, rfl, rfl⟩
    · refine ax_iload_n (pc := 19) dX5_count_19 rfl ?_
      refine ax_ifne (pc := 20) (tgt := 30) dX5_count_20 (by decide) (fun _ => ?_) (fun q => absurd q (by decide))
      refine ax_iload_n (pc := 30) dX5_count_30 rfl ?_
      refine ax_iconst (pc := 31) (v := nI 1) dX5_count_31 (by decide) ?_
      refine ax_icmpne (pc := 32) (tgt := 46) dX5_count_32 (by decide) (fun q => absurd q (fun q => q rfl)) (fun _ => ?_)
      refine ax_aload_n (pc := 35) dX5_count_35 rfl ?_
      refine ax_getf (pc := 36) fX5_41 dX5_count_36 (by exact hM_0) rfl ?_
      refine ax_iload_n (pc := 39) dX5_count_39 rfl ?_
      refine ax_iconst (pc := 40) (v := nI 0) dX5_count_40 (by decide) ?_
      refine bx_iadd dX5_count_41  ?_
      refine bx_slld dX5_count_42 (by omega) hn.1 ?_
      refine ax_goto (pc := 43) (tgt := 148) dX5_count_43 (by decide) ?_
      refine ax_iret (pc := 148) dX5_count_148 rfl ?_
      exact ⟨_, rfl, rfl, rfl⟩
    · refine ax_iload_n (pc := 19) dX5_count_19 rfl ?_
      refine ax_ifne (pc := 20) (tgt := 30) dX5_count_20 (by decide) (fun _ => ?_) (fun q => absurd q (by decide))
      refine ax_iload_n (pc := 30) dX5_count_30 rfl ?_
      refine ax_iconst (pc := 31) (v := nI 1) dX5_count_31 (by decide) ?_
      refine ax_icmpne (pc := 32) (tgt := 46) dX5_count_32 (by decide) (fun _ => ?_) (fun q => absurd q (by decide))
      refine ax_iload_n (pc := 46) dX5_count_46 rfl ?_
      refine ax_iconst (pc := 47) (v := nI 2) dX5_count_47 (by decide) ?_
      refine ax_icmpne (pc := 48) (tgt := 58) dX5_count_48 (by decide) (fun q => absurd q (fun q => q rfl)) (fun _ => ?_)
      refine ax_aload_n (pc := 51) dX5_count_51 rfl ?_
      refine ax_getf (pc := 52) fX5_100 dX5_count_52 (by exact hM_0) rfl ?_
      refine ax_goto (pc := 55) (tgt := 148) dX5_count_55 (by decide) ?_
      refine ax_iret (pc := 148) dX5_count_148 rfl ?_
      exact ⟨_, rfl, rfl, rfl⟩
    · refine ax_iload_n (pc := 19) dX5_count_19 rfl ?_
      refine ax_ifne (pc := 20) (tgt := 30) dX5_count_20 (by decide) (fun _ => ?_) (fun q => absurd q (by decide))
      refine ax_iload_n (pc := 30) dX5_count_30 rfl ?_
      refine ax_iconst (pc := 31) (v := nI 1) dX5_count_31 (by decide) ?_
      refine ax_icmpne (pc := 32) (tgt := 46) dX5_count_32 (by decide) (fun _ => ?_) (fun q => absurd q (by decide))
      refine ax_iload_n (pc := 46) dX5_count_46 rfl ?_
      refine ax_iconst (pc := 47) (v := nI 2) dX5_count_47 (by decide) ?_
      refine ax_icmpne (pc := 48) (tgt := 58) dX5_count_48 (by decide) (fun _ => ?_) (fun q => absurd q (by decide))
      refine ax_iload_n (pc := 58) dX5_count_58 rfl ?_
      refine ax_iconst (pc := 59) (v := nI 3) dX5_count_59 (by decide) ?_
      refine ax_icmpne (pc := 60) (tgt := 74) dX5_count_60 (by decide) (fun q => absurd q (fun q => q rfl)) (fun _ => ?_)
      refine ax_aload_n (pc := 63) dX5_count_63 rfl ?_
      refine ax_getf (pc := 64) fX5_41 dX5_count_64 (by exact hM_0) rfl ?_
      refine ax_iload_n (pc := 67) dX5_count_67 rfl ?_
      refine ax_iconst (pc := 68) (v := nI 1) dX5_count_68 (by decide) ?_
      refine bx_iadd dX5_count_69  ?_
      refine bx_slld dX5_count_70 (by omega) hn.2.1 ?_
      refine ax_goto (pc := 71) (tgt := 148) dX5_count_71 (by decide) ?_
      refine ax_iret (pc := 148) dX5_count_148 rfl ?_
      exact ⟨_, rfl, rfl, rfl⟩
    · refine ax_iload_n (pc := 19) dX5_count_19 rfl ?_
      refine ax_ifne (pc := 20) (tgt := 30) dX5_count_20 (by decide) (fun _ => ?_) (fun q => absurd q (by decide))
      refine ax_iload_n (pc := 30) dX5_count_30 rfl ?_
      refine ax_iconst (pc := 31) (v := nI 1) dX5_count_31 (by decide) ?_
      refine ax_icmpne (pc := 32) (tgt := 46) dX5_count_32 (by decide) (fun _ => ?_) (fun q => absurd q (by decide))
      refine ax_iload_n (pc := 46) dX5_count_46 rfl ?_
      refine ax_iconst (pc := 47) (v := nI 2) dX5_count_47 (by decide) ?_
      refine ax_icmpne (pc := 48) (tgt := 58) dX5_count_48 (by decide) (fun _ => ?_) (fun q => absurd q (by decide))
      refine ax_iload_n (pc := 58) dX5_count_58 rfl ?_
      refine ax_iconst (pc := 59) (v := nI 3) dX5_count_59 (by decide) ?_
      refine ax_icmpne (pc := 60) (tgt := 74) dX5_count_60 (by decide) (fun _ => ?_) (fun q => absurd q (by decide))
      refine ax_iload_n (pc := 74) dX5_count_74 rfl ?_
      refine ax_iconst (pc := 75) (v := nI 4) dX5_count_75 (by decide) ?_
      refine ax_icmpne (pc := 76) (tgt := 90) dX5_count_76 (by decide) (fun q => absurd q (fun q => q rfl)) (fun _ => ?_)
      refine ax_aload_n (pc := 79) dX5_count_79 rfl ?_
      refine ax_getf (pc := 80) fX5_41 dX5_count_80 (by exact hM_0) rfl ?_
      refine ax_iload_n (pc := 83) dX5_count_83 rfl ?_
      refine ax_iconst (pc := 84) (v := nI 2) dX5_count_84 (by decide) ?_
      refine bx_iadd dX5_count_85  ?_
      refine bx_slld dX5_count_86 (by omega) hn.2.2.1 ?_
      refine ax_goto (pc := 87) (tgt := 148) dX5_count_87 (by decide) ?_
      refine ax_iret (pc := 148) dX5_count_148 rfl ?_
      exact ⟨_, rfl, rfl, rfl⟩
    · refine ax_iload_n (pc := 19) dX5_count_19 rfl ?_
      refine ax_ifne (pc := 20) (tgt := 30) dX5_count_20 (by decide) (fun _ => ?_) (fun q => absurd q (by decide))
      refine ax_iload_n (pc := 30) dX5_count_30 rfl ?_
      refine ax_iconst (pc := 31) (v := nI 1) dX5_count_31 (by decide) ?_
      refine ax_icmpne (pc := 32) (tgt := 46) dX5_count_32 (by decide) (fun _ => ?_) (fun q => absurd q (by decide))
      refine ax_iload_n (pc := 46) dX5_count_46 rfl ?_
      refine ax_iconst (pc := 47) (v := nI 2) dX5_count_47 (by decide) ?_
      refine ax_icmpne (pc := 48) (tgt := 58) dX5_count_48 (by decide) (fun _ => ?_) (fun q => absurd q (by decide))
      refine ax_iload_n (pc := 58) dX5_count_58 rfl ?_
      refine ax_iconst (pc := 59) (v := nI 3) dX5_count_59 (by decide) ?_
      refine ax_icmpne (pc := 60) (tgt := 74) dX5_count_60 (by decide) (fun _ => ?_) (fun q => absurd q (by decide))
      refine ax_iload_n (pc := 74) dX5_count_74 rfl ?_
      refine ax_iconst (pc := 75) (v := nI 4) dX5_count_75 (by decide) ?_
      refine ax_icmpne (pc := 76) (tgt := 90) dX5_count_76 (by decide) (fun _ => ?_) (fun q => absurd q (by decide))
      refine ax_iload_n (pc := 90) dX5_count_90 rfl ?_
      refine ax_iconst (pc := 91) (v := nI 5) dX5_count_91 (by decide) ?_
      refine ax_icmpne (pc := 92) (tgt := 106) dX5_count_92 (by decide) (fun q => absurd q (fun q => q rfl)) (fun _ => ?_)
      refine ax_aload_n (pc := 95) dX5_count_95 rfl ?_
      refine ax_getf (pc := 96) fX5_41 dX5_count_96 (by exact hM_0) rfl ?_
      refine ax_iload_n (pc := 99) dX5_count_99 rfl ?_
      refine ax_iconst (pc := 100) (v := nI 3) dX5_count_100 (by decide) ?_
      refine bx_iadd dX5_count_101  ?_
      refine bx_slld dX5_count_102 (by omega) hn.2.2.2.1 ?_
      refine ax_goto (pc := 103) (tgt := 148) dX5_count_103 (by decide) ?_
      refine ax_iret (pc := 148) dX5_count_148 rfl ?_
      exact ⟨_, rfl, rfl, rfl⟩
    · refine ax_iload_n (pc := 19) dX5_count_19 rfl ?_
      refine ax_ifne (pc := 20) (tgt := 30) dX5_count_20 (by decide) (fun _ => ?_) (fun q => absurd q (by decide))
      refine ax_iload_n (pc := 30) dX5_count_30 rfl ?_
      refine ax_iconst (pc := 31) (v := nI 1) dX5_count_31 (by decide) ?_
      refine ax_icmpne (pc := 32) (tgt := 46) dX5_count_32 (by decide) (fun _ => ?_) (fun q => absurd q (by decide))
      refine ax_iload_n (pc := 46) dX5_count_46 rfl ?_
      refine ax_iconst (pc := 47) (v := nI 2) dX5_count_47 (by decide) ?_
      refine ax_icmpne (pc := 48) (tgt := 58) dX5_count_48 (by decide) (fun _ => ?_) (fun q => absurd q (by decide))
      refine ax_iload_n (pc := 58) dX5_count_58 rfl ?_
      refine ax_iconst (pc := 59) (v := nI 3) dX5_count_59 (by decide) ?_
      refine ax_icmpne (pc := 60) (tgt := 74) dX5_count_60 (by decide) (fun _ => ?_) (fun q => absurd q (by decide))
      refine ax_iload_n (pc := 74) dX5_count_74 rfl ?_
      refine ax_iconst (pc := 75) (v := nI 4) dX5_count_75 (by decide) ?_
      refine ax_icmpne (pc := 76) (tgt := 90) dX5_count_76 (by decide) (fun _ => ?_) (fun q => absurd q (by decide))
      refine ax_iload_n (pc := 90) dX5_count_90 rfl ?_
      refine ax_iconst (pc := 91) (v := nI 5) dX5_count_91 (by decide) ?_
      refine ax_icmpne (pc := 92) (tgt := 106) dX5_count_92 (by decide) (fun _ => ?_) (fun q => absurd q (by decide))
      refine ax_iload_n (pc := 106) dX5_count_106 rfl ?_
      refine ax_bipush (pc := 107) (v := nI 6) dX5_count_107 (by decide) ?_
      refine ax_icmpne (pc := 109) (tgt := 123) dX5_count_109 (by decide) (fun q => absurd q (fun q => q rfl)) (fun _ => ?_)
      refine ax_aload_n (pc := 112) dX5_count_112 rfl ?_
      refine ax_getf (pc := 113) fX5_41 dX5_count_113 (by exact hM_0) rfl ?_
      refine ax_iload_n (pc := 116) dX5_count_116 rfl ?_
      refine ax_iconst (pc := 117) (v := nI 4) dX5_count_117 (by decide) ?_
      refine bx_iadd dX5_count_118  ?_
      refine bx_slld dX5_count_119 (by omega) hn.2.2.2.2.1 ?_
      refine ax_goto (pc := 120) (tgt := 148) dX5_count_120 (by decide) ?_
      refine ax_iret (pc := 148) dX5_count_148 rfl ?_
      exact ⟨_, rfl, rfl, rfl⟩
    · refine ax_iload_n (pc := 19) dX5_count_19 rfl ?_
      refine ax_ifne (pc := 20) (tgt := 30) dX5_count_20 (by decide) (fun _ => ?_) (fun q => absurd q (by decide))
      refine ax_iload_n (pc := 30) dX5_count_30 rfl ?_
      refine ax_iconst (pc := 31) (v := nI 1) dX5_count_31 (by decide) ?_
      refine ax_icmpne (pc := 32) (tgt := 46) dX5_count_32 (by decide) (fun _ => ?_) (fun q => absurd q (by decide))
      refine ax_iload_n (pc := 46) dX5_count_46 rfl ?_
      refine ax_iconst (pc := 47) (v := nI 2) dX5_count_47 (by decide) ?_
      refine ax_icmpne (pc := 48) (tgt := 58) dX5_count_48 (by decide) (fun _ => ?_) (fun q => absurd q (by decide))
      refine ax_iload_n (pc := 58) dX5_count_58 rfl ?_
      refine ax_iconst (pc := 59) (v := nI 3) dX5_count_59 (by decide) ?_
      refine ax_icmpne (pc := 60) (tgt := 74) dX5_count_60 (by decide) (fun _ => ?_) (fun q => absurd q (by decide))
      refine ax_iload_n (pc := 74) dX5_count_74 rfl ?_
      refine ax_iconst (pc := 75) (v := nI 4) dX5_count_75 (by decide) ?_
      refine ax_icmpne (pc := 76) (tgt := 90) dX5_count_76 (by decide) (fun _ => ?_) (fun q => absurd q (by decide))
      refine ax_iload_n (pc := 90) dX5_count_90 rfl ?_
      refine ax_iconst (pc := 91) (v := nI 5) dX5_count_91 (by decide) ?_
      refine ax_icmpne (pc := 92) (tgt := 106) dX5_count_92 (by decide) (fun _ => ?_) (fun q => absurd q (by decide))
      refine ax_iload_n (pc := 106) dX5_count_106 rfl ?_
      refine ax_bipush (pc := 107) (v := nI 6) dX5_count_107 (by decide) ?_
      refine ax_icmpne (pc := 109) (tgt := 123) dX5_count_109 (by decide) (fun _ => ?_) (fun q => absurd q (by decide))
      refine ax_iload_n (pc := 123) dX5_count_123 rfl ?_
      refine ax_bipush (pc := 124) (v := nI 7) dX5_count_124 (by decide) ?_
      refine ax_icmpne (pc := 126) (tgt := 140) dX5_count_126 (by decide) (fun q => absurd q (fun q => q rfl)) (fun _ => ?_)
      refine ax_aload_n (pc := 129) dX5_count_129 rfl ?_
      refine ax_getf (pc := 130) fX5_41 dX5_count_130 (by exact hM_0) rfl ?_
      refine ax_iload_n (pc := 133) dX5_count_133 rfl ?_
      refine ax_iconst (pc := 134) (v := nI 5) dX5_count_134 (by decide) ?_
      refine bx_iadd dX5_count_135  ?_
      refine bx_slld dX5_count_136 (by omega) hn.2.2.2.2.2 ?_
      refine ax_goto (pc := 137) (tgt := 148) dX5_count_137 (by decide) ?_
      refine ax_iret (pc := 148) dX5_count_148 rfl ?_
      exact ⟨_, rfl, rfl, rfl⟩
    · refine ax_iload_n (pc := 19) dX5_count_19 rfl ?_
      refine ax_ifne (pc := 20) (tgt := 30) dX5_count_20 (by decide) (fun _ => ?_) (fun q => absurd q (by decide))
      refine ax_iload_n (pc := 30) dX5_count_30 rfl ?_
      refine ax_iconst (pc := 31) (v := nI 1) dX5_count_31 (by decide) ?_
      refine ax_icmpne (pc := 32) (tgt := 46) dX5_count_32 (by decide) (fun _ => ?_) (fun q => absurd q (by decide))
      refine ax_iload_n (pc := 46) dX5_count_46 rfl ?_
      refine ax_iconst (pc := 47) (v := nI 2) dX5_count_47 (by decide) ?_
      refine ax_icmpne (pc := 48) (tgt := 58) dX5_count_48 (by decide) (fun _ => ?_) (fun q => absurd q (by decide))
      refine ax_iload_n (pc := 58) dX5_count_58 rfl ?_
      refine ax_iconst (pc := 59) (v := nI 3) dX5_count_59 (by decide) ?_
      refine ax_icmpne (pc := 60) (tgt := 74) dX5_count_60 (by decide) (fun _ => ?_) (fun q => absurd q (by decide))
      refine ax_iload_n (pc := 74) dX5_count_74 rfl ?_
      refine ax_iconst (pc := 75) (v := nI 4) dX5_count_75 (by decide) ?_
      refine ax_icmpne (pc := 76) (tgt := 90) dX5_count_76 (by decide) (fun _ => ?_) (fun q => absurd q (by decide))
      refine ax_iload_n (pc := 90) dX5_count_90 rfl ?_
      refine ax_iconst (pc := 91) (v := nI 5) dX5_count_91 (by decide) ?_
      refine ax_icmpne (pc := 92) (tgt := 106) dX5_count_92 (by decide) (fun _ => ?_) (fun q => absurd q (by decide))
      refine ax_iload_n (pc := 106) dX5_count_106 rfl ?_
      refine ax_bipush (pc := 107) (v := nI 6) dX5_count_107 (by decide) ?_
      refine ax_icmpne (pc := 109) (tgt := 123) dX5_count_109 (by decide) (fun _ => ?_) (fun q => absurd q (by decide))
      refine ax_iload_n (pc := 123) dX5_count_123 rfl ?_
      refine ax_bipush (pc := 124) (v := nI 7) dX5_count_124 (by decide) ?_
      refine ax_icmpne (pc := 126) (tgt := 140) dX5_count_126 (by decide) (fun _ => ?_) (fun q => absurd q (by decide))
      refine ax_aload_n (pc := 140) dX5_count_140 rfl ?_
      refine ax_iload_n (pc := 141) dX5_count_141 rfl ?_
      refine ax_bipush (pc := 142) (v := nI 8) dX5_count_142 (by decide) ?_
      refine ax_isub (pc := 144) dX5_count_144 ?_
      refine At.ti (x' := nI 0) rfl ?_
      refine ax_eVi1 (pc := 145) vX5_214 dX5_count_145 (by decide) (by exact hM_0) (Nat.le_of_ble_eq_true rfl) (c_X5_mo0 _ h s nd sl tu hm hv) ?_
      refine ax_iret (pc := 148) dX5_count_148 rfl ?_
      exact ⟨_, rfl, rfl, rfl⟩
    · refine ax_iload_n (pc := 19) dX5_count_19 rfl ?_
      refine ax_ifne (pc := 20) (tgt := 30) dX5_count_20 (by decide) (fun _ => ?_) (fun q => absurd q (by decide))
      refine ax_iload_n (pc := 30) dX5_count_30 rfl ?_
      refine ax_iconst (pc := 31) (v := nI 1) dX5_count_31 (by decide) ?_
      refine ax_icmpne (pc := 32) (tgt := 46) dX5_count_32 (by decide) (fun _ => ?_) (fun q => absurd q (by decide))
      refine ax_iload_n (pc := 46) dX5_count_46 rfl ?_
      refine ax_iconst (pc := 47) (v := nI 2) dX5_count_47 (by decide) ?_
      refine ax_icmpne (pc := 48) (tgt := 58) dX5_count_48 (by decide) (fun _ => ?_) (fun q => absurd q (by decide))
      refine ax_iload_n (pc := 58) dX5_count_58 rfl ?_
      refine ax_iconst (pc := 59) (v := nI 3) dX5_count_59 (by decide) ?_
      refine ax_icmpne (pc := 60) (tgt := 74) dX5_count_60 (by decide) (fun _ => ?_) (fun q => absurd q (by decide))
      refine ax_iload_n (pc := 74) dX5_count_74 rfl ?_
      refine ax_iconst (pc := 75) (v := nI 4) dX5_count_75 (by decide) ?_
      refine ax_icmpne (pc := 76) (tgt := 90) dX5_count_76 (by decide) (fun _ => ?_) (fun q => absurd q (by decide))
      refine ax_iload_n (pc := 90) dX5_count_90 rfl ?_
      refine ax_iconst (pc := 91) (v := nI 5) dX5_count_91 (by decide) ?_
      refine ax_icmpne (pc := 92) (tgt := 106) dX5_count_92 (by decide) (fun _ => ?_) (fun q => absurd q (by decide))
      refine ax_iload_n (pc := 106) dX5_count_106 rfl ?_
      refine ax_bipush (pc := 107) (v := nI 6) dX5_count_107 (by decide) ?_
      refine ax_icmpne (pc := 109) (tgt := 123) dX5_count_109 (by decide) (fun _ => ?_) (fun q => absurd q (by decide))
      refine ax_iload_n (pc := 123) dX5_count_123 rfl ?_
      refine ax_bipush (pc := 124) (v := nI 7) dX5_count_124 (by decide) ?_
      refine ax_icmpne (pc := 126) (tgt := 140) dX5_count_126 (by decide) (fun _ => ?_) (fun q => absurd q (by decide))
      refine ax_aload_n (pc := 140) dX5_count_140 rfl ?_
      refine ax_iload_n (pc := 141) dX5_count_141 rfl ?_
      refine ax_bipush (pc := 142) (v := nI 8) dX5_count_142 (by decide) ?_
      refine ax_isub (pc := 144) dX5_count_144 ?_
      refine At.ti (x' := nI 1) rfl ?_
      refine ax_eVi1 (pc := 145) vX5_214 dX5_count_145 (by decide) (by exact hM_0) (Nat.le_of_ble_eq_true rfl) (c_X5_mo1 _ h s nd sl tu hm hv) ?_
      refine ax_iret (pc := 148) dX5_count_148 rfl ?_
      exact ⟨_, rfl, rfl, rfl⟩
    · refine ax_iload_n (pc := 19) dX5_count_19 rfl ?_
      refine ax_ifne (pc := 20) (tgt := 30) dX5_count_20 (by decide) (fun _ => ?_) (fun q => absurd q (by decide))
      refine ax_iload_n (pc := 30) dX5_count_30 rfl ?_
      refine ax_iconst (pc := 31) (v := nI 1) dX5_count_31 (by decide) ?_
      refine ax_icmpne (pc := 32) (tgt := 46) dX5_count_32 (by decide) (fun _ => ?_) (fun q => absurd q (by decide))
      refine ax_iload_n (pc := 46) dX5_count_46 rfl ?_
      refine ax_iconst (pc := 47) (v := nI 2) dX5_count_47 (by decide) ?_
      refine ax_icmpne (pc := 48) (tgt := 58) dX5_count_48 (by decide) (fun _ => ?_) (fun q => absurd q (by decide))
      refine ax_iload_n (pc := 58) dX5_count_58 rfl ?_
      refine ax_iconst (pc := 59) (v := nI 3) dX5_count_59 (by decide) ?_
      refine ax_icmpne (pc := 60) (tgt := 74) dX5_count_60 (by decide) (fun _ => ?_) (fun q => absurd q (by decide))
      refine ax_iload_n (pc := 74) dX5_count_74 rfl ?_
      refine ax_iconst (pc := 75) (v := nI 4) dX5_count_75 (by decide) ?_
      refine ax_icmpne (pc := 76) (tgt := 90) dX5_count_76 (by decide) (fun _ => ?_) (fun q => absurd q (by decide))
      refine ax_iload_n (pc := 90) dX5_count_90 rfl ?_
      refine ax_iconst (pc := 91) (v := nI 5) dX5_count_91 (by decide) ?_
      refine ax_icmpne (pc := 92) (tgt := 106) dX5_count_92 (by decide) (fun _ => ?_) (fun q => absurd q (by decide))
      refine ax_iload_n (pc := 106) dX5_count_106 rfl ?_
      refine ax_bipush (pc := 107) (v := nI 6) dX5_count_107 (by decide) ?_
      refine ax_icmpne (pc := 109) (tgt := 123) dX5_count_109 (by decide) (fun _ => ?_) (fun q => absurd q (by decide))
      refine ax_iload_n (pc := 123) dX5_count_123 rfl ?_
      refine ax_bipush (pc := 124) (v := nI 7) dX5_count_124 (by decide) ?_
      refine ax_icmpne (pc := 126) (tgt := 140) dX5_count_126 (by decide) (fun _ => ?_) (fun q => absurd q (by decide))
      refine ax_aload_n (pc := 140) dX5_count_140 rfl ?_
      refine ax_iload_n (pc := 141) dX5_count_141 rfl ?_
      refine ax_bipush (pc := 142) (v := nI 8) dX5_count_142 (by decide) ?_
      refine ax_isub (pc := 144) dX5_count_144 ?_
      refine At.ti (x' := nI 2) rfl ?_
      refine ax_eVi1 (pc := 145) vX5_214 dX5_count_145 (by decide) (by exact hM_0) (Nat.le_of_ble_eq_true rfl) (c_X5_mo2 _ h s nd sl tu hm hv) ?_
      refine ax_iret (pc := 148) dX5_count_148 rfl ?_
      exact ⟨_, rfl, rfl, rfl⟩
    · refine ax_iload_n (pc := 19) dX5_count_19 rfl ?_
      refine ax_ifne (pc := 20) (tgt := 30) dX5_count_20 (by decide) (fun _ => ?_) (fun q => absurd q (by decide))
      refine ax_iload_n (pc := 30) dX5_count_30 rfl ?_
      refine ax_iconst (pc := 31) (v := nI 1) dX5_count_31 (by decide) ?_
      refine ax_icmpne (pc := 32) (tgt := 46) dX5_count_32 (by decide) (fun _ => ?_) (fun q => absurd q (by decide))
      refine ax_iload_n (pc := 46) dX5_count_46 rfl ?_
      refine ax_iconst (pc := 47) (v := nI 2) dX5_count_47 (by decide) ?_
      refine ax_icmpne (pc := 48) (tgt := 58) dX5_count_48 (by decide) (fun _ => ?_) (fun q => absurd q (by decide))
      refine ax_iload_n (pc := 58) dX5_count_58 rfl ?_
      refine ax_iconst (pc := 59) (v := nI 3) dX5_count_59 (by decide) ?_
      refine ax_icmpne (pc := 60) (tgt := 74) dX5_count_60 (by decide) (fun _ => ?_) (fun q => absurd q (by decide))
      refine ax_iload_n (pc := 74) dX5_count_74 rfl ?_
      refine ax_iconst (pc := 75) (v := nI 4) dX5_count_75 (by decide) ?_
      refine ax_icmpne (pc := 76) (tgt := 90) dX5_count_76 (by decide) (fun _ => ?_) (fun q => absurd q (by decide))
      refine ax_iload_n (pc := 90) dX5_count_90 rfl ?_
      refine ax_iconst (pc := 91) (v := nI 5) dX5_count_91 (by decide) ?_
      refine ax_icmpne (pc := 92) (tgt := 106) dX5_count_92 (by decide) (fun _ => ?_) (fun q => absurd q (by decide))
      refine ax_iload_n (pc := 106) dX5_count_106 rfl ?_
      refine ax_bipush (pc := 107) (v := nI 6) dX5_count_107 (by decide) ?_
      refine ax_icmpne (pc := 109) (tgt := 123) dX5_count_109 (by decide) (fun _ => ?_) (fun q => absurd q (by decide))
      refine ax_iload_n (pc := 123) dX5_count_123 rfl ?_
      refine ax_bipush (pc := 124) (v := nI 7) dX5_count_124 (by decide) ?_
      refine ax_icmpne (pc := 126) (tgt := 140) dX5_count_126 (by decide) (fun _ => ?_) (fun q => absurd q (by decide))
      refine ax_aload_n (pc := 140) dX5_count_140 rfl ?_
      refine ax_iload_n (pc := 141) dX5_count_141 rfl ?_
      refine ax_bipush (pc := 142) (v := nI 8) dX5_count_142 (by decide) ?_
      refine ax_isub (pc := 144) dX5_count_144 ?_
      refine At.ti (x' := nI 3) rfl ?_
      refine ax_eVi1 (pc := 145) vX5_214 dX5_count_145 (by decide) (by exact hM_0) (Nat.le_of_ble_eq_true rfl) (c_X5_mo3 _ h s nd sl tu hm hv) ?_
      refine ax_iret (pc := 148) dX5_count_148 rfl ?_
      exact ⟨_, rfl, rfl, rfl⟩
    · refine ax_iload_n (pc := 19) dX5_count_19 rfl ?_
      refine ax_ifne (pc := 20) (tgt := 30) dX5_count_20 (by decide) (fun _ => ?_) (fun q => absurd q (by decide))
      refine ax_iload_n (pc := 30) dX5_count_30 rfl ?_
      refine ax_iconst (pc := 31) (v := nI 1) dX5_count_31 (by decide) ?_
      refine ax_icmpne (pc := 32) (tgt := 46) dX5_count_32 (by decide) (fun _ => ?_) (fun q => absurd q (by decide))
      refine ax_iload_n (pc := 46) dX5_count_46 rfl ?_
      refine ax_iconst (pc := 47) (v := nI 2) dX5_count_47 (by decide) ?_
      refine ax_icmpne (pc := 48) (tgt := 58) dX5_count_48 (by decide) (fun _ => ?_) (fun q => absurd q (by decide))
      refine ax_iload_n (pc := 58) dX5_count_58 rfl ?_
      refine ax_iconst (pc := 59) (v := nI 3) dX5_count_59 (by decide) ?_
      refine ax_icmpne (pc := 60) (tgt := 74) dX5_count_60 (by decide) (fun _ => ?_) (fun q => absurd q (by decide))
      refine ax_iload_n (pc := 74) dX5_count_74 rfl ?_
      refine ax_iconst (pc := 75) (v := nI 4) dX5_count_75 (by decide) ?_
      refine ax_icmpne (pc := 76) (tgt := 90) dX5_count_76 (by decide) (fun _ => ?_) (fun q => absurd q (by decide))
      refine ax_iload_n (pc := 90) dX5_count_90 rfl ?_
      refine ax_iconst (pc := 91) (v := nI 5) dX5_count_91 (by decide) ?_
      refine ax_icmpne (pc := 92) (tgt := 106) dX5_count_92 (by decide) (fun _ => ?_) (fun q => absurd q (by decide))
      refine ax_iload_n (pc := 106) dX5_count_106 rfl ?_
      refine ax_bipush (pc := 107) (v := nI 6) dX5_count_107 (by decide) ?_
      refine ax_icmpne (pc := 109) (tgt := 123) dX5_count_109 (by decide) (fun _ => ?_) (fun q => absurd q (by decide))
      refine ax_iload_n (pc := 123) dX5_count_123 rfl ?_
      refine ax_bipush (pc := 124) (v := nI 7) dX5_count_124 (by decide) ?_
      refine ax_icmpne (pc := 126) (tgt := 140) dX5_count_126 (by decide) (fun _ => ?_) (fun q => absurd q (by decide))
      refine ax_aload_n (pc := 140) dX5_count_140 rfl ?_
      refine ax_iload_n (pc := 141) dX5_count_141 rfl ?_
      refine ax_bipush (pc := 142) (v := nI 8) dX5_count_142 (by decide) ?_
      refine ax_isub (pc := 144) dX5_count_144 ?_
      refine At.ti (x' := nI 4) rfl ?_
      refine ax_eVi1 (pc := 145) vX5_214 dX5_count_145 (by decide) (by exact hM_0) (Nat.le_of_ble_eq_true rfl) (c_X5_mo4 _ h s nd sl tu hm hv) ?_
      refine ax_iret (pc := 148) dX5_count_148 rfl ?_
      exact ⟨_, rfl, rfl, rfl⟩
  · exact absurd ⟨nI_pos' (by omega), by rw [n_12, nI_leI (by omega) (by decide)]; omega⟩ c9a
set_option maxHeartbeats 4000000 in
set_option maxRecDepth 100000 in
theorem c_X5_count (dom : List Nat) (h : mh_H) (s : sg) (nd : Int32) (sl : Nat → Int32) (tu : Int32) (q : Int32) (hm : MB s h sl) (hv : IV s) : Mt mX5_count dom 2 [.ref 0, .int q] (hM h (xs s nd) sl tu) (mx_Ri (fun v' h' => v' = (sp_count s q).1 ∧ MP (sp_count s q).2 h')) := by
  by_cases hq : 0 ≤ q ∧ q ≤ 12
  · obtain ⟨j, hj, rfl⟩ := nI_of2 (n := 12) (M := 12) rfl (Int32.not_lt.mpr hq.1) hq.2
    have e : sp_count s (nI j) = (sp_cv s j, s) := by unfold sp_count; rw [if_neg (not_not_intro hq), ni_cl (by omega)]
    rw [e]
    refine Mt.mono ?_ (c_X5_cnt dom h s nd sl tu hm hv j hj)
    rintro r h1 ⟨v, rfl, rfl, rfl⟩
    exact fin_m rfl hm.mp
  · refine Mt.of (L := [some (.ref 0), some (.int q), none]) rfl (Nat.le_of_ble_eq_true rfl) rfl ?_
    refine ax_iload_n (pc := 0) dX5_count_0 rfl ?_
    refine ax_i2l (pc := 1) dX5_count_1 ?_
    refine ax_lconst (pc := 2) (v := 0) dX5_count_2 (by decide) ?_
    refine ax_ldc2 (pc := 3) dX5_count_3 tw_950 ?_
    refine ax_eSi3 (pc := 6) sX5_63 dX5_count_6 (by decide) (Nat.le_of_ble_eq_true rfl) (c_X5_in _ _ q 0 12 _ _ (by decide) (by decide)) ?_
    refine ax_ifneB (pc := 9) (tgt := 14) dX5_count_9 (by decide) (fun c9a => ?_) (fun c9a => ?_)
    · exact absurd c9a hq
    · refine ax_iconst (pc := 12) (v := -1) dX5_count_12 (by decide) ?_
      refine ax_iret (pc := 13) dX5_count_13 rfl ?_
      exact fin_m (by unfold sp_count; exact if_pos hq) hm.mp
set_option maxHeartbeats 4000000 in
set_option maxRecDepth 100000 in
theorem l_X5_dgTi (dom : List Nat) (h : mh_H) (s : sg) (nd : Int32) (sl : Nat → Int32) (tu : Int32) (hm : MB s h sl) (hv : IV s) (r m : Nat) (hr : r < 4) (hm2 : m ≤ 60) (ez : s_tz s r = nI m) (x : Int64) (Q : Option Value → mh_H → Prop) (KK : At mX5_digest dom 4 234 [some (.ref 0), some (.long (sl_mix x (s_tc s r) m)), none, some (.int (nI r)), some (.int (nI m))] [] (hM h (xs s nd) sl tu) Q) : ∀ (nn j : Nat), j + nn = m → At mX5_digest dom 4 197 [some (.ref 0), some (.long (sl_mix x (s_tc s r) j)), none, some (.int (nI r)), some (.int (nI j))] [] (hM h (xs s nd) sl tu) Q := by
  intro nn
  induction nn with
  | zero =>
    intro j hj
    have hj : j = m := by omega
    subst hj
    obtain ⟨⟨m1, f2, m2, mf⟩, ⟨m3, f4, m4, mg⟩, ⟨so, fl, dr, md⟩, mn, msl, mk, mc, ⟨wo, mw⟩⟩ := id hm
    refine ax_iload (pc := 197) dX5_digest_197 rfl ?_
    refine ax_aload_n (pc := 199) dX5_digest_199 rfl ?_
    refine ax_getf (pc := 200) fX5_16 dX5_digest_200 (by exact hM_0) rfl ?_
    refine ax_iload_n (pc := 203) dX5_digest_203 rfl ?_
    refine bx_iaload dX5_digest_204 ((hM_n (by decide)).trans m3) hr (by decide) ez ?_
    refine ax_icmpge (pc := 205) (tgt := 234) dX5_digest_205 (by decide) (fun _ => ?_) (fun q => absurd (nI_le (Nat.le_refl _) (by omega)) q)
    exact KK
  | succ nn ih =>
    intro j hj
    have hlt : j < m := by omega
    obtain ⟨⟨m1, f2, m2, mf⟩, ⟨m3, f4, m4, mg⟩, ⟨so, fl, dr, md⟩, mn, msl, mk, mc, ⟨wo, mw⟩⟩ := id hm
    refine ax_iload (pc := 197) dX5_digest_197 rfl ?_
    refine ax_aload_n (pc := 199) dX5_digest_199 rfl ?_
    refine ax_getf (pc := 200) fX5_16 dX5_digest_200 (by exact hM_0) rfl ?_
    refine ax_iload_n (pc := 203) dX5_digest_203 rfl ?_
    refine bx_iaload dX5_digest_204 ((hM_n (by decide)).trans m3) hr (by decide) ez ?_
    refine ax_icmpge (pc := 205) (tgt := 234) dX5_digest_205 (by decide) (fun q => absurd q (nI_ge hlt (by omega))) (fun _ => ?_)
    refine ax_ldc2 (pc := 208) dX5_digest_208 tw_1004 ?_
    refine ax_lload_n (pc := 211) dX5_digest_211 rfl ?_
    refine ax_lmul (pc := 212) dX5_digest_212 ?_
    refine ax_aload_n (pc := 213) dX5_digest_213 rfl ?_
    refine ax_getf (pc := 214) fX5_19 dX5_digest_214 (by exact hM_0) rfl ?_
    refine ax_bipush (pc := 217) (v := nI 60) dX5_digest_217 (by decide) ?_
    refine ax_iload_n (pc := 219) dX5_digest_219 rfl ?_
    refine bx_imul dX5_digest_220  ?_
    refine ax_iload (pc := 221) dX5_digest_221 rfl ?_
    refine bx_iadd dX5_digest_223  ?_
    refine bx_baload dX5_digest_224 ((hM_n (by decide)).trans m4) (by omega) (by decide) (mg r hr j (by rw [ez, ni_cl (by omega)]; exact hlt)) ?_
    refine ax_i2l (pc := 225) dX5_digest_225 ?_
    refine ax_ladd (pc := 226) dX5_digest_226 ?_
    refine ax_lstore1 (pc := 227) dX5_digest_227 rfl (by decide) ?_
    refine ax_inc4p1 (pc := 228) dX5_digest_228 rfl (by decide) ?_
    refine ax_goto (pc := 231) (tgt := 197) dX5_digest_231 (by decide) ?_
    rw [nI_1]
    exact ih (j + 1) (by omega)
set_option maxHeartbeats 4000000 in
set_option maxRecDepth 100000 in
theorem l_X5_dgT (dom : List Nat) (h : mh_H) (s : sg) (nd : Int32) (sl : Nat → Int32) (tu : Int32) (hm : MB s h sl) (hv : IV s) : ∀ (nn j : Nat), j + nn = 4 → ∀ (l4 : Option Value), At mX5_digest dom 4 175 [some (.ref 0), some (.long (dgR (s_tz s) (s_tc s) (dgR (s_rz s) (s_rc s) (dgK s (dgD s (dgA s 13) (s_D s).1) 3) 6) j)), none, some (.int (nI j)), l4] [] (hM h (xs s nd) sl tu) (mx_Rl (fun v' h' => v' = sp_dig s ∧ h' = (hM h (xs s nd) sl tu))) := by
  intro nn
  induction nn with
  | zero =>
    intro j hj l4
    have hj : j = 4 := by omega
    subst hj
    obtain ⟨⟨m1, f2, m2, mf⟩, ⟨m3, f4, m4, mg⟩, ⟨so, fl, dr, md⟩, mn, msl, mk, mc, ⟨wo, mw⟩⟩ := id hm
    refine ax_iload_n (pc := 175) dX5_digest_175 rfl ?_
    refine ax_iconst (pc := 176) (v := nI 4) dX5_digest_176 (by decide) ?_
    refine ax_icmpge (pc := 177) (tgt := 240) dX5_digest_177 (by decide) (fun _ => ?_) (fun q => absurd (by decide) q)
    refine ax_lload_n (pc := 240) dX5_digest_240 rfl ?_
    refine ax_lret (pc := 241) dX5_digest_241 rfl ?_
    exact ⟨_, rfl, rfl, rfl⟩
  | succ nn ih =>
    intro j hj l4
    have hlt : j < 4 := by omega
    obtain ⟨⟨m1, f2, m2, mf⟩, ⟨m3, f4, m4, mg⟩, ⟨so, fl, dr, md⟩, mn, msl, mk, mc, ⟨wo, mw⟩⟩ := id hm
    refine ax_iload_n (pc := 175) dX5_digest_175 rfl ?_
    refine ax_iconst (pc := 176) (v := nI 4) dX5_digest_176 (by decide) ?_
    refine ax_icmpge (pc := 177) (tgt := 240) dX5_digest_177 (by decide) (fun q => absurd q (by rw [nI_leI (by decide) (by omega)]; omega)) (fun _ => ?_)
    rcases hv.2.1 j hlt with e | ⟨m, hm2, e⟩
    · refine ax_ldc2 (pc := 180) dX5_digest_180 tw_1004 ?_
      refine ax_lload_n (pc := 183) dX5_digest_183 rfl ?_
      refine ax_lmul (pc := 184) dX5_digest_184 ?_
      refine ax_aload_n (pc := 185) dX5_digest_185 rfl ?_
      refine ax_getf (pc := 186) fX5_16 dX5_digest_186 (by exact hM_0) rfl ?_
      refine ax_iload_n (pc := 189) dX5_digest_189 rfl ?_
      refine bx_iaload dX5_digest_190 ((hM_n (by decide)).trans m3) hlt (by decide) rfl ?_
      refine ax_i2l (pc := 191) dX5_digest_191 ?_
      refine ax_ladd (pc := 192) dX5_digest_192 ?_
      refine ax_lstore1 (pc := 193) dX5_digest_193 rfl (by decide) ?_
      refine ax_iconst (pc := 194) (v := nI 0) dX5_digest_194 (by decide) ?_
      refine ax_istore4 (pc := 195) dX5_digest_195 rfl (by decide) ?_
      refine ax_iload (pc := 197) dX5_digest_197 rfl ?_
      refine ax_aload_n (pc := 199) dX5_digest_199 rfl ?_
      refine ax_getf (pc := 200) fX5_16 dX5_digest_200 (by exact hM_0) rfl ?_
      refine ax_iload_n (pc := 203) dX5_digest_203 rfl ?_
      refine bx_iaload dX5_digest_204 ((hM_n (by decide)).trans m3) hlt (by decide) e ?_
      refine ax_icmpge (pc := 205) (tgt := 234) dX5_digest_205 (by decide) (fun _ => ?_) (fun q => absurd (by decide) q)
      refine ax_inc3p1 (pc := 234) dX5_digest_234 rfl (by decide) ?_
      refine ax_goto (pc := 237) (tgt := 175) dX5_digest_237 (by decide) ?_
      rw [nI_1]
      have K := fun l4 => ih (j + 1) (by omega) l4
      rw [show dgR (s_tz s) (s_tc s) (dgR (s_rz s) (s_rc s) (dgK s (dgD s (dgA s 13) (s_D s).1) 3) 6) (j + 1) = 31 * dgR (s_tz s) (s_tc s) (dgR (s_rz s) (s_rc s) (dgK s (dgD s (dgA s 13) (s_D s).1) 3) 6) j + (s_tz s j).toInt64 by rw [dgR, e, tc_m1]; rfl] at K
      exact K _
    · refine ax_ldc2 (pc := 180) dX5_digest_180 tw_1004 ?_
      refine ax_lload_n (pc := 183) dX5_digest_183 rfl ?_
      refine ax_lmul (pc := 184) dX5_digest_184 ?_
      refine ax_aload_n (pc := 185) dX5_digest_185 rfl ?_
      refine ax_getf (pc := 186) fX5_16 dX5_digest_186 (by exact hM_0) rfl ?_
      refine ax_iload_n (pc := 189) dX5_digest_189 rfl ?_
      refine bx_iaload dX5_digest_190 ((hM_n (by decide)).trans m3) hlt (by decide) rfl ?_
      refine ax_i2l (pc := 191) dX5_digest_191 ?_
      refine ax_ladd (pc := 192) dX5_digest_192 ?_
      refine ax_lstore1 (pc := 193) dX5_digest_193 rfl (by decide) ?_
      refine ax_iconst (pc := 194) (v := nI 0) dX5_digest_194 (by decide) ?_
      refine ax_istore4 (pc := 195) dX5_digest_195 rfl (by decide) ?_
      refine l_X5_dgTi dom h s nd sl tu hm hv j m hlt hm2 e _ _ ?_ m 0 (by omega)
      refine ax_inc3p1 (pc := 234) dX5_digest_234 rfl (by decide) ?_
      refine ax_goto (pc := 237) (tgt := 175) dX5_digest_237 (by decide) ?_
      rw [nI_1]
      have K := fun l4 => ih (j + 1) (by omega) l4
      rw [show dgR (s_tz s) (s_tc s) (dgR (s_rz s) (s_rc s) (dgK s (dgD s (dgA s 13) (s_D s).1) 3) 6) (j + 1) = sl_mix (31 * dgR (s_tz s) (s_tc s) (dgR (s_rz s) (s_rc s) (dgK s (dgD s (dgA s 13) (s_D s).1) 3) 6) j + (s_tz s j).toInt64) (s_tc s j) m by rw [dgR, e, ni_cl (by omega)]] at K
      exact K _
set_option maxHeartbeats 4000000 in
set_option maxRecDepth 100000 in
theorem l_X5_dgRi (dom : List Nat) (h : mh_H) (s : sg) (nd : Int32) (sl : Nat → Int32) (tu : Int32) (hm : MB s h sl) (hv : IV s) (r m : Nat) (hr : r < 6) (hm2 : m ≤ 40) (ez : s_rz s r = nI m) (x : Int64) (Q : Option Value → mh_H → Prop) (KK : At mX5_digest dom 4 167 [some (.ref 0), some (.long (sl_mix x (s_rc s r) m)), none, some (.int (nI r)), some (.int (nI m))] [] (hM h (xs s nd) sl tu) Q) : ∀ (nn j : Nat), j + nn = m → At mX5_digest dom 4 130 [some (.ref 0), some (.long (sl_mix x (s_rc s r) j)), none, some (.int (nI r)), some (.int (nI j))] [] (hM h (xs s nd) sl tu) Q := by
  intro nn
  induction nn with
  | zero =>
    intro j hj
    have hj : j = m := by omega
    subst hj
    obtain ⟨⟨m1, f2, m2, mf⟩, ⟨m3, f4, m4, mg⟩, ⟨so, fl, dr, md⟩, mn, msl, mk, mc, ⟨wo, mw⟩⟩ := id hm
    refine ax_iload (pc := 130) dX5_digest_130 rfl ?_
    refine ax_aload_n (pc := 132) dX5_digest_132 rfl ?_
    refine ax_getf (pc := 133) fX5_7 dX5_digest_133 (by exact hM_0) rfl ?_
    refine ax_iload_n (pc := 136) dX5_digest_136 rfl ?_
    refine bx_iaload dX5_digest_137 ((hM_n (by decide)).trans m1) hr (by decide) ez ?_
    refine ax_icmpge (pc := 138) (tgt := 167) dX5_digest_138 (by decide) (fun _ => ?_) (fun q => absurd (nI_le (Nat.le_refl _) (by omega)) q)
    exact KK
  | succ nn ih =>
    intro j hj
    have hlt : j < m := by omega
    obtain ⟨⟨m1, f2, m2, mf⟩, ⟨m3, f4, m4, mg⟩, ⟨so, fl, dr, md⟩, mn, msl, mk, mc, ⟨wo, mw⟩⟩ := id hm
    refine ax_iload (pc := 130) dX5_digest_130 rfl ?_
    refine ax_aload_n (pc := 132) dX5_digest_132 rfl ?_
    refine ax_getf (pc := 133) fX5_7 dX5_digest_133 (by exact hM_0) rfl ?_
    refine ax_iload_n (pc := 136) dX5_digest_136 rfl ?_
    refine bx_iaload dX5_digest_137 ((hM_n (by decide)).trans m1) hr (by decide) ez ?_
    refine ax_icmpge (pc := 138) (tgt := 167) dX5_digest_138 (by decide) (fun q => absurd q (nI_ge hlt (by omega))) (fun _ => ?_)
    refine ax_ldc2 (pc := 141) dX5_digest_141 tw_1004 ?_
    refine ax_lload_n (pc := 144) dX5_digest_144 rfl ?_
    refine ax_lmul (pc := 145) dX5_digest_145 ?_
    refine ax_aload_n (pc := 146) dX5_digest_146 rfl ?_
    refine ax_getf (pc := 147) fX5_13 dX5_digest_147 (by exact hM_0) rfl ?_
    refine ax_bipush (pc := 150) (v := nI 40) dX5_digest_150 (by decide) ?_
    refine ax_iload_n (pc := 152) dX5_digest_152 rfl ?_
    refine bx_imul dX5_digest_153  ?_
    refine ax_iload (pc := 154) dX5_digest_154 rfl ?_
    refine bx_iadd dX5_digest_156  ?_
    refine bx_iaload dX5_digest_157 ((hM_n (by decide)).trans m2) (by omega) (by decide) (mf r hr j (by rw [ez, ni_cl (by omega)]; exact hlt)) ?_
    refine ax_i2l (pc := 158) dX5_digest_158 ?_
    refine ax_ladd (pc := 159) dX5_digest_159 ?_
    refine ax_lstore1 (pc := 160) dX5_digest_160 rfl (by decide) ?_
    refine ax_inc4p1 (pc := 161) dX5_digest_161 rfl (by decide) ?_
    refine ax_goto (pc := 164) (tgt := 130) dX5_digest_164 (by decide) ?_
    rw [nI_1]
    exact ih (j + 1) (by omega)
set_option maxHeartbeats 4000000 in
set_option maxRecDepth 100000 in
theorem l_X5_dgR (dom : List Nat) (h : mh_H) (s : sg) (nd : Int32) (sl : Nat → Int32) (tu : Int32) (hm : MB s h sl) (hv : IV s) : ∀ (nn j : Nat), j + nn = 6 → ∀ (l4 : Option Value), At mX5_digest dom 4 107 [some (.ref 0), some (.long (dgR (s_rz s) (s_rc s) (dgK s (dgD s (dgA s 13) (s_D s).1) 3) j)), none, some (.int (nI j)), l4] [] (hM h (xs s nd) sl tu) (mx_Rl (fun v' h' => v' = sp_dig s ∧ h' = (hM h (xs s nd) sl tu))) := by
  intro nn
  induction nn with
  | zero =>
    intro j hj l4
    have hj : j = 6 := by omega
    subst hj
    obtain ⟨⟨m1, f2, m2, mf⟩, ⟨m3, f4, m4, mg⟩, ⟨so, fl, dr, md⟩, mn, msl, mk, mc, ⟨wo, mw⟩⟩ := id hm
    refine ax_iload_n (pc := 107) dX5_digest_107 rfl ?_
    refine ax_bipush (pc := 108) (v := nI 6) dX5_digest_108 (by decide) ?_
    refine ax_icmpge (pc := 110) (tgt := 173) dX5_digest_110 (by decide) (fun _ => ?_) (fun q => absurd (by decide) q)
    refine ax_iconst (pc := 173) (v := nI 0) dX5_digest_173 (by decide) ?_
    refine ax_istore3 (pc := 174) dX5_digest_174 rfl (by decide) ?_
    exact l_X5_dgT dom h s nd sl tu hm hv 4 0 (by omega) l4
  | succ nn ih =>
    intro j hj l4
    have hlt : j < 6 := by omega
    obtain ⟨⟨m1, f2, m2, mf⟩, ⟨m3, f4, m4, mg⟩, ⟨so, fl, dr, md⟩, mn, msl, mk, mc, ⟨wo, mw⟩⟩ := id hm
    refine ax_iload_n (pc := 107) dX5_digest_107 rfl ?_
    refine ax_bipush (pc := 108) (v := nI 6) dX5_digest_108 (by decide) ?_
    refine ax_icmpge (pc := 110) (tgt := 173) dX5_digest_110 (by decide) (fun q => absurd q (by rw [nI_leI (by decide) (by omega)]; omega)) (fun _ => ?_)
    rcases hv.1 j hlt with e | ⟨m, hm2, e⟩
    · refine ax_ldc2 (pc := 113) dX5_digest_113 tw_1004 ?_
      refine ax_lload_n (pc := 116) dX5_digest_116 rfl ?_
      refine ax_lmul (pc := 117) dX5_digest_117 ?_
      refine ax_aload_n (pc := 118) dX5_digest_118 rfl ?_
      refine ax_getf (pc := 119) fX5_7 dX5_digest_119 (by exact hM_0) rfl ?_
      refine ax_iload_n (pc := 122) dX5_digest_122 rfl ?_
      refine bx_iaload dX5_digest_123 ((hM_n (by decide)).trans m1) hlt (by decide) rfl ?_
      refine ax_i2l (pc := 124) dX5_digest_124 ?_
      refine ax_ladd (pc := 125) dX5_digest_125 ?_
      refine ax_lstore1 (pc := 126) dX5_digest_126 rfl (by decide) ?_
      refine ax_iconst (pc := 127) (v := nI 0) dX5_digest_127 (by decide) ?_
      refine ax_istore4 (pc := 128) dX5_digest_128 rfl (by decide) ?_
      refine ax_iload (pc := 130) dX5_digest_130 rfl ?_
      refine ax_aload_n (pc := 132) dX5_digest_132 rfl ?_
      refine ax_getf (pc := 133) fX5_7 dX5_digest_133 (by exact hM_0) rfl ?_
      refine ax_iload_n (pc := 136) dX5_digest_136 rfl ?_
      refine bx_iaload dX5_digest_137 ((hM_n (by decide)).trans m1) hlt (by decide) e ?_
      refine ax_icmpge (pc := 138) (tgt := 167) dX5_digest_138 (by decide) (fun _ => ?_) (fun q => absurd (by decide) q)
      refine ax_inc3p1 (pc := 167) dX5_digest_167 rfl (by decide) ?_
      refine ax_goto (pc := 170) (tgt := 107) dX5_digest_170 (by decide) ?_
      rw [nI_1]
      have K := fun l4 => ih (j + 1) (by omega) l4
      rw [show dgR (s_rz s) (s_rc s) (dgK s (dgD s (dgA s 13) (s_D s).1) 3) (j + 1) = 31 * dgR (s_rz s) (s_rc s) (dgK s (dgD s (dgA s 13) (s_D s).1) 3) j + (s_rz s j).toInt64 by rw [dgR, e, tc_m1]; rfl] at K
      exact K _
    · refine ax_ldc2 (pc := 113) dX5_digest_113 tw_1004 ?_
      refine ax_lload_n (pc := 116) dX5_digest_116 rfl ?_
      refine ax_lmul (pc := 117) dX5_digest_117 ?_
      refine ax_aload_n (pc := 118) dX5_digest_118 rfl ?_
      refine ax_getf (pc := 119) fX5_7 dX5_digest_119 (by exact hM_0) rfl ?_
      refine ax_iload_n (pc := 122) dX5_digest_122 rfl ?_
      refine bx_iaload dX5_digest_123 ((hM_n (by decide)).trans m1) hlt (by decide) rfl ?_
      refine ax_i2l (pc := 124) dX5_digest_124 ?_
      refine ax_ladd (pc := 125) dX5_digest_125 ?_
      refine ax_lstore1 (pc := 126) dX5_digest_126 rfl (by decide) ?_
      refine ax_iconst (pc := 127) (v := nI 0) dX5_digest_127 (by decide) ?_
      refine ax_istore4 (pc := 128) dX5_digest_128 rfl (by decide) ?_
      refine l_X5_dgRi dom h s nd sl tu hm hv j m hlt hm2 e _ _ ?_ m 0 (by omega)
      refine ax_inc3p1 (pc := 167) dX5_digest_167 rfl (by decide) ?_
      refine ax_goto (pc := 170) (tgt := 107) dX5_digest_170 (by decide) ?_
      rw [nI_1]
      have K := fun l4 => ih (j + 1) (by omega) l4
      rw [show dgR (s_rz s) (s_rc s) (dgK s (dgD s (dgA s 13) (s_D s).1) 3) (j + 1) = sl_mix (31 * dgR (s_rz s) (s_rc s) (dgK s (dgD s (dgA s 13) (s_D s).1) 3) j + (s_rz s j).toInt64) (s_rc s j) m by rw [dgR, e, ni_cl (by omega)]] at K
      exact K _
set_option maxHeartbeats 4000000 in
set_option maxRecDepth 100000 in
theorem l_X5_dgK (dom : List Nat) (h : mh_H) (s : sg) (nd : Int32) (sl : Nat → Int32) (tu : Int32) (hm : MB s h sl) (hv : IV s) : ∀ (nn j : Nat), j + nn = 3 → ∀ (l4 : Option Value), At mX5_digest dom 4 80 [some (.ref 0), some (.long (dgK s (dgD s (dgA s 13) (s_D s).1) j)), none, some (.int (nI j)), l4] [] (hM h (xs s nd) sl tu) (mx_Rl (fun v' h' => v' = sp_dig s ∧ h' = (hM h (xs s nd) sl tu))) := by
  intro nn
  induction nn with
  | zero =>
    intro j hj l4
    have hj : j = 3 := by omega
    subst hj
    obtain ⟨⟨m1, f2, m2, mf⟩, ⟨m3, f4, m4, mg⟩, ⟨so, fl, dr, md⟩, mn, msl, mk, mc, ⟨wo, mw⟩⟩ := id hm
    refine ax_iload_n (pc := 80) dX5_digest_80 rfl ?_
    refine ax_iconst (pc := 81) (v := nI 3) dX5_digest_81 (by decide) ?_
    refine ax_icmpge (pc := 82) (tgt := 105) dX5_digest_82 (by decide) (fun _ => ?_) (fun q => absurd (by decide) q)
    refine ax_iconst (pc := 105) (v := nI 0) dX5_digest_105 (by decide) ?_
    refine ax_istore3 (pc := 106) dX5_digest_106 rfl (by decide) ?_
    exact l_X5_dgR dom h s nd sl tu hm hv 6 0 (by omega) l4
  | succ nn ih =>
    intro j hj l4
    have hlt : j < 3 := by omega
    obtain ⟨⟨m1, f2, m2, mf⟩, ⟨m3, f4, m4, mg⟩, ⟨so, fl, dr, md⟩, mn, msl, mk, mc, ⟨wo, mw⟩⟩ := id hm
    refine ax_iload_n (pc := 80) dX5_digest_80 rfl ?_
    refine ax_iconst (pc := 81) (v := nI 3) dX5_digest_81 (by decide) ?_
    refine ax_icmpge (pc := 82) (tgt := 105) dX5_digest_82 (by decide) (fun q => absurd q (by rw [nI_leI (by decide) (by omega)]; omega)) (fun _ => ?_)
    refine ax_ldc2 (pc := 85) dX5_digest_85 tw_1004 ?_
    refine ax_lload_n (pc := 88) dX5_digest_88 rfl ?_
    refine ax_lmul (pc := 89) dX5_digest_89 ?_
    refine ax_aload_n (pc := 90) dX5_digest_90 rfl ?_
    refine ax_getf (pc := 91) fX5_44 dX5_digest_91 (by exact hM_0) rfl ?_
    refine ax_iload_n (pc := 94) dX5_digest_94 rfl ?_
    refine bx_iaload dX5_digest_95 ((hM_n (by decide)).trans mk) hlt (by decide) rfl ?_
    refine ax_i2l (pc := 96) dX5_digest_96 ?_
    refine ax_ladd (pc := 97) dX5_digest_97 ?_
    refine ax_lstore1 (pc := 98) dX5_digest_98 rfl (by decide) ?_
    refine ax_inc3p1 (pc := 99) dX5_digest_99 rfl (by decide) ?_
    refine ax_goto (pc := 102) (tgt := 80) dX5_digest_102 (by decide) ?_
    rw [nI_1]
    exact ih (j + 1) (by omega) _
set_option maxHeartbeats 4000000 in
set_option maxRecDepth 100000 in
theorem l_X5_dgDi (dom : List Nat) (h : mh_H) (s : sg) (nd : Int32) (sl : Nat → Int32) (tu : Int32) (hm : MB s h sl) (hv : IV s) (k : Nat) (hk : k < (s_D s).1) (x : Int64) (Q : Option Value → mh_H → Prop) (KK : At mX5_digest dom 4 72 [some (.ref 0), some (.long (dgI s k x 6)), none, some (.int (nI k)), some (.int (nI 6))] [] (hM h (xs s nd) sl tu) Q) : ∀ (nn j : Nat), j + nn = 6 → At mX5_digest dom 4 44 [some (.ref 0), some (.long (dgI s k x j)), none, some (.int (nI k)), some (.int (nI j))] [] (hM h (xs s nd) sl tu) Q := by
  intro nn
  induction nn with
  | zero =>
    intro j hj
    have hj : j = 6 := by omega
    subst hj
    refine ax_iload (pc := 44) dX5_digest_44 rfl ?_
    refine ax_bipush (pc := 46) (v := nI 6) dX5_digest_46 (by decide) ?_
    refine ax_icmpge (pc := 48) (tgt := 72) dX5_digest_48 (by decide) (fun _ => ?_) (fun q => absurd (by decide) q)
    exact KK
  | succ nn ih =>
    intro j hj
    have hlt : j < 6 := by omega
    refine ax_iload (pc := 44) dX5_digest_44 rfl ?_
    refine ax_bipush (pc := 46) (v := nI 6) dX5_digest_46 (by decide) ?_
    refine ax_icmpge (pc := 48) (tgt := 72) dX5_digest_48 (by decide) (fun q => absurd q (by rw [nI_leI (by decide) (by omega)]; omega)) (fun _ => ?_)
    refine ax_ldc2 (pc := 51) dX5_digest_51 tw_1004 ?_
    refine ax_lload_n (pc := 54) dX5_digest_54 rfl ?_
    refine ax_lmul (pc := 55) dX5_digest_55 ?_
    refine ax_aload_n (pc := 56) dX5_digest_56 rfl ?_
    refine ax_iload_n (pc := 57) dX5_digest_57 rfl ?_
    refine ax_iload (pc := 58) dX5_digest_58 rfl ?_
    refine ax_eVi2 (pc := 60) vX5_137 dX5_digest_60 (by decide) (by exact hM_0) (Nat.le_of_ble_eq_true rfl) (c_X5_dayTold _ h s nd sl tu hm hv k hk (hv.w (by omega)).1 (hv.w (by omega)).2.1 (hv.w (by omega)).2.2 j (by omega)) ?_
    refine ax_i2l (pc := 63) dX5_digest_63 ?_
    refine ax_ladd (pc := 64) dX5_digest_64 ?_
    refine ax_lstore1 (pc := 65) dX5_digest_65 rfl (by decide) ?_
    refine ax_inc4p1 (pc := 66) dX5_digest_66 rfl (by decide) ?_
    refine ax_goto (pc := 69) (tgt := 44) dX5_digest_69 (by decide) ?_
    rw [nI_1]
    exact ih (j + 1) (by omega)
set_option maxHeartbeats 4000000 in
set_option maxRecDepth 100000 in
theorem l_X5_dgD (dom : List Nat) (h : mh_H) (s : sg) (nd : Int32) (sl : Nat → Int32) (tu : Int32) (hm : MB s h sl) (hv : IV s) : ∀ (nn j : Nat), j + nn = (s_D s).1 → ∀ (l4 : Option Value), At mX5_digest dom 4 33 [some (.ref 0), some (.long (dgD s (dgA s 13) j)), none, some (.int (nI j)), l4] [] (hM h (xs s nd) sl tu) (mx_Rl (fun v' h' => v' = sp_dig s ∧ h' = (hM h (xs s nd) sl tu))) := by
  intro nn
  induction nn with
  | zero =>
    intro j hj l4
    have hj : j = (s_D s).1 := by omega
    subst hj
    have h9 := hv.2.2.1.1
    refine ax_iload_n (pc := 33) dX5_digest_33 rfl ?_
    refine ax_aload_n (pc := 34) dX5_digest_34 rfl ?_
    refine ax_getf (pc := 35) fX5_97 dX5_digest_35 (by exact hM_0) rfl ?_
    refine ax_icmpge (pc := 38) (tgt := 78) dX5_digest_38 (by decide) (fun _ => ?_) (fun q => absurd (nI_le (Nat.le_refl _) (by omega)) q)
    refine ax_iconst (pc := 78) (v := nI 0) dX5_digest_78 (by decide) ?_
    refine ax_istore3 (pc := 79) dX5_digest_79 rfl (by decide) ?_
    exact l_X5_dgK dom h s nd sl tu hm hv 3 0 (by omega) l4
  | succ nn ih =>
    intro j hj l4
    have hlt : j < (s_D s).1 := by omega
    have h9 := hv.2.2.1.1
    refine ax_iload_n (pc := 33) dX5_digest_33 rfl ?_
    refine ax_aload_n (pc := 34) dX5_digest_34 rfl ?_
    refine ax_getf (pc := 35) fX5_97 dX5_digest_35 (by exact hM_0) rfl ?_
    refine ax_icmpge (pc := 38) (tgt := 78) dX5_digest_38 (by decide) (fun q => absurd q (nI_ge hlt (by omega))) (fun _ => ?_)
    refine ax_iconst (pc := 41) (v := nI 0) dX5_digest_41 (by decide) ?_
    refine ax_istore4 (pc := 42) dX5_digest_42 rfl (by decide) ?_
    refine l_X5_dgDi dom h s nd sl tu hm hv j hlt _ _ ?_ 6 0 (by omega)
    refine ax_inc3p1 (pc := 72) dX5_digest_72 rfl (by decide) ?_
    refine ax_goto (pc := 75) (tgt := 33) dX5_digest_75 (by decide) ?_
    rw [nI_1]
    exact ih (j + 1) (by omega) _
set_option maxHeartbeats 4000000 in
set_option maxRecDepth 100000 in
theorem l_X5_dgA (dom : List Nat) (h : mh_H) (s : sg) (nd : Int32) (sl : Nat → Int32) (tu : Int32) (hm : MB s h sl) (hv : IV s) : ∀ (nn j : Nat), j + nn = 13 → At mX5_digest dom 4 6 [some (.ref 0), some (.long (dgA s j)), none, some (.int (nI j)), none] [] (hM h (xs s nd) sl tu) (mx_Rl (fun v' h' => v' = sp_dig s ∧ h' = (hM h (xs s nd) sl tu))) := by
  intro nn
  induction nn with
  | zero =>
    intro j hj
    have hj : j = 13 := by omega
    subst hj
    refine ax_iload_n (pc := 6) dX5_digest_6 rfl ?_
    refine ax_bipush (pc := 7) (v := nI 13) dX5_digest_7 (by decide) ?_
    refine ax_icmpge (pc := 9) (tgt := 31) dX5_digest_9 (by decide) (fun _ => ?_) (fun q => absurd (by decide) q)
    refine ax_iconst (pc := 31) (v := nI 0) dX5_digest_31 (by decide) ?_
    refine ax_istore3 (pc := 32) dX5_digest_32 rfl (by decide) ?_
    exact l_X5_dgD dom h s nd sl tu hm hv (s_D s).1 0 (by omega) none
  | succ nn ih =>
    intro j hj
    have hlt : j < 13 := by omega
    refine ax_iload_n (pc := 6) dX5_digest_6 rfl ?_
    refine ax_bipush (pc := 7) (v := nI 13) dX5_digest_7 (by decide) ?_
    refine ax_icmpge (pc := 9) (tgt := 31) dX5_digest_9 (by decide) (fun q => absurd q (by rw [nI_leI (by decide) (by omega)]; omega)) (fun _ => ?_)
    refine ax_ldc2 (pc := 12) dX5_digest_12 tw_1004 ?_
    refine ax_lload_n (pc := 15) dX5_digest_15 rfl ?_
    refine ax_lmul (pc := 16) dX5_digest_16 ?_
    refine ax_aload_n (pc := 17) dX5_digest_17 rfl ?_
    refine ax_iload_n (pc := 18) dX5_digest_18 rfl ?_
    refine ax_eVi1 (pc := 19) vX5_221 dX5_digest_19 (by decide) (by exact hM_0) (Nat.le_of_ble_eq_true rfl) (c_X5_cnt _ h s nd sl tu hm hv j (by omega)) ?_
    refine ax_i2l (pc := 22) dX5_digest_22 ?_
    refine ax_ladd (pc := 23) dX5_digest_23 ?_
    refine ax_lstore1 (pc := 24) dX5_digest_24 rfl (by decide) ?_
    refine ax_inc3p1 (pc := 25) dX5_digest_25 rfl (by decide) ?_
    refine ax_goto (pc := 28) (tgt := 6) dX5_digest_28 (by decide) ?_
    rw [nI_1]
    exact ih (j + 1) (by omega)
set_option maxHeartbeats 4000000 in
set_option maxRecDepth 100000 in
theorem c_X5_digest (dom : List Nat) (h : mh_H) (s : sg) (nd : Int32) (sl : Nat → Int32) (tu : Int32) (hm : MB s h sl) (hv : IV s) : Mt mX5_digest dom 4 [.ref 0] (hM h (xs s nd) sl tu) (mx_Rl (fun v' h' => v' = sp_dig s ∧ MP s h')) := by
  refine Mt.of (L := [some (.ref 0), none, none, none, none]) rfl (Nat.le_of_ble_eq_true rfl) rfl ?_
  refine ax_ldc2 (pc := 0) dX5_digest_0 tw_1003 ?_
  refine ax_lstore1 (pc := 3) dX5_digest_3 rfl (by decide) ?_
  refine ax_iconst (pc := 4) (v := nI 0) dX5_digest_4 (by decide) ?_
  refine ax_istore3 (pc := 5) dX5_digest_5 rfl (by decide) ?_
  refine At.mono ?_ (l_X5_dgA dom h s nd sl tu hm hv 13 0 (by omega))
  rintro r h1 ⟨v, rfl, rfl, rfl⟩
  exact ⟨_, rfl, rfl, hm.mp⟩
