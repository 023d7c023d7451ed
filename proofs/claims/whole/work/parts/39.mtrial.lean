theorem s6_z {sl : Nat → Int32} {b fi : Nat} {w : sp_W} {g : Int32} : s6 sl b w fi g = s6 sl b (z0 w) fi g := rfl
theorem c_X5_try (dom : List Nat) (h : mh_H) (s : sg) (nd : Int32) (sl : Nat → Int32) (tu : Int32) (hn : slR sl (6 * (s_ds s).length) (rp (s_D s) (s_ds s))) (h40 : (s_ds s).length ≤ 40) : Mt mX5_tries dom 1 [.ref 0] (hM h (xs s nd) sl tu) (mx_Rv (fun h' => h' = hM h (xs s nd) (s6 sl 984 (s_t s) (s_fi s) (nI (s_w s).2.2.2.2)) tu)) := by
  have K := c_X5_tries dom h (xs s nd) sl tu (s_ds s).length (rp (s_D s) (s_ds s)) rfl hn h40
  rw [s6_z] at K
  exact K
theorem zc_s {s : sg} {j : Nat} : nI (sp_zc s j) + (if sp_wf (s_D s) (s_fi s) (s_wi s j) = 0 then 1 else 0) = nI (sp_zc s (j + 1)) := by
  rw [sp_zc]
  by_cases h : sp_wf (s_D s) (s_fi s) (s_wi s j) = 0
  · rw [if_pos h, if_pos h, nI_1]
  · rw [if_neg h, if_neg h, Int32.add_zero, Nat.add_zero]
theorem mx_1 {m0 : Int32} {g : Nat → Nat} : ∀ n, (sp_mx (-9) m0 g n).1 = -9 ∨ ∃ k, k < n ∧ (sp_mx (-9) m0 g n).1 = nI k
  | 0 => Or.inl rfl
  | n + 1 => by
    rw [sp_mx]
    split
    · exact Or.inr ⟨n, by omega, rfl⟩
    · rcases mx_1 n with e | ⟨k, hk, e⟩
      · exact Or.inl e
      · exact Or.inr ⟨k, by omega, e⟩
theorem mx_lt {m0 : Int32} {g : Nat → Nat} {n : Nat} (hn : n < 100) : (sp_mx (-9) m0 g n).1 < 0 ↔ (sp_mx (-9) m0 g n).1 = -9 := by
  rcases mx_1 (m0 := m0) (g := g) n with e | ⟨k, hk, e⟩
  · rw [e]; decide
  · rw [e]
    exact ⟨fun q => absurd q (nI_pos (by omega)), fun q => absurd q (ni_ne9 (by omega))⟩
set_option maxHeartbeats 4000000 in
set_option maxRecDepth 100000 in
theorem c_X5_mill (dom : List Nat) (h : mh_H) (s : sg) (nd : Int32) (sl : Nat → Int32) (tu : Int32) (n : Int32) (hm : MB s h sl) (hv : IV s) : Mt mX5_mill dom 5 [.ref 0, .int n] (hM h (xs s nd) sl tu) (mx_Ri (fun v' h' => v' = (sp_mill s n).1 ∧ MP (sp_mill s n).2 h')) := by
  refine Mt.of (L := [some (.ref 0), some (.int n), none]) rfl (Nat.le_of_ble_eq_true rfl) rfl ?_
  obtain ⟨⟨m1, f2, m2, mf⟩, ⟨m3, f4, m4, mg⟩, ⟨so, fl, dr, md⟩, mn, msl, mk, mc, ⟨wo, mw⟩⟩ := id hm
  have hn := hm.now
  have h40 := hv.2.2.2.1.1
  obtain ⟨d5, d6, d7, dR⟩ := id md
  refine ax_iload_n (pc := 0) dX5_mill_0 rfl ?_
  refine ax_i2l (pc := 1) dX5_mill_1 ?_
  refine ax_lconst (pc := 2) (v := 0) dX5_mill_2 (by decide) ?_
  refine ax_ldc2 (pc := 3) dX5_mill_3 tw_870 ?_
  refine ax_eSi3 (pc := 6) sX5_63 dX5_mill_6 (by decide) (Nat.le_of_ble_eq_true rfl) (c_X5_in _ _ n 0 60 _ _ (by decide) (by decide)) ?_
  refine ax_ifneB (pc := 9) (tgt := 14) dX5_mill_9 (by decide) (fun c9a => ?_) (fun c9a => ?_)
  · refine ax_aload_n (pc := 14) dX5_mill_14 rfl ?_
    refine ax_getf (pc := 15) fX5_97 dX5_mill_15 (by exact hM_0) rfl ?_
    refine ax_ifne (pc := 18) (tgt := 24) dX5_mill_18 (by decide) (fun c18 => ?_) (fun c18 => ?_)
    · obtain ⟨m, hm2, rfl⟩ := nI_of2 (n := 60) (M := 60) rfl (Int32.not_lt.mpr c9a.1) c9a.2
      have hd0 : ¬ (s_D s).1 = 0 := fun q => c18 (by show nI (s_D s).1 = 0; rw [q]; rfl)
      obtain ⟨hD0, hW0, hfi⟩ := hv.w hd0
      have hWt : sp_W0 (s_D s).1 (s_t s) := hW0
      refine ax_aload_n (pc := 24) dX5_mill_24 rfl ?_
      refine ax_eVv0 (pc := 25) vX5_164 dX5_mill_25 (by decide) (by exact hM_0) (Nat.le_of_ble_eq_true rfl) (c_X5_try _ h s nd sl tu hn h40) ?_
      refine ax_aload_n (pc := 28) dX5_mill_28 rfl ?_
      refine ax_iload_n (pc := 29) dX5_mill_29 rfl ?_
      refine ax_cVi1 (pc := 30) vX5_167 dX5_mill_30 (by decide) (by exact hM_0) (Nat.le_of_ble_eq_true rfl) (c_X5_many _ h (xs s nd) sl (s_D s) so fl dr md (s_fi s) (s_t s) hD0 hWt hfi rfl rfl m (by omega) _ _) (fun v1 h1 hq => ?_)
      obtain ⟨rfl, g1, tu1, rfl⟩ := hq
      refine ax_istore2 (pc := 33) dX5_mill_33 rfl (by decide) ?_
      refine ax_aload_n (pc := 34) dX5_mill_34 rfl ?_
      refine ax_aload_n (pc := 35) dX5_mill_35 rfl ?_
      refine ax_getf (pc := 36) fX5_41 dX5_mill_36 (by exact hM_0) rfl ?_
      refine ax_sipush (pc := 39) (v := nI 984) dX5_mill_39 (by decide) ?_
      refine bx_slld dX5_mill_42 (by decide) s6_0 ?_
      refine bx_ptold gX5_75 dX5_mill_43 ?_
      refine ax_iload_n (pc := 46) dX5_mill_46 rfl ?_
      refine ax_iret (pc := 47) dX5_mill_47 rfl ?_
      exact fin_m (s' := u_ask s (nI (s_wi s m).1)) (by unfold sp_mill; rw [if_neg (not_not_intro c9a), if_neg hd0, ni_cl (by omega)]) (MB.mp (s := u_ask s _) (hm.t hv).ask)
    · refine ax_bipush (pc := 21) (v := -4) dX5_mill_21 (by decide) ?_
      refine ax_iret (pc := 23) dX5_mill_23 rfl ?_
      exact fin_m (by unfold sp_mill; rw [if_neg (not_not_intro c9a), if_pos ((nI_eq (by have := hv.2.2.1.1; omega) (show 0 < 2 ^ 31 by decide)).mp c18)]) hm.mp
  · refine ax_iconst (pc := 12) (v := -1) dX5_mill_12 (by decide) ?_
    refine ax_iret (pc := 13) dX5_mill_13 rfl ?_
    exact fin_m (by unfold sp_mill; exact if_pos c9a) hm.mp
set_option maxHeartbeats 4000000 in
set_option maxRecDepth 100000 in
theorem l_X5_turns (dom : List Nat) (h : mh_H) (s : sg) (nd : Int32) (sl : Nat → Int32) (hm : MB s h sl) (hv : IV s) (hd0 : ¬ (s_D s).1 = 0) : ∀ (nn j : Nat), j + nn = 60 → ∀ (l2 : Option Value) (g tu : Int32), At mX5_turns dom 4 16 [some (.ref 0), some (.int (nI (j + 1))), l2] [] (hM h (xs s nd) (s6 sl 984 (s_wi s j) (s_fi s) g) tu) (mx_Ri (fun v' h' => v' = (sp_tn s nn j).1 ∧ MP (sp_tn s nn j).2 h')) := by
  intro nn
  induction nn with
  | zero =>
    intro j hj l2 g tu
    have hj : j = 60 := by omega
    subst hj
    refine ax_iload_n (pc := 16) dX5_turns_16 rfl ?_
    refine ax_bipush (pc := 17) (v := nI 60) dX5_turns_17 (by decide) ?_
    refine ax_icmpgt (pc := 19) (tgt := 55) dX5_turns_19 (by decide) (fun _ => ?_) (fun q => absurd (by decide) q)
    refine ax_bipush (pc := 55) (v := -9) dX5_turns_55 (by decide) ?_
    refine ax_iret (pc := 57) dX5_turns_57 rfl ?_
    exact ⟨_, rfl, rfl, (hm.t hv).mp⟩
  | succ nn ih =>
    intro j hj l2 g tu
    have hlt : j < 60 := by omega
    obtain ⟨⟨m1, f2, m2, mf⟩, ⟨m3, f4, m4, mg⟩, ⟨so, fl, dr, md⟩, mn, msl, mk, mc, ⟨wo, mw⟩⟩ := id hm
    have hn := hm.now
    have h40 := hv.2.2.2.1.1
    obtain ⟨d5, d6, d7, dR⟩ := id md
    obtain ⟨hD0, hW0, hfi⟩ := hv.w hd0
    have hWt : sp_W0 (s_D s).1 (s_t s) := hW0
    refine ax_iload_n (pc := 16) dX5_turns_16 rfl ?_
    refine ax_bipush (pc := 17) (v := nI 60) dX5_turns_17 (by decide) ?_
    refine ax_icmpgt (pc := 19) (tgt := 55) dX5_turns_19 (by decide) (fun q => absurd q (by rw [nI_ltI (by decide) (by omega)]; omega)) (fun _ => ?_)
    refine ax_aload_n (pc := 22) dX5_turns_22 rfl ?_
    refine ax_getf (pc := 23) fX5_41 dX5_turns_23 (by exact hM_0) rfl ?_
    refine ax_sipush (pc := 26) (v := nI 984) dX5_turns_26 (by decide) ?_
    refine bx_slld dX5_turns_29 (by decide) s6_0 ?_
    refine ax_istore2 (pc := 30) dX5_turns_30 rfl (by decide) ?_
    refine ax_aload_n (pc := 31) dX5_turns_31 rfl ?_
    refine ax_sipush (pc := 32) (v := nI 984) dX5_turns_32 (by decide) ?_
    refine ax_iconst (pc := 35) (v := 0) dX5_turns_35 (by decide) ?_
    refine ax_eVi2 (pc := 36) vX5_156 dX5_turns_36 (by decide) (by exact hM_0) (Nat.le_of_ble_eq_true rfl) (c_X5_steps _ h (xs s nd) sl tu (s_D s) so fl dr md 984 (s_fi s) (s_wi s j) g (by decide) hD0 (wi_ok hD0 hWt j) hfi rfl) ?_
    refine ax_ifne (pc := 39) (tgt := 49) dX5_turns_39 (by decide) (fun c39 => ?_) (fun c39 => ?_)
    · refine ax_inc1p1 (pc := 49) dX5_turns_49 rfl (by decide) ?_
      refine ax_goto (pc := 52) (tgt := 16) dX5_turns_52 (by decide) ?_
      rw [nI_1, show sp_tn s (nn + 1) j = sp_tn s nn (j + 1) by rw [sp_tn, if_neg (fun q => c39 (by rw [q]; rfl))]]
      exact ih (j + 1) (by omega) _ _ _
    · have cz := (nI_eq (Nat.lt_of_le_of_lt (sp_wf_le (fi := s_fi s) hD0 (wi_ok (fi := s_fi s) hD0 hWt j)) (by decide)) (show 0 < 2 ^ 31 by decide)).mp c39
      refine ax_aload_n (pc := 42) dX5_turns_42 rfl ?_
      refine ax_iload_n (pc := 43) dX5_turns_43 rfl ?_
      refine bx_ptold gX5_75 dX5_turns_44 ?_
      refine ax_iload_n (pc := 47) dX5_turns_47 rfl ?_
      refine ax_iret (pc := 48) dX5_turns_48 rfl ?_
      exact fin_m (by rw [sp_tn, if_pos cz]) (MB.mp (s := u_ask s (nI (s_wi s j).1)) (hm.t hv).ask)
set_option maxHeartbeats 4000000 in
set_option maxRecDepth 100000 in
theorem c_X5_turns (dom : List Nat) (h : mh_H) (s : sg) (nd : Int32) (sl : Nat → Int32) (tu : Int32) (hm : MB s h sl) (hv : IV s) : Mt mX5_turns dom 4 [.ref 0] (hM h (xs s nd) sl tu) (mx_Ri (fun v' h' => v' = (sp_turns s).1 ∧ MP (sp_turns s).2 h')) := by
  refine Mt.of (L := [some (.ref 0), none, none]) rfl (Nat.le_of_ble_eq_true rfl) rfl ?_
  obtain ⟨⟨m1, f2, m2, mf⟩, ⟨m3, f4, m4, mg⟩, ⟨so, fl, dr, md⟩, mn, msl, mk, mc, ⟨wo, mw⟩⟩ := id hm
  have hn := hm.now
  have h40 := hv.2.2.2.1.1
  obtain ⟨d5, d6, d7, dR⟩ := id md
  refine ax_aload_n (pc := 0) dX5_turns_0 rfl ?_
  refine ax_getf (pc := 1) fX5_97 dX5_turns_1 (by exact hM_0) rfl ?_
  refine ax_ifne (pc := 4) (tgt := 10) dX5_turns_4 (by decide) (fun c4a => ?_) (fun c4a => ?_)
  · have hd0 : ¬ (s_D s).1 = 0 := fun q => c4a (by show nI (s_D s).1 = 0; rw [q]; rfl)
    obtain ⟨hD0, hW0, hfi⟩ := hv.w hd0
    have hWt : sp_W0 (s_D s).1 (s_t s) := hW0
    refine ax_aload_n (pc := 10) dX5_turns_10 rfl ?_
    refine ax_eVv0 (pc := 11) vX5_164 dX5_turns_11 (by decide) (by exact hM_0) (Nat.le_of_ble_eq_true rfl) (c_X5_try _ h s nd sl tu hn h40) ?_
    refine ax_iconst (pc := 14) (v := nI 1) dX5_turns_14 (by decide) ?_
    refine ax_istore1 (pc := 15) dX5_turns_15 rfl (by decide) ?_
    rw [show sp_turns s = sp_tn s 60 0 from if_neg hd0]
    exact l_X5_turns dom h s nd sl hm hv hd0 60 0 (by omega) none _ _
  · refine ax_bipush (pc := 7) (v := -4) dX5_turns_7 (by decide) ?_
    refine ax_iret (pc := 9) dX5_turns_9 rfl ?_
    exact fin_m (by unfold sp_turns; exact if_pos ((nI_eq (by have := hv.2.2.1.1; omega) (show 0 < 2 ^ 31 by decide)).mp c4a)) hm.mp
set_option maxHeartbeats 4000000 in
set_option maxRecDepth 100000 in
theorem l_X5_best (dom : List Nat) (h : mh_H) (s : sg) (nd : Int32) (hv : IV s) (hd0 : ¬ (s_D s).1 = 0) (m : Nat) (hm2 : m ≤ 20) : ∀ (nn j : Nat), j + nn = 5 → ∀ (sl : Nat → Int32) (tu : Int32) (l5 : Option Value), MB s h sl → At mX5_best dom 5 31 [some (.ref 0), some (.int (nI m)), some (.int (sp_mx 0 (-1) (sp_hg s m) j).1), some (.int (sp_mx 0 (-1) (sp_hg s m) j).2), some (.int (nI j)), l5] [] (hM h (xs s nd) sl tu) (mx_Ri (fun v' h' => v' = (sp_mx 0 (-1) (sp_hg s m) 5).1 ∧ MP (u_ask s (sp_mx 0 (-1) (sp_hg s m) 5).2) h')) := by
  intro nn
  induction nn with
  | zero =>
    intro j hj sl tu l5 hinv
    have hj : j = 5 := by omega
    subst hj
    have hm := hinv
    refine ax_iload (pc := 31) dX5_best_31 rfl ?_
    refine ax_iconst (pc := 33) (v := nI 5) dX5_best_33 (by decide) ?_
    refine ax_icmpge (pc := 34) (tgt := 84) dX5_best_34 (by decide) (fun _ => ?_) (fun q => absurd (by decide) q)
    refine ax_aload_n (pc := 84) dX5_best_84 rfl ?_
    refine ax_iload_n (pc := 85) dX5_best_85 rfl ?_
    refine bx_ptold gX5_75 dX5_best_86 ?_
    refine ax_iload_n (pc := 89) dX5_best_89 rfl ?_
    refine ax_iret (pc := 90) dX5_best_90 rfl ?_
    exact ⟨_, rfl, rfl, MB.mp (s := u_ask s _) hm.ask⟩
  | succ nn ih =>
    intro j hj sl tu l5 hinv
    have hlt : j < 5 := by omega
    have hm := hinv
    obtain ⟨⟨m1, f2, m2, mf⟩, ⟨m3, f4, m4, mg⟩, ⟨so, fl, dr, md⟩, mn, msl, mk, mc, ⟨wo, mw⟩⟩ := id hm
    have hn := hm.now
    have h40 := hv.2.2.2.1.1
    obtain ⟨d5, d6, d7, dR⟩ := id md
    obtain ⟨hD0, hW0, hfi⟩ := hv.w hd0
    have hWt : sp_W0 (s_D s).1 (s_t s) := hW0
    refine ax_iload (pc := 31) dX5_best_31 rfl ?_
    refine ax_iconst (pc := 33) (v := nI 5) dX5_best_33 (by decide) ?_
    refine ax_icmpge (pc := 34) (tgt := 84) dX5_best_34 (by decide) (fun q => absurd q (by rw [nI_leI (by decide) (by omega)]; omega)) (fun _ => ?_)
    refine ax_aload_n (pc := 37) dX5_best_37 rfl ?_
    refine ax_eVv0 (pc := 38) vX5_164 dX5_best_38 (by decide) (by exact hM_0) (Nat.le_of_ble_eq_true rfl) (c_X5_try _ h s nd sl tu hn h40) ?_
    refine ax_aload_n (pc := 41) dX5_best_41 rfl ?_
    refine ax_getf (pc := 42) fX5_41 dX5_best_42 (by exact hM_0) rfl ?_
    refine ax_sipush (pc := 45) (v := nI 985) dX5_best_45 (by decide) ?_
    refine ax_iload (pc := 48) dX5_best_48 rfl ?_
    refine bx_slst dX5_best_50 (by decide) (s6_u1 (b := 984)) ?_
    refine ax_aload_n (pc := 51) dX5_best_51 rfl ?_
    refine ax_iload_n (pc := 52) dX5_best_52 rfl ?_
    refine ax_cVi1 (pc := 53) vX5_167 dX5_best_53 (by decide) (by exact hM_0) (Nat.le_of_ble_eq_true rfl) (c_X5_many _ h (xs s nd) sl (s_D s) so fl dr md (s_fi s) ((s_t s).1, j, (s_t s).2.2.1, (s_t s).2.2.2.1, 0) hD0 ⟨hWt.1, by show j ≤ 4; omega, hWt.2.2⟩ hfi rfl rfl m (by omega) _ _) (fun v1 h1 hq => ?_)
    obtain ⟨rfl, g1, tu1, rfl⟩ := hq
    refine ax_istore5 (pc := 56) dX5_best_56 rfl (by decide) ?_
    refine ax_iload (pc := 58) dX5_best_58 rfl ?_
    refine ax_iload_n (pc := 60) dX5_best_60 rfl ?_
    refine ax_icmple (pc := 61) (tgt := 69) dX5_best_61 (by decide) (fun c61 => ?_) (fun c61 => ?_)
    · refine ax_iload_n (pc := 69) dX5_best_69 rfl ?_
      refine ax_istore2 (pc := 70) dX5_best_70 rfl (by decide) ?_
      refine ax_iload_n (pc := 71) dX5_best_71 rfl ?_
      refine ax_iload (pc := 72) dX5_best_72 rfl ?_
      refine ax_eSi2 (pc := 74) sX5_106 dX5_best_74 (by decide) (Nat.le_of_ble_eq_true rfl) (c_X5_larger _ _ _ _) ?_
      refine ax_istore3 (pc := 77) dX5_best_77 rfl (by decide) ?_
      refine ax_inc4p1 (pc := 78) dX5_best_78 rfl (by decide) ?_
      refine ax_goto (pc := 81) (tgt := 31) dX5_best_81 (by decide) ?_
      rw [nI_1]
      have ih2 := fun l5 => ih (j + 1) (by omega) (s6 sl 984 (wi (s_D s) (s_fi s) ((s_t s).1, j, (s_t s).2.2.1, (s_t s).2.2.2.1, 0) m) (s_fi s) g1) tu1 l5 (hm.t hv)
      first
        | (rw [sp_mx_f (g := sp_hg s m) (j := j) (Int32.not_lt.mpr c61)] at ih2; rw [if_neg (Int32.not_lt.mpr c61)]; exact ih2 _)
        | (rw [sp_mx_t (g := sp_hg s m) (j := j) (Int32.not_le.mp c61)] at ih2; rw [if_pos (Int32.not_le.mp c61)]; exact ih2 _)
    · refine ax_iload (pc := 64) dX5_best_64 rfl ?_
      refine ax_goto (pc := 66) (tgt := 70) dX5_best_66 (by decide) ?_
      refine ax_istore2 (pc := 70) dX5_best_70 rfl (by decide) ?_
      refine ax_iload_n (pc := 71) dX5_best_71 rfl ?_
      refine ax_iload (pc := 72) dX5_best_72 rfl ?_
      refine ax_eSi2 (pc := 74) sX5_106 dX5_best_74 (by decide) (Nat.le_of_ble_eq_true rfl) (c_X5_larger _ _ _ _) ?_
      refine ax_istore3 (pc := 77) dX5_best_77 rfl (by decide) ?_
      refine ax_inc4p1 (pc := 78) dX5_best_78 rfl (by decide) ?_
      refine ax_goto (pc := 81) (tgt := 31) dX5_best_81 (by decide) ?_
      rw [nI_1]
      have ih2 := fun l5 => ih (j + 1) (by omega) (s6 sl 984 (wi (s_D s) (s_fi s) ((s_t s).1, j, (s_t s).2.2.1, (s_t s).2.2.2.1, 0) m) (s_fi s) g1) tu1 l5 (hm.t hv)
      first
        | (rw [sp_mx_f (g := sp_hg s m) (j := j) (Int32.not_lt.mpr c61)] at ih2; rw [if_neg (Int32.not_lt.mpr c61)]; exact ih2 _)
        | (rw [sp_mx_t (g := sp_hg s m) (j := j) (Int32.not_le.mp c61)] at ih2; rw [if_pos (Int32.not_le.mp c61)]; exact ih2 _)
set_option maxHeartbeats 4000000 in
set_option maxRecDepth 100000 in
theorem c_X5_best (dom : List Nat) (h : mh_H) (s : sg) (nd : Int32) (sl : Nat → Int32) (tu : Int32) (n : Int32) (hm : MB s h sl) (hv : IV s) : Mt mX5_best dom 5 [.ref 0, .int n] (hM h (xs s nd) sl tu) (mx_Ri (fun v' h' => v' = (sp_best s n).1 ∧ MP (sp_best s n).2 h')) := by
  refine Mt.of (L := [some (.ref 0), some (.int n), none, none, none, none]) rfl (Nat.le_of_ble_eq_true rfl) rfl ?_
  obtain ⟨⟨m1, f2, m2, mf⟩, ⟨m3, f4, m4, mg⟩, ⟨so, fl, dr, md⟩, mn, msl, mk, mc, ⟨wo, mw⟩⟩ := id hm
  have hn := hm.now
  have h40 := hv.2.2.2.1.1
  obtain ⟨d5, d6, d7, dR⟩ := id md
  refine ax_iload_n (pc := 0) dX5_best_0 rfl ?_
  refine ax_i2l (pc := 1) dX5_best_1 ?_
  refine ax_lconst (pc := 2) (v := 1) dX5_best_2 (by decide) ?_
  refine ax_ldc2 (pc := 3) dX5_best_3 tw_887 ?_
  refine ax_eSi3 (pc := 6) sX5_63 dX5_best_6 (by decide) (Nat.le_of_ble_eq_true rfl) (c_X5_in _ _ n 1 20 _ _ (by decide) (by decide)) ?_
  refine ax_ifneB (pc := 9) (tgt := 14) dX5_best_9 (by decide) (fun c9a => ?_) (fun c9a => ?_)
  · refine ax_aload_n (pc := 14) dX5_best_14 rfl ?_
    refine ax_getf (pc := 15) fX5_97 dX5_best_15 (by exact hM_0) rfl ?_
    refine ax_ifne (pc := 18) (tgt := 24) dX5_best_18 (by decide) (fun c18 => ?_) (fun c18 => ?_)
    · obtain ⟨m, hm2, rfl⟩ := nI_of2 (n := 20) (M := 20) rfl (Int32.not_lt.mpr (Int32.le_trans (by decide) c9a.1)) c9a.2
      have hd0 : ¬ (s_D s).1 = 0 := fun q => c18 (by show nI (s_D s).1 = 0; rw [q]; rfl)
      obtain ⟨hD0, hW0, hfi⟩ := hv.w hd0
      have hWt : sp_W0 (s_D s).1 (s_t s) := hW0
      refine ax_iconst (pc := 24) (v := 0) dX5_best_24 (by decide) ?_
      refine ax_istore2 (pc := 25) dX5_best_25 rfl (by decide) ?_
      refine ax_iconst (pc := 26) (v := -1) dX5_best_26 (by decide) ?_
      refine ax_istore3 (pc := 27) dX5_best_27 rfl (by decide) ?_
      refine ax_iconst (pc := 28) (v := nI 0) dX5_best_28 (by decide) ?_
      refine ax_istore4 (pc := 29) dX5_best_29 rfl (by decide) ?_
      unfold sp_best
      rw [if_neg (not_not_intro c9a), if_neg hd0, ni_cl (by omega)]
      exact l_X5_best dom h s nd hv hd0 m hm2 5 0 (by omega) sl tu none hm
    · refine ax_bipush (pc := 21) (v := -4) dX5_best_21 (by decide) ?_
      refine ax_iret (pc := 23) dX5_best_23 rfl ?_
      exact fin_m (by unfold sp_best; rw [if_neg (not_not_intro c9a), if_pos ((nI_eq (by have := hv.2.2.1.1; omega) (show 0 < 2 ^ 31 by decide)).mp c18)]) hm.mp
  · refine ax_iconst (pc := 12) (v := -1) dX5_best_12 (by decide) ?_
    refine ax_iret (pc := 13) dX5_best_13 rfl ?_
    exact fin_m (by unfold sp_best; exact if_pos c9a) hm.mp
set_option maxHeartbeats 4000000 in
set_option maxRecDepth 100000 in
theorem l_X5_fishes (dom : List Nat) (h : mh_H) (s : sg) (nd : Int32) (hv : IV s) (hd0 : ¬ (s_D s).1 = 0) (m : Nat) (hm2 : m ≤ 20) : ∀ (nn j : Nat), j + nn = (s_D s).1 → ∀ (sl : Nat → Int32) (tu : Int32) (l5 : Option Value), MB s h sl → At mX5_fishes dom 5 40 [some (.ref 0), some (.int (nI m)), some (.int (sp_mx (-9) (nI (s_wi s m).2.2.2.2) (sp_fg s m) j).2), some (.int (sp_mx (-9) (nI (s_wi s m).2.2.2.2) (sp_fg s m) j).1), some (.int (nI j)), l5] [] (hM h (xs s nd) sl tu) (mx_Ri (fun v' h' => (v' = (if (sp_mx (-9) (nI (s_wi s m).2.2.2.2) (sp_fg s m) (s_D s).1).1 = -9 then ((-9 : Int32), s) else ((sp_mx (-9) (nI (s_wi s m).2.2.2.2) (sp_fg s m) (s_D s).1).1, u_ask s (sp_mx (-9) (nI (s_wi s m).2.2.2.2) (sp_fg s m) (s_D s).1).2)).1 ∧ MP (if (sp_mx (-9) (nI (s_wi s m).2.2.2.2) (sp_fg s m) (s_D s).1).1 = -9 then ((-9 : Int32), s) else ((sp_mx (-9) (nI (s_wi s m).2.2.2.2) (sp_fg s m) (s_D s).1).1, u_ask s (sp_mx (-9) (nI (s_wi s m).2.2.2.2) (sp_fg s m) (s_D s).1).2)).2 h'))) := by
  intro nn
  induction nn with
  | zero =>
    intro j hj sl tu l5 hinv
    have hj : j = (s_D s).1 := by omega
    subst hj
    have hm := hinv
    have h9 := hv.2.2.1.1
    refine ax_iload (pc := 40) dX5_fishes_40 rfl ?_
    refine ax_aload_n (pc := 42) dX5_fishes_42 rfl ?_
    refine ax_getf (pc := 43) fX5_97 dX5_fishes_43 (by exact hM_0) rfl ?_
    refine ax_icmpge (pc := 46) (tgt := 101) dX5_fishes_46 (by decide) (fun _ => ?_) (fun q => absurd (nI_le (Nat.le_refl _) (by omega)) q)
    refine ax_aload_n (pc := 101) dX5_fishes_101 rfl ?_
    refine ax_iload_n (pc := 102) dX5_fishes_102 rfl ?_
    refine ax_ifge (pc := 103) (tgt := 113) dX5_fishes_103 (by decide) (fun c103 => ?_) (fun c103 => ?_)
    · refine ax_iload_n (pc := 113) dX5_fishes_113 rfl ?_
      refine bx_ptold gX5_75 dX5_fishes_114 ?_
      refine ax_iload_n (pc := 117) dX5_fishes_117 rfl ?_
      refine ax_iret (pc := 118) dX5_fishes_118 rfl ?_
      first
        | (have cz := (mx_lt (m0 := nI (s_wi s m).2.2.2.2) (g := sp_fg s m) (n := (s_D s).1) (by omega)).mp (Int32.not_le.mp c103); rw [if_pos cz]; exact ⟨_, rfl, cz, MB.mp (s := s) hm⟩)
        | (have cz : ¬ (sp_mx (-9) (nI (s_wi s m).2.2.2.2) (sp_fg s m) (s_D s).1).1 = -9 := fun q => absurd c103 (by rw [q]; decide); rw [if_neg cz]; exact ⟨_, rfl, rfl, MB.mp (s := u_ask s _) hm.ask⟩)
    · refine ax_aload_n (pc := 106) dX5_fishes_106 rfl ?_
      refine ax_getf (pc := 107) fX5_75 dX5_fishes_107 (by exact hM_0) rfl ?_
      refine ax_goto (pc := 110) (tgt := 114) dX5_fishes_110 (by decide) ?_
      refine bx_ptold gX5_75 dX5_fishes_114 ?_
      refine ax_iload_n (pc := 117) dX5_fishes_117 rfl ?_
      refine ax_iret (pc := 118) dX5_fishes_118 rfl ?_
      first
        | (have cz := (mx_lt (m0 := nI (s_wi s m).2.2.2.2) (g := sp_fg s m) (n := (s_D s).1) (by omega)).mp (Int32.not_le.mp c103); rw [if_pos cz]; exact ⟨_, rfl, cz, MB.mp (s := s) hm⟩)
        | (have cz : ¬ (sp_mx (-9) (nI (s_wi s m).2.2.2.2) (sp_fg s m) (s_D s).1).1 = -9 := fun q => absurd c103 (by rw [q]; decide); rw [if_neg cz]; exact ⟨_, rfl, rfl, MB.mp (s := u_ask s _) hm.ask⟩)
  | succ nn ih =>
    intro j hj sl tu l5 hinv
    have hlt : j < (s_D s).1 := by omega
    have hm := hinv
    obtain ⟨⟨m1, f2, m2, mf⟩, ⟨m3, f4, m4, mg⟩, ⟨so, fl, dr, md⟩, mn, msl, mk, mc, ⟨wo, mw⟩⟩ := id hm
    have hn := hm.now
    have h40 := hv.2.2.2.1.1
    obtain ⟨d5, d6, d7, dR⟩ := id md
    obtain ⟨hD0, hW0, hfi⟩ := hv.w hd0
    have hWt : sp_W0 (s_D s).1 (s_t s) := hW0
    have h9 := hv.2.2.1.1
    refine ax_iload (pc := 40) dX5_fishes_40 rfl ?_
    refine ax_aload_n (pc := 42) dX5_fishes_42 rfl ?_
    refine ax_getf (pc := 43) fX5_97 dX5_fishes_43 (by exact hM_0) rfl ?_
    refine ax_icmpge (pc := 46) (tgt := 101) dX5_fishes_46 (by decide) (fun q => absurd q (nI_ge hlt (by omega))) (fun _ => ?_)
    refine ax_aload_n (pc := 49) dX5_fishes_49 rfl ?_
    refine ax_eVv0 (pc := 50) vX5_164 dX5_fishes_50 (by decide) (by exact hM_0) (Nat.le_of_ble_eq_true rfl) (c_X5_try _ h s nd sl tu hn h40) ?_
    refine ax_aload_n (pc := 53) dX5_fishes_53 rfl ?_
    refine ax_getf (pc := 54) fX5_41 dX5_fishes_54 (by exact hM_0) rfl ?_
    refine ax_sipush (pc := 57) (v := nI 989) dX5_fishes_57 (by decide) ?_
    refine ax_dup2 (pc := 60) dX5_fishes_60 rfl rfl ?_
    refine bx_slld dX5_fishes_61 (by decide) (s6_5 (b := 984)) ?_
    refine ax_iconst (pc := 62) (v := 1) dX5_fishes_62 (by decide) ?_
    refine ax_iload (pc := 63) dX5_fishes_63 rfl ?_
    refine ax_ishl (pc := 65) dX5_fishes_65 ?_
    refine ax_ior (pc := 66) dX5_fishes_66 ?_
    refine At.ti (show nI (s_fi s) ||| (1 <<< (nI j &&& 31)) = nI (s_fi s ||| 2 ^ j) by rw [ni_shl1 (by omega), ni_or]) ?_
    refine bx_slst dX5_fishes_67 (by decide) (s6_u5 (b := 984)) ?_
    refine ax_aload_n (pc := 68) dX5_fishes_68 rfl ?_
    refine ax_iload_n (pc := 69) dX5_fishes_69 rfl ?_
    refine ax_cVi1 (pc := 70) vX5_167 dX5_fishes_70 (by decide) (by exact hM_0) (Nat.le_of_ble_eq_true rfl) (c_X5_many _ h (xs s nd) sl (s_D s) so fl dr md (s_fi s ||| 2 ^ j) (s_t s) hD0 hWt (or_lt hfi (by omega)) rfl rfl m (by omega) _ _) (fun v1 h1 hq => ?_)
    obtain ⟨rfl, g1, tu1, rfl⟩ := hq
    refine ax_istore5 (pc := 73) dX5_fishes_73 rfl (by decide) ?_
    refine ax_iload (pc := 75) dX5_fishes_75 rfl ?_
    refine ax_iload_n (pc := 77) dX5_fishes_77 rfl ?_
    refine ax_icmple (pc := 78) (tgt := 86) dX5_fishes_78 (by decide) (fun c78 => ?_) (fun c78 => ?_)
    · refine ax_iload_n (pc := 86) dX5_fishes_86 rfl ?_
      refine ax_istore3 (pc := 87) dX5_fishes_87 rfl (by decide) ?_
      refine ax_iload_n (pc := 88) dX5_fishes_88 rfl ?_
      refine ax_iload (pc := 89) dX5_fishes_89 rfl ?_
      refine ax_eSi2 (pc := 91) sX5_106 dX5_fishes_91 (by decide) (Nat.le_of_ble_eq_true rfl) (c_X5_larger _ _ _ _) ?_
      refine ax_istore2 (pc := 94) dX5_fishes_94 rfl (by decide) ?_
      refine ax_inc4p1 (pc := 95) dX5_fishes_95 rfl (by decide) ?_
      refine ax_goto (pc := 98) (tgt := 40) dX5_fishes_98 (by decide) ?_
      rw [nI_1]
      have ih2 := fun l5 => ih (j + 1) (by omega) (s6 sl 984 (wi (s_D s) (s_fi s ||| 2 ^ j) (s_t s) m) (s_fi s ||| 2 ^ j) g1) tu1 l5 (hm.t hv)
      first
        | (rw [sp_mx_f (g := sp_fg s m) (j := j) (Int32.not_lt.mpr c78)] at ih2; rw [if_neg (Int32.not_lt.mpr c78)]; exact ih2 _)
        | (rw [sp_mx_t (g := sp_fg s m) (j := j) (Int32.not_le.mp c78)] at ih2; rw [if_pos (Int32.not_le.mp c78)]; exact ih2 _)
    · refine ax_iload (pc := 81) dX5_fishes_81 rfl ?_
      refine ax_goto (pc := 83) (tgt := 87) dX5_fishes_83 (by decide) ?_
      refine ax_istore3 (pc := 87) dX5_fishes_87 rfl (by decide) ?_
      refine ax_iload_n (pc := 88) dX5_fishes_88 rfl ?_
      refine ax_iload (pc := 89) dX5_fishes_89 rfl ?_
      refine ax_eSi2 (pc := 91) sX5_106 dX5_fishes_91 (by decide) (Nat.le_of_ble_eq_true rfl) (c_X5_larger _ _ _ _) ?_
      refine ax_istore2 (pc := 94) dX5_fishes_94 rfl (by decide) ?_
      refine ax_inc4p1 (pc := 95) dX5_fishes_95 rfl (by decide) ?_
      refine ax_goto (pc := 98) (tgt := 40) dX5_fishes_98 (by decide) ?_
      rw [nI_1]
      have ih2 := fun l5 => ih (j + 1) (by omega) (s6 sl 984 (wi (s_D s) (s_fi s ||| 2 ^ j) (s_t s) m) (s_fi s ||| 2 ^ j) g1) tu1 l5 (hm.t hv)
      first
        | (rw [sp_mx_f (g := sp_fg s m) (j := j) (Int32.not_lt.mpr c78)] at ih2; rw [if_neg (Int32.not_lt.mpr c78)]; exact ih2 _)
        | (rw [sp_mx_t (g := sp_fg s m) (j := j) (Int32.not_le.mp c78)] at ih2; rw [if_pos (Int32.not_le.mp c78)]; exact ih2 _)
set_option maxHeartbeats 4000000 in
set_option maxRecDepth 100000 in
theorem c_X5_fishes (dom : List Nat) (h : mh_H) (s : sg) (nd : Int32) (sl : Nat → Int32) (tu : Int32) (n : Int32) (hm : MB s h sl) (hv : IV s) : Mt mX5_fishes dom 5 [.ref 0, .int n] (hM h (xs s nd) sl tu) (mx_Ri (fun v' h' => v' = (sp_fishes s n).1 ∧ MP (sp_fishes s n).2 h')) := by
  refine Mt.of (L := [some (.ref 0), some (.int n), none, none, none, none]) rfl (Nat.le_of_ble_eq_true rfl) rfl ?_
  obtain ⟨⟨m1, f2, m2, mf⟩, ⟨m3, f4, m4, mg⟩, ⟨so, fl, dr, md⟩, mn, msl, mk, mc, ⟨wo, mw⟩⟩ := id hm
  have hn := hm.now
  have h40 := hv.2.2.2.1.1
  obtain ⟨d5, d6, d7, dR⟩ := id md
  refine ax_iload_n (pc := 0) dX5_fishes_0 rfl ?_
  refine ax_i2l (pc := 1) dX5_fishes_1 ?_
  refine ax_lconst (pc := 2) (v := 1) dX5_fishes_2 (by decide) ?_
  refine ax_ldc2 (pc := 3) dX5_fishes_3 tw_887 ?_
  refine ax_eSi3 (pc := 6) sX5_63 dX5_fishes_6 (by decide) (Nat.le_of_ble_eq_true rfl) (c_X5_in _ _ n 1 20 _ _ (by decide) (by decide)) ?_
  refine ax_ifneB (pc := 9) (tgt := 14) dX5_fishes_9 (by decide) (fun c9a => ?_) (fun c9a => ?_)
  · refine ax_aload_n (pc := 14) dX5_fishes_14 rfl ?_
    refine ax_getf (pc := 15) fX5_97 dX5_fishes_15 (by exact hM_0) rfl ?_
    refine ax_ifne (pc := 18) (tgt := 24) dX5_fishes_18 (by decide) (fun c18 => ?_) (fun c18 => ?_)
    · obtain ⟨m, hm2, rfl⟩ := nI_of2 (n := 20) (M := 20) rfl (Int32.not_lt.mpr (Int32.le_trans (by decide) c9a.1)) c9a.2
      have hd0 : ¬ (s_D s).1 = 0 := fun q => c18 (by show nI (s_D s).1 = 0; rw [q]; rfl)
      obtain ⟨hD0, hW0, hfi⟩ := hv.w hd0
      have hWt : sp_W0 (s_D s).1 (s_t s) := hW0
      refine ax_aload_n (pc := 24) dX5_fishes_24 rfl ?_
      refine ax_eVv0 (pc := 25) vX5_164 dX5_fishes_25 (by decide) (by exact hM_0) (Nat.le_of_ble_eq_true rfl) (c_X5_try _ h s nd sl tu hn h40) ?_
      refine ax_aload_n (pc := 28) dX5_fishes_28 rfl ?_
      refine ax_iload_n (pc := 29) dX5_fishes_29 rfl ?_
      refine ax_cVi1 (pc := 30) vX5_167 dX5_fishes_30 (by decide) (by exact hM_0) (Nat.le_of_ble_eq_true rfl) (c_X5_many _ h (xs s nd) sl (s_D s) so fl dr md (s_fi s) (s_t s) hD0 hWt hfi rfl rfl m (by omega) _ _) (fun v1 h1 hq => ?_)
      obtain ⟨rfl, g1, tu1, rfl⟩ := hq
      refine ax_istore2 (pc := 33) dX5_fishes_33 rfl (by decide) ?_
      refine ax_bipush (pc := 34) (v := -9) dX5_fishes_34 (by decide) ?_
      refine ax_istore3 (pc := 36) dX5_fishes_36 rfl (by decide) ?_
      refine ax_iconst (pc := 37) (v := nI 0) dX5_fishes_37 (by decide) ?_
      refine ax_istore4 (pc := 38) dX5_fishes_38 rfl (by decide) ?_
      unfold sp_fishes
      rw [if_neg (not_not_intro c9a), if_neg hd0, ni_cl (by omega)]
      exact l_X5_fishes dom h s nd hv hd0 m hm2 (s_D s).1 0 (by omega) _ tu1 none (hm.t hv)
    · refine ax_bipush (pc := 21) (v := -4) dX5_fishes_21 (by decide) ?_
      refine ax_iret (pc := 23) dX5_fishes_23 rfl ?_
      exact fin_m (by unfold sp_fishes; rw [if_neg (not_not_intro c9a), if_pos ((nI_eq (by have := hv.2.2.1.1; omega) (show 0 < 2 ^ 31 by decide)).mp c18)]) hm.mp
  · refine ax_iconst (pc := 12) (v := -1) dX5_fishes_12 (by decide) ?_
    refine ax_iret (pc := 13) dX5_fishes_13 rfl ?_
    exact fin_m (by unfold sp_fishes; exact if_pos c9a) hm.mp
def bkF (s : sg) (f : Nat → Int32) (r n : Nat) : Nat → Int32 := fun i => if 40 * r ≤ i ∧ i < 40 * r + n then nI (sp_wf (s_D s) (s_fi s) (s_wi s (i - 40 * r))) else bz f r 40 i
theorem bkF_0 {s : sg} {f : Nat → Int32} {r : Nat} : bkF s f r 0 = bz f r 40 := by
  funext i
  exact if_neg (by omega)
theorem bkF_s {s : sg} {f : Nat → Int32} {r n : Nat} : upd (bkF s f r n) (40 * r + n) (nI (sp_wf (s_D s) (s_fi s) (s_wi s n))) = bkF s f r (n + 1) := by
  funext i
  unfold upd bkF
  by_cases h : i = 40 * r + n
  · rw [if_pos h, if_pos (by omega), show i - 40 * r = n by omega]
  · rw [if_neg h]
    by_cases h2 : 40 * r ≤ i ∧ i < 40 * r + n
    · rw [if_pos h2, if_pos (by omega)]
    · rw [if_neg h2, if_neg (by omega)]
/-- a row made anew, its first m numbers laid -/
theorem MB.made {s : sg} {h : mh_H} {sl f f' : Nat → Int32} {r m : Nat} {q : Nat → Int32} (hm : MB s h sl) (hv : IV s) (hr : r < 6) (hq : m ≤ 40) (hf : ∀ r, r < 6 → ∀ i, i < (s_rz s r).toNatClampNeg → f (40 * r + i) = s_rc s r i) (h1 : ∀ i, i < m → f' (40 * r + i) = q i) (h2 : ∀ i, i < 40 * r ∨ 40 * r + 40 ≤ i → f' i = f i) : MB (u_rows s (va_fn (s_rz s) r (nI m)) (va_fn (s_rc s) r q)) (mh_up (mh_up h 1 (mh_ia 0 6 (upd (s_rz s) r (nI m)))) 2 (mh_ia 0 240 f')) sl := by
  refine MB.rows hm (fun k h1 h2 => (mh_up_n h2).trans (mh_up_n h1)) ((mh_up_n (by decide)).trans mh_up_s) mh_up_s ?_
  intro r' hr' i hi
  by_cases h : r' = r
  · subst h
    rw [va_fn_s] at hi
    rw [ni_cl (by omega)] at hi
    rw [va_fn_s]
    exact h1 i hi
  · rw [va_fn_n h] at hi
    rw [va_fn_n h]
    have := rz_le hv hr'
    rw [h2 _ (by omega)]
    exact hf r' hr' i hi
set_option maxHeartbeats 4000000 in
set_option maxRecDepth 100000 in
theorem l_X5_book (dom : List Nat) (h : mh_H) (s : sg) (nd : Int32) (sl : Nat → Int32) (hv : IV s) (hd0 : ¬ (s_D s).1 = 0) (so fl dr f2 : Nat → Int32) (md : dayH (s_D s) so fl dr h) (m r : Nat) (hr : r < 6) (hm2 : m ≤ 20) : ∀ (nn j : Nat), j + nn = m → ∀ (g : Int32), At mX5_book dom 4 53 [some (.ref 0), some (.int (nI m)), some (.int (nI r)), some (.int (nI j))] [] (hM (mh_up (mh_up h 1 (mh_ia 0 6 (upd (s_rz s) r (nI m)))) 2 (mh_ia 0 240 (bkF s f2 r j))) (xs s nd) (s6 sl 984 (s_wi s j) (s_fi s) g) (nI (sp_zc s j))) (mx_Ri (fun v' h' => v' = nI (sp_zc s m) ∧ ∃ g, h' = (hM (mh_up (mh_up h 1 (mh_ia 0 6 (upd (s_rz s) r (nI m)))) 2 (mh_ia 0 240 (bkF s f2 r m))) (xs s nd) (s6 sl 984 (s_wi s m) (s_fi s) g) (nI (sp_zc s m))))) := by
  intro nn
  induction nn with
  | zero =>
    intro j hj g
    have hj : j = m := by omega
    subst hj
    refine ax_iload_n (pc := 53) dX5_book_53 rfl ?_
    refine ax_iload_n (pc := 54) dX5_book_54 rfl ?_
    refine ax_icmpge (pc := 55) (tgt := 83) dX5_book_55 (by decide) (fun _ => ?_) (fun q => absurd (nI_le (Nat.le_refl _) (by omega)) q)
    refine ax_aload_n (pc := 83) dX5_book_83 rfl ?_
    refine ax_getf (pc := 84) fX5_147 dX5_book_84 (by exact hM_0) rfl ?_
    refine ax_iret (pc := 87) dX5_book_87 rfl ?_
    exact ⟨_, rfl, rfl, _, rfl⟩
  | succ nn ih =>
    intro j hj g
    have hlt : j < m := by omega
    obtain ⟨hD0, hW0, hfi⟩ := hv.w hd0
    have hWt : sp_W0 (s_D s).1 (s_t s) := hW0
    refine ax_iload_n (pc := 53) dX5_book_53 rfl ?_
    refine ax_iload_n (pc := 54) dX5_book_54 rfl ?_
    refine ax_icmpge (pc := 55) (tgt := 83) dX5_book_55 (by decide) (fun q => absurd q (nI_ge hlt (by omega))) (fun _ => ?_)
    refine ax_aload_n (pc := 58) dX5_book_58 rfl ?_
    refine ax_getf (pc := 59) fX5_13 dX5_book_59 (by exact hM_0) rfl ?_
    refine ax_bipush (pc := 62) (v := nI 40) dX5_book_62 (by decide) ?_
    refine ax_iload_n (pc := 64) dX5_book_64 rfl ?_
    refine bx_imul dX5_book_65  ?_
    refine ax_iload_n (pc := 66) dX5_book_66 rfl ?_
    refine bx_iadd dX5_book_67  ?_
    refine ax_aload_n (pc := 68) dX5_book_68 rfl ?_
    refine ax_sipush (pc := 69) (v := nI 984) dX5_book_69 (by decide) ?_
    refine ax_iconst (pc := 72) (v := 0) dX5_book_72 (by decide) ?_
    refine ax_eVi2 (pc := 73) vX5_156 dX5_book_73 (by decide) (by exact hM_0) (Nat.le_of_ble_eq_true rfl) (c_X5_steps _ _ (xs s nd) sl _ (s_D s) so fl dr (dayH_k (fun k hk => (mh_up_n (by omega)).trans (mh_up_n (by omega))) md) 984 (s_fi s) (s_wi s j) g (by decide) hD0 (wi_ok hD0 hWt j) hfi rfl) ?_
    refine At.hp (show hM _ _ _ (nI (sp_zc s j) + _) = hM _ _ _ (nI (sp_zc s (j + 1))) by rw [zc_s]) ?_
    refine bx_iastoreu dX5_book_76 (by decide) (by omega) (by decide) bkF_s ?_
    refine ax_inc3p1 (pc := 77) dX5_book_77 rfl (by decide) ?_
    refine ax_goto (pc := 80) (tgt := 53) dX5_book_80 (by decide) ?_
    rw [nI_1]
    exact ih (j + 1) (by omega) _
set_option maxHeartbeats 4000000 in
set_option maxRecDepth 100000 in
theorem c_X5_book (dom : List Nat) (h : mh_H) (s : sg) (nd : Int32) (sl : Nat → Int32) (tu : Int32) (n r : Int32) (hm : MB s h sl) (hv : IV s) : Mt mX5_book dom 4 [.ref 0, .int n, .int r] (hM h (xs s nd) sl tu) (mx_Ri (fun v' h' => v' = (sp_book s n r).1 ∧ MP (sp_book s n r).2 h')) := by
  refine Mt.of (L := [some (.ref 0), some (.int n), some (.int r), none]) rfl (Nat.le_of_ble_eq_true rfl) rfl ?_
  obtain ⟨⟨m1, f2, m2, mf⟩, ⟨m3, f4, m4, mg⟩, ⟨so, fl, dr, md⟩, mn, msl, mk, mc, ⟨wo, mw⟩⟩ := id hm
  have hn := hm.now
  have h40 := hv.2.2.2.1.1
  obtain ⟨d5, d6, d7, dR⟩ := id md
  refine ax_iload_n (pc := 0) dX5_book_0 rfl ?_
  refine ax_i2l (pc := 1) dX5_book_1 ?_
  refine ax_lconst (pc := 2) (v := 1) dX5_book_2 (by decide) ?_
  refine ax_ldc2 (pc := 3) dX5_book_3 tw_887 ?_
  refine ax_eSi3 (pc := 6) sX5_63 dX5_book_6 (by decide) (Nat.le_of_ble_eq_true rfl) (c_X5_in _ _ n 1 20 _ _ (by decide) (by decide)) ?_
  refine ax_ifeqB (pc := 9) (tgt := 24) dX5_book_9 (by decide) (fun c9a => ?_) (fun c9a => ?_)
  · refine ax_iconst (pc := 24) (v := -1) dX5_book_24 (by decide) ?_
    refine ax_iret (pc := 25) dX5_book_25 rfl ?_
    exact fin_m (by unfold sp_book; first | exact if_pos (Or.inl c9a) | exact if_pos (Or.inr c21)) hm.mp
  · refine ax_iload_n (pc := 12) dX5_book_12 rfl ?_
    refine ax_i2l (pc := 13) dX5_book_13 ?_
    refine ax_lconst (pc := 14) (v := 0) dX5_book_14 (by decide) ?_
    refine ax_ldc2 (pc := 15) dX5_book_15 tw_707 ?_
    refine ax_eSi3 (pc := 18) sX5_63 dX5_book_18 (by decide) (Nat.le_of_ble_eq_true rfl) (c_X5_in _ _ r 0 5 _ _ (by decide) (by decide)) ?_
    refine ax_ifneB (pc := 21) (tgt := 26) dX5_book_21 (by decide) (fun c21 => ?_) (fun c21 => ?_)
    · refine ax_aload_n (pc := 26) dX5_book_26 rfl ?_
      refine ax_getf (pc := 27) fX5_97 dX5_book_27 (by exact hM_0) rfl ?_
      refine ax_ifne (pc := 30) (tgt := 36) dX5_book_30 (by decide) (fun c30 => ?_) (fun c30 => ?_)
      · obtain ⟨m, hm2, rfl⟩ := nI_of2 (n := 20) (M := 20) rfl (Int32.not_lt.mpr (Int32.le_trans (by decide) c9a.1)) c9a.2
        have hd0 : ¬ (s_D s).1 = 0 := fun q => c30 (by show nI (s_D s).1 = 0; rw [q]; rfl)
        obtain ⟨hD0, hW0, hfi⟩ := hv.w hd0
        have hWt : sp_W0 (s_D s).1 (s_t s) := hW0
        obtain ⟨q, hq, rfl⟩ := ix_5 c21
        refine ax_aload_n (pc := 36) dX5_book_36 rfl ?_
        refine ax_iload_n (pc := 37) dX5_book_37 rfl ?_
        refine ax_iload_n (pc := 38) dX5_book_38 rfl ?_
        refine ax_eVv2 (pc := 39) vX5_71 dX5_book_39 (by decide) (by exact hM_0) (Nat.le_of_ble_eq_true rfl) (c_X5_begins _ h (xs s nd) sl tu (s_rz s) f2 q (nI m) hq m1 m2) ?_
        refine ax_aload_n (pc := 42) dX5_book_42 rfl ?_
        refine ax_eVv0 (pc := 43) vX5_164 dX5_book_43 (by decide) (by exact hM_0) (Nat.le_of_ble_eq_true rfl) (c_X5_try _ _ s nd sl tu hn h40) ?_
        refine ax_aload_n (pc := 46) dX5_book_46 rfl ?_
        refine ax_iconst (pc := 47) (v := nI 0) dX5_book_47 (by decide) ?_
        refine bx_pturned gX5_147 dX5_book_48 ?_
        refine ax_iconst (pc := 51) (v := nI 0) dX5_book_51 (by decide) ?_
        refine ax_istore3 (pc := 52) dX5_book_52 rfl (by decide) ?_
        have K := l_X5_book dom h s nd sl hv hd0 so fl dr f2 md m q hq hm2 m 0 (by omega) (nI (s_w s).2.2.2.2)
        rw [bkF_0] at K
        refine At.mono ?_ K
        rintro r h1 ⟨v, rfl, rfl, g1, rfl⟩
        refine fin_m (by unfold sp_book; rw [if_neg (by rintro (z | z); exact z c9a; exact z c21), if_neg hd0, ni_cl (by omega), ni_cl (by omega)]) ?_
        exact MB.mp (s := u_rows s _ _) (MB.made (hm.t hv) hv hq (by omega) mf (fun i hi => (if_pos (by omega)).trans ((congrArg (fun z => nI (sp_wf (s_D s) (s_fi s) (s_wi s z))) (by omega)).trans (if_pos hi).symm)) (fun i hi => (if_neg (by omega)).trans (if_neg (by omega))))
      · refine ax_bipush (pc := 33) (v := -4) dX5_book_33 (by decide) ?_
        refine ax_iret (pc := 35) dX5_book_35 rfl ?_
        exact fin_m (by unfold sp_book; rw [if_neg (by rintro (z | z); exact z c9a; exact z c21), if_pos ((nI_eq (by have := hv.2.2.1.1; omega) (show 0 < 2 ^ 31 by decide)).mp c30)]) hm.mp
    · refine ax_iconst (pc := 24) (v := -1) dX5_book_24 (by decide) ?_
      refine ax_iret (pc := 25) dX5_book_25 rfl ?_
      exact fin_m (by unfold sp_book; first | exact if_pos (Or.inl c9a) | exact if_pos (Or.inr c21)) hm.mp
