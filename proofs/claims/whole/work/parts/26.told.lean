theorem Mt.mono {y : mt_I} {dom : List Nat} {d : Nat} {av : List Value} {h : mh_H} {Q Q' : Option Value → mh_H → Prop} (hq : ∀ r h', Q r h' → Q' r h') (K : Mt y dom d av h Q) : Mt y dom d av h Q' := by
  intro ad D dA l
  have K := K ad D dA l
  intro p e ha hc hk s m args below hf happ hpre hk2
  obtain ⟨t, o, h1, h2, h3, ⟨⟨⟨r, h', e1, e2, e3⟩, b4⟩, b5⟩⟩ := K p e ha hc hk s m args below hf happ hpre hk2
  exact ⟨t, o, h1, h2, h3, ⟨⟨⟨r, h', e1, hq r h' e2, e3⟩, b4⟩, b5⟩⟩
def sp_zt (z : Nat → Int32) (n : Nat) : Nat := sp_ct (fun r => decide (0 ≤ z r)) n
def sp_kt (kp : Nat → Option (List (Nat × Nat))) (n : Nat) : Nat := sp_ct (fun k => (kp k).isSome) n
def sp_cv (s : sg) (q : Nat) : Int32 := if q = 0 then nI (s_D s).1 else if q = 1 then nI (s_w s).1 else if q = 2 then nI (s_ds s).length else if q = 3 then nI (s_w s).2.1 else if q = 4 then nI (s_w s).2.2.1 else if q = 5 then nI (s_w s).2.2.2.2 else if q = 6 then bb (s_w s).2.2.2.1 else if q = 7 then nI (s_fi s) else if q = 8 then nI (sp_zt (s_rz s) 6) else if q = 9 then nI (sp_zt (s_tz s) 4) else if q = 10 then nI (sp_kt (s_kp s) 3) else if q = 11 then nI (sp_cn (s_D s).2.1 1 (s_D s).1) else nI (sp_cn (s_D s).2.1 3 (s_D s).1)
def sp_count (s : sg) (q : Int32) : Int32 × sg := if ¬ (0 ≤ q ∧ q ≤ 12) then (-1, s) else (sp_cv s q.toNatClampNeg, s)
def sp_findings (s : sg) (f : Int32) : Int32 × sg := if ¬ (1 ≤ f ∧ f ≤ 5) then (-1, s) else (s_fc s f.toNatClampNeg, s)
def dgA (s : sg) : Nat → Int64
  | 0 => 17
  | q + 1 => 31 * dgA s q + (sp_cv s q).toInt64
def dgI (s : sg) (k : Nat) (x : Int64) : Nat → Int64
  | 0 => x
  | q + 1 => 31 * dgI s k x q + (nI (sp_told s k q)).toInt64
def dgD (s : sg) (x : Int64) : Nat → Int64
  | 0 => x
  | k + 1 => dgI s k (dgD s x k) 6
def dgK (s : sg) (x : Int64) : Nat → Int64
  | 0 => x
  | k + 1 => 31 * dgK s x k + (kz (s_kp s k)).toInt64
def dgR (z : Nat → Int32) (c : Nat → Nat → Int32) (x : Int64) : Nat → Int64
  | 0 => x
  | r + 1 => sl_mix (31 * dgR z c x r + (z r).toInt64) (c r) (z r).toNatClampNeg
def sp_dig (s : sg) : Int64 := dgR (s_tz s) (s_tc s) (dgR (s_rz s) (s_rc s) (dgK s (dgD s (dgA s 13) (s_D s).1) 3) 6) 4
set_option maxHeartbeats 4000000 in
set_option maxRecDepth 100000 in
theorem c_X4_asked (dom : List Nat) (h : mh_H) (s : sg) (hc : CP s h) : Mt mX4_asked dom 0 [.ref 0] h (mx_Ri (fun v' h' => v' = ((s_ask s, s)).1 ∧ CP ((s_ask s, s)).2 h')) := by
  refine Mt.of (L := [some (.ref 0)]) rfl (Nat.le_of_ble_eq_true rfl) rfl ?_
  obtain ⟨c1, c2, c3, c4, c5, c6, c7, c8, c9⟩ := id hc
  refine ax_aload_n (pc := 0) dX4_asked_0 rfl ?_
  refine ax_getf (pc := 1) fX4_53 dX4_asked_1 (by exact c1.1) rfl ?_
  refine ax_iret (pc := 4) dX4_asked_4 rfl ?_
  exact fin_i rfl hc
set_option maxHeartbeats 4000000 in
set_option maxRecDepth 100000 in
theorem c_X4_finding (dom : List Nat) (h : mh_H) (s : sg) (hc : CP s h) : Mt mX4_finding dom 0 [.ref 0] h (mx_Ri (fun v' h' => v' = ((s_fin s, s)).1 ∧ CP ((s_fin s, s)).2 h')) := by
  refine Mt.of (L := [some (.ref 0)]) rfl (Nat.le_of_ble_eq_true rfl) rfl ?_
  obtain ⟨c1, c2, c3, c4, c5, c6, c7, c8, c9⟩ := id hc
  refine ax_aload_n (pc := 0) dX4_finding_0 rfl ?_
  refine ax_getf (pc := 1) fX4_64 dX4_finding_1 (by exact c1.1) rfl ?_
  refine ax_iret (pc := 4) dX4_finding_4 rfl ?_
  exact fin_i rfl hc
set_option maxHeartbeats 4000000 in
set_option maxRecDepth 100000 in
theorem c_X4_upper (dom : List Nat) (h : mh_H) (s : sg) (hc : CP s h) : Mt mX4_upper dom 0 [.ref 0] h (mx_Rl (fun v' h' => v' = s_up s ∧ CP s h')) := by
  refine Mt.of (L := [some (.ref 0)]) rfl (Nat.le_of_ble_eq_true rfl) rfl ?_
  obtain ⟨c1, c2, c3, c4, c5, c6, c7, c8, c9⟩ := id hc
  refine ax_aload_n (pc := 0) dX4_upper_0 rfl ?_
  refine ax_getf (pc := 1) fX4_57 dX4_upper_1 (by exact c1.1) rfl ?_
  refine ax_lret (pc := 4) dX4_upper_4 rfl ?_
  exact ⟨_, rfl, rfl, hc⟩
set_option maxHeartbeats 4000000 in
set_option maxRecDepth 100000 in
theorem c_X4_lower (dom : List Nat) (h : mh_H) (s : sg) (hc : CP s h) : Mt mX4_lower dom 0 [.ref 0] h (mx_Rl (fun v' h' => v' = s_lo s ∧ CP s h')) := by
  refine Mt.of (L := [some (.ref 0)]) rfl (Nat.le_of_ble_eq_true rfl) rfl ?_
  obtain ⟨c1, c2, c3, c4, c5, c6, c7, c8, c9⟩ := id hc
  refine ax_aload_n (pc := 0) dX4_lower_0 rfl ?_
  refine ax_getf (pc := 1) fX4_61 dX4_lower_1 (by exact c1.1) rfl ?_
  refine ax_lret (pc := 4) dX4_lower_4 rfl ?_
  exact ⟨_, rfl, rfl, hc⟩
set_option maxHeartbeats 4000000 in
set_option maxRecDepth 100000 in
theorem c_X4_findings (dom : List Nat) (h : mh_H) (s : sg) (f : Int32) (hc : CP s h) : Mt mX4_findings dom 1 [.ref 0, .int f] h (mx_Ri (fun v' h' => v' = (sp_findings s f).1 ∧ CP (sp_findings s f).2 h')) := by
  refine Mt.of (L := [some (.ref 0), some (.int f)]) rfl (Nat.le_of_ble_eq_true rfl) rfl ?_
  obtain ⟨c1, c2, c3, c4, c5, c6, c7, c8, c9⟩ := id hc
  refine ax_iload_n (pc := 0) dX4_findings_0 rfl ?_
  refine ax_iconst (pc := 1) (v := 1) dX4_findings_1 (by decide) ?_
  refine ax_iconst (pc := 2) (v := 5) dX4_findings_2 (by decide) ?_
  refine ax_eSi3 (pc := 3) sX4_133 dX4_findings_3 (by decide) (Nat.le_of_ble_eq_true rfl) (c_X4_within _ _ _ _ _) ?_
  refine ax_ifeqB (pc := 6) (tgt := 18) dX4_findings_6 (by decide) (fun c6a => ?_) (fun c6a => ?_)
  · refine ax_iconst (pc := 18) (v := -1) dX4_findings_18 (by decide) ?_
    refine ax_iret (pc := 19) dX4_findings_19 rfl ?_
    first | exact fin_i (by unfold sp_findings; exact if_pos c6a) hc | exact fin_i (by unfold sp_findings; rw [if_neg (not_not_intro c6a)]) hc
  · obtain ⟨j, hj, rfl⟩ := ix_5 ⟨Int32.le_trans (by decide) c6a.1, c6a.2⟩
    refine ax_aload_n (pc := 9) dX4_findings_9 rfl ?_
    refine ax_getf (pc := 10) fX4_67 dX4_findings_10 (by first | exact c1.1 | exact c1.2) rfl ?_
    refine ax_iload_n (pc := 13) dX4_findings_13 rfl ?_
    refine ax_iald (pc := 14) dX4_findings_14 (by first | exact c1.1 | exact c1.2) (ni_in9 hj (by decide)) ?_
    refine ax_goto (pc := 15) (tgt := 19) dX4_findings_15 (by decide) ?_
    refine ax_iret (pc := 19) dX4_findings_19 rfl ?_
    first | exact fin_i (by unfold sp_findings; exact if_pos c6a) hc | exact fin_i (by unfold sp_findings; rw [if_neg (not_not_intro c6a)]) hc
set_option maxHeartbeats 4000000 in
set_option maxRecDepth 100000 in
theorem l_X4_stripsThere (dom : List Nat) (h : mh_H) (a b N : Nat) (z : Nat → Int32) (p : Nat → Nat) (ha : h a = mh_ra 2 N (fun r => some (b + r))) (hz : ∀ r, r < N → h (b + r) = mh_ob 2 [.ref (p r), .int (z r)]) (hN : N ≤ 6) : ∀ (nn j : Nat), j + nn = N → At mX4_stripsThere dom 1 4 [some (.ref a), some (.int (nI (sp_ct (fun r => decide (0 ≤ z r)) j))), some (.int (nI j))] [] h (mx_Ri (fun v' h' => v' = nI (sp_zt z N) ∧ h' = h)) := by
  intro nn
  induction nn with
  | zero =>
    intro j hj
    have hj : j = N := by omega
    subst hj
    refine ax_iload_n (pc := 4) dX4_stripsThere_4 rfl ?_
    refine ax_aload_n (pc := 5) dX4_stripsThere_5 rfl ?_
    refine ax_rlen (pc := 6) dX4_stripsThere_6 ha (by decide) rfl ?_
    refine ax_icmpge (pc := 7) (tgt := 28) dX4_stripsThere_7 (by decide) (fun _ => ?_) (fun q => absurd (by exact nI_le (Nat.le_refl _) (by omega)) q)
    refine ax_iload_n (pc := 28) dX4_stripsThere_28 rfl ?_
    refine ax_iret (pc := 29) dX4_stripsThere_29 rfl ?_
    exact ⟨_, rfl, rfl, rfl⟩
  | succ nn ih =>
    intro j hj
    have hlt : j < N := by omega
    refine ax_iload_n (pc := 4) dX4_stripsThere_4 rfl ?_
    refine ax_aload_n (pc := 5) dX4_stripsThere_5 rfl ?_
    refine ax_rlen (pc := 6) dX4_stripsThere_6 ha (by decide) rfl ?_
    refine ax_icmpge (pc := 7) (tgt := 28) dX4_stripsThere_7 (by decide) (fun q => absurd q (by exact nI_ge hlt (by omega))) (fun _ => ?_)
    refine ax_aload_n (pc := 10) dX4_stripsThere_10 rfl ?_
    refine ax_iload_n (pc := 11) dX4_stripsThere_11 rfl ?_
    refine ax_aald (pc := 12) dX4_stripsThere_12 ha (by decide) (ni_in9 hlt (by omega)) (by rw [ni_cl (by omega)]) ?_
    refine ax_eVi0 (pc := 13) vX4_94 dX4_stripsThere_13 (by decide) (hz j hlt) (Nat.le_of_ble_eq_true rfl) (c_X2_isThere _ _ (b + j) (p j) (z j) (hz j hlt)) ?_
    refine ax_ifeqB (pc := 16) (tgt := 22) dX4_stripsThere_16 (by decide) (fun c16 => ?_) (fun c16 => ?_)
    · refine ax_inc2p1 (pc := 22) dX4_stripsThere_22 rfl (by decide) ?_
      refine ax_goto (pc := 25) (tgt := 4) dX4_stripsThere_25 (by decide) ?_
      have cz : 0 ≤ z j ↔ (fun r => decide (0 ≤ z r)) j = true := (decide_eq_true_iff).symm
      rw [cz] at c16
      have q2 : sp_ct (fun r => decide (0 ≤ z r)) (j + 1) = sp_ct (fun r => decide (0 ≤ z r)) j + (if (fun r => decide (0 ≤ z r)) j = true then 1 else 0) := rfl
      first | rw [if_pos c16] at q2 | rw [if_neg c16] at q2
      first | rw [nI_1, nI_1, ← q2] | rw [nI_1, show sp_ct (fun r => decide (0 ≤ z r)) j = sp_ct (fun r => decide (0 ≤ z r)) (j + 1) from q2.symm]
      exact ih (j + 1) (by omega)
    · refine ax_inc1p1 (pc := 19) dX4_stripsThere_19 rfl (by decide) ?_
      refine ax_inc2p1 (pc := 22) dX4_stripsThere_22 rfl (by decide) ?_
      refine ax_goto (pc := 25) (tgt := 4) dX4_stripsThere_25 (by decide) ?_
      have cz : 0 ≤ z j ↔ (fun r => decide (0 ≤ z r)) j = true := (decide_eq_true_iff).symm
      rw [cz] at c16
      have q2 : sp_ct (fun r => decide (0 ≤ z r)) (j + 1) = sp_ct (fun r => decide (0 ≤ z r)) j + (if (fun r => decide (0 ≤ z r)) j = true then 1 else 0) := rfl
      first | rw [if_pos c16] at q2 | rw [if_neg c16] at q2
      first | rw [nI_1, nI_1, ← q2] | rw [nI_1, show sp_ct (fun r => decide (0 ≤ z r)) j = sp_ct (fun r => decide (0 ≤ z r)) (j + 1) from q2.symm]
      exact ih (j + 1) (by omega)
set_option maxHeartbeats 4000000 in
set_option maxRecDepth 100000 in
theorem c_X4_stripsThere (dom : List Nat) (h : mh_H) (a b N : Nat) (z : Nat → Int32) (p : Nat → Nat) (ha : h a = mh_ra 2 N (fun r => some (b + r))) (hz : ∀ r, r < N → h (b + r) = mh_ob 2 [.ref (p r), .int (z r)]) (hN : N ≤ 6) : Mt mX4_stripsThere dom 1 [.ref a] h (mx_Ri (fun v' h' => v' = nI (sp_zt z N) ∧ h' = h)) := by
  refine Mt.of (L := [some (.ref a), none, none]) rfl (Nat.le_of_ble_eq_true rfl) rfl ?_
  refine ax_iconst (pc := 0) (v := 0) dX4_stripsThere_0 (by decide) ?_
  refine ax_istore1 (pc := 1) dX4_stripsThere_1 rfl (by decide) ?_
  refine ax_iconst (pc := 2) (v := 0) dX4_stripsThere_2 (by decide) ?_
  refine ax_istore2 (pc := 3) dX4_stripsThere_3 rfl (by decide) ?_
  exact l_X4_stripsThere dom h a b N z p ha hz hN N 0 (by omega)
set_option maxHeartbeats 4000000 in
set_option maxRecDepth 100000 in
theorem l_X4_keptThere (dom : List Nat) (h : mh_H) (s : sg) (hc : CP s h) (hv : IV s) : ∀ (nn j : Nat), j + nn = 3 → At mX4_keptThere dom 0 4 [some (.ref 0), some (.int (nI (sp_ct (fun k => (s_kp s k).isSome) j))), some (.int (nI j))] [] h (mx_Ri (fun v' h' => v' = nI (sp_kt (s_kp s) 3) ∧ h' = h)) := by
  intro nn
  induction nn with
  | zero =>
    intro j hj
    have hj : j = 3 := by omega
    subst hj
    obtain ⟨c1, c2, c3, c4, c5, c6, c7, c8, c9⟩ := id hc
    refine ax_iload_n (pc := 4) dX4_keptThere_4 rfl ?_
    refine ax_iconst (pc := 5) (v := 3) dX4_keptThere_5 (by decide) ?_
    refine ax_icmpge (pc := 6) (tgt := 30) dX4_keptThere_6 (by decide) (fun _ => ?_) (fun q => absurd (by decide) q)
    refine ax_iload_n (pc := 30) dX4_keptThere_30 rfl ?_
    refine ax_iret (pc := 31) dX4_keptThere_31 rfl ?_
    exact ⟨_, rfl, rfl, rfl⟩
  | succ nn ih =>
    intro j hj
    have hlt : j < 3 := by omega
    obtain ⟨c1, c2, c3, c4, c5, c6, c7, c8, c9⟩ := id hc
    obtain ⟨kf, kg, k1, k2, k3, k4⟩ := c8 j hlt
    refine ax_iload_n (pc := 4) dX4_keptThere_4 rfl ?_
    refine ax_iconst (pc := 5) (v := 3) dX4_keptThere_5 (by decide) ?_
    refine ax_icmpge (pc := 6) (tgt := 30) dX4_keptThere_6 (by decide) (fun q => absurd q (by rw [n_3, nI_leI (by decide) (by omega)]; omega)) (fun _ => ?_)
    refine ax_aload_n (pc := 9) dX4_keptThere_9 rfl ?_
    refine ax_getf (pc := 10) fX4_39 dX4_keptThere_10 (by first | exact c1.1 | exact c2.2.2.1 | exact k1) rfl ?_
    refine ax_iload_n (pc := 13) dX4_keptThere_13 rfl ?_
    refine ax_aald (pc := 14) dX4_keptThere_14 (by first | exact c1.1 | exact c2.2.2.1 | exact k1) (by decide) (ni_in9 hlt (by decide)) (by rw [ni_cl (by omega)]) ?_
    refine ax_getf (pc := 15) fX4_72 dX4_keptThere_15 (by first | exact c1.1 | exact c2.2.2.1 | exact k1) rfl ?_
    refine ax_iflt (pc := 18) (tgt := 24) dX4_keptThere_18 (by decide) (fun c18 => ?_) (fun c18 => ?_)
    · refine ax_inc2p1 (pc := 24) dX4_keptThere_24 rfl (by decide) ?_
      refine ax_goto (pc := 27) (tgt := 4) dX4_keptThere_27 (by decide) ?_
      have cz : kz (s_kp s j) < 0 ↔ ¬ (fun k => (s_kp s k).isSome) j = true := by
        cases ek : s_kp s j with
        | none => exact ⟨fun _ => by simp [ek], fun _ => by decide⟩
        | some ds => exact ⟨fun q => absurd q (nI_pos (Nat.lt_of_le_of_lt (hv.2.2.2.2 j hlt ds ek).1 (by decide))), fun q => absurd (by simp [ek]) q⟩
      rw [cz] at c18
      have c19 := c18
      first | (replace c18 := Decidable.not_not.mp c18; skip) | skip
      have q2 : sp_ct (fun k => (s_kp s k).isSome) (j + 1) = sp_ct (fun k => (s_kp s k).isSome) j + (if (fun k => (s_kp s k).isSome) j = true then 1 else 0) := rfl
      first | rw [if_pos c18] at q2 | rw [if_neg c18] at q2
      first | rw [nI_1, nI_1, ← q2] | rw [nI_1, show sp_ct (fun k => (s_kp s k).isSome) j = sp_ct (fun k => (s_kp s k).isSome) (j + 1) from q2.symm]
      exact ih (j + 1) (by omega)
    · refine ax_inc1p1 (pc := 21) dX4_keptThere_21 rfl (by decide) ?_
      refine ax_inc2p1 (pc := 24) dX4_keptThere_24 rfl (by decide) ?_
      refine ax_goto (pc := 27) (tgt := 4) dX4_keptThere_27 (by decide) ?_
      have cz : kz (s_kp s j) < 0 ↔ ¬ (fun k => (s_kp s k).isSome) j = true := by
        cases ek : s_kp s j with
        | none => exact ⟨fun _ => by simp [ek], fun _ => by decide⟩
        | some ds => exact ⟨fun q => absurd q (nI_pos (Nat.lt_of_le_of_lt (hv.2.2.2.2 j hlt ds ek).1 (by decide))), fun q => absurd (by simp [ek]) q⟩
      rw [cz] at c18
      have c19 := c18
      first | (replace c18 := Decidable.not_not.mp c18; skip) | skip
      have q2 : sp_ct (fun k => (s_kp s k).isSome) (j + 1) = sp_ct (fun k => (s_kp s k).isSome) j + (if (fun k => (s_kp s k).isSome) j = true then 1 else 0) := rfl
      first | rw [if_pos c18] at q2 | rw [if_neg c18] at q2
      first | rw [nI_1, nI_1, ← q2] | rw [nI_1, show sp_ct (fun k => (s_kp s k).isSome) j = sp_ct (fun k => (s_kp s k).isSome) (j + 1) from q2.symm]
      exact ih (j + 1) (by omega)
set_option maxHeartbeats 4000000 in
set_option maxRecDepth 100000 in
theorem c_X4_keptThere (dom : List Nat) (h : mh_H) (s : sg) (hc : CP s h) (hv : IV s) : Mt mX4_keptThere dom 0 [.ref 0] h (mx_Ri (fun v' h' => v' = nI (sp_kt (s_kp s) 3) ∧ h' = h)) := by
  refine Mt.of (L := [some (.ref 0), none, none]) rfl (Nat.le_of_ble_eq_true rfl) rfl ?_
  refine ax_iconst (pc := 0) (v := 0) dX4_keptThere_0 (by decide) ?_
  refine ax_istore1 (pc := 1) dX4_keptThere_1 rfl (by decide) ?_
  refine ax_iconst (pc := 2) (v := 0) dX4_keptThere_2 (by decide) ?_
  refine ax_istore2 (pc := 3) dX4_keptThere_3 rfl (by decide) ?_
  exact l_X4_keptThere dom h s hc hv 3 0 (by omega)
set_option maxHeartbeats 4000000 in
set_option maxRecDepth 100000 in
theorem c_X4_cnt (dom : List Nat) (h : mh_H) (s : sg) (hc : CP s h) (hv : IV s) (q : Nat) (hq : q ≤ 12) : Mt mX4_count dom 2 [.ref 0, .int (nI q)] h (mx_Ri (fun v' h' => v' = sp_cv s q ∧ h' = h)) := by
  refine Mt.of (L := [some (.ref 0), some (.int (nI q))]) rfl (Nat.le_of_ble_eq_true rfl) rfl ?_
  obtain ⟨c1, c2, c3, c4, c5, c6, c7, c8, c9⟩ := id hc
  obtain ⟨f, g, e1, e2, e3, e4⟩ := id c7
  have hl40 := hv.2.2.2.1.1
  refine ax_iload_n (pc := 0) dX4_count_0 rfl ?_
  rcases (show q = 0 ∨ q = 1 ∨ q = 2 ∨ q = 3 ∨ q = 4 ∨ q = 5 ∨ q = 6 ∨ q = 7 ∨ q = 8 ∨ q = 9 ∨ q = 10 ∨ q = 11 ∨ q = 12 by omega) with rfl | rfl | rfl | rfl | rfl | rfl | rfl | rfl | rfl | rfl | rfl | rfl | rfl
  · refine ax_tswIn (tgt := 68) dX4_count_1 (by decide) (by decide) rfl (by decide) ?_
    refine ax_aload_n (pc := 68) dX4_count_68 rfl ?_
    refine ax_getf (pc := 69) fX4_21 dX4_count_69 (by first | exact c1.1 | exact c5.1 | exact c6 | exact e1) rfl ?_
    refine ax_getf (pc := 72) fX4_129 dX4_count_72 (by first | exact c1.1 | exact c5.1 | exact c6 | exact e1) rfl ?_
    refine ax_iret (pc := 75) dX4_count_75 rfl ?_
    exact ⟨_, rfl, rfl, rfl⟩
  · refine ax_tswIn (tgt := 76) dX4_count_1 (by decide) (by decide) rfl (by decide) ?_
    refine ax_aload_n (pc := 76) dX4_count_76 rfl ?_
    refine ax_getf (pc := 77) fX4_28 dX4_count_77 (by first | exact c1.1 | exact c5.1 | exact c6 | exact e1) rfl ?_
    refine ax_getf (pc := 80) fX4_163 dX4_count_80 (by first | exact c1.1 | exact c5.1 | exact c6 | exact e1) rfl ?_
    refine ax_iret (pc := 83) dX4_count_83 rfl ?_
    exact ⟨_, rfl, rfl, rfl⟩
  · refine ax_tswIn (tgt := 84) dX4_count_1 (by decide) (by decide) rfl (by decide) ?_
    refine ax_aload_n (pc := 84) dX4_count_84 rfl ?_
    refine ax_getf (pc := 85) fX4_35 dX4_count_85 (by first | exact c1.1 | exact c5.1 | exact c6 | exact e1) rfl ?_
    refine ax_getf (pc := 88) fX4_72 dX4_count_88 (by first | exact c1.1 | exact c5.1 | exact c6 | exact e1) rfl ?_
    refine ax_iret (pc := 91) dX4_count_91 rfl ?_
    exact ⟨_, rfl, rfl, rfl⟩
  · refine ax_tswIn (tgt := 92) dX4_count_1 (by decide) (by decide) rfl (by decide) ?_
    refine ax_aload_n (pc := 92) dX4_count_92 rfl ?_
    refine ax_getf (pc := 93) fX4_28 dX4_count_93 (by first | exact c1.1 | exact c5.1 | exact c6 | exact e1) rfl ?_
    refine ax_getf (pc := 96) fX4_166 dX4_count_96 (by first | exact c1.1 | exact c5.1 | exact c6 | exact e1) rfl ?_
    refine ax_iret (pc := 99) dX4_count_99 rfl ?_
    exact ⟨_, rfl, rfl, rfl⟩
  · refine ax_tswIn (tgt := 100) dX4_count_1 (by decide) (by decide) rfl (by decide) ?_
    refine ax_aload_n (pc := 100) dX4_count_100 rfl ?_
    refine ax_getf (pc := 101) fX4_28 dX4_count_101 (by first | exact c1.1 | exact c5.1 | exact c6 | exact e1) rfl ?_
    refine ax_getf (pc := 104) fX4_169 dX4_count_104 (by first | exact c1.1 | exact c5.1 | exact c6 | exact e1) rfl ?_
    refine ax_iret (pc := 107) dX4_count_107 rfl ?_
    exact ⟨_, rfl, rfl, rfl⟩
  · refine ax_tswIn (tgt := 108) dX4_count_1 (by decide) (by decide) rfl (by decide) ?_
    refine ax_aload_n (pc := 108) dX4_count_108 rfl ?_
    refine ax_getf (pc := 109) fX4_28 dX4_count_109 (by first | exact c1.1 | exact c5.1 | exact c6 | exact e1) rfl ?_
    refine ax_getf (pc := 112) fX4_196 dX4_count_112 (by first | exact c1.1 | exact c5.1 | exact c6 | exact e1) rfl ?_
    refine ax_iret (pc := 115) dX4_count_115 rfl ?_
    exact ⟨_, rfl, rfl, rfl⟩
  · refine ax_tswIn (tgt := 116) dX4_count_1 (by decide) (by decide) rfl (by decide) ?_
    refine ax_aload_n (pc := 116) dX4_count_116 rfl ?_
    refine ax_getf (pc := 117) fX4_28 dX4_count_117 (by first | exact c1.1 | exact c5.1 | exact c6 | exact e1) rfl ?_
    refine ax_getf (pc := 120) fX4_252 dX4_count_120 (by first | exact c1.1 | exact c5.1 | exact c6 | exact e1) rfl ?_
    refine ax_ifeqB (pc := 123) (tgt := 130) dX4_count_123 (by decide) (fun c123 => ?_) (fun c123 => ?_)
    · refine ax_iconst (pc := 130) (v := 0) dX4_count_130 (by decide) ?_
      refine ax_iret (pc := 131) dX4_count_131 rfl ?_
      exact ⟨_, rfl, by first | exact (if_pos c123).symm | exact (if_neg c123).symm, rfl⟩
    · refine ax_iconst (pc := 126) (v := 1) dX4_count_126 (by decide) ?_
      refine ax_goto (pc := 127) (tgt := 131) dX4_count_127 (by decide) ?_
      refine ax_iret (pc := 131) dX4_count_131 rfl ?_
      exact ⟨_, rfl, by first | exact (if_pos c123).symm | exact (if_neg c123).symm, rfl⟩
  · refine ax_tswIn (tgt := 132) dX4_count_1 (by decide) (by decide) rfl (by decide) ?_
    refine ax_aload_n (pc := 132) dX4_count_132 rfl ?_
    refine ax_getf (pc := 133) fX4_21 dX4_count_133 (by first | exact c1.1 | exact c5.1 | exact c6 | exact e1) rfl ?_
    refine ax_getf (pc := 136) fX4_256 dX4_count_136 (by first | exact c1.1 | exact c5.1 | exact c6 | exact e1) rfl ?_
    refine ax_iret (pc := 139) dX4_count_139 rfl ?_
    exact ⟨_, rfl, rfl, rfl⟩
  · refine ax_tswIn (tgt := 140) dX4_count_1 (by decide) (by decide) rfl (by decide) ?_
    refine ax_aload_n (pc := 140) dX4_count_140 rfl ?_
    refine ax_getf (pc := 141) fX4_11 dX4_count_141 (by first | exact c1.1 | exact c5.1 | exact c6 | exact e1) rfl ?_
    refine ax_eSi1 (pc := 144) sX4_259 dX4_count_144 (by decide) (Nat.le_of_ble_eq_true rfl) (c_X4_stripsThere _ _ 1 20 6 (s_rz s) (fun r => 30 + r) c2.1 (fun r hr => (c3 r hr).1) (by decide)) ?_
    refine ax_iret (pc := 147) dX4_count_147 rfl ?_
    exact ⟨_, rfl, rfl, rfl⟩
  · refine ax_tswIn (tgt := 148) dX4_count_1 (by decide) (by decide) rfl (by decide) ?_
    refine ax_aload_n (pc := 148) dX4_count_148 rfl ?_
    refine ax_getf (pc := 149) fX4_15 dX4_count_149 (by first | exact c1.1 | exact c5.1 | exact c6 | exact e1) rfl ?_
    refine ax_eSi1 (pc := 152) sX4_259 dX4_count_152 (by decide) (Nat.le_of_ble_eq_true rfl) (c_X4_stripsThere _ _ 2 40 4 (s_tz s) (fun r => 50 + r) c2.2.1 (fun r hr => (c4 r hr).1) (by decide)) ?_
    refine ax_iret (pc := 155) dX4_count_155 rfl ?_
    exact ⟨_, rfl, rfl, rfl⟩
  · refine ax_tswIn (tgt := 156) dX4_count_1 (by decide) (by decide) rfl (by decide) ?_
    refine ax_aload_n (pc := 156) dX4_count_156 rfl ?_
    refine ax_eVi0 (pc := 157) vX4_263 dX4_count_157 (by decide) (by first | exact c1.1 | exact c5.1 | exact c6 | exact e1) (Nat.le_of_ble_eq_true rfl) (c_X4_keptThere _ _ s hc hv) ?_
    refine ax_iret (pc := 160) dX4_count_160 rfl ?_
    exact ⟨_, rfl, rfl, rfl⟩
  · refine ax_tswIn (tgt := 161) dX4_count_1 (by decide) (by decide) rfl (by decide) ?_
    refine ax_aload_n (pc := 161) dX4_count_161 rfl ?_
    refine ax_getf (pc := 162) fX4_21 dX4_count_162 (by first | exact c1.1 | exact c5.1 | exact c6 | exact e1) rfl ?_
    refine ax_iconst (pc := 165) (v := 1) dX4_count_165 (by decide) ?_
    refine ax_eVi1 (pc := 166) vX4_267 dX4_count_166 (by decide) (by first | exact c1.1 | exact c5.1 | exact c6 | exact e1) (Nat.le_of_ble_eq_true rfl) (c_X0_howManyOf _ _ (s_D s) (s_fi s) 3 11 12 13 1 c5 (by decide) hv.2.2.1.1 (fun j hj => (hv.2.2.1.2.2 j hj).1)) ?_
    refine ax_iret (pc := 169) dX4_count_169 rfl ?_
    exact ⟨_, rfl, rfl, rfl⟩
  · refine ax_tswIn (tgt := 170) dX4_count_1 (by decide) (by decide) rfl (by decide) ?_
    refine ax_aload_n (pc := 170) dX4_count_170 rfl ?_
    refine ax_getf (pc := 171) fX4_21 dX4_count_171 (by first | exact c1.1 | exact c5.1 | exact c6 | exact e1) rfl ?_
    refine ax_iconst (pc := 174) (v := 3) dX4_count_174 (by decide) ?_
    refine ax_eVi1 (pc := 175) vX4_267 dX4_count_175 (by decide) (by first | exact c1.1 | exact c5.1 | exact c6 | exact e1) (Nat.le_of_ble_eq_true rfl) (c_X0_howManyOf _ _ (s_D s) (s_fi s) 3 11 12 13 3 c5 (by decide) hv.2.2.1.1 (fun j hj => (hv.2.2.1.2.2 j hj).1)) ?_
    refine ax_iret (pc := 178) dX4_count_178 rfl ?_
    exact ⟨_, rfl, rfl, rfl⟩
set_option maxHeartbeats 4000000 in
set_option maxRecDepth 100000 in
theorem c_X4_count (dom : List Nat) (h : mh_H) (s : sg) (q : Int32) (hc : CP s h) (hv : IV s) : Mt mX4_count dom 2 [.ref 0, .int q] h (mx_Ri (fun v' h' => v' = (sp_count s q).1 ∧ CP (sp_count s q).2 h')) := by
  by_cases hq : 0 ≤ q ∧ q ≤ 12
  · obtain ⟨j, hj, rfl⟩ := nI_of2 (n := 12) (M := 12) rfl (Int32.not_lt.mpr hq.1) hq.2
    have e : sp_count s (nI j) = (sp_cv s j, s) := by unfold sp_count; rw [if_neg (not_not_intro hq), ni_cl (by omega)]
    rw [e]
    refine Mt.mono ?_ (c_X4_cnt dom h s hc hv j hj)
    rintro r h1 ⟨v, rfl, rfl, rfl⟩
    exact fin_i rfl hc
  · refine Mt.of (L := [some (.ref 0), some (.int q)]) rfl (Nat.le_of_ble_eq_true rfl) rfl ?_
    refine ax_iload_n (pc := 0) dX4_count_0 rfl ?_
    refine ax_tswOut (pc := 1) (tgt := 179) dX4_count_1 ?_ (by decide) ?_
    · rcases Decidable.not_and_iff_or_not.mp hq with z | z
      · exact Or.inl (by rw [Int32.le_iff_toInt_le, z_0] at z; omega)
      · exact Or.inr (by rw [Int32.le_iff_toInt_le, z_12] at z; omega)
    · refine ax_iconst (pc := 179) (v := -1) dX4_count_179 (by decide) ?_
      refine ax_iret (pc := 180) dX4_count_180 rfl ?_
      exact fin_i (by unfold sp_count; exact if_pos hq) hc
set_option maxHeartbeats 4000000 in
set_option maxRecDepth 100000 in
theorem c_X4_mixR (dom : List Nat) (h : mh_H) (a p M : Nat) (hM : M ≤ 60) (z : Int32) (f : Nat → Int32) (x : Int64) (hz : z = -1 ∨ ∃ m, m ≤ M ∧ z = nI m) (ha : h a = mh_ob 2 [.ref p, .int z]) (hp : h p = mh_ia 0 60 f) : Mt mX2_mixedInto dom 0 [.ref a, .long x] h (mx_Rl (fun v' h' => v' = sl_mix (31 * x + z.toInt64) f z.toNatClampNeg ∧ h' = h)) := by
  rcases hz with rfl | ⟨m, hm, rfl⟩
  · exact c_X2_mixedInto0 dom h a p x ha
  · rw [ni_cl (by omega)]
    exact c_X2_mixedInto dom h a p m x f ha hp (by omega)
set_option maxHeartbeats 4000000 in
set_option maxRecDepth 100000 in
theorem l_X4_dig5 (dom : List Nat) (h : mh_H) (s : sg) (hc : CP s h) (hv : IV s) (l4 : Option Value) : ∀ (nn j : Nat), j + nn = 4 → At mX4_digest dom 3 137 [some (.ref 0), some (.long (dgR (s_tz s) (s_tc s) (dgR (s_rz s) (s_rc s) (dgK s (dgD s (dgA s 13) (s_D s).1) 3) 6) j)), none, some (.int (nI j)), l4] [] h (mx_Rl (fun v' h' => v' = sp_dig s ∧ h' = h)) := by
  intro nn
  induction nn with
  | zero =>
    intro j hj
    have hj : j = 4 := by omega
    subst hj
    refine ax_iload_n (pc := 137) dX4_digest_137 rfl ?_
    refine ax_iconst (pc := 138) (v := 4) dX4_digest_138 (by decide) ?_
    refine ax_icmpge (pc := 139) (tgt := 159) dX4_digest_139 (by decide) (fun _ => ?_) (fun q => absurd (by decide) q)
    refine ax_lload_n (pc := 159) dX4_digest_159 rfl ?_
    refine ax_lret (pc := 160) dX4_digest_160 rfl ?_
    exact ⟨_, rfl, rfl, rfl⟩
  | succ nn ih =>
    intro j hj
    have hlt : j < 4 := by omega
    obtain ⟨c1, c2, c3, c4, c5, c6, c7, c8, c9⟩ := id hc
    refine ax_iload_n (pc := 137) dX4_digest_137 rfl ?_
    refine ax_iconst (pc := 138) (v := 4) dX4_digest_138 (by decide) ?_
    refine ax_icmpge (pc := 139) (tgt := 159) dX4_digest_139 (by decide) (fun q => absurd q (by rw [n_4, nI_leI (by decide) (by omega)]; omega)) (fun _ => ?_)
    refine ax_aload_n (pc := 142) dX4_digest_142 rfl ?_
    refine ax_getf (pc := 143) fX4_15 dX4_digest_143 (by first | exact c1.1 | exact c2.1 | exact c2.2.1 | exact c2.2.2.1 | exact c5.1 | exact k1) rfl ?_
    refine ax_iload_n (pc := 146) dX4_digest_146 rfl ?_
    refine ax_aald (pc := 147) dX4_digest_147 (by first | exact c1.1 | exact c2.1 | exact c2.2.1 | exact c2.2.2.1 | exact c5.1 | exact k1) (by decide) (ni_in9 hlt (by decide)) (by rw [ni_cl (by omega)]) ?_
    refine ax_lload_n (pc := 148) dX4_digest_148 rfl ?_
    refine ax_eVl1 (pc := 149) vX4_276 dX4_digest_149 (by decide) (c4 j hlt).1 (Nat.le_of_ble_eq_true rfl) (c_X4_mixR _ _ (40 + j) (50 + j) 60 (by decide) _ _ _ (hv.2.1 j hlt) (c4 j hlt).1 (c4 j hlt).2) ?_
    refine ax_lstore1 (pc := 152) dX4_digest_152 rfl (by decide) ?_
    refine ax_inc3p1 (pc := 153) dX4_digest_153 rfl (by decide) ?_
    refine ax_goto (pc := 156) (tgt := 137) dX4_digest_156 (by decide) ?_
    rw [nI_1]
    exact ih (j + 1) (by omega)
set_option maxHeartbeats 4000000 in
set_option maxRecDepth 100000 in
theorem l_X4_dig4 (dom : List Nat) (h : mh_H) (s : sg) (hc : CP s h) (hv : IV s) (l4 : Option Value) : ∀ (nn j : Nat), j + nn = 6 → At mX4_digest dom 3 112 [some (.ref 0), some (.long (dgR (s_rz s) (s_rc s) (dgK s (dgD s (dgA s 13) (s_D s).1) 3) j)), none, some (.int (nI j)), l4] [] h (mx_Rl (fun v' h' => v' = sp_dig s ∧ h' = h)) := by
  intro nn
  induction nn with
  | zero =>
    intro j hj
    have hj : j = 6 := by omega
    subst hj
    refine ax_iload_n (pc := 112) dX4_digest_112 rfl ?_
    refine ax_bipush (pc := 113) (v := 6) dX4_digest_113 (by decide) ?_
    refine ax_icmpge (pc := 115) (tgt := 135) dX4_digest_115 (by decide) (fun _ => ?_) (fun q => absurd (by decide) q)
    refine ax_iconst (pc := 135) (v := 0) dX4_digest_135 (by decide) ?_
    refine ax_istore3 (pc := 136) dX4_digest_136 rfl (by decide) ?_
    exact l_X4_dig5 dom h s hc hv l4 4 0 (by omega)
  | succ nn ih =>
    intro j hj
    have hlt : j < 6 := by omega
    obtain ⟨c1, c2, c3, c4, c5, c6, c7, c8, c9⟩ := id hc
    refine ax_iload_n (pc := 112) dX4_digest_112 rfl ?_
    refine ax_bipush (pc := 113) (v := 6) dX4_digest_113 (by decide) ?_
    refine ax_icmpge (pc := 115) (tgt := 135) dX4_digest_115 (by decide) (fun q => absurd q (by rw [n_6, nI_leI (by decide) (by omega)]; omega)) (fun _ => ?_)
    refine ax_aload_n (pc := 118) dX4_digest_118 rfl ?_
    refine ax_getf (pc := 119) fX4_11 dX4_digest_119 (by first | exact c1.1 | exact c2.1 | exact c2.2.1 | exact c2.2.2.1 | exact c5.1 | exact k1) rfl ?_
    refine ax_iload_n (pc := 122) dX4_digest_122 rfl ?_
    refine ax_aald (pc := 123) dX4_digest_123 (by first | exact c1.1 | exact c2.1 | exact c2.2.1 | exact c2.2.2.1 | exact c5.1 | exact k1) (by decide) (ni_in9 hlt (by decide)) (by rw [ni_cl (by omega)]) ?_
    refine ax_lload_n (pc := 124) dX4_digest_124 rfl ?_
    refine ax_eVl1 (pc := 125) vX4_276 dX4_digest_125 (by decide) (c3 j hlt).1 (Nat.le_of_ble_eq_true rfl) (c_X4_mixR _ _ (20 + j) (30 + j) 40 (by decide) _ _ _ (hv.1 j hlt) (c3 j hlt).1 (c3 j hlt).2) ?_
    refine ax_lstore1 (pc := 128) dX4_digest_128 rfl (by decide) ?_
    refine ax_inc3p1 (pc := 129) dX4_digest_129 rfl (by decide) ?_
    refine ax_goto (pc := 132) (tgt := 112) dX4_digest_132 (by decide) ?_
    rw [nI_1]
    exact ih (j + 1) (by omega)
set_option maxHeartbeats 4000000 in
set_option maxRecDepth 100000 in
theorem l_X4_dig3 (dom : List Nat) (h : mh_H) (s : sg) (hc : CP s h) (hv : IV s) (l4 : Option Value) : ∀ (nn j : Nat), j + nn = 3 → At mX4_digest dom 3 82 [some (.ref 0), some (.long (dgK s (dgD s (dgA s 13) (s_D s).1) j)), none, some (.int (nI j)), l4] [] h (mx_Rl (fun v' h' => v' = sp_dig s ∧ h' = h)) := by
  intro nn
  induction nn with
  | zero =>
    intro j hj
    have hj : j = 3 := by omega
    subst hj
    refine ax_iload_n (pc := 82) dX4_digest_82 rfl ?_
    refine ax_iconst (pc := 83) (v := 3) dX4_digest_83 (by decide) ?_
    refine ax_icmpge (pc := 84) (tgt := 110) dX4_digest_84 (by decide) (fun _ => ?_) (fun q => absurd (by decide) q)
    refine ax_iconst (pc := 110) (v := 0) dX4_digest_110 (by decide) ?_
    refine ax_istore3 (pc := 111) dX4_digest_111 rfl (by decide) ?_
    exact l_X4_dig4 dom h s hc hv l4 6 0 (by omega)
  | succ nn ih =>
    intro j hj
    have hlt : j < 3 := by omega
    obtain ⟨c1, c2, c3, c4, c5, c6, c7, c8, c9⟩ := id hc
    obtain ⟨kf, kg, k1, k2, k3, k4⟩ := c8 j hlt
    refine ax_iload_n (pc := 82) dX4_digest_82 rfl ?_
    refine ax_iconst (pc := 83) (v := 3) dX4_digest_83 (by decide) ?_
    refine ax_icmpge (pc := 84) (tgt := 110) dX4_digest_84 (by decide) (fun q => absurd q (by rw [n_3, nI_leI (by decide) (by omega)]; omega)) (fun _ => ?_)
    refine ax_ldc2 (pc := 87) dX4_digest_87 tw_622 ?_
    refine ax_lload_n (pc := 90) dX4_digest_90 rfl ?_
    refine ax_lmul (pc := 91) dX4_digest_91 ?_
    refine ax_aload_n (pc := 92) dX4_digest_92 rfl ?_
    refine ax_getf (pc := 93) fX4_39 dX4_digest_93 (by first | exact c1.1 | exact c2.1 | exact c2.2.1 | exact c2.2.2.1 | exact c5.1 | exact k1) rfl ?_
    refine ax_iload_n (pc := 96) dX4_digest_96 rfl ?_
    refine ax_aald (pc := 97) dX4_digest_97 (by first | exact c1.1 | exact c2.1 | exact c2.2.1 | exact c2.2.2.1 | exact c5.1 | exact k1) (by decide) (ni_in9 hlt (by decide)) (by rw [ni_cl (by omega)]) ?_
    refine ax_getf (pc := 98) fX4_72 dX4_digest_98 (by first | exact c1.1 | exact c2.1 | exact c2.2.1 | exact c2.2.2.1 | exact c5.1 | exact k1) rfl ?_
    refine ax_i2l (pc := 101) dX4_digest_101 ?_
    refine ax_ladd (pc := 102) dX4_digest_102 ?_
    refine ax_lstore1 (pc := 103) dX4_digest_103 rfl (by decide) ?_
    refine ax_inc3p1 (pc := 104) dX4_digest_104 rfl (by decide) ?_
    refine ax_goto (pc := 107) (tgt := 82) dX4_digest_107 (by decide) ?_
    rw [nI_1]
    exact ih (j + 1) (by omega)
set_option maxHeartbeats 4000000 in
set_option maxRecDepth 100000 in
theorem l_X4_dig2i (dom : List Nat) (h : mh_H) (s : sg) (hc : CP s h) (hv : IV s) (k : Nat) (hk : k < (s_D s).1) (x : Int64) (Q : Option Value → mh_H → Prop) (KK : At mX4_digest dom 3 74 [some (.ref 0), some (.long (dgI s k x 6)), none, some (.int (nI k)), some (.int (nI 6))] [] h Q) : ∀ (nn j : Nat), j + nn = 6 → At mX4_digest dom 3 47 [some (.ref 0), some (.long (dgI s k x j)), none, some (.int (nI k)), some (.int (nI j))] [] h Q := by
  intro nn
  induction nn with
  | zero =>
    intro j hj
    have hj : j = 6 := by omega
    subst hj
    refine ax_iload (pc := 47) dX4_digest_47 rfl ?_
    refine ax_iconst (pc := 49) (v := 5) dX4_digest_49 (by decide) ?_
    refine ax_icmpgt (pc := 50) (tgt := 74) dX4_digest_50 (by decide) (fun _ => ?_) (fun q => absurd (by decide) q)
    exact KK
  | succ nn ih =>
    intro j hj
    have hlt : j < 6 := by omega
    obtain ⟨c1, c2, c3, c4, c5, c6, c7, c8, c9⟩ := id hc
    refine ax_iload (pc := 47) dX4_digest_47 rfl ?_
    refine ax_iconst (pc := 49) (v := 5) dX4_digest_49 (by decide) ?_
    refine ax_icmpgt (pc := 50) (tgt := 74) dX4_digest_50 (by decide) (fun q => absurd q (by rw [n_5, nI_ltI (by decide) (by omega)]; omega)) (fun _ => ?_)
    refine ax_ldc2 (pc := 53) dX4_digest_53 tw_622 ?_
    refine ax_lload_n (pc := 56) dX4_digest_56 rfl ?_
    refine ax_lmul (pc := 57) dX4_digest_57 ?_
    refine ax_aload_n (pc := 58) dX4_digest_58 rfl ?_
    refine ax_iload_n (pc := 59) dX4_digest_59 rfl ?_
    refine ax_iload (pc := 60) dX4_digest_60 rfl ?_
    refine ax_eVi2 (pc := 62) vX4_137 dX4_digest_62 (by decide) (by first | exact c1.1 | exact c2.1 | exact c2.2.1 | exact c2.2.2.1 | exact c5.1 | exact k1) (Nat.le_of_ble_eq_true rfl) (c_X4_toldOfDay _ _ s k hk (by have := hv.2.2.1.1; omega) (hv.w (by omega)).1 (hv.w (by omega)).2.1 (hv.w (by omega)).2.2 j (by omega) hc) ?_
    refine ax_i2l (pc := 65) dX4_digest_65 ?_
    refine ax_ladd (pc := 66) dX4_digest_66 ?_
    refine ax_lstore1 (pc := 67) dX4_digest_67 rfl (by decide) ?_
    refine ax_inc4p1 (pc := 68) dX4_digest_68 rfl (by decide) ?_
    refine ax_goto (pc := 71) (tgt := 47) dX4_digest_71 (by decide) ?_
    rw [nI_1]
    exact ih (j + 1) (by omega)
set_option maxHeartbeats 4000000 in
set_option maxRecDepth 100000 in
theorem l_X4_dig2 (dom : List Nat) (h : mh_H) (s : sg) (hc : CP s h) (hv : IV s) : ∀ (nn j : Nat), j + nn = (s_D s).1 → ∀ (l4 : Option Value), At mX4_digest dom 3 33 [some (.ref 0), some (.long (dgD s (dgA s 13) j)), none, some (.int (nI j)), l4] [] h (mx_Rl (fun v' h' => v' = sp_dig s ∧ h' = h)) := by
  intro nn
  induction nn with
  | zero =>
    intro j hj l4
    have hj : j = (s_D s).1 := by omega
    subst hj
    obtain ⟨c1, c2, c3, c4, c5, c6, c7, c8, c9⟩ := id hc
    have h9 := hv.2.2.1.1
    refine ax_iload_n (pc := 33) dX4_digest_33 rfl ?_
    refine ax_aload_n (pc := 34) dX4_digest_34 rfl ?_
    refine ax_getf (pc := 35) fX4_21 dX4_digest_35 (by first | exact c1.1 | exact c2.1 | exact c2.2.1 | exact c2.2.2.1 | exact c5.1 | exact k1) rfl ?_
    refine ax_getf (pc := 38) fX4_129 dX4_digest_38 (by first | exact c1.1 | exact c2.1 | exact c2.2.1 | exact c2.2.2.1 | exact c5.1 | exact k1) rfl ?_
    refine ax_icmpge (pc := 41) (tgt := 80) dX4_digest_41 (by decide) (fun _ => ?_) (fun q => absurd (nI_le (Nat.le_refl _) (by omega)) q)
    refine ax_iconst (pc := 80) (v := 0) dX4_digest_80 (by decide) ?_
    refine ax_istore3 (pc := 81) dX4_digest_81 rfl (by decide) ?_
    exact l_X4_dig3 dom h s hc hv l4 3 0 (by omega)
  | succ nn ih =>
    intro j hj l4
    have hlt : j < (s_D s).1 := by omega
    obtain ⟨c1, c2, c3, c4, c5, c6, c7, c8, c9⟩ := id hc
    have h9 := hv.2.2.1.1
    refine ax_iload_n (pc := 33) dX4_digest_33 rfl ?_
    refine ax_aload_n (pc := 34) dX4_digest_34 rfl ?_
    refine ax_getf (pc := 35) fX4_21 dX4_digest_35 (by first | exact c1.1 | exact c2.1 | exact c2.2.1 | exact c2.2.2.1 | exact c5.1 | exact k1) rfl ?_
    refine ax_getf (pc := 38) fX4_129 dX4_digest_38 (by first | exact c1.1 | exact c2.1 | exact c2.2.1 | exact c2.2.2.1 | exact c5.1 | exact k1) rfl ?_
    refine ax_icmpge (pc := 41) (tgt := 80) dX4_digest_41 (by decide) (fun q => absurd q (nI_ge hlt (by omega))) (fun _ => ?_)
    refine ax_iconst (pc := 44) (v := 0) dX4_digest_44 (by decide) ?_
    refine ax_istore4 (pc := 45) dX4_digest_45 rfl (by decide) ?_
    refine l_X4_dig2i dom h s hc hv j hlt _ _ ?_ 6 0 (by omega)
    refine ax_inc3p1 (pc := 74) dX4_digest_74 rfl (by decide) ?_
    refine ax_goto (pc := 77) (tgt := 33) dX4_digest_77 (by decide) ?_
    rw [nI_1]
    exact ih (j + 1) (by omega) _
set_option maxHeartbeats 4000000 in
set_option maxRecDepth 100000 in
theorem l_X4_dig1 (dom : List Nat) (h : mh_H) (s : sg) (hc : CP s h) (hv : IV s) : ∀ (nn j : Nat), j + nn = 13 → At mX4_digest dom 3 6 [some (.ref 0), some (.long (dgA s j)), none, some (.int (nI j)), none] [] h (mx_Rl (fun v' h' => v' = sp_dig s ∧ h' = h)) := by
  intro nn
  induction nn with
  | zero =>
    intro j hj
    have hj : j = 13 := by omega
    subst hj
    refine ax_iload_n (pc := 6) dX4_digest_6 rfl ?_
    refine ax_bipush (pc := 7) (v := 12) dX4_digest_7 (by decide) ?_
    refine ax_icmpgt (pc := 9) (tgt := 31) dX4_digest_9 (by decide) (fun _ => ?_) (fun q => absurd (by decide) q)
    refine ax_iconst (pc := 31) (v := 0) dX4_digest_31 (by decide) ?_
    refine ax_istore3 (pc := 32) dX4_digest_32 rfl (by decide) ?_
    exact l_X4_dig2 dom h s hc hv (s_D s).1 0 (by omega) none
  | succ nn ih =>
    intro j hj
    have hlt : j < 13 := by omega
    obtain ⟨c1, c2, c3, c4, c5, c6, c7, c8, c9⟩ := id hc
    refine ax_iload_n (pc := 6) dX4_digest_6 rfl ?_
    refine ax_bipush (pc := 7) (v := 12) dX4_digest_7 (by decide) ?_
    refine ax_icmpgt (pc := 9) (tgt := 31) dX4_digest_9 (by decide) (fun q => absurd q (by rw [n_12, nI_ltI (by decide) (by omega)]; omega)) (fun _ => ?_)
    refine ax_ldc2 (pc := 12) dX4_digest_12 tw_622 ?_
    refine ax_lload_n (pc := 15) dX4_digest_15 rfl ?_
    refine ax_lmul (pc := 16) dX4_digest_16 ?_
    refine ax_aload_n (pc := 17) dX4_digest_17 rfl ?_
    refine ax_iload_n (pc := 18) dX4_digest_18 rfl ?_
    refine ax_eVi1 (pc := 19) vX4_274 dX4_digest_19 (by decide) (by first | exact c1.1 | exact c2.1 | exact c2.2.1 | exact c2.2.2.1 | exact c5.1 | exact k1) (Nat.le_of_ble_eq_true rfl) (c_X4_cnt _ _ s hc hv j (by omega)) ?_
    refine ax_i2l (pc := 22) dX4_digest_22 ?_
    refine ax_ladd (pc := 23) dX4_digest_23 ?_
    refine ax_lstore1 (pc := 24) dX4_digest_24 rfl (by decide) ?_
    refine ax_inc3p1 (pc := 25) dX4_digest_25 rfl (by decide) ?_
    refine ax_goto (pc := 28) (tgt := 6) dX4_digest_28 (by decide) ?_
    rw [nI_1]
    exact ih (j + 1) (by omega)
set_option maxHeartbeats 4000000 in
set_option maxRecDepth 100000 in
theorem c_X4_digest (dom : List Nat) (h : mh_H) (s : sg) (hc : CP s h) (hv : IV s) : Mt mX4_digest dom 3 [.ref 0] h (mx_Rl (fun v' h' => v' = sp_dig s ∧ CP s h')) := by
  refine Mt.of (L := [some (.ref 0), none, none, none, none]) rfl (Nat.le_of_ble_eq_true rfl) rfl ?_
  refine ax_ldc2 (pc := 0) dX4_digest_0 tw_621 ?_
  refine ax_lstore1 (pc := 3) dX4_digest_3 rfl (by decide) ?_
  refine ax_iconst (pc := 4) (v := 0) dX4_digest_4 (by decide) ?_
  refine ax_istore3 (pc := 5) dX4_digest_5 rfl (by decide) ?_
  refine At.mono ?_ (l_X4_dig1 dom h s hc hv 13 0 (by omega))
  rintro r h1 ⟨v, rfl, rfl, rfl⟩
  exact ⟨_, rfl, rfl, hc⟩
