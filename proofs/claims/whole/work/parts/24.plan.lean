/-- the hatch set -/
abbrev hs (w : sp_W) (t : Nat) : sp_W := (w.1, t, w.2.2.1, w.2.2.2.1, w.2.2.2.2)
/-- the most that is ground with the hatch set to t ahead of a step, as is best ahead of l more -/
def sp_ms (D : sp_D) (fi : Nat) : Nat → sp_W → Nat → Nat
  | 0, w, t => (sp_st D fi (hs w t)).2.2.2.2
  | l + 1, w, t => sp_mxn (fun g => sp_ms D fi l (sp_st D fi (hs w t)) g) 5
theorem hs_ok {n t : Nat} {w : sp_W} (h : sp_W0 n w) (ht : t ≤ 4) : sp_W0 n (hs w t) := ⟨h.1, ht, h.2.2⟩
theorem st_g {D : sp_D} {fi : Nat} {w : sp_W} {t : Nat} (hD : sp_D0 D) (h : sp_W0 D.1 w) (ht : t ≤ 4) : (sp_st D fi (hs w t)).2.2.2.2 ≤ w.2.2.2.2 + 77 := by
  have := sp_wf_le (fi := fi) hD (hs_ok h ht)
  show w.2.2.2.2 + sp_wf D fi (hs w t) ≤ _
  omega
theorem sp_mxn_le' {g : Nat → Nat} {M n : Nat} (hg : ∀ j, j < n → g j ≤ M) : sp_mxn g n ≤ M := by
  induction n with
  | zero => exact Nat.zero_le _
  | succ n ih => exact Nat.max_le.mpr ⟨ih (fun j hj => hg j (by omega)), hg n (by omega)⟩
theorem sp_ms_le {D : sp_D} {fi : Nat} (hD : sp_D0 D) : ∀ (l : Nat) (w : sp_W) (t : Nat), sp_W0 D.1 w → t ≤ 4 → sp_ms D fi l w t ≤ w.2.2.2.2 + 77 * (l + 1)
  | 0, w, t, h, ht => st_g hD h ht
  | l + 1, w, t, h, ht => by
    have h1 := st_g (fi := fi) hD h ht
    refine Nat.le_trans (sp_mxn_le' (M := (sp_st D fi (hs w t)).2.2.2.2 + 77 * (l + 1)) (fun j hj => sp_ms_le hD l _ j (sp_st_ok hD (hs_ok h ht)) (by omega))) ?_
    omega
/-- how the hatch is best set now with l steps behind this one -/
def sp_bs (D : sp_D) (fi l : Nat) (w : sp_W) : Int32 := (sp_mx 0 (-1) (fun t => sp_ms D fi l w t) 5).1
def sp_pw (D : sp_D) (fi n : Nat) (w : sp_W) : Nat → sp_W
  | 0 => w
  | i + 1 => sp_st D fi (hs (sp_pw D fi n w i) (sp_bs D fi (n - i - 1) (sp_pw D fi n w i)).toNatClampNeg)
theorem sp_mx_ix {m0 : Int32} {g : Nat → Nat} : ∀ n, ∃ t, (n = 0 ∧ t = 0 ∨ t < n) ∧ (sp_mx 0 m0 g n).1 = nI t
  | 0 => ⟨0, Or.inl ⟨rfl, rfl⟩, rfl⟩
  | n + 1 => by
    by_cases h : (sp_mx 0 m0 g n).2 < nI (g n)
    · rw [sp_mx_t h]; exact ⟨n, Or.inr (by omega), rfl⟩
    · rw [sp_mx_f h]
      obtain ⟨t, h1, h2⟩ := sp_mx_ix (m0 := m0) (g := g) n
      exact ⟨t, Or.inr (by omega), h2⟩
theorem sp_bs_ix {D : sp_D} {fi l : Nat} {w : sp_W} : ∃ t, t ≤ 4 ∧ sp_bs D fi l w = nI t := by
  obtain ⟨t, h1, h2⟩ := sp_mx_ix (m0 := -1) (g := fun t => sp_ms D fi l w t) 5
  exact ⟨t, by omega, h2⟩
theorem sp_pw_ok {D : sp_D} {fi n : Nat} {w : sp_W} (hD : sp_D0 D) (h : sp_W0 D.1 w) (i : Nat) : sp_W0 D.1 (sp_pw D fi n w i) := by
  induction i with
  | zero => exact h
  | succ i ih =>
    obtain ⟨t, ht, e⟩ := sp_bs_ix (D := D) (fi := fi) (l := n - i - 1) (w := sp_pw D fi n w i)
    rw [sp_pw, e, ni_cl (by omega)]
    exact sp_st_ok hD (hs_ok ih ht)
theorem sp_pw_g {D : sp_D} {fi n : Nat} {w : sp_W} (hD : sp_D0 D) (h : sp_W0 D.1 w) (i : Nat) : (sp_pw D fi n w i).2.2.2.2 ≤ w.2.2.2.2 + 77 * i := by
  induction i with
  | zero => exact Nat.le_refl _
  | succ i ih =>
    obtain ⟨t, ht, e⟩ := sp_bs_ix (D := D) (fi := fi) (l := n - i - 1) (w := sp_pw D fi n w i)
    rw [sp_pw, e, ni_cl (by omega)]
    have := st_g (fi := fi) hD (sp_pw_ok (fi := fi) (n := n) hD h i) ht
    omega
def sp_pr (s : sg) (f : Nat → Int32) (n m : Nat) : Nat → Int32 := fun j => if j < m then sp_bs (s_D s) (s_fi s) (n - j - 1) (sp_pw (s_D s) (s_fi s) n (s_t s) j) else f j
theorem sp_prS {s : sg} {f : Nat → Int32} {n j : Nat} : upd (sp_pr s f n j) j (sp_bs (s_D s) (s_fi s) (n - j - 1) (sp_pw (s_D s) (s_fi s) n (s_t s) j)) = sp_pr s f n (j + 1) := by
  funext i
  unfold upd sp_pr
  by_cases h : i = j
  · rw [if_pos h, if_pos (by omega), h]
  · by_cases h2 : i < j
    · rw [if_neg h, if_pos h2, if_pos (by omega)]
    · rw [if_neg h, if_neg h2, if_neg (by omega)]
def sp_plan (s : sg) (n r : Int32) : Int32 × sg := if ¬ (1 ≤ n ∧ n ≤ 5) ∨ ¬ (0 ≤ r ∧ r ≤ 5) then (-1, s) else if (s_D s).1 = 0 then (-4, s) else (nI (sp_pw (s_D s) (s_fi s) n.toNatClampNeg (s_t s) n.toNatClampNeg).2.2.2.2, u_rows s (va_fn (s_rz s) r.toNatClampNeg n) (va_fn (s_rc s) r.toNatClampNeg (sp_pr s (s_rc s r.toNatClampNeg) n.toNatClampNeg n.toNatClampNeg)))
set_option maxHeartbeats 4000000 in
set_option maxRecDepth 100000 in
theorem l_X4_mostSetting (dom : List Nat) (s : sg) (hD0 : sp_D0 (s_D s)) (hfi : s_fi s < 512) (l : Nat) (hl : l < 4) (ih0 : ∀ (H : mh_H) (a : Nat) (w : sp_W) (t : Nat), CP s H → H a = wc w → (a = 8 ∨ 72 + l < a) → sp_W0 (s_D s).1 w → t ≤ 4 → w.2.2.2.2 ≤ 1000 - 77 * (l + 1) → Mt mX4_mostSetting dom (l + 4) [.ref 0, .ref a, .int (nI t), .int (nI l)] H (mx_Ri (fun v' h' => v' = nI (sp_ms (s_D s) (s_fi s) l w t) ∧ CP s h' ∧ ∀ k, (k = 8 ∨ 72 + l < k) → h' k = H k))) (a t : Nat) (w1 : sp_W) (hw1 : sp_W0 (s_D s).1 w1) (hg1 : w1.2.2.2.2 ≤ 1000 - 77 * (l + 1)) (H0 : mh_H) : ∀ (nn j : Nat), j + nn = 5 → ∀ (H : mh_H), (CP s H ∧ H (72 + (l + 1)) = wc w1 ∧ ∀ k, (k = 8 ∨ 72 + (l + 1) ≤ k) → H k = H0 k) → At mX4_mostSetting dom (l + 1 + 4) 60 [some (.ref 0), some (.ref a), some (.int (nI t)), some (.int (nI (l + 1))), some (.ref (72 + (l + 1))), some (.int (nI (sp_mxn (fun g => sp_ms (s_D s) (s_fi s) l w1 g) j))), some (.int (nI j))] [] H (mx_Ri (fun v' h' => v' = nI (sp_mxn (fun g => sp_ms (s_D s) (s_fi s) l w1 g) 5) ∧ CP s h' ∧ ∀ k, (k = 8 ∨ 72 + (l + 1) ≤ k) → h' k = H0 k)) := by
  intro nn
  induction nn with
  | zero =>
    intro j hj H hinv
    have hj : j = 5 := by omega
    subst hj
    refine ax_iload (pc := 60) dX4_mostSetting_60 rfl ?_
    refine ax_iconst (pc := 62) (v := 4) dX4_mostSetting_62 (by decide) ?_
    refine ax_icmpgt (pc := 63) (tgt := 90) dX4_mostSetting_63 (by decide) (fun _ => ?_) (fun q => absurd (by decide) q)
    refine ax_iload (pc := 90) dX4_mostSetting_90 rfl ?_
    refine ax_iret (pc := 92) dX4_mostSetting_92 rfl ?_
    exact ⟨_, rfl, rfl, hinv.1, hinv.2.2⟩
  | succ nn ih =>
    intro j hj H hinv
    have hlt : j < 5 := by omega
    obtain ⟨c1, c2, c3, c4, c5, c6, c7, c8, c9⟩ := id hinv.1
    refine ax_iload (pc := 60) dX4_mostSetting_60 rfl ?_
    refine ax_iconst (pc := 62) (v := 4) dX4_mostSetting_62 (by decide) ?_
    refine ax_icmpgt (pc := 63) (tgt := 90) dX4_mostSetting_63 (by decide) (fun q => absurd q (by rw [n_4, nI_ltI (by decide) (by omega)]; omega)) (fun _ => ?_)
    refine ax_iload (pc := 66) dX4_mostSetting_66 rfl ?_
    refine ax_aload_n (pc := 68) dX4_mostSetting_68 rfl ?_
    refine ax_aload (pc := 69) dX4_mostSetting_69 rfl ?_
    refine ax_iload (pc := 71) dX4_mostSetting_71 rfl ?_
    refine ax_iload_n (pc := 73) dX4_mostSetting_73 rfl ?_
    refine ax_iconst (pc := 74) (v := 1) dX4_mostSetting_74 (by decide) ?_
    refine ax_isub (pc := 75) dX4_mostSetting_75 ?_
    rw [nI_pred]
    refine ax_cVi3 (pc := 76) vX4_322 dX4_mostSetting_76 (by omega) (by exact c1.1) (Nat.le_of_ble_eq_true rfl) (ih0 _ (72 + (l + 1)) w1 j hinv.1 hinv.2.1 (by omega) hw1 (by omega) hg1) (fun v1 h1 hq1 => ?_)
    obtain ⟨rfl, hc1, hk1⟩ := hq1
    refine ax_max (pc := 79) tw_476 dX4_mostSetting_79 (by omega) (Nat.le_of_ble_eq_true rfl) tw_max ?_
    refine At.ti (ni_max (Nat.lt_of_le_of_lt (sp_mxn_le' (M := w1.2.2.2.2 + 77 * (l + 1)) (fun i hi => sp_ms_le hD0 l w1 i hw1 (by omega))) (by omega)) (Nat.lt_of_le_of_lt (sp_ms_le hD0 l w1 j hw1 (by omega)) (by omega))) ?_
    refine ax_istore5 (pc := 82) dX4_mostSetting_82 rfl (by decide) ?_
    refine ax_inc6p1 (pc := 84) dX4_mostSetting_84 rfl (by decide) ?_
    refine ax_goto (pc := 87) (tgt := 60) dX4_mostSetting_87 (by decide) ?_
    rw [nI_1]
    exact ih (j + 1) (by omega) h1 ⟨hc1, (hk1 _ (by omega)).trans hinv.2.1, fun k hk => (hk1 k (by omega)).trans (hinv.2.2 k hk)⟩
set_option maxHeartbeats 4000000 in
set_option maxRecDepth 100000 in
theorem c_X4_mostSetting (dom : List Nat) (s : sg) (hD0 : sp_D0 (s_D s)) (hfi : s_fi s < 512) : ∀ (l : Nat), l ≤ 4 → ∀ (H : mh_H) (a : Nat) (w : sp_W) (t : Nat), CP s H → H a = wc w → (a = 8 ∨ 72 + l < a) → sp_W0 (s_D s).1 w → t ≤ 4 → w.2.2.2.2 ≤ 1000 - 77 * (l + 1) → Mt mX4_mostSetting dom (l + 4) [.ref 0, .ref a, .int (nI t), .int (nI l)] H (mx_Ri (fun v' h' => v' = nI (sp_ms (s_D s) (s_fi s) l w t) ∧ CP s h' ∧ ∀ k, (k = 8 ∨ 72 + l < k) → h' k = H k)) := by
  intro l
  induction l with
  | zero =>
    intro hl H a w t hc ha h8 hw ht hg
    refine Mt.of (L := [some (.ref 0), some (.ref a), some (.int (nI t)), some (.int (nI 0)), none, none, none]) rfl (Nat.le_of_ble_eq_true rfl) rfl ?_
    obtain ⟨c1, c2, c3, c4, c5, c6, c7, c8, c9⟩ := id hc
    obtain ⟨f0, f1, f2, f3, f4, g72⟩ := c9.2.2 0 (by decide)
    refine ax_iload_n (pc := 0) dX4_mostSetting_0 rfl ?_
    refine ax_iconst (pc := 1) (v := 0) dX4_mostSetting_1 (by decide) ?_
    refine ax_iconst (pc := 2) (v := 4) dX4_mostSetting_2 (by decide) ?_
    refine ax_eSi3 (pc := 3) sX4_133 dX4_mostSetting_3 (by omega) (Nat.le_of_ble_eq_true rfl) (c_X4_within _ _ _ _ _) ?_
    refine ax_ifneB (pc := 6) (tgt := 14) dX4_mostSetting_6 (by decide) (fun c6a => ?_) (fun c6a => ?_)
    · refine ax_aload_n (pc := 14) dX4_mostSetting_14 rfl ?_
      refine ax_getf (pc := 15) fX4_49 dX4_mostSetting_15 (by first | exact c1.1 | exact c2.2.2.2 | exact g72 | exact (mh_up_n (by omega)).trans c1.1 | exact mh_up_s) rfl ?_
      refine ax_iload_n (pc := 18) dX4_mostSetting_18 rfl ?_
      refine ax_aald (pc := 19) dX4_mostSetting_19 (by first | exact c1.1 | exact c2.2.2.2 | exact g72 | exact (mh_up_n (by omega)).trans c1.1 | exact mh_up_s) (by decide) (ni_in9 (by omega) (by decide)) (by rw [ni_cl (by omega)]) ?_
      refine ax_astore4 (pc := 20) dX4_mostSetting_20 rfl (by decide) ?_
      refine ax_aload (pc := 22) dX4_mostSetting_22 rfl ?_
      refine ax_aload_n (pc := 24) dX4_mostSetting_24 rfl ?_
      refine ax_eVv1 (pc := 25) vX4_313 dX4_mostSetting_25 (by omega) (by first | exact c1.1 | exact c2.2.2.2 | exact g72 | exact (mh_up_n (by omega)).trans c1.1 | exact mh_up_s) (Nat.le_of_ble_eq_true rfl) (c_X3_copyOf _ _ (72 + 0) a w.1 w.2.1 w.2.2.1 w.2.2.2.2 _ _ _ _ _ w.2.2.2.1 (by omega) g72 ha) ?_
      refine ax_aload (pc := 28) dX4_mostSetting_28 rfl ?_
      refine ax_iload_n (pc := 30) dX4_mostSetting_30 rfl ?_
      refine ax_puti1u (pc := 31) gX4_166 dX4_mostSetting_31 ?_
      refine ax_aload (pc := 34) dX4_mostSetting_34 rfl ?_
      refine ax_aload_n (pc := 36) dX4_mostSetting_36 rfl ?_
      refine ax_getf (pc := 37) fX4_21 dX4_mostSetting_37 (by first | exact c1.1 | exact c2.2.2.2 | exact g72 | exact (mh_up_n (by omega)).trans c1.1 | exact mh_up_s) rfl ?_
      refine ax_eVi1 (pc := 40) vX4_189 dX4_mostSetting_40 (by omega) (by first | exact c1.1 | exact c2.2.2.2 | exact g72 | exact (mh_up_n (by omega)).trans c1.1 | exact mh_up_s) (Nat.le_of_ble_eq_true rfl) (c_X3_goRound _ _ (s_D s) (s_fi s) (72 + 0) 3 11 12 13 w.1 t w.2.2.1 w.2.2.2.2 w.2.2.2.1 (by exact mh_up_s) (dyP_k (fun q hq => mh_up_n (by omega)) c5) hD0 (hs_ok hw ht) hfi) ?_
      refine At.hp mh_up_uu ?_
      refine ax_pop (pc := 43) dX4_mostSetting_43 rfl ?_
      refine ax_iload_n (pc := 44) dX4_mostSetting_44 rfl ?_
      refine ax_ifne (pc := 45) (tgt := 54) dX4_mostSetting_45 (by decide) (fun q => absurd q (fun q => q rfl)) (fun _ => ?_)
      refine ax_aload (pc := 48) dX4_mostSetting_48 rfl ?_
      refine ax_getf (pc := 50) fX4_196 dX4_mostSetting_50 (by first | exact c1.1 | exact c2.2.2.2 | exact g72 | exact (mh_up_n (by omega)).trans c1.1 | exact mh_up_s) rfl ?_
      refine ax_iret (pc := 53) dX4_mostSetting_53 rfl ?_
      exact ⟨_, rfl, rfl, CP_pl (by decide) hc, (fun k hk => mh_up_n (by omega))⟩
    · exact absurd ⟨nI_pos' (by omega), by rw [n_4, nI_leI (by omega) (by decide)]; omega⟩ c6a
  | succ l ih0 =>
    intro hl H a w t hc ha h8 hw ht hg
    have ih0 := ih0 (by omega)
    refine Mt.of (L := [some (.ref 0), some (.ref a), some (.int (nI t)), some (.int (nI (l + 1))), none, none, none]) rfl (Nat.le_of_ble_eq_true rfl) rfl ?_
    obtain ⟨c1, c2, c3, c4, c5, c6, c7, c8, c9⟩ := id hc
    obtain ⟨f0, f1, f2, f3, f4, g72⟩ := c9.2.2 (l + 1) (by omega)
    refine ax_iload_n (pc := 0) dX4_mostSetting_0 rfl ?_
    refine ax_iconst (pc := 1) (v := 0) dX4_mostSetting_1 (by decide) ?_
    refine ax_iconst (pc := 2) (v := 4) dX4_mostSetting_2 (by decide) ?_
    refine ax_eSi3 (pc := 3) sX4_133 dX4_mostSetting_3 (by omega) (Nat.le_of_ble_eq_true rfl) (c_X4_within _ _ _ _ _) ?_
    refine ax_ifneB (pc := 6) (tgt := 14) dX4_mostSetting_6 (by decide) (fun c6a => ?_) (fun c6a => ?_)
    · refine ax_aload_n (pc := 14) dX4_mostSetting_14 rfl ?_
      refine ax_getf (pc := 15) fX4_49 dX4_mostSetting_15 (by first | exact c1.1 | exact c2.2.2.2 | exact g72 | exact (mh_up_n (by omega)).trans c1.1 | exact mh_up_s) rfl ?_
      refine ax_iload_n (pc := 18) dX4_mostSetting_18 rfl ?_
      refine ax_aald (pc := 19) dX4_mostSetting_19 (by first | exact c1.1 | exact c2.2.2.2 | exact g72 | exact (mh_up_n (by omega)).trans c1.1 | exact mh_up_s) (by decide) (ni_in9 (by omega) (by decide)) (by rw [ni_cl (by omega)]) ?_
      refine ax_astore4 (pc := 20) dX4_mostSetting_20 rfl (by decide) ?_
      refine ax_aload (pc := 22) dX4_mostSetting_22 rfl ?_
      refine ax_aload_n (pc := 24) dX4_mostSetting_24 rfl ?_
      refine ax_eVv1 (pc := 25) vX4_313 dX4_mostSetting_25 (by omega) (by first | exact c1.1 | exact c2.2.2.2 | exact g72 | exact (mh_up_n (by omega)).trans c1.1 | exact mh_up_s) (Nat.le_of_ble_eq_true rfl) (c_X3_copyOf _ _ (72 + (l + 1)) a w.1 w.2.1 w.2.2.1 w.2.2.2.2 _ _ _ _ _ w.2.2.2.1 (by omega) g72 ha) ?_
      refine ax_aload (pc := 28) dX4_mostSetting_28 rfl ?_
      refine ax_iload_n (pc := 30) dX4_mostSetting_30 rfl ?_
      refine ax_puti1u (pc := 31) gX4_166 dX4_mostSetting_31 ?_
      refine ax_aload (pc := 34) dX4_mostSetting_34 rfl ?_
      refine ax_aload_n (pc := 36) dX4_mostSetting_36 rfl ?_
      refine ax_getf (pc := 37) fX4_21 dX4_mostSetting_37 (by first | exact c1.1 | exact c2.2.2.2 | exact g72 | exact (mh_up_n (by omega)).trans c1.1 | exact mh_up_s) rfl ?_
      refine ax_eVi1 (pc := 40) vX4_189 dX4_mostSetting_40 (by omega) (by first | exact c1.1 | exact c2.2.2.2 | exact g72 | exact (mh_up_n (by omega)).trans c1.1 | exact mh_up_s) (Nat.le_of_ble_eq_true rfl) (c_X3_goRound _ _ (s_D s) (s_fi s) (72 + (l + 1)) 3 11 12 13 w.1 t w.2.2.1 w.2.2.2.2 w.2.2.2.1 (by exact mh_up_s) (dyP_k (fun q hq => mh_up_n (by omega)) c5) hD0 (hs_ok hw ht) hfi) ?_
      refine At.hp mh_up_uu ?_
      refine ax_pop (pc := 43) dX4_mostSetting_43 rfl ?_
      refine ax_iload_n (pc := 44) dX4_mostSetting_44 rfl ?_
      refine ax_ifne (pc := 45) (tgt := 54) dX4_mostSetting_45 (by decide) (fun _ => ?_) (fun q => absurd q (by rw [n_0, nI_eq (by omega) (by decide)]; omega))
      refine ax_iconst (pc := 54) (v := 0) dX4_mostSetting_54 (by decide) ?_
      refine ax_istore5 (pc := 55) dX4_mostSetting_55 rfl (by decide) ?_
      refine ax_iconst (pc := 57) (v := 0) dX4_mostSetting_57 (by decide) ?_
      refine ax_istore6 (pc := 58) dX4_mostSetting_58 rfl (by decide) ?_
      have hg2 := st_g (fi := s_fi s) hD0 hw ht
      refine At.mono ?_ (l_X4_mostSetting dom s hD0 hfi l (by omega) ih0 a t (sp_st (s_D s) (s_fi s) (hs w t)) (sp_st_ok hD0 (hs_ok hw ht)) (by omega) (mh_up H (72 + (l + 1)) (wc (sp_st (s_D s) (s_fi s) (hs w t)))) 5 0 (by omega) _ ⟨CP_pl (by omega) hc, mh_up_s, fun _ _ => rfl⟩)
      rintro r h1 ⟨v, rfl, rfl, hc1, hk1⟩
      exact ⟨_, rfl, rfl, hc1, fun k hk => (hk1 k (by omega)).trans (mh_up_n (by omega))⟩
    · exact absurd ⟨nI_pos' (by omega), by rw [n_4, nI_leI (by omega) (by decide)]; omega⟩ c6a
set_option maxHeartbeats 4000000 in
set_option maxRecDepth 100000 in
theorem l_X4_bestSetting (dom : List Nat) (s : sg) (hD0 : sp_D0 (s_D s)) (hfi : s_fi s < 512) (l : Nat) (hl : l ≤ 4) (w : sp_W) (hw : sp_W0 (s_D s).1 w) (hg : w.2.2.2.2 ≤ 1000 - 77 * (l + 1)) : ∀ (nn j : Nat), j + nn = 5 → ∀ (H : mh_H) (l5 : Option Value), (CP s H ∧ H 8 = wc w) → At mX4_bestSetting dom 9 7 [some (.ref 0), some (.int (nI l)), some (.int (sp_mx 0 (-1) (fun t => sp_ms (s_D s) (s_fi s) l w t) j).1), some (.int (sp_mx 0 (-1) (fun t => sp_ms (s_D s) (s_fi s) l w t) j).2), some (.int (nI j)), l5] [] H (mx_Ri (fun v' h' => v' = sp_bs (s_D s) (s_fi s) l w ∧ CP s h' ∧ h' 8 = wc w)) := by
  intro nn
  induction nn with
  | zero =>
    intro j hj H l5 hinv
    have hj : j = 5 := by omega
    subst hj
    refine ax_iload (pc := 7) dX4_bestSetting_7 rfl ?_
    refine ax_iconst (pc := 9) (v := 4) dX4_bestSetting_9 (by decide) ?_
    refine ax_icmpgt (pc := 10) (tgt := 44) dX4_bestSetting_10 (by decide) (fun _ => ?_) (fun q => absurd (by decide) q)
    refine ax_iload_n (pc := 44) dX4_bestSetting_44 rfl ?_
    refine ax_iret (pc := 45) dX4_bestSetting_45 rfl ?_
    exact ⟨_, rfl, rfl, hinv.1, hinv.2⟩
  | succ nn ih =>
    intro j hj H l5 hinv
    have hlt : j < 5 := by omega
    obtain ⟨c1, c2, c3, c4, c5, c6, c7, c8, c9⟩ := id hinv.1
    refine ax_iload (pc := 7) dX4_bestSetting_7 rfl ?_
    refine ax_iconst (pc := 9) (v := 4) dX4_bestSetting_9 (by decide) ?_
    refine ax_icmpgt (pc := 10) (tgt := 44) dX4_bestSetting_10 (by decide) (fun q => absurd q (by rw [n_4, nI_ltI (by decide) (by omega)]; omega)) (fun _ => ?_)
    refine ax_aload_n (pc := 13) dX4_bestSetting_13 rfl ?_
    refine ax_aload_n (pc := 14) dX4_bestSetting_14 rfl ?_
    refine ax_getf (pc := 15) fX4_46 dX4_bestSetting_15 (by exact c1.1) rfl ?_
    refine ax_iload (pc := 18) dX4_bestSetting_18 rfl ?_
    refine ax_iload_n (pc := 20) dX4_bestSetting_20 rfl ?_
    refine ax_cVi3 (pc := 21) vX4_322 dX4_bestSetting_21 (by omega) (by exact c1.1) (Nat.le_of_ble_eq_true rfl) (c_X4_mostSetting dom s hD0 hfi l hl _ 8 w j hinv.1 hinv.2 (Or.inl rfl) hw (by omega) hg) (fun v1 h1 hq1 => ?_)
    obtain ⟨rfl, hc1, hk1⟩ := hq1
    refine ax_istore5 (pc := 24) dX4_bestSetting_24 rfl (by decide) ?_
    refine ax_iload (pc := 26) dX4_bestSetting_26 rfl ?_
    refine ax_iload_n (pc := 28) dX4_bestSetting_28 rfl ?_
    refine ax_icmple (pc := 29) (tgt := 38) dX4_bestSetting_29 (by decide) (fun c29 => ?_) (fun c29 => ?_)
    · refine ax_inc4p1 (pc := 38) dX4_bestSetting_38 rfl (by decide) ?_
      refine ax_goto (pc := 41) (tgt := 7) dX4_bestSetting_41 (by decide) ?_
      rw [nI_1]
      have ih2 := ih (j + 1) (by omega) h1 (some (.int (nI (sp_ms (s_D s) (s_fi s) l w j)))) ⟨hc1, (hk1 8 (Or.inl rfl)).trans hinv.2⟩
      first | rw [sp_mx_f (g := (fun t => sp_ms (s_D s) (s_fi s) l w t)) (j := j) (Int32.not_lt.mpr c29)] at ih2 | rw [sp_mx_t (g := (fun t => sp_ms (s_D s) (s_fi s) l w t)) (j := j) (Int32.not_le.mp c29)] at ih2
      exact ih2
    · refine ax_iload (pc := 32) dX4_bestSetting_32 rfl ?_
      refine ax_istore3 (pc := 34) dX4_bestSetting_34 rfl (by decide) ?_
      refine ax_iload (pc := 35) dX4_bestSetting_35 rfl ?_
      refine ax_istore2 (pc := 37) dX4_bestSetting_37 rfl (by decide) ?_
      refine ax_inc4p1 (pc := 38) dX4_bestSetting_38 rfl (by decide) ?_
      refine ax_goto (pc := 41) (tgt := 7) dX4_bestSetting_41 (by decide) ?_
      rw [nI_1]
      have ih2 := ih (j + 1) (by omega) h1 (some (.int (nI (sp_ms (s_D s) (s_fi s) l w j)))) ⟨hc1, (hk1 8 (Or.inl rfl)).trans hinv.2⟩
      first | rw [sp_mx_f (g := (fun t => sp_ms (s_D s) (s_fi s) l w t)) (j := j) (Int32.not_lt.mpr c29)] at ih2 | rw [sp_mx_t (g := (fun t => sp_ms (s_D s) (s_fi s) l w t)) (j := j) (Int32.not_le.mp c29)] at ih2
      exact ih2
set_option maxHeartbeats 4000000 in
set_option maxRecDepth 100000 in
theorem c_X4_bestSetting (dom : List Nat) (h : mh_H) (s : sg) (hD0 : sp_D0 (s_D s)) (hfi : s_fi s < 512) (l : Nat) (hl : l ≤ 4) (w : sp_W) (hw : sp_W0 (s_D s).1 w) (hg : w.2.2.2.2 ≤ 1000 - 77 * (l + 1)) (hc : CP s h) (h8 : h 8 = wc w) : Mt mX4_bestSetting dom 9 [.ref 0, .int (nI l)] h (mx_Ri (fun v' h' => v' = sp_bs (s_D s) (s_fi s) l w ∧ CP s h' ∧ h' 8 = wc w)) := by
  refine Mt.of (L := [some (.ref 0), some (.int (nI l)), none, none, none, none]) rfl (Nat.le_of_ble_eq_true rfl) rfl ?_
  refine ax_iconst (pc := 0) (v := 0) dX4_bestSetting_0 (by decide) ?_
  refine ax_istore2 (pc := 1) dX4_bestSetting_1 rfl (by decide) ?_
  refine ax_iconst (pc := 2) (v := -1) dX4_bestSetting_2 (by decide) ?_
  refine ax_istore3 (pc := 3) dX4_bestSetting_3 rfl (by decide) ?_
  refine ax_iconst (pc := 4) (v := 0) dX4_bestSetting_4 (by decide) ?_
  refine ax_istore4 (pc := 5) dX4_bestSetting_5 rfl (by decide) ?_
  exact l_X4_bestSetting dom s hD0 hfi l hl w hw hg 5 0 (by omega) h none ⟨hc, h8⟩
set_option maxHeartbeats 4000000 in
set_option maxRecDepth 100000 in
theorem l_X4_plan (dom : List Nat) (s : sg) (hD0 : sp_D0 (s_D s)) (hfi : s_fi s < 512) (hW0 : sp_W0 (s_D s).1 (s_w s)) (m q : Nat) (hq : q < 6) (hm : m ≤ 5) (f : Nat → Int32) : ∀ (nn j : Nat), j + nn = m → ∀ (H : mh_H) (l4 : Option Value), (CP (u_rows s (va_fn (s_rz s) q (nI m)) (va_fn (s_rc s) q (sp_pr s f m j))) H ∧ H 8 = wc (sp_pw (s_D s) (s_fi s) m (s_t s) j)) → At mX4_plan dom 10 45 [some (.ref 0), some (.int (nI m)), some (.int (nI q)), some (.int (nI j)), l4] [] H (mx_Ri (fun v' h' => v' = nI (sp_pw (s_D s) (s_fi s) m (s_t s) m).2.2.2.2 ∧ CP (u_rows s (va_fn (s_rz s) q (nI m)) (va_fn (s_rc s) q (sp_pr s f m m))) h')) := by
  intro nn
  induction nn with
  | zero =>
    intro j hj H l4 hinv
    have hj : j = m := by omega
    subst hj
    obtain ⟨c1, c2, c3, c4, c5, c6, c7, c8, c9⟩ := id hinv.1
    refine ax_iload_n (pc := 45) dX4_plan_45 rfl ?_
    refine ax_iload_n (pc := 46) dX4_plan_46 rfl ?_
    refine ax_icmpge (pc := 47) (tgt := 101) dX4_plan_47 (by decide) (fun _ => ?_) (fun q => absurd (nI_le (Nat.le_refl _) (by omega)) q)
    refine ax_aload_n (pc := 101) dX4_plan_101 rfl ?_
    refine ax_getf (pc := 102) fX4_46 dX4_plan_102 (by first | exact c1.1 | exact hinv.2) rfl ?_
    refine ax_getf (pc := 105) fX4_196 dX4_plan_105 (by first | exact c1.1 | exact hinv.2) rfl ?_
    refine ax_iret (pc := 108) dX4_plan_108 rfl ?_
    exact ⟨_, rfl, rfl, hinv.1⟩
  | succ nn ih =>
    intro j hj H l4 hinv
    have hlt : j < m := by omega
    obtain ⟨c1, c2, c3, c4, c5, c6, c7, c8, c9⟩ := id hinv.1
    refine ax_iload_n (pc := 45) dX4_plan_45 rfl ?_
    refine ax_iload_n (pc := 46) dX4_plan_46 rfl ?_
    refine ax_icmpge (pc := 47) (tgt := 101) dX4_plan_47 (by decide) (fun q => absurd q (nI_ge hlt (by omega))) (fun _ => ?_)
    refine ax_aload_n (pc := 50) dX4_plan_50 rfl ?_
    refine ax_iload_n (pc := 51) dX4_plan_51 rfl ?_
    refine ax_iload_n (pc := 52) dX4_plan_52 rfl ?_
    refine ax_isub (pc := 53) dX4_plan_53 ?_
    refine ax_iconst (pc := 54) (v := 1) dX4_plan_54 (by decide) ?_
    refine ax_isub (pc := 55) dX4_plan_55 ?_
    refine At.ti (x' := nI (m - j - 1)) (by rw [nI_s (by omega), n_1, nI_s (by omega)]) ?_
    refine ax_cVi1 (pc := 56) vX4_193 dX4_plan_56 (by decide) (by first | exact c1.1 | exact d1.1 | exact d2.1 | exact (d3 q hq).1 | exact (d3 q hq).2 | exact (mh_up_n (by omega)).trans d1.1 | exact (mh_up_n (by omega)).trans hk8 | exact (mh_up_n (by omega)).trans ((mh_up_n (by omega)).trans d1.1) | exact (mh_up_n (by omega)).trans ((mh_up_n (by omega)).trans d5.1) | exact mh_up_s) (Nat.le_of_ble_eq_true rfl) (c_X4_bestSetting _ _ (u_rows s (va_fn (s_rz s) q (nI m)) (va_fn (s_rc s) q (sp_pr s f m j))) hD0 hfi (m - j - 1) (by omega) (sp_pw (s_D s) (s_fi s) m (s_t s) j) (sp_pw_ok (w := s_t s) hD0 hW0 j) (by have := sp_pw_g (fi := s_fi s) (n := m) hD0 (w := s_t s) hW0 j; have e : (s_t s).2.2.2.2 = 0 := rfl; omega) hinv.1 hinv.2) (fun v1 h1 hq1 => ?_)
    obtain ⟨rfl, hc1, hk8⟩ := hq1
    refine At.ti (x' := sp_bs (s_D s) (s_fi s) (m - j - 1) (sp_pw (s_D s) (s_fi s) m (s_t s) j)) rfl ?_
    obtain ⟨d1, d2, d3, d4, d5, d6, d7, d8, d9⟩ := id hc1
    obtain ⟨tt, htt, ett⟩ := sp_bs_ix (D := s_D s) (fi := s_fi s) (l := m - j - 1) (w := (sp_pw (s_D s) (s_fi s) m (s_t s) j))
    refine ax_istore4 (pc := 59) dX4_plan_59 rfl (by decide) ?_
    refine ax_aload_n (pc := 61) dX4_plan_61 rfl ?_
    refine ax_getf (pc := 62) fX4_11 dX4_plan_62 (by first | exact c1.1 | exact d1.1 | exact d2.1 | exact (d3 q hq).1 | exact (d3 q hq).2 | exact (mh_up_n (by omega)).trans d1.1 | exact (mh_up_n (by omega)).trans hk8 | exact (mh_up_n (by omega)).trans ((mh_up_n (by omega)).trans d1.1) | exact (mh_up_n (by omega)).trans ((mh_up_n (by omega)).trans d5.1) | exact mh_up_s) rfl ?_
    refine ax_iload_n (pc := 65) dX4_plan_65 rfl ?_
    refine ax_aald (pc := 66) dX4_plan_66 (by first | exact c1.1 | exact d1.1 | exact d2.1 | exact (d3 q hq).1 | exact (d3 q hq).2 | exact (mh_up_n (by omega)).trans d1.1 | exact (mh_up_n (by omega)).trans hk8 | exact (mh_up_n (by omega)).trans ((mh_up_n (by omega)).trans d1.1) | exact (mh_up_n (by omega)).trans ((mh_up_n (by omega)).trans d5.1) | exact mh_up_s) (by decide) (ni_in9 hq (by decide)) (by rw [ni_cl (by omega)]) ?_
    refine ax_getf (pc := 67) fX4_91 dX4_plan_67 (by first | exact c1.1 | exact d1.1 | exact d2.1 | exact (d3 q hq).1 | exact (d3 q hq).2 | exact (mh_up_n (by omega)).trans d1.1 | exact (mh_up_n (by omega)).trans hk8 | exact (mh_up_n (by omega)).trans ((mh_up_n (by omega)).trans d1.1) | exact (mh_up_n (by omega)).trans ((mh_up_n (by omega)).trans d5.1) | exact mh_up_s) rfl ?_
    refine ax_iload_n (pc := 70) dX4_plan_70 rfl ?_
    refine ax_iload (pc := 71) dX4_plan_71 rfl ?_
    refine ax_iast (pc := 73) dX4_plan_73 (by first | exact c1.1 | exact d1.1 | exact d2.1 | exact (d3 q hq).1 | exact (d3 q hq).2 | exact (mh_up_n (by omega)).trans d1.1 | exact (mh_up_n (by omega)).trans hk8 | exact (mh_up_n (by omega)).trans ((mh_up_n (by omega)).trans d1.1) | exact (mh_up_n (by omega)).trans ((mh_up_n (by omega)).trans d5.1) | exact mh_up_s) (ni_in9 (by omega) (by decide)) ?_
    refine At.hp (h' := mh_up h1 (30 + q) (mh_ia 0 60 (sp_pr s f m (j + 1)))) (by rw [← sp_prS, ni_cl (by omega)]; show mh_up h1 _ (mh_ia 0 60 (upd (va_fn (s_rc s) q (sp_pr s f m j) q) _ _)) = _; rw [va_fn_s]) ?_
    refine ax_aload_n (pc := 74) dX4_plan_74 rfl ?_
    refine ax_getf (pc := 75) fX4_46 dX4_plan_75 (by first | exact c1.1 | exact d1.1 | exact d2.1 | exact (d3 q hq).1 | exact (d3 q hq).2 | exact (mh_up_n (by omega)).trans d1.1 | exact (mh_up_n (by omega)).trans hk8 | exact (mh_up_n (by omega)).trans ((mh_up_n (by omega)).trans d1.1) | exact (mh_up_n (by omega)).trans ((mh_up_n (by omega)).trans d5.1) | exact mh_up_s) rfl ?_
    refine ax_iload (pc := 78) dX4_plan_78 rfl ?_
    refine ax_puti1 (pc := 80) gX4_166 dX4_plan_80 (by first | exact c1.1 | exact d1.1 | exact d2.1 | exact (d3 q hq).1 | exact (d3 q hq).2 | exact (mh_up_n (by omega)).trans d1.1 | exact (mh_up_n (by omega)).trans hk8 | exact (mh_up_n (by omega)).trans ((mh_up_n (by omega)).trans d1.1) | exact (mh_up_n (by omega)).trans ((mh_up_n (by omega)).trans d5.1) | exact mh_up_s) ?_
    refine At.hp (h' := mh_up (mh_up h1 (30 + q) (mh_ia 0 60 (sp_pr s f m (j + 1)))) 8 (wc (hs (sp_pw (s_D s) (s_fi s) m (s_t s) j) tt))) (by rw [ett]; rfl) ?_
    refine ax_aload_n (pc := 83) dX4_plan_83 rfl ?_
    refine ax_getf (pc := 84) fX4_46 dX4_plan_84 (by first | exact c1.1 | exact d1.1 | exact d2.1 | exact (d3 q hq).1 | exact (d3 q hq).2 | exact (mh_up_n (by omega)).trans d1.1 | exact (mh_up_n (by omega)).trans hk8 | exact (mh_up_n (by omega)).trans ((mh_up_n (by omega)).trans d1.1) | exact (mh_up_n (by omega)).trans ((mh_up_n (by omega)).trans d5.1) | exact mh_up_s) rfl ?_
    refine ax_aload_n (pc := 87) dX4_plan_87 rfl ?_
    refine ax_getf (pc := 88) fX4_21 dX4_plan_88 (by first | exact c1.1 | exact d1.1 | exact d2.1 | exact (d3 q hq).1 | exact (d3 q hq).2 | exact (mh_up_n (by omega)).trans d1.1 | exact (mh_up_n (by omega)).trans hk8 | exact (mh_up_n (by omega)).trans ((mh_up_n (by omega)).trans d1.1) | exact (mh_up_n (by omega)).trans ((mh_up_n (by omega)).trans d5.1) | exact mh_up_s) rfl ?_
    refine ax_eVi1 (pc := 91) vX4_189 dX4_plan_91 (by decide) (by first | exact c1.1 | exact d1.1 | exact d2.1 | exact (d3 q hq).1 | exact (d3 q hq).2 | exact (mh_up_n (by omega)).trans d1.1 | exact (mh_up_n (by omega)).trans hk8 | exact (mh_up_n (by omega)).trans ((mh_up_n (by omega)).trans d1.1) | exact (mh_up_n (by omega)).trans ((mh_up_n (by omega)).trans d5.1) | exact mh_up_s) (Nat.le_of_ble_eq_true rfl) (c_X3_goRound _ _ (s_D s) (s_fi s) 8 3 11 12 13 (sp_pw (s_D s) (s_fi s) m (s_t s) j).1 tt (sp_pw (s_D s) (s_fi s) m (s_t s) j).2.2.1 (sp_pw (s_D s) (s_fi s) m (s_t s) j).2.2.2.2 (sp_pw (s_D s) (s_fi s) m (s_t s) j).2.2.2.1 (by exact mh_up_s) (dyP_k (fun q hq => (mh_up_n (by omega)).trans (mh_up_n (by omega))) d5) hD0 (hs_ok (sp_pw_ok (w := s_t s) hD0 hW0 j) htt) hfi) ?_
    refine At.hp mh_up_uu ?_
    refine ax_pop (pc := 94) dX4_plan_94 rfl ?_
    refine ax_inc3p1 (pc := 95) dX4_plan_95 rfl (by decide) ?_
    refine ax_goto (pc := 98) (tgt := 45) dX4_plan_98 (by decide) ?_
    rw [nI_1]
    refine ih (j + 1) (by omega) _ _ ⟨?_, ?_⟩
    · have h5 := CP_8 (w := sp_st (s_D s) (s_fi s) (hs (sp_pw (s_D s) (s_fi s) m (s_t s) j) tt)) (CP_rq (q := sp_pr s f m (j + 1)) hq hc1)
      have e6 : u_rows (u_rows s (va_fn (s_rz s) q (nI m)) (va_fn (s_rc s) q (sp_pr s f m j))) (s_rz (u_rows s (va_fn (s_rz s) q (nI m)) (va_fn (s_rc s) q (sp_pr s f m j)))) (va_fn (s_rc (u_rows s (va_fn (s_rz s) q (nI m)) (va_fn (s_rc s) q (sp_pr s f m j)))) q (sp_pr s f m (j + 1))) = u_rows s (va_fn (s_rz s) q (nI m)) (va_fn (s_rc s) q (sp_pr s f m (j + 1))) := by
        show u_rows s (va_fn (s_rz s) q (nI m)) (va_fn (va_fn (s_rc s) q (sp_pr s f m j)) q (sp_pr s f m (j + 1))) = _
        congr 1
        funext i
        unfold va_fn
        split <;> rfl
      rw [e6] at h5
      exact h5
    · rw [sp_pw, ett, ni_cl (by omega)]
      exact mh_up_s
set_option maxHeartbeats 4000000 in
set_option maxRecDepth 100000 in
theorem c_X4_plan (dom : List Nat) (h : mh_H) (s : sg) (n r : Int32) (hc : CP s h) (hv : IV s) : Mt mX4_plan dom 10 [.ref 0, .int n, .int r] h (mx_Ri (fun v' h' => v' = (sp_plan s n r).1 ∧ CP (sp_plan s n r).2 h')) := by
  refine Mt.of (L := [some (.ref 0), some (.int n), some (.int r), none, none]) rfl (Nat.le_of_ble_eq_true rfl) rfl ?_
  obtain ⟨c1, c2, c3, c4, c5, c6, c7, c8, c9⟩ := id hc
  obtain ⟨gx0, gx1, gk1, gf1, gr1, g7, g14, g15, g16⟩ := id c9.1
  obtain ⟨t0, t1, t2, t3, t4, g8⟩ := id c9.2.1
  refine ax_iload_n (pc := 0) dX4_plan_0 rfl ?_
  refine ax_iconst (pc := 1) (v := 1) dX4_plan_1 (by decide) ?_
  refine ax_iconst (pc := 2) (v := 5) dX4_plan_2 (by decide) ?_
  refine ax_eSi3 (pc := 3) sX4_133 dX4_plan_3 (by decide) (Nat.le_of_ble_eq_true rfl) (c_X4_within _ _ _ _ _) ?_
  refine ax_ifeqB (pc := 6) (tgt := 16) dX4_plan_6 (by decide) (fun c6a => ?_) (fun c6a => ?_)
  · refine ax_iconst (pc := 16) (v := -1) dX4_plan_16 (by decide) ?_
    refine ax_iret (pc := 17) dX4_plan_17 rfl ?_
    exact fin_i (by unfold sp_plan; first | exact if_pos (Or.inl c6a) | exact if_pos (Or.inr c13)) hc
  · refine ax_iload_n (pc := 9) dX4_plan_9 rfl ?_
    refine ax_eSi1 (pc := 10) sX4_75 dX4_plan_10 (by decide) (Nat.le_of_ble_eq_true rfl) (c_X4_isRow _ _ _) ?_
    refine ax_ifneB (pc := 13) (tgt := 18) dX4_plan_13 (by decide) (fun c13 => ?_) (fun c13 => ?_)
    · refine ax_aload_n (pc := 18) dX4_plan_18 rfl ?_
      refine ax_eVi0 (pc := 19) vX4_154 dX4_plan_19 (by decide) (by first | exact c1.1 | exact c5.1 | exact c6 | exact c5.2.1 | exact c5.2.2.1 | exact c5.2.2.2 | exact c1.2 | exact c2.1 | exact c2.2.1 | exact c2.2.2.1 | exact c2.2.2.2 | exact g7 | exact g8 | rfl) (Nat.le_of_ble_eq_true rfl) (c_X4_noDays _ _ s hc hv) ?_
      refine ax_ifeqB (pc := 22) (tgt := 28) dX4_plan_22 (by decide) (fun c22 => ?_) (fun c22 => ?_)
      · obtain ⟨m, hm, rfl⟩ := nI_of2 (n := 5) (M := 5) rfl (Int32.not_lt.mpr (Int32.le_trans (by decide) c6a.1)) c6a.2
        obtain ⟨q, hq, rfl⟩ := ix_5 c13
        obtain ⟨hD0, hW0, hfi⟩ := hv.w c22
        refine ax_aload_n (pc := 28) dX4_plan_28 rfl ?_
        refine ax_getf (pc := 29) fX4_11 dX4_plan_29 (by first | exact c1.1 | exact c5.1 | exact c6 | exact c5.2.1 | exact c5.2.2.1 | exact c5.2.2.2 | exact c1.2 | exact c2.1 | exact c2.2.1 | exact c2.2.2.1 | exact c2.2.2.2 | exact g7 | exact g8 | rfl) rfl ?_
        refine ax_iload_n (pc := 32) dX4_plan_32 rfl ?_
        refine ax_aald (pc := 33) dX4_plan_33 (by first | exact c1.1 | exact c5.1 | exact c6 | exact c5.2.1 | exact c5.2.2.1 | exact c5.2.2.2 | exact c1.2 | exact c2.1 | exact c2.2.1 | exact c2.2.2.1 | exact c2.2.2.2 | exact g7 | exact g8 | rfl) (by decide) (ni_in9 hq (by decide)) (by rw [ni_cl (by omega)]) ?_
        refine ax_iload_n (pc := 34) dX4_plan_34 rfl ?_
        refine ax_iconst (pc := 35) (v := 0) dX4_plan_35 (by decide) ?_
        refine ax_eVv2 (pc := 36) vX4_83 dX4_plan_36 (by decide) (c3 q hq).1 (Nat.le_of_ble_eq_true rfl) (c_X2_make _ _ (20 + q) (30 + q) m _ 0 _ (c3 q hq).1 (c3 q hq).2 (by omega)) ?_
        refine ax_aload_n (pc := 39) dX4_plan_39 rfl ?_
        refine ax_eVv0 (pc := 40) vX4_182 dX4_plan_40 (by decide) ((mh_up_n (by omega)).trans ((mh_up_n (by omega)).trans c1.1)) (Nat.le_of_ble_eq_true rfl) (c_X4_startTrial _ _ (u_rows s (va_fn (s_rz s) q (nI m)) (va_fn (s_rc s) q (sl_fil (s_rc s q) m 0))) (CP_row hq hc)) ?_
        refine ax_iconst (pc := 43) (v := 0) dX4_plan_43 (by decide) ?_
        refine ax_istore3 (pc := 44) dX4_plan_44 rfl (by decide) ?_
        refine At.mono ?_ (l_X4_plan dom s hD0 hfi hW0 m q hq hm (sl_fil (s_rc s q) m 0) m 0 (by omega) _ none ⟨CP_8 (CP_row hq hc), mh_up_s⟩)
        rintro r h1 ⟨v, rfl, rfl, hc1⟩
        refine fin_i (by unfold sp_plan; rw [if_neg (by rintro (z | z); exact z c6a; exact z c13), if_neg c22, ni_cl (by omega), ni_cl (by omega)]) ?_
        have e8 : sp_pr s (sl_fil (s_rc s q) m 0) m m = sp_pr s (s_rc s q) m m := by
          funext i
          unfold sp_pr sl_fil
          by_cases hi : i < m
          · rw [if_pos hi, if_pos hi]
          · rw [if_neg hi, if_neg hi, if_neg hi]
        rw [e8] at hc1
        exact hc1
      · refine ax_bipush (pc := 25) (v := -4) dX4_plan_25 (by decide) ?_
        refine ax_iret (pc := 27) dX4_plan_27 rfl ?_
        exact fin_i (by unfold sp_plan; rw [if_neg (by rintro (z | z); exact z c6a; exact z c13), if_pos c22]) hc
    · refine ax_iconst (pc := 16) (v := -1) dX4_plan_16 (by decide) ?_
      refine ax_iret (pc := 17) dX4_plan_17 rfl ?_
      exact fin_i (by unfold sp_plan; first | exact if_pos (Or.inl c6a) | exact if_pos (Or.inr c13)) hc
