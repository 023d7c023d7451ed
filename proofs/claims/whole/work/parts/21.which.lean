def sp_gs (D : sp_D) (fi : Nat) (f : Nat → Int32) : Nat → Nat → sp_W → Bool
  | 0, _, _ => true
  | n + 1, i, w => if nI (sp_wf D fi w) = f i then sp_gs D fi f n (i + 1) (sp_st D fi w) else false
def sp_set (p : Nat → Bool) : Nat → Nat
  | 0 => 0
  | k + 1 => if p k = true then sp_set p k ||| 2 ^ k else sp_set p k
/-- what is wrong with a row of numbers -/
def sp_wr (s : sg) (r : Nat) : Nat := if s_rz s r < 0 then 1 else if 1 ≤ (s_rz s r).toNatClampNeg ∧ (s_rz s r).toNatClampNeg ≤ 20 then (if sp_neg (s_rc s r) (s_rz s r).toNatClampNeg 0 = true then 3 else 0) else 5
theorem sp_wr_lt (s : sg) (r : Nat) : sp_wr s r < 6 := by
  unfold sp_wr
  repeat' split
  all_goals decide
theorem sp_wr_0 {s : sg} {r : Nat} (hz : s_rz s r = -1 ∨ ∃ m, m ≤ 40 ∧ s_rz s r = nI m) (h : sp_wr s r = 0) : ∃ m, 1 ≤ m ∧ m ≤ 20 ∧ s_rz s r = nI m ∧ (s_rz s r).toNatClampNeg = m := by
  unfold sp_wr at h
  split at h
  · cases h
  · rename_i h1
    obtain ⟨m, hm, e⟩ := z_m hz h1
    have em : (s_rz s r).toNatClampNeg = m := by rw [e, ni_cl (by omega)]
    split at h
    · rename_i h2
      rw [em] at h2
      exact ⟨m, h2.1, h2.2, e, em⟩
    · cases h
abbrev s_fm (s : sg) (r : Nat) (D : sp_D) (w : sp_W) : Bool := sp_gs D (s_fi s) (s_rc s r) (s_rz s r).toNatClampNeg 0 w
def sp_where (s : sg) (r : Int32) : Int32 × sg := if ¬ (0 ≤ r ∧ r ≤ 5) then (-1, s) else if (s_D s).1 = 0 then (-4, s) else if ¬ sp_wr s r.toNatClampNeg = 0 then (-3, u_fnd s (sp_wr s r.toNatClampNeg)) else (nI (sp_set (fun k => s_fm s r.toNatClampNeg (s_D s) (k, (s_w s).2.1, (s_w s).2.2.1, (s_w s).2.2.2.1, 0)) (s_D s).1), s)
def sp_flows (s : sg) (k r : Int32) : Int32 × sg := if ¬ isD s k ∨ ¬ (0 ≤ r ∧ r ≤ 5) then (-1, s) else if ¬ sp_wr s r.toNatClampNeg = 0 then (-3, u_fnd s (sp_wr s r.toNatClampNeg)) else (nI (sp_set (fun x => s_fm s r.toNatClampNeg ((s_D s).1, (s_D s).2.1, up_n (s_D s).2.2.1 k.toNatClampNeg x, (s_D s).2.2.2) (s_t s)) 10), s)
def sp_kinds (s : sg) (k r : Int32) : Int32 × sg := if ¬ isD s k ∨ ¬ (0 ≤ r ∧ r ≤ 5) then (-1, s) else if ¬ sp_wr s r.toNatClampNeg = 0 then (-3, u_fnd s (sp_wr s r.toNatClampNeg)) else (nI (sp_set (fun x => s_fm s r.toNatClampNeg ((s_D s).1, up_n (s_D s).2.1 k.toNatClampNeg x, (s_D s).2.2.1, (s_D s).2.2.2) (s_t s)) 6), s)
theorem up_n_u {f : Nat → Nat} {k a b : Nat} : up_n (up_n f k a) k b = up_n f k b := by
  funext j
  unfold up_n
  split <;> rfl
theorem up_n_id {f : Nat → Nat} {k : Nat} : up_n f k (f k) = f := by
  funext j
  unfold up_n
  split
  · rename_i h; rw [h]
  · rfl
theorem CP_14 {s : sg} {h : mh_H} {q : Nat → Int32} (c : CP s h) : CP s (mh_up h 14 (mh_ia 0 9 q)) := by
  obtain ⟨c1, c2, c3, c4, c5, c6, c7, c8, c9⟩ := c
  obtain ⟨x0, x1, k, f, r, g1, g2, g3, g4⟩ := c9.1
  exact ⟨gS_k (fun k hk => mh_up_n (by omega)) c1, gC_k (fun k hk => mh_up_n (by omega)) c2, gR_k (fun k hk => mh_up_n (by omega)) c3, gT_k (fun k hk => mh_up_n (by omega)) c4, dyP_k (fun k hk => mh_up_n (by omega)) c5, (mh_up_n (by decide)).trans c6, gE_k (fun k hk => mh_up_n (by omega)) c7, gK_k (fun k hk => mh_up_n (by omega)) c8, ⟨x0, x1, q, f, r, g1, rfl, g3, g4⟩, gV_k (mh_up_n (by decide)) c9.2.1, fun i hi => gV_k (mh_up_n (by omega)) (c9.2.2 i hi)⟩
theorem CP_15 {s : sg} {h : mh_H} {q : Nat → Int32} (c : CP s h) : CP s (mh_up h 15 (mh_ia 0 9 q)) := by
  obtain ⟨c1, c2, c3, c4, c5, c6, c7, c8, c9⟩ := c
  obtain ⟨x0, x1, k, f, r, g1, g2, g3, g4⟩ := c9.1
  exact ⟨gS_k (fun k hk => mh_up_n (by omega)) c1, gC_k (fun k hk => mh_up_n (by omega)) c2, gR_k (fun k hk => mh_up_n (by omega)) c3, gT_k (fun k hk => mh_up_n (by omega)) c4, dyP_k (fun k hk => mh_up_n (by omega)) c5, (mh_up_n (by decide)).trans c6, gE_k (fun k hk => mh_up_n (by omega)) c7, gK_k (fun k hk => mh_up_n (by omega)) c8, ⟨x0, x1, k, q, r, g1, g2, rfl, g4⟩, gV_k (mh_up_n (by decide)) c9.2.1, fun i hi => gV_k (mh_up_n (by omega)) (c9.2.2 i hi)⟩
/-- the guess holds the days with another kind, another flow -/
abbrev dK (D : sp_D) (k x : Nat) : sp_D := (D.1, up_n D.2.1 k x, D.2.2.1, D.2.2.2)
abbrev dF (D : sp_D) (k x : Nat) : sp_D := (D.1, D.2.1, up_n D.2.2.1 k x, D.2.2.2)
theorem dyP_14 {h : mh_H} {D : sp_D} {fi k x v : Nat} (hD : dyP (dK D k x) fi 7 14 15 16 h) : dyP (dK D k v) fi 7 14 15 16 (mh_up h 14 (mh_ia 0 9 (upd (fun j => nI (up_n D.2.1 k x j)) k (nI v)))) := ⟨hD.1, by rw [mh_up_s, up_nI, up_n_u], hD.2.2.1, hD.2.2.2⟩
theorem dyP_15 {h : mh_H} {D : sp_D} {fi k x v : Nat} (hD : dyP (dF D k x) fi 7 14 15 16 h) : dyP (dF D k v) fi 7 14 15 16 (mh_up h 15 (mh_ia 0 9 (upd (fun j => nI (up_n D.2.2.1 k x j)) k (nI v)))) := ⟨hD.1, hD.2.1, by rw [mh_up_s, up_nI, up_n_u], hD.2.2.2⟩
set_option maxHeartbeats 4000000 in
set_option maxRecDepth 100000 in
theorem c_X4_wrong (dom : List Nat) (h : mh_H) (s : sg) (r : Nat) (hr : r < 6) (hc : CP s h) (hv : IV s) : Mt mX4_wrongNumbers dom 1 [.ref (20 + r)] h (mx_Ri (fun v' h' => v' = nI (sp_wr s r) ∧ h' = h)) := by
  by_cases hz : s_rz s r < 0
  · have e : sp_wr s r = 1 := if_pos hz
    rw [e]
    exact c_X4_wrongNumbers0 dom h (20 + r) (30 + r) _ (hc.2.2.1 r hr).1 hz
  · obtain ⟨m, hm, e⟩ := z_m (hv.1 r hr) hz
    have em : (s_rz s r).toNatClampNeg = m := by rw [e, ni_cl (by omega)]
    have e2 : nI (sp_wr s r) = (if 1 ≤ m ∧ m ≤ 20 then (if sp_neg (s_rc s r) m 0 = true then 3 else 0) else 5) := by
      unfold sp_wr
      rw [if_neg hz, em]
      repeat' split
      all_goals rfl
    rw [e2]
    exact c_X4_wrongNumbers dom h (20 + r) (30 + r) m _ ((hc.2.2.1 r hr).1.trans (by rw [e])) (hc.2.2.1 r hr).2 (by omega)
set_option maxHeartbeats 4000000 in
set_option maxRecDepth 100000 in
theorem l_X4_grindsSo (dom : List Nat) (h : mh_H) (s : sg) (hc : CP s h) (a p m : Nat) (g : Nat → Int32) (ha : h a = mh_ob 2 [.ref p, .int (nI m)]) (hp : h p = mh_ia 0 60 g) (hm : m ≤ 60) (D : sp_D) (fi b k f r : Nat) (hD : dyP D fi b k f r h) (hn8 : b ≠ 8 ∧ k ≠ 8 ∧ f ≠ 8 ∧ r ≠ 8) (ha8 : a ≠ 8) (hp8 : p ≠ 8) (hD0 : sp_D0 D) (hfi : fi < 512) (x : Int32) : ∀ (nn j : Nat), j + nn = m → ∀ (w : sp_W), sp_W0 D.1 w → At mX4_grindsSo dom 3 15 [some (.ref 0), some (.ref a), some (.ref b), some (.int x), some (.int (nI j))] [] (mh_up h 8 (wc w)) (mx_Ri (fun v' h' => v' = (if sp_gs D fi g nn j w = true then 1 else 0) ∧ ∃ w', h' = mh_up h 8 (wc w'))) := by
  intro nn
  induction nn with
  | zero =>
    intro j hj w hinv
    have hj : j = m := by omega
    subst hj
    obtain ⟨c1, c2, c3, c4, c5, c6, c7, c8, c9⟩ := id hc
    refine ax_iload (pc := 15) dX4_grindsSo_15 rfl ?_
    refine ax_aload_n (pc := 17) dX4_grindsSo_17 rfl ?_
    refine ax_getf (pc := 18) fX4_98 dX4_grindsSo_18 (by first | exact c1.1 | exact mh_up_s | exact (mh_up_n ha8).trans ha | exact (mh_up_n hp8).trans hp | exact (mh_up_n hn8.1).trans hD.1) rfl ?_
    refine ax_icmpge (pc := 21) (tgt := 50) dX4_grindsSo_21 (by decide) (fun _ => ?_) (fun q => absurd (nI_le (Nat.le_refl _) (by omega)) q)
    refine ax_iconst (pc := 50) (v := 1) dX4_grindsSo_50 (by decide) ?_
    refine ax_zret (pc := 51) dX4_grindsSo_51 rfl (by first | rfl | exact bi_n) ?_
    exact ⟨_, rfl, rfl, _, rfl⟩
  | succ nn ih =>
    intro j hj w hinv
    have hlt : j < m := by omega
    obtain ⟨c1, c2, c3, c4, c5, c6, c7, c8, c9⟩ := id hc
    refine ax_iload (pc := 15) dX4_grindsSo_15 rfl ?_
    refine ax_aload_n (pc := 17) dX4_grindsSo_17 rfl ?_
    refine ax_getf (pc := 18) fX4_98 dX4_grindsSo_18 (by first | exact c1.1 | exact mh_up_s | exact (mh_up_n ha8).trans ha | exact (mh_up_n hp8).trans hp | exact (mh_up_n hn8.1).trans hD.1) rfl ?_
    refine ax_icmpge (pc := 21) (tgt := 50) dX4_grindsSo_21 (by decide) (fun q => absurd q (nI_ge hlt (by omega))) (fun _ => ?_)
    refine ax_aload_n (pc := 24) dX4_grindsSo_24 rfl ?_
    refine ax_getf (pc := 25) fX4_46 dX4_grindsSo_25 (by first | exact c1.1 | exact mh_up_s | exact (mh_up_n ha8).trans ha | exact (mh_up_n hp8).trans hp | exact (mh_up_n hn8.1).trans hD.1) rfl ?_
    refine ax_aload_n (pc := 28) dX4_grindsSo_28 rfl ?_
    refine ax_eVi1 (pc := 29) vX4_189 dX4_grindsSo_29 (by decide) (by first | exact c1.1 | exact mh_up_s | exact (mh_up_n ha8).trans ha | exact (mh_up_n hp8).trans hp | exact (mh_up_n hn8.1).trans hD.1) (Nat.le_of_ble_eq_true rfl) (c_X3_goRound _ _ D fi 8 b k f r w.1 w.2.1 w.2.2.1 w.2.2.2.2 w.2.2.2.1 (by exact mh_up_s) (dyP_k (fun q hq => mh_up_n (by omega)) hD) hD0 hinv hfi) ?_
    refine At.hp mh_up_uu ?_
    refine ax_aload_n (pc := 32) dX4_grindsSo_32 rfl ?_
    refine ax_getf (pc := 33) fX4_91 dX4_grindsSo_33 (by first | exact c1.1 | exact mh_up_s | exact (mh_up_n ha8).trans ha | exact (mh_up_n hp8).trans hp | exact (mh_up_n hn8.1).trans hD.1) rfl ?_
    refine ax_iload (pc := 36) dX4_grindsSo_36 rfl ?_
    refine ax_iald (pc := 38) dX4_grindsSo_38 (by first | exact c1.1 | exact mh_up_s | exact (mh_up_n ha8).trans ha | exact (mh_up_n hp8).trans hp | exact (mh_up_n hn8.1).trans hD.1) (ni_in9 (by omega) (by decide)) ?_
    rw [ni_cl (by omega)]
    refine ax_icmpeq (pc := 39) (tgt := 44) dX4_grindsSo_39 (by decide) (fun c39 => ?_) (fun c39 => ?_)
    · refine ax_inc4p1 (pc := 44) dX4_grindsSo_44 rfl (by decide) ?_
      refine ax_goto (pc := 47) (tgt := 15) dX4_grindsSo_47 (by decide) ?_
      rw [nI_1, sp_gs, if_pos c39]
      exact ih (j + 1) (by omega) (sp_st D fi w) (sp_st_ok hD0 hinv)
    · refine ax_iconst (pc := 42) (v := 0) dX4_grindsSo_42 (by decide) ?_
      refine ax_zret (pc := 43) dX4_grindsSo_43 rfl rfl ?_
      refine ⟨_, rfl, ?_, _, rfl⟩
      rw [sp_gs, if_neg c39]
      rfl
set_option maxHeartbeats 4000000 in
set_option maxRecDepth 100000 in
theorem c_X4_grindsSo (dom : List Nat) (h : mh_H) (s : sg) (hc : CP s h) (a p m : Nat) (g : Nat → Int32) (ha : h a = mh_ob 2 [.ref p, .int (nI m)]) (hp : h p = mh_ia 0 60 g) (hm : m ≤ 60) (D : sp_D) (fi b k f r : Nat) (hD : dyP D fi b k f r h) (hn8 : b ≠ 8 ∧ k ≠ 8 ∧ f ≠ 8 ∧ r ≠ 8) (ha8 : a ≠ 8) (hp8 : p ≠ 8) (hD0 : sp_D0 D) (hfi : fi < 512) (x : Nat) (hW0 : sp_W0 D.1 (x, (s_w s).2.1, (s_w s).2.2.1, (s_w s).2.2.2.1, 0)) : Mt mX4_grindsSo dom 3 [.ref 0, .ref a, .ref b, .int (nI x)] h (mx_Ri (fun v' h' => v' = (if sp_gs D fi g m 0 (x, (s_w s).2.1, (s_w s).2.2.1, (s_w s).2.2.2.1, 0) = true then 1 else 0) ∧ ∃ w', h' = mh_up h 8 (wc w'))) := by
  refine Mt.of (L := [some (.ref 0), some (.ref a), some (.ref b), some (.int (nI x)), none]) rfl (Nat.le_of_ble_eq_true rfl) rfl ?_
  obtain ⟨c1, c2, c3, c4, c5, c6, c7, c8, c9⟩ := id hc
  refine ax_aload_n (pc := 0) dX4_grindsSo_0 rfl ?_
  refine ax_eVv0 (pc := 1) vX4_182 dX4_grindsSo_1 (by decide) (by first | exact c1.1 | exact mh_up_s) (Nat.le_of_ble_eq_true rfl) (c_X4_startTrial _ _ s hc) ?_
  refine ax_aload_n (pc := 4) dX4_grindsSo_4 rfl ?_
  refine ax_getf (pc := 5) fX4_46 dX4_grindsSo_5 (by first | exact c1.1 | exact mh_up_s) rfl ?_
  refine ax_iload_n (pc := 8) dX4_grindsSo_8 rfl ?_
  refine ax_puti0u (pc := 9) gX4_163 dX4_grindsSo_9 ?_
  refine ax_iconst (pc := 12) (v := 0) dX4_grindsSo_12 (by decide) ?_
  refine ax_istore4 (pc := 13) dX4_grindsSo_13 rfl (by decide) ?_
  exact l_X4_grindsSo dom h s hc a p m g ha hp hm D fi b k f r hD hn8 ha8 hp8 hD0 hfi (nI x) m 0 (by omega) (x, (s_w s).2.1, (s_w s).2.2.1, (s_w s).2.2.2.1, 0) hW0
set_option maxHeartbeats 4000000 in
set_option maxRecDepth 100000 in
theorem l_X4_where (dom : List Nat) (s : sg) (hv : IV s) (h0 : (s_D s).1 ≠ 0) (q m : Nat) (hq : q < 6) (hm : m ≤ 20) (em1 : s_rz s q = nI m) (em : (s_rz s q).toNatClampNeg = m) (x2 : Int32) : ∀ (nn j : Nat), j + nn = (s_D s).1 → ∀ (H : mh_H), CP s H → At mX4_where dom 4 44 [some (.ref 0), some (.int (nI q)), some (.int x2), some (.int (nI (sp_set (fun k => s_fm s q (s_D s) (k, (s_w s).2.1, (s_w s).2.2.1, (s_w s).2.2.2.1, 0)) j))), some (.int (nI j))] [] H (mx_Ri (fun v' h' => v' = nI (sp_set (fun k => s_fm s q (s_D s) (k, (s_w s).2.1, (s_w s).2.2.1, (s_w s).2.2.2.1, 0)) (s_D s).1) ∧ CP s h')) := by
  intro nn
  induction nn with
  | zero =>
    intro j hj H hinv
    have hj : j = (s_D s).1 := by omega
    subst hj
    obtain ⟨c1, c2, c3, c4, c5, c6, c7, c8, c9⟩ := id hinv
    have h9 := hv.2.2.1.1
    refine ax_iload (pc := 44) dX4_where_44 rfl ?_
    refine ax_aload_n (pc := 46) dX4_where_46 rfl ?_
    refine ax_getf (pc := 47) fX4_21 dX4_where_47 (by first | exact c1.1 | exact c5.1) rfl ?_
    refine ax_getf (pc := 50) fX4_129 dX4_where_50 (by first | exact c1.1 | exact c5.1) rfl ?_
    refine ax_icmpge (pc := 53) (tgt := 88) dX4_where_53 (by decide) (fun _ => ?_) (fun q => absurd (nI_le (Nat.le_refl _) (by omega)) q)
    refine ax_iload_n (pc := 88) dX4_where_88 rfl ?_
    refine ax_iret (pc := 89) dX4_where_89 rfl ?_
    exact ⟨_, rfl, rfl, hinv⟩
  | succ nn ih =>
    intro j hj H hinv
    have hlt : j < (s_D s).1 := by omega
    obtain ⟨c1, c2, c3, c4, c5, c6, c7, c8, c9⟩ := id hinv
    have h9 := hv.2.2.1.1
    obtain ⟨hD0, hW0, hfi⟩ := hv.w h0
    have hWt : sp_W0 (s_D s).1 (s_t s) := hW0
    refine ax_iload (pc := 44) dX4_where_44 rfl ?_
    refine ax_aload_n (pc := 46) dX4_where_46 rfl ?_
    refine ax_getf (pc := 47) fX4_21 dX4_where_47 (by first | exact c1.1 | exact c5.1 | exact c2.1) rfl ?_
    refine ax_getf (pc := 50) fX4_129 dX4_where_50 (by first | exact c1.1 | exact c5.1 | exact c2.1) rfl ?_
    refine ax_icmpge (pc := 53) (tgt := 88) dX4_where_53 (by decide) (fun q => absurd q (nI_ge hlt (by omega))) (fun _ => ?_)
    refine ax_aload_n (pc := 56) dX4_where_56 rfl ?_
    refine ax_aload_n (pc := 57) dX4_where_57 rfl ?_
    refine ax_getf (pc := 58) fX4_11 dX4_where_58 (by first | exact c1.1 | exact c5.1 | exact c2.1) rfl ?_
    refine ax_iload_n (pc := 61) dX4_where_61 rfl ?_
    refine ax_aald (pc := 62) dX4_where_62 (by first | exact c1.1 | exact c5.1 | exact c2.1) (by decide) (ni_in9 hq (by decide)) (by rw [ni_cl (by omega)]) ?_
    refine ax_aload_n (pc := 63) dX4_where_63 rfl ?_
    refine ax_getf (pc := 64) fX4_21 dX4_where_64 (by first | exact c1.1 | exact c5.1 | exact c2.1) rfl ?_
    refine ax_iload (pc := 67) dX4_where_67 rfl ?_
    refine ax_cVi3 (pc := 69) vX4_217 dX4_where_69 (by decide) (by first | exact c1.1 | exact c5.1 | exact c2.1) (Nat.le_of_ble_eq_true rfl) (c_X4_grindsSo _ H s hinv (20 + q) (30 + q) m _ ((c3 q hq).1.trans (by rw [em1])) (c3 q hq).2 (by omega) (s_D s) (s_fi s) 3 11 12 13 c5 (by decide) (by omega) (by omega) hD0 hfi j ⟨hlt, hW0.2.1, hW0.2.2⟩) (fun v1 h1 hq1 => ?_)
    obtain ⟨rfl, w1, rfl⟩ := hq1
    refine ax_ifeqB (pc := 72) (tgt := 82) dX4_where_72 (by decide) (fun c72 => ?_) (fun c72 => ?_)
    · refine ax_inc4p1 (pc := 82) dX4_where_82 rfl (by decide) ?_
      refine ax_goto (pc := 85) (tgt := 44) dX4_where_85 (by decide) ?_
      rw [show sp_gs (s_D s) (s_fi s) (s_rc s q) m 0 (j, (s_w s).2.1, (s_w s).2.2.1, (s_w s).2.2.2.1, 0) = (fun k => s_fm s q (s_D s) (k, (s_w s).2.1, (s_w s).2.2.1, (s_w s).2.2.2.1, 0)) j by rw [← em]] at c72
      have e2 : sp_set (fun k => s_fm s q (s_D s) (k, (s_w s).2.1, (s_w s).2.2.1, (s_w s).2.2.2.1, 0)) (j + 1) = if (fun k => s_fm s q (s_D s) (k, (s_w s).2.1, (s_w s).2.2.1, (s_w s).2.2.2.1, 0)) j = true then sp_set (fun k => s_fm s q (s_D s) (k, (s_w s).2.1, (s_w s).2.2.1, (s_w s).2.2.2.1, 0)) j ||| 2 ^ j else sp_set (fun k => s_fm s q (s_D s) (k, (s_w s).2.1, (s_w s).2.2.1, (s_w s).2.2.2.1, 0)) j := rfl
      first | rw [if_pos c72] at e2 | rw [if_neg c72] at e2
      first | rw [nI_1, ni_shl1 (by omega), ni_or, ← e2] | rw [nI_1, show sp_set (fun k => s_fm s q (s_D s) (k, (s_w s).2.1, (s_w s).2.2.1, (s_w s).2.2.2.1, 0)) j = sp_set (fun k => s_fm s q (s_D s) (k, (s_w s).2.1, (s_w s).2.2.1, (s_w s).2.2.2.1, 0)) (j + 1) from e2.symm]
      exact ih (j + 1) (by omega) _ (CP_8 hinv)
    · refine ax_iload_n (pc := 75) dX4_where_75 rfl ?_
      refine ax_iconst (pc := 76) (v := 1) dX4_where_76 (by decide) ?_
      refine ax_iload (pc := 77) dX4_where_77 rfl ?_
      refine ax_ishl (pc := 79) dX4_where_79 ?_
      refine ax_ior (pc := 80) dX4_where_80 ?_
      refine ax_istore3 (pc := 81) dX4_where_81 rfl (by decide) ?_
      refine ax_inc4p1 (pc := 82) dX4_where_82 rfl (by decide) ?_
      refine ax_goto (pc := 85) (tgt := 44) dX4_where_85 (by decide) ?_
      rw [show sp_gs (s_D s) (s_fi s) (s_rc s q) m 0 (j, (s_w s).2.1, (s_w s).2.2.1, (s_w s).2.2.2.1, 0) = (fun k => s_fm s q (s_D s) (k, (s_w s).2.1, (s_w s).2.2.1, (s_w s).2.2.2.1, 0)) j by rw [← em]] at c72
      have e2 : sp_set (fun k => s_fm s q (s_D s) (k, (s_w s).2.1, (s_w s).2.2.1, (s_w s).2.2.2.1, 0)) (j + 1) = if (fun k => s_fm s q (s_D s) (k, (s_w s).2.1, (s_w s).2.2.1, (s_w s).2.2.2.1, 0)) j = true then sp_set (fun k => s_fm s q (s_D s) (k, (s_w s).2.1, (s_w s).2.2.1, (s_w s).2.2.2.1, 0)) j ||| 2 ^ j else sp_set (fun k => s_fm s q (s_D s) (k, (s_w s).2.1, (s_w s).2.2.1, (s_w s).2.2.2.1, 0)) j := rfl
      first | rw [if_pos c72] at e2 | rw [if_neg c72] at e2
      first | rw [nI_1, ni_shl1 (by omega), ni_or, ← e2] | rw [nI_1, show sp_set (fun k => s_fm s q (s_D s) (k, (s_w s).2.1, (s_w s).2.2.1, (s_w s).2.2.2.1, 0)) j = sp_set (fun k => s_fm s q (s_D s) (k, (s_w s).2.1, (s_w s).2.2.1, (s_w s).2.2.2.1, 0)) (j + 1) from e2.symm]
      exact ih (j + 1) (by omega) _ (CP_8 hinv)
set_option maxHeartbeats 4000000 in
set_option maxRecDepth 100000 in
theorem c_X4_where (dom : List Nat) (h : mh_H) (s : sg) (r : Int32) (hc : CP s h) (hv : IV s) : Mt mX4_where dom 4 [.ref 0, .int r] h (mx_Ri (fun v' h' => v' = (sp_where s r).1 ∧ CP (sp_where s r).2 h')) := by
  refine Mt.of (L := [some (.ref 0), some (.int r), none, none, none]) rfl (Nat.le_of_ble_eq_true rfl) rfl ?_
  obtain ⟨c1, c2, c3, c4, c5, c6, c7, c8, c9⟩ := id hc
  obtain ⟨gx0, gx1, gk1, gf1, gr1, g7, g14, g15, g16⟩ := id c9.1
  obtain ⟨t0, t1, t2, t3, t4, g8⟩ := id c9.2.1
  refine ax_iload_n (pc := 0) dX4_where_0 rfl ?_
  refine ax_eSi1 (pc := 1) sX4_75 dX4_where_1 (by decide) (Nat.le_of_ble_eq_true rfl) (c_X4_isRow _ _ _) ?_
  refine ax_ifneB (pc := 4) (tgt := 9) dX4_where_4 (by decide) (fun c4a => ?_) (fun c4a => ?_)
  · refine ax_aload_n (pc := 9) dX4_where_9 rfl ?_
    refine ax_eVi0 (pc := 10) vX4_154 dX4_where_10 (by decide) (by first | exact c1.1 | exact c5.1 | exact c6 | exact c5.2.1 | exact c5.2.2.1 | exact c5.2.2.2 | exact c1.2 | exact c2.1 | exact c2.2.1 | exact c2.2.2.1 | exact c2.2.2.2 | exact g7 | exact g8 | rfl) (Nat.le_of_ble_eq_true rfl) (c_X4_noDays _ _ s hc hv) ?_
    refine ax_ifeqB (pc := 13) (tgt := 19) dX4_where_13 (by decide) (fun c13 => ?_) (fun c13 => ?_)
    · obtain ⟨q, hq, rfl⟩ := ix_5 c4a
      have ez : nI (sp_wr s q) = 0 ↔ sp_wr s q = 0 := by rw [n_0, nI_eq (Nat.lt_trans (sp_wr_lt s q) (by decide)) (by decide)]
      refine ax_aload_n (pc := 19) dX4_where_19 rfl ?_
      refine ax_getf (pc := 20) fX4_11 dX4_where_20 (by first | exact c1.1 | exact c5.1 | exact c6 | exact c5.2.1 | exact c5.2.2.1 | exact c5.2.2.2 | exact c1.2 | exact c2.1 | exact c2.2.1 | exact c2.2.2.1 | exact c2.2.2.2 | exact g7 | exact g8 | rfl) rfl ?_
      refine ax_iload_n (pc := 23) dX4_where_23 rfl ?_
      refine ax_aald (pc := 24) dX4_where_24 (by first | exact c1.1 | exact c5.1 | exact c6 | exact c5.2.1 | exact c5.2.2.1 | exact c5.2.2.2 | exact c1.2 | exact c2.1 | exact c2.2.1 | exact c2.2.2.1 | exact c2.2.2.2 | exact g7 | exact g8 | rfl) (by decide) (ni_in9 hq (by decide)) (by rw [ni_cl (by omega)]) ?_
      refine ax_eSi1 (pc := 25) sX4_214 dX4_where_25 (by decide) (Nat.le_of_ble_eq_true rfl) (c_X4_wrong _ _ s q hq hc hv) ?_
      refine ax_istore2 (pc := 28) dX4_where_28 rfl (by decide) ?_
      refine ax_iload_n (pc := 29) dX4_where_29 rfl ?_
      refine ax_ifeq (pc := 30) (tgt := 39) dX4_where_30 (by decide) (fun c30 => ?_) (fun c30 => ?_)
      · obtain ⟨m, hm1, hm, em1, em⟩ := sp_wr_0 (hv.1 q hq) (ez.mp c30)
        refine ax_iconst (pc := 39) (v := 0) dX4_where_39 (by decide) ?_
        refine ax_istore3 (pc := 40) dX4_where_40 rfl (by decide) ?_
        refine ax_iconst (pc := 41) (v := 0) dX4_where_41 (by decide) ?_
        refine ax_istore4 (pc := 42) dX4_where_42 rfl (by decide) ?_
        unfold sp_where
        rw [if_neg (not_not_intro c4a), if_neg c13, ni_cl (by omega), if_neg (not_not_intro (ez.mp c30))]
        exact l_X4_where dom s hv c13 q m hq hm em1 em _ (s_D s).1 0 (by omega) h hc
      · refine ax_aload_n (pc := 33) dX4_where_33 rfl ?_
        refine ax_iload_n (pc := 34) dX4_where_34 rfl ?_
        refine ax_cVi1 (pc := 35) vX4_79 dX4_where_35 (by decide) (by first | exact c1.1 | exact c5.1 | exact c6 | exact c5.2.1 | exact c5.2.2.1 | exact c5.2.2.2 | exact c1.2 | exact c2.1 | exact c2.2.1 | exact c2.2.2.1 | exact c2.2.2.2 | exact g7 | exact g8 | rfl) (Nat.le_of_ble_eq_true rfl) (c_X4_found _ _ s (sp_wr s q) (sp_wr_lt s q) hc) (fun v1 h1 hq1 => ?_)
        obtain ⟨rfl, hq1⟩ := hq1
        refine ax_iret (pc := 38) dX4_where_38 rfl ?_
        exact fin_i (by unfold sp_where; rw [if_neg (not_not_intro c4a), if_neg c13, ni_cl (by omega), if_pos (fun z => c30 (ez.mpr z))]) hq1
    · refine ax_bipush (pc := 16) (v := -4) dX4_where_16 (by decide) ?_
      refine ax_iret (pc := 18) dX4_where_18 rfl ?_
      exact fin_i (by unfold sp_where; rw [if_neg (not_not_intro c4a), if_pos c13]) hc
  · refine ax_iconst (pc := 7) (v := -1) dX4_where_7 (by decide) ?_
    refine ax_iret (pc := 8) dX4_where_8 rfl ?_
    exact fin_i (by unfold sp_where; exact if_pos c4a) hc
set_option maxHeartbeats 4000000 in
set_option maxRecDepth 100000 in
theorem l_X4_flows (dom : List Nat) (s : sg) (hv : IV s) (k : Nat) (h9 : k < 9) (hD0 : sp_D0 (s_D s)) (hW0 : sp_W0 (s_D s).1 (s_w s)) (hfi : s_fi s < 512) (q m : Nat) (hq : q < 6) (hm : m ≤ 20) (em1 : s_rz s q = nI m) (em : (s_rz s q).toNatClampNeg = m) (x3 : Int32) : ∀ (nn j : Nat), j + nn = 10 → ∀ (H : mh_H) (x : Nat), (CP s H ∧ dyP (dF (s_D s) k x) (s_fi s) 7 14 15 16 H) → At mX4_flows dom 4 54 [some (.ref 0), some (.int (nI k)), some (.int (nI q)), some (.int x3), some (.int (nI (sp_set (fun x => s_fm s q (dF (s_D s) k x) (s_t s)) j))), some (.int (nI j))] [] H (mx_Ri (fun v' h' => v' = nI (sp_set (fun x => s_fm s q (dF (s_D s) k x) (s_t s)) 10) ∧ CP s h')) := by
  intro nn
  induction nn with
  | zero =>
    intro j hj H x hinv
    have hj : j = 10 := by omega
    subst hj
    refine ax_iload (pc := 54) dX4_flows_54 rfl ?_
    refine ax_bipush (pc := 56) (v := 9) dX4_flows_56 (by decide) ?_
    refine ax_icmpgt (pc := 58) (tgt := 111) dX4_flows_58 (by decide) (fun _ => ?_) (fun q => absurd (by decide) q)
    refine ax_iload (pc := 111) dX4_flows_111 rfl ?_
    refine ax_iret (pc := 113) dX4_flows_113 rfl ?_
    exact ⟨_, rfl, rfl, hinv.1⟩
  | succ nn ih =>
    intro j hj H x hinv
    have hlt : j < 10 := by omega
    obtain ⟨c1, c2, c3, c4, c5, c6, c7, c8, c9⟩ := id hinv.1
    have hWt : sp_W0 (s_D s).1 (s_t s) := hW0
    refine ax_iload (pc := 54) dX4_flows_54 rfl ?_
    refine ax_bipush (pc := 56) (v := 9) dX4_flows_56 (by decide) ?_
    refine ax_icmpgt (pc := 58) (tgt := 111) dX4_flows_58 (by decide) (fun q => absurd q (by rw [n_9, nI_ltI (by decide) (by omega)]; omega)) (fun _ => ?_)
    refine ax_aload_n (pc := 61) dX4_flows_61 rfl ?_
    refine ax_getf (pc := 62) fX4_43 dX4_flows_62 (by first | exact c1.1 | exact c2.1 | exact c6 | exact hinv.2.1 | exact hinv.2.2.1 | exact hinv.2.2.2.1) rfl ?_
    refine ax_getf (pc := 65) fX4_221 dX4_flows_65 (by first | exact c1.1 | exact c2.1 | exact c6 | exact hinv.2.1 | exact hinv.2.2.1 | exact hinv.2.2.2.1) rfl ?_
    refine ax_iload_n (pc := 68) dX4_flows_68 rfl ?_
    refine ax_iload (pc := 69) dX4_flows_69 rfl ?_
    refine ax_iast (pc := 71) dX4_flows_71 (by first | exact c1.1 | exact c2.1 | exact c6 | exact hinv.2.1 | exact hinv.2.2.1 | exact hinv.2.2.2.1) (ni_in9 h9 (by decide)) ?_
    rw [ni_cl (by omega)]
    have hd2 := dyP_15 (v := j) hinv.2
    have hc2 := CP_15 (q := upd (fun i => nI (up_n (s_D s).2.2.1 k x i)) k (nI j)) hinv.1
    obtain ⟨e1, e2, e3, e4, e5, e6, e7, e8, e9⟩ := id hc2
    refine ax_aload_n (pc := 72) dX4_flows_72 rfl ?_
    refine ax_aload_n (pc := 73) dX4_flows_73 rfl ?_
    refine ax_getf (pc := 74) fX4_11 dX4_flows_74 (by first | exact c1.1 | exact c2.1 | exact c6 | exact hinv.2.1 | exact hinv.2.2.1 | exact hinv.2.2.2.1) rfl ?_
    refine ax_iload_n (pc := 77) dX4_flows_77 rfl ?_
    refine ax_aald (pc := 78) dX4_flows_78 (by first | exact c1.1 | exact c2.1 | exact c6 | exact hinv.2.1 | exact hinv.2.2.1 | exact hinv.2.2.2.1) (by decide) (ni_in9 hq (by decide)) (by rw [ni_cl (by omega)]) ?_
    refine ax_aload_n (pc := 79) dX4_flows_79 rfl ?_
    refine ax_getf (pc := 80) fX4_43 dX4_flows_80 (by first | exact c1.1 | exact c2.1 | exact c6 | exact hinv.2.1 | exact hinv.2.2.1 | exact hinv.2.2.2.1) rfl ?_
    refine ax_aload_n (pc := 83) dX4_flows_83 rfl ?_
    refine ax_getf (pc := 84) fX4_28 dX4_flows_84 (by first | exact c1.1 | exact c2.1 | exact c6 | exact hinv.2.1 | exact hinv.2.2.1 | exact hinv.2.2.2.1) rfl ?_
    refine ax_getf (pc := 87) fX4_163 dX4_flows_87 (by first | exact c1.1 | exact c2.1 | exact c6 | exact hinv.2.1 | exact hinv.2.2.1 | exact hinv.2.2.2.1) rfl ?_
    refine ax_cVi3 (pc := 90) vX4_217 dX4_flows_90 (by decide) (by first | exact c1.1 | exact c2.1 | exact c6 | exact hinv.2.1 | exact hinv.2.2.1 | exact hinv.2.2.2.1) (Nat.le_of_ble_eq_true rfl) (c_X4_grindsSo _ _ s hc2 (20 + q) (30 + q) m _ ((e3 q hq).1.trans (by rw [em1])) (e3 q hq).2 (by omega) (dF (s_D s) k j) (s_fi s) 7 14 15 16 hd2 (by decide) (by omega) (by omega) (D0_f hD0 (by omega)) hfi (s_w s).1 hWt) (fun v1 h1 hq1 => ?_)
    obtain ⟨rfl, w1, rfl⟩ := hq1
    refine ax_ifeqB (pc := 93) (tgt := 105) dX4_flows_93 (by decide) (fun c93 => ?_) (fun c93 => ?_)
    · refine ax_inc5p1 (pc := 105) dX4_flows_105 rfl (by decide) ?_
      refine ax_goto (pc := 108) (tgt := 54) dX4_flows_108 (by decide) ?_
      rw [show sp_gs (dF (s_D s) k j) (s_fi s) (s_rc s q) m 0 ((s_w s).1, (s_w s).2.1, (s_w s).2.2.1, (s_w s).2.2.2.1, 0) = (fun x => s_fm s q (dF (s_D s) k x) (s_t s)) j by rw [← em]; rfl] at c93
      have e2 : sp_set (fun x => s_fm s q (dF (s_D s) k x) (s_t s)) (j + 1) = if (fun x => s_fm s q (dF (s_D s) k x) (s_t s)) j = true then sp_set (fun x => s_fm s q (dF (s_D s) k x) (s_t s)) j ||| 2 ^ j else sp_set (fun x => s_fm s q (dF (s_D s) k x) (s_t s)) j := rfl
      first | rw [if_pos c93] at e2 | rw [if_neg c93] at e2
      first | rw [nI_1, ni_shl1 (by omega), ni_or, ← e2] | rw [nI_1, show sp_set (fun x => s_fm s q (dF (s_D s) k x) (s_t s)) j = sp_set (fun x => s_fm s q (dF (s_D s) k x) (s_t s)) (j + 1) from e2.symm]
      exact ih (j + 1) (by omega) _ j ⟨CP_8 hc2, dyP_k (fun i hi => mh_up_n (by omega)) hd2⟩
    · refine ax_iload (pc := 96) dX4_flows_96 rfl ?_
      refine ax_iconst (pc := 98) (v := 1) dX4_flows_98 (by decide) ?_
      refine ax_iload (pc := 99) dX4_flows_99 rfl ?_
      refine ax_ishl (pc := 101) dX4_flows_101 ?_
      refine ax_ior (pc := 102) dX4_flows_102 ?_
      refine ax_istore4 (pc := 103) dX4_flows_103 rfl (by decide) ?_
      refine ax_inc5p1 (pc := 105) dX4_flows_105 rfl (by decide) ?_
      refine ax_goto (pc := 108) (tgt := 54) dX4_flows_108 (by decide) ?_
      rw [show sp_gs (dF (s_D s) k j) (s_fi s) (s_rc s q) m 0 ((s_w s).1, (s_w s).2.1, (s_w s).2.2.1, (s_w s).2.2.2.1, 0) = (fun x => s_fm s q (dF (s_D s) k x) (s_t s)) j by rw [← em]; rfl] at c93
      have e2 : sp_set (fun x => s_fm s q (dF (s_D s) k x) (s_t s)) (j + 1) = if (fun x => s_fm s q (dF (s_D s) k x) (s_t s)) j = true then sp_set (fun x => s_fm s q (dF (s_D s) k x) (s_t s)) j ||| 2 ^ j else sp_set (fun x => s_fm s q (dF (s_D s) k x) (s_t s)) j := rfl
      first | rw [if_pos c93] at e2 | rw [if_neg c93] at e2
      first | rw [nI_1, ni_shl1 (by omega), ni_or, ← e2] | rw [nI_1, show sp_set (fun x => s_fm s q (dF (s_D s) k x) (s_t s)) j = sp_set (fun x => s_fm s q (dF (s_D s) k x) (s_t s)) (j + 1) from e2.symm]
      exact ih (j + 1) (by omega) _ j ⟨CP_8 hc2, dyP_k (fun i hi => mh_up_n (by omega)) hd2⟩
set_option maxHeartbeats 4000000 in
set_option maxRecDepth 100000 in
theorem c_X4_flows (dom : List Nat) (h : mh_H) (s : sg) (k r : Int32) (hc : CP s h) (hv : IV s) : Mt mX4_flows dom 4 [.ref 0, .int k, .int r] h (mx_Ri (fun v' h' => v' = (sp_flows s k r).1 ∧ CP (sp_flows s k r).2 h')) := by
  refine Mt.of (L := [some (.ref 0), some (.int k), some (.int r), none, none, none]) rfl (Nat.le_of_ble_eq_true rfl) rfl ?_
  obtain ⟨c1, c2, c3, c4, c5, c6, c7, c8, c9⟩ := id hc
  obtain ⟨gx0, gx1, gk1, gf1, gr1, g7, g14, g15, g16⟩ := id c9.1
  obtain ⟨t0, t1, t2, t3, t4, g8⟩ := id c9.2.1
  refine ax_aload_n (pc := 0) dX4_flows_0 rfl ?_
  refine ax_iload_n (pc := 1) dX4_flows_1 rfl ?_
  refine ax_eVi1 (pc := 2) vX4_130 dX4_flows_2 (by decide) (by first | exact c1.1 | exact c5.1 | exact c6 | exact c5.2.1 | exact c5.2.2.1 | exact c5.2.2.2 | exact c1.2 | exact c2.1 | exact c2.2.1 | exact c2.2.2.1 | exact c2.2.2.2 | exact g7 | exact g8 | rfl) (Nat.le_of_ble_eq_true rfl) (c_X4_isDay _ _ s _ hc) ?_
  refine ax_ifeqB (pc := 5) (tgt := 15) dX4_flows_5 (by decide) (fun c5a => ?_) (fun c5a => ?_)
  · refine ax_iconst (pc := 15) (v := -1) dX4_flows_15 (by decide) ?_
    refine ax_iret (pc := 16) dX4_flows_16 rfl ?_
    exact fin_i (by unfold sp_flows; first | exact if_pos (Or.inl c5a) | exact if_pos (Or.inr c12)) hc
  · refine ax_iload_n (pc := 8) dX4_flows_8 rfl ?_
    refine ax_eSi1 (pc := 9) sX4_75 dX4_flows_9 (by decide) (Nat.le_of_ble_eq_true rfl) (c_X4_isRow _ _ _) ?_
    refine ax_ifneB (pc := 12) (tgt := 17) dX4_flows_12 (by decide) (fun c12 => ?_) (fun c12 => ?_)
    · obtain ⟨k2, hj, rfl, h9, hD0, hW0, hfi⟩ := hv.d c5a
      obtain ⟨q, hq, rfl⟩ := ix_5 c12
      have ez : nI (sp_wr s q) = 0 ↔ sp_wr s q = 0 := by rw [n_0, nI_eq (Nat.lt_trans (sp_wr_lt s q) (by decide)) (by decide)]
      refine ax_aload_n (pc := 17) dX4_flows_17 rfl ?_
      refine ax_getf (pc := 18) fX4_11 dX4_flows_18 (by first | exact c1.1 | exact c5.1 | exact c6 | exact c5.2.1 | exact c5.2.2.1 | exact c5.2.2.2 | exact c1.2 | exact c2.1 | exact c2.2.1 | exact c2.2.2.1 | exact c2.2.2.2 | exact g7 | exact g8 | rfl) rfl ?_
      refine ax_iload_n (pc := 21) dX4_flows_21 rfl ?_
      refine ax_aald (pc := 22) dX4_flows_22 (by first | exact c1.1 | exact c5.1 | exact c6 | exact c5.2.1 | exact c5.2.2.1 | exact c5.2.2.2 | exact c1.2 | exact c2.1 | exact c2.2.1 | exact c2.2.2.1 | exact c2.2.2.2 | exact g7 | exact g8 | rfl) (by decide) (ni_in9 hq (by decide)) (by rw [ni_cl (by omega)]) ?_
      refine ax_eSi1 (pc := 23) sX4_214 dX4_flows_23 (by decide) (Nat.le_of_ble_eq_true rfl) (c_X4_wrong _ _ s q hq hc hv) ?_
      refine ax_istore3 (pc := 26) dX4_flows_26 rfl (by decide) ?_
      refine ax_iload_n (pc := 27) dX4_flows_27 rfl ?_
      refine ax_ifeq (pc := 28) (tgt := 37) dX4_flows_28 (by decide) (fun c28 => ?_) (fun c28 => ?_)
      · obtain ⟨m, hm1, hm, em1, em⟩ := sp_wr_0 (hv.1 q hq) (ez.mp c28)
        refine ax_aload_n (pc := 37) dX4_flows_37 rfl ?_
        refine ax_getf (pc := 38) fX4_43 dX4_flows_38 (by first | exact c1.1 | exact c5.1 | exact c6 | exact c5.2.1 | exact c5.2.2.1 | exact c5.2.2.2 | exact c1.2 | exact c2.1 | exact c2.2.1 | exact c2.2.2.1 | exact c2.2.2.2 | exact g7 | exact g8 | rfl) rfl ?_
        refine ax_aload_n (pc := 41) dX4_flows_41 rfl ?_
        refine ax_getf (pc := 42) fX4_21 dX4_flows_42 (by first | exact c1.1 | exact c5.1 | exact c6 | exact c5.2.1 | exact c5.2.2.1 | exact c5.2.2.2 | exact c1.2 | exact c2.1 | exact c2.2.1 | exact c2.2.2.1 | exact c2.2.2.2 | exact g7 | exact g8 | rfl) rfl ?_
        refine ax_eVv1 (pc := 45) vX4_207 dX4_flows_45 (by decide) (by first | exact c1.1 | exact c5.1 | exact c6 | exact c5.2.1 | exact c5.2.2.1 | exact c5.2.2.2 | exact c1.2 | exact c2.1 | exact c2.2.1 | exact c2.2.2.1 | exact c2.2.2.2 | exact g7 | exact g8 | rfl) (Nat.le_of_ble_eq_true rfl) (c_X0_copyOf _ _ (s_D s) (s_fi s) c9.1 c5) ?_
        refine ax_iconst (pc := 48) (v := 0) dX4_flows_48 (by decide) ?_
        refine ax_istore4 (pc := 49) dX4_flows_49 rfl (by decide) ?_
        refine ax_iconst (pc := 51) (v := 0) dX4_flows_51 (by decide) ?_
        refine ax_istore5 (pc := 52) dX4_flows_52 rfl (by decide) ?_
        unfold sp_flows
        rw [if_neg (by rintro (z | z); exact z c5a; exact z c12), ni_cl (by omega), ni_cl (by omega), if_neg (not_not_intro (ez.mp c28))]
        exact l_X4_flows dom s hv k2 h9 hD0 hW0 hfi q m hq hm em1 em _ 10 0 (by omega) (gsH h (s_D s) (s_fi s)) ((s_D s).2.2.1 k2) ⟨CP_gs hc, by rw [show dF (s_D s) k2 ((s_D s).2.2.1 k2) = s_D s by show (_, _, _, _) = _; rw [up_n_id]]; exact gsH_P h (s_D s) (s_fi s)⟩
      · refine ax_aload_n (pc := 31) dX4_flows_31 rfl ?_
        refine ax_iload_n (pc := 32) dX4_flows_32 rfl ?_
        refine ax_cVi1 (pc := 33) vX4_79 dX4_flows_33 (by decide) (by first | exact c1.1 | exact c5.1 | exact c6 | exact c5.2.1 | exact c5.2.2.1 | exact c5.2.2.2 | exact c1.2 | exact c2.1 | exact c2.2.1 | exact c2.2.2.1 | exact c2.2.2.2 | exact g7 | exact g8 | rfl) (Nat.le_of_ble_eq_true rfl) (c_X4_found _ _ s (sp_wr s q) (sp_wr_lt s q) hc) (fun v1 h1 hq1 => ?_)
        obtain ⟨rfl, hq1⟩ := hq1
        refine ax_iret (pc := 36) dX4_flows_36 rfl ?_
        exact fin_i (by unfold sp_flows; rw [if_neg (by rintro (z | z); exact z c5a; exact z c12), ni_cl (by omega), ni_cl (by omega), if_pos (fun z => c28 (ez.mpr z))]) hq1
    · refine ax_iconst (pc := 15) (v := -1) dX4_flows_15 (by decide) ?_
      refine ax_iret (pc := 16) dX4_flows_16 rfl ?_
      exact fin_i (by unfold sp_flows; first | exact if_pos (Or.inl c5a) | exact if_pos (Or.inr c12)) hc
set_option maxHeartbeats 4000000 in
set_option maxRecDepth 100000 in
theorem l_X4_kinds (dom : List Nat) (s : sg) (hv : IV s) (k : Nat) (h9 : k < 9) (hD0 : sp_D0 (s_D s)) (hW0 : sp_W0 (s_D s).1 (s_w s)) (hfi : s_fi s < 512) (q m : Nat) (hq : q < 6) (hm : m ≤ 20) (em1 : s_rz s q = nI m) (em : (s_rz s q).toNatClampNeg = m) (x3 : Int32) : ∀ (nn j : Nat), j + nn = 6 → ∀ (H : mh_H) (x : Nat), (CP s H ∧ dyP (dK (s_D s) k x) (s_fi s) 7 14 15 16 H) → At mX4_kinds dom 4 54 [some (.ref 0), some (.int (nI k)), some (.int (nI q)), some (.int x3), some (.int (nI (sp_set (fun x => s_fm s q (dK (s_D s) k x) (s_t s)) j))), some (.int (nI j))] [] H (mx_Ri (fun v' h' => v' = nI (sp_set (fun x => s_fm s q (dK (s_D s) k x) (s_t s)) 6) ∧ CP s h')) := by
  intro nn
  induction nn with
  | zero =>
    intro j hj H x hinv
    have hj : j = 6 := by omega
    subst hj
    refine ax_iload (pc := 54) dX4_kinds_54 rfl ?_
    refine ax_bipush (pc := 56) (v := 6) dX4_kinds_56 (by decide) ?_
    refine ax_icmpge (pc := 58) (tgt := 111) dX4_kinds_58 (by decide) (fun _ => ?_) (fun q => absurd (by decide) q)
    refine ax_iload (pc := 111) dX4_kinds_111 rfl ?_
    refine ax_iret (pc := 113) dX4_kinds_113 rfl ?_
    exact ⟨_, rfl, rfl, hinv.1⟩
  | succ nn ih =>
    intro j hj H x hinv
    have hlt : j < 6 := by omega
    obtain ⟨c1, c2, c3, c4, c5, c6, c7, c8, c9⟩ := id hinv.1
    have hWt : sp_W0 (s_D s).1 (s_t s) := hW0
    refine ax_iload (pc := 54) dX4_kinds_54 rfl ?_
    refine ax_bipush (pc := 56) (v := 6) dX4_kinds_56 (by decide) ?_
    refine ax_icmpge (pc := 58) (tgt := 111) dX4_kinds_58 (by decide) (fun q => absurd q (by rw [n_6, nI_leI (by decide) (by omega)]; omega)) (fun _ => ?_)
    refine ax_aload_n (pc := 61) dX4_kinds_61 rfl ?_
    refine ax_getf (pc := 62) fX4_43 dX4_kinds_62 (by first | exact c1.1 | exact c2.1 | exact c6 | exact hinv.2.1 | exact hinv.2.2.1 | exact hinv.2.2.2.1) rfl ?_
    refine ax_getf (pc := 65) fX4_141 dX4_kinds_65 (by first | exact c1.1 | exact c2.1 | exact c6 | exact hinv.2.1 | exact hinv.2.2.1 | exact hinv.2.2.2.1) rfl ?_
    refine ax_iload_n (pc := 68) dX4_kinds_68 rfl ?_
    refine ax_iload (pc := 69) dX4_kinds_69 rfl ?_
    refine ax_iast (pc := 71) dX4_kinds_71 (by first | exact c1.1 | exact c2.1 | exact c6 | exact hinv.2.1 | exact hinv.2.2.1 | exact hinv.2.2.2.1) (ni_in9 h9 (by decide)) ?_
    rw [ni_cl (by omega)]
    have hd2 := dyP_14 (v := j) hinv.2
    have hc2 := CP_14 (q := upd (fun i => nI (up_n (s_D s).2.1 k x i)) k (nI j)) hinv.1
    obtain ⟨e1, e2, e3, e4, e5, e6, e7, e8, e9⟩ := id hc2
    refine ax_aload_n (pc := 72) dX4_kinds_72 rfl ?_
    refine ax_aload_n (pc := 73) dX4_kinds_73 rfl ?_
    refine ax_getf (pc := 74) fX4_11 dX4_kinds_74 (by first | exact c1.1 | exact c2.1 | exact c6 | exact hinv.2.1 | exact hinv.2.2.1 | exact hinv.2.2.2.1) rfl ?_
    refine ax_iload_n (pc := 77) dX4_kinds_77 rfl ?_
    refine ax_aald (pc := 78) dX4_kinds_78 (by first | exact c1.1 | exact c2.1 | exact c6 | exact hinv.2.1 | exact hinv.2.2.1 | exact hinv.2.2.2.1) (by decide) (ni_in9 hq (by decide)) (by rw [ni_cl (by omega)]) ?_
    refine ax_aload_n (pc := 79) dX4_kinds_79 rfl ?_
    refine ax_getf (pc := 80) fX4_43 dX4_kinds_80 (by first | exact c1.1 | exact c2.1 | exact c6 | exact hinv.2.1 | exact hinv.2.2.1 | exact hinv.2.2.2.1) rfl ?_
    refine ax_aload_n (pc := 83) dX4_kinds_83 rfl ?_
    refine ax_getf (pc := 84) fX4_28 dX4_kinds_84 (by first | exact c1.1 | exact c2.1 | exact c6 | exact hinv.2.1 | exact hinv.2.2.1 | exact hinv.2.2.2.1) rfl ?_
    refine ax_getf (pc := 87) fX4_163 dX4_kinds_87 (by first | exact c1.1 | exact c2.1 | exact c6 | exact hinv.2.1 | exact hinv.2.2.1 | exact hinv.2.2.2.1) rfl ?_
    refine ax_cVi3 (pc := 90) vX4_217 dX4_kinds_90 (by decide) (by first | exact c1.1 | exact c2.1 | exact c6 | exact hinv.2.1 | exact hinv.2.2.1 | exact hinv.2.2.2.1) (Nat.le_of_ble_eq_true rfl) (c_X4_grindsSo _ _ s hc2 (20 + q) (30 + q) m _ ((e3 q hq).1.trans (by rw [em1])) (e3 q hq).2 (by omega) (dK (s_D s) k j) (s_fi s) 7 14 15 16 hd2 (by decide) (by omega) (by omega) (D0_k hD0 (by omega)) hfi (s_w s).1 hWt) (fun v1 h1 hq1 => ?_)
    obtain ⟨rfl, w1, rfl⟩ := hq1
    refine ax_ifeqB (pc := 93) (tgt := 105) dX4_kinds_93 (by decide) (fun c93 => ?_) (fun c93 => ?_)
    · refine ax_inc5p1 (pc := 105) dX4_kinds_105 rfl (by decide) ?_
      refine ax_goto (pc := 108) (tgt := 54) dX4_kinds_108 (by decide) ?_
      rw [show sp_gs (dK (s_D s) k j) (s_fi s) (s_rc s q) m 0 ((s_w s).1, (s_w s).2.1, (s_w s).2.2.1, (s_w s).2.2.2.1, 0) = (fun x => s_fm s q (dK (s_D s) k x) (s_t s)) j by rw [← em]; rfl] at c93
      have e2 : sp_set (fun x => s_fm s q (dK (s_D s) k x) (s_t s)) (j + 1) = if (fun x => s_fm s q (dK (s_D s) k x) (s_t s)) j = true then sp_set (fun x => s_fm s q (dK (s_D s) k x) (s_t s)) j ||| 2 ^ j else sp_set (fun x => s_fm s q (dK (s_D s) k x) (s_t s)) j := rfl
      first | rw [if_pos c93] at e2 | rw [if_neg c93] at e2
      first | rw [nI_1, ni_shl1 (by omega), ni_or, ← e2] | rw [nI_1, show sp_set (fun x => s_fm s q (dK (s_D s) k x) (s_t s)) j = sp_set (fun x => s_fm s q (dK (s_D s) k x) (s_t s)) (j + 1) from e2.symm]
      exact ih (j + 1) (by omega) _ j ⟨CP_8 hc2, dyP_k (fun i hi => mh_up_n (by omega)) hd2⟩
    · refine ax_iload (pc := 96) dX4_kinds_96 rfl ?_
      refine ax_iconst (pc := 98) (v := 1) dX4_kinds_98 (by decide) ?_
      refine ax_iload (pc := 99) dX4_kinds_99 rfl ?_
      refine ax_ishl (pc := 101) dX4_kinds_101 ?_
      refine ax_ior (pc := 102) dX4_kinds_102 ?_
      refine ax_istore4 (pc := 103) dX4_kinds_103 rfl (by decide) ?_
      refine ax_inc5p1 (pc := 105) dX4_kinds_105 rfl (by decide) ?_
      refine ax_goto (pc := 108) (tgt := 54) dX4_kinds_108 (by decide) ?_
      rw [show sp_gs (dK (s_D s) k j) (s_fi s) (s_rc s q) m 0 ((s_w s).1, (s_w s).2.1, (s_w s).2.2.1, (s_w s).2.2.2.1, 0) = (fun x => s_fm s q (dK (s_D s) k x) (s_t s)) j by rw [← em]; rfl] at c93
      have e2 : sp_set (fun x => s_fm s q (dK (s_D s) k x) (s_t s)) (j + 1) = if (fun x => s_fm s q (dK (s_D s) k x) (s_t s)) j = true then sp_set (fun x => s_fm s q (dK (s_D s) k x) (s_t s)) j ||| 2 ^ j else sp_set (fun x => s_fm s q (dK (s_D s) k x) (s_t s)) j := rfl
      first | rw [if_pos c93] at e2 | rw [if_neg c93] at e2
      first | rw [nI_1, ni_shl1 (by omega), ni_or, ← e2] | rw [nI_1, show sp_set (fun x => s_fm s q (dK (s_D s) k x) (s_t s)) j = sp_set (fun x => s_fm s q (dK (s_D s) k x) (s_t s)) (j + 1) from e2.symm]
      exact ih (j + 1) (by omega) _ j ⟨CP_8 hc2, dyP_k (fun i hi => mh_up_n (by omega)) hd2⟩
set_option maxHeartbeats 4000000 in
set_option maxRecDepth 100000 in
theorem c_X4_kinds (dom : List Nat) (h : mh_H) (s : sg) (k r : Int32) (hc : CP s h) (hv : IV s) : Mt mX4_kinds dom 4 [.ref 0, .int k, .int r] h (mx_Ri (fun v' h' => v' = (sp_kinds s k r).1 ∧ CP (sp_kinds s k r).2 h')) := by
  refine Mt.of (L := [some (.ref 0), some (.int k), some (.int r), none, none, none]) rfl (Nat.le_of_ble_eq_true rfl) rfl ?_
  obtain ⟨c1, c2, c3, c4, c5, c6, c7, c8, c9⟩ := id hc
  obtain ⟨gx0, gx1, gk1, gf1, gr1, g7, g14, g15, g16⟩ := id c9.1
  obtain ⟨t0, t1, t2, t3, t4, g8⟩ := id c9.2.1
  refine ax_aload_n (pc := 0) dX4_kinds_0 rfl ?_
  refine ax_iload_n (pc := 1) dX4_kinds_1 rfl ?_
  refine ax_eVi1 (pc := 2) vX4_130 dX4_kinds_2 (by decide) (by first | exact c1.1 | exact c5.1 | exact c6 | exact c5.2.1 | exact c5.2.2.1 | exact c5.2.2.2 | exact c1.2 | exact c2.1 | exact c2.2.1 | exact c2.2.2.1 | exact c2.2.2.2 | exact g7 | exact g8 | rfl) (Nat.le_of_ble_eq_true rfl) (c_X4_isDay _ _ s _ hc) ?_
  refine ax_ifeqB (pc := 5) (tgt := 15) dX4_kinds_5 (by decide) (fun c5a => ?_) (fun c5a => ?_)
  · refine ax_iconst (pc := 15) (v := -1) dX4_kinds_15 (by decide) ?_
    refine ax_iret (pc := 16) dX4_kinds_16 rfl ?_
    exact fin_i (by unfold sp_kinds; first | exact if_pos (Or.inl c5a) | exact if_pos (Or.inr c12)) hc
  · refine ax_iload_n (pc := 8) dX4_kinds_8 rfl ?_
    refine ax_eSi1 (pc := 9) sX4_75 dX4_kinds_9 (by decide) (Nat.le_of_ble_eq_true rfl) (c_X4_isRow _ _ _) ?_
    refine ax_ifneB (pc := 12) (tgt := 17) dX4_kinds_12 (by decide) (fun c12 => ?_) (fun c12 => ?_)
    · obtain ⟨k2, hj, rfl, h9, hD0, hW0, hfi⟩ := hv.d c5a
      obtain ⟨q, hq, rfl⟩ := ix_5 c12
      have ez : nI (sp_wr s q) = 0 ↔ sp_wr s q = 0 := by rw [n_0, nI_eq (Nat.lt_trans (sp_wr_lt s q) (by decide)) (by decide)]
      refine ax_aload_n (pc := 17) dX4_kinds_17 rfl ?_
      refine ax_getf (pc := 18) fX4_11 dX4_kinds_18 (by first | exact c1.1 | exact c5.1 | exact c6 | exact c5.2.1 | exact c5.2.2.1 | exact c5.2.2.2 | exact c1.2 | exact c2.1 | exact c2.2.1 | exact c2.2.2.1 | exact c2.2.2.2 | exact g7 | exact g8 | rfl) rfl ?_
      refine ax_iload_n (pc := 21) dX4_kinds_21 rfl ?_
      refine ax_aald (pc := 22) dX4_kinds_22 (by first | exact c1.1 | exact c5.1 | exact c6 | exact c5.2.1 | exact c5.2.2.1 | exact c5.2.2.2 | exact c1.2 | exact c2.1 | exact c2.2.1 | exact c2.2.2.1 | exact c2.2.2.2 | exact g7 | exact g8 | rfl) (by decide) (ni_in9 hq (by decide)) (by rw [ni_cl (by omega)]) ?_
      refine ax_eSi1 (pc := 23) sX4_214 dX4_kinds_23 (by decide) (Nat.le_of_ble_eq_true rfl) (c_X4_wrong _ _ s q hq hc hv) ?_
      refine ax_istore3 (pc := 26) dX4_kinds_26 rfl (by decide) ?_
      refine ax_iload_n (pc := 27) dX4_kinds_27 rfl ?_
      refine ax_ifeq (pc := 28) (tgt := 37) dX4_kinds_28 (by decide) (fun c28 => ?_) (fun c28 => ?_)
      · obtain ⟨m, hm1, hm, em1, em⟩ := sp_wr_0 (hv.1 q hq) (ez.mp c28)
        refine ax_aload_n (pc := 37) dX4_kinds_37 rfl ?_
        refine ax_getf (pc := 38) fX4_43 dX4_kinds_38 (by first | exact c1.1 | exact c5.1 | exact c6 | exact c5.2.1 | exact c5.2.2.1 | exact c5.2.2.2 | exact c1.2 | exact c2.1 | exact c2.2.1 | exact c2.2.2.1 | exact c2.2.2.2 | exact g7 | exact g8 | rfl) rfl ?_
        refine ax_aload_n (pc := 41) dX4_kinds_41 rfl ?_
        refine ax_getf (pc := 42) fX4_21 dX4_kinds_42 (by first | exact c1.1 | exact c5.1 | exact c6 | exact c5.2.1 | exact c5.2.2.1 | exact c5.2.2.2 | exact c1.2 | exact c2.1 | exact c2.2.1 | exact c2.2.2.1 | exact c2.2.2.2 | exact g7 | exact g8 | rfl) rfl ?_
        refine ax_eVv1 (pc := 45) vX4_207 dX4_kinds_45 (by decide) (by first | exact c1.1 | exact c5.1 | exact c6 | exact c5.2.1 | exact c5.2.2.1 | exact c5.2.2.2 | exact c1.2 | exact c2.1 | exact c2.2.1 | exact c2.2.2.1 | exact c2.2.2.2 | exact g7 | exact g8 | rfl) (Nat.le_of_ble_eq_true rfl) (c_X0_copyOf _ _ (s_D s) (s_fi s) c9.1 c5) ?_
        refine ax_iconst (pc := 48) (v := 0) dX4_kinds_48 (by decide) ?_
        refine ax_istore4 (pc := 49) dX4_kinds_49 rfl (by decide) ?_
        refine ax_iconst (pc := 51) (v := 0) dX4_kinds_51 (by decide) ?_
        refine ax_istore5 (pc := 52) dX4_kinds_52 rfl (by decide) ?_
        unfold sp_kinds
        rw [if_neg (by rintro (z | z); exact z c5a; exact z c12), ni_cl (by omega), ni_cl (by omega), if_neg (not_not_intro (ez.mp c28))]
        exact l_X4_kinds dom s hv k2 h9 hD0 hW0 hfi q m hq hm em1 em _ 6 0 (by omega) (gsH h (s_D s) (s_fi s)) ((s_D s).2.1 k2) ⟨CP_gs hc, by rw [show dK (s_D s) k2 ((s_D s).2.1 k2) = s_D s by show (_, _, _, _) = _; rw [up_n_id]]; exact gsH_P h (s_D s) (s_fi s)⟩
      · refine ax_aload_n (pc := 31) dX4_kinds_31 rfl ?_
        refine ax_iload_n (pc := 32) dX4_kinds_32 rfl ?_
        refine ax_cVi1 (pc := 33) vX4_79 dX4_kinds_33 (by decide) (by first | exact c1.1 | exact c5.1 | exact c6 | exact c5.2.1 | exact c5.2.2.1 | exact c5.2.2.2 | exact c1.2 | exact c2.1 | exact c2.2.1 | exact c2.2.2.1 | exact c2.2.2.2 | exact g7 | exact g8 | rfl) (Nat.le_of_ble_eq_true rfl) (c_X4_found _ _ s (sp_wr s q) (sp_wr_lt s q) hc) (fun v1 h1 hq1 => ?_)
        obtain ⟨rfl, hq1⟩ := hq1
        refine ax_iret (pc := 36) dX4_kinds_36 rfl ?_
        exact fin_i (by unfold sp_kinds; rw [if_neg (by rintro (z | z); exact z c5a; exact z c12), ni_cl (by omega), ni_cl (by omega), if_pos (fun z => c28 (ez.mpr z))]) hq1
    · refine ax_iconst (pc := 15) (v := -1) dX4_kinds_15 (by decide) ?_
      refine ax_iret (pc := 16) dX4_kinds_16 rfl ?_
      exact fin_i (by unfold sp_kinds; first | exact if_pos (Or.inl c5a) | exact if_pos (Or.inr c12)) hc
