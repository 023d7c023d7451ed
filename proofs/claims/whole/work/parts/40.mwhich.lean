theorem upd_uu {f : Nat → Int32} {k : Nat} {a b : Int32} : upd (upd f k a) k b = upd f k b := by
  funext j
  unfold upd
  split <;> rfl
theorem upd_id {f : Nat → Int32} {k : Nat} {a : Int32} (h : f k = a) : upd f k a = f := by
  funext j
  unfold upd
  split
  · rename_i e; rw [e, h]
  · rfl
theorem set_t {p : Nat → Bool} {j : Nat} (hj : j < 31) (h : p j = true) : nI (sp_set p j) ||| (1 <<< (nI j &&& 31)) = nI (sp_set p (j + 1)) := by rw [ni_shl1 hj, ni_or, sp_set, if_pos h]
theorem set_f {p : Nat → Bool} {j : Nat} (h : ¬ p j = true) : nI (sp_set p j) ||| nI 0 = nI (sp_set p (j + 1)) := by rw [ni_or, sp_set, if_neg h, Nat.or_zero]
theorem dayH_f {D : sp_D} {so fl dr : Nat → Int32} {h : mh_H} {k x : Nat} (m : dayH D so fl dr h) : dayH (dF D k x) so (upd fl k (nI x)) dr (mh_up h 6 (mh_ia 0 9 (upd fl k (nI x)))) := by
  refine ⟨(mh_up_n (by decide)).trans m.1, mh_up_s, (mh_up_n (by decide)).trans m.2.2.1, fun j hj => ?_⟩
  have := m.2.2.2 j hj
  refine ⟨this.1, ?_, this.2.2⟩
  show _ = nI (up_n D.2.2.1 k x j)
  by_cases q : j = k
  · subst q; rw [pk_us, up_n_s]
  · rw [pk_un q, this.2.1]; unfold up_n; rw [if_neg q]
theorem dayH_s {D : sp_D} {so fl dr : Nat → Int32} {h : mh_H} {k x : Nat} (m : dayH D so fl dr h) : dayH (dK D k x) (upd so k (nI x)) fl dr (mh_up h 5 (mh_ia 0 9 (upd so k (nI x)))) := by
  refine ⟨mh_up_s, (mh_up_n (by decide)).trans m.2.1, (mh_up_n (by decide)).trans m.2.2.1, fun j hj => ?_⟩
  have := m.2.2.2 j hj
  refine ⟨?_, this.2.1, this.2.2⟩
  show _ = nI (up_n D.2.1 k x j)
  by_cases q : j = k
  · subst q; rw [pk_us, up_n_s]
  · rw [pk_un q, this.1]; unfold up_n; rw [if_neg q]
theorem D0_fj {D : sp_D} {k x : Nat} (h : sp_D0 D) (hx : x < 10) : sp_D0 (dF D k x) := ⟨h.1, h.2.1, fun j hj => ⟨(h.2.2 j hj).1, up_n_lt hx (h.2.2 j hj).2.1, (h.2.2 j hj).2.2⟩⟩
theorem D0_sj {D : sp_D} {k x : Nat} (h : sp_D0 D) (hx : x < 6) : sp_D0 (dK D k x) := ⟨h.1, h.2.1, fun j hj => ⟨up_n_lt hx (h.2.2 j hj).1, (h.2.2 j hj).2⟩⟩
abbrev wv (b : Bool) : Nat := if b = true then 3 else 0
set_option maxHeartbeats 4000000 in
set_option maxRecDepth 100000 in
theorem l_X5_wrong (dom : List Nat) (h : mh_H) (x : mxT) (sl : Nat → Int32) (tu : Int32) (z f c : Nat → Int32) (r m : Nat) (hr : r < 6) (hm : m ≤ 40) (h1 : h 1 = mh_ia 0 6 z) (hz : z r = nI m) (h2 : h 2 = mh_ia 0 240 f) (hf : ∀ i, i < m → f (40 * r + i) = c i) : ∀ (nn j : Nat), j + nn = m → ∀ (b : Bool), At mX5_wrongRow dom 1 34 [some (.ref 0), some (.int (nI r)), some (.int (nI (wv b))), some (.int (nI j))] [] (hM h x sl tu) (mx_Ri (fun v' h' => v' = nI (wv (b || sp_neg c nn j)) ∧ h' = (hM h x sl tu))) := by
  intro nn
  induction nn with
  | zero =>
    intro j hj b
    have hj : j = m := by omega
    subst hj
    refine ax_iload_n (pc := 34) dX5_wrongRow_34 rfl ?_
    refine ax_aload_n (pc := 35) dX5_wrongRow_35 rfl ?_
    refine ax_getf (pc := 36) fX5_7 dX5_wrongRow_36 (by exact hM_0) rfl ?_
    refine ax_iload_n (pc := 39) dX5_wrongRow_39 rfl ?_
    refine bx_iaload dX5_wrongRow_40 ((hM_n (by decide)).trans h1) hr (by decide) hz ?_
    refine ax_icmpge (pc := 41) (tgt := 70) dX5_wrongRow_41 (by decide) (fun _ => ?_) (fun q => absurd (nI_le (Nat.le_refl _) (by omega)) q)
    refine ax_iload_n (pc := 70) dX5_wrongRow_70 rfl ?_
    refine ax_iret (pc := 71) dX5_wrongRow_71 rfl ?_
    exact ⟨_, rfl, by rw [sp_neg, Bool.or_false], rfl⟩
  | succ nn ih =>
    intro j hj b
    have hlt : j < m := by omega
    refine ax_iload_n (pc := 34) dX5_wrongRow_34 rfl ?_
    refine ax_aload_n (pc := 35) dX5_wrongRow_35 rfl ?_
    refine ax_getf (pc := 36) fX5_7 dX5_wrongRow_36 (by exact hM_0) rfl ?_
    refine ax_iload_n (pc := 39) dX5_wrongRow_39 rfl ?_
    refine bx_iaload dX5_wrongRow_40 ((hM_n (by decide)).trans h1) hr (by decide) hz ?_
    refine ax_icmpge (pc := 41) (tgt := 70) dX5_wrongRow_41 (by decide) (fun q => absurd q (nI_ge hlt (by omega))) (fun _ => ?_)
    refine ax_aload_n (pc := 44) dX5_wrongRow_44 rfl ?_
    refine ax_getf (pc := 45) fX5_13 dX5_wrongRow_45 (by exact hM_0) rfl ?_
    refine ax_bipush (pc := 48) (v := nI 40) dX5_wrongRow_48 (by decide) ?_
    refine ax_iload_n (pc := 50) dX5_wrongRow_50 rfl ?_
    refine bx_imul dX5_wrongRow_51  ?_
    refine ax_iload_n (pc := 52) dX5_wrongRow_52 rfl ?_
    refine bx_iadd dX5_wrongRow_53  ?_
    refine bx_iaload dX5_wrongRow_54 ((hM_n (by decide)).trans h2) (by omega) (by decide) (hf j hlt) ?_
    refine ax_ifge (pc := 55) (tgt := 62) dX5_wrongRow_55 (by decide) (fun c55 => ?_) (fun c55 => ?_)
    · refine ax_iload_n (pc := 62) dX5_wrongRow_62 rfl ?_
      refine ax_istore2 (pc := 63) dX5_wrongRow_63 rfl (by decide) ?_
      refine ax_inc3p1 (pc := 64) dX5_wrongRow_64 rfl (by decide) ?_
      refine ax_goto (pc := 67) (tgt := 34) dX5_wrongRow_67 (by decide) ?_
      rw [nI_1]
      first
        | (have K := ih (j + 1) (by omega) b; rw [show sp_neg c (nn + 1) j = sp_neg c nn (j + 1) by rw [sp_neg, if_neg (Int32.not_lt.mpr c55)]]; exact K)
        | (have K := ih (j + 1) (by omega) true; rw [show sp_neg c (nn + 1) j = true by rw [sp_neg, if_pos (Int32.not_le.mp c55)], Bool.or_true]; rw [Bool.true_or] at K; exact K)
    · refine ax_iconst (pc := 58) (v := nI 3) dX5_wrongRow_58 (by decide) ?_
      refine ax_goto (pc := 59) (tgt := 63) dX5_wrongRow_59 (by decide) ?_
      refine ax_istore2 (pc := 63) dX5_wrongRow_63 rfl (by decide) ?_
      refine ax_inc3p1 (pc := 64) dX5_wrongRow_64 rfl (by decide) ?_
      refine ax_goto (pc := 67) (tgt := 34) dX5_wrongRow_67 (by decide) ?_
      rw [nI_1]
      first
        | (have K := ih (j + 1) (by omega) b; rw [show sp_neg c (nn + 1) j = sp_neg c nn (j + 1) by rw [sp_neg, if_neg (Int32.not_lt.mpr c55)]]; exact K)
        | (have K := ih (j + 1) (by omega) true; rw [show sp_neg c (nn + 1) j = true by rw [sp_neg, if_pos (Int32.not_le.mp c55)], Bool.or_true]; rw [Bool.true_or] at K; exact K)
set_option maxHeartbeats 4000000 in
set_option maxRecDepth 100000 in
theorem c_X5_wrongRow (dom : List Nat) (h : mh_H) (s : sg) (nd : Int32) (sl : Nat → Int32) (tu : Int32) (hm : MB s h sl) (hv : IV s) (q : Nat) (hq : q < 6) : Mt mX5_wrongRow dom 1 [.ref 0, .int (nI q)] (hM h (xs s nd) sl tu) (mx_Ri (fun v' h' => v' = nI (sp_wr s q) ∧ h' = (hM h (xs s nd) sl tu))) := by
  refine Mt.of (L := [some (.ref 0), some (.int (nI q)), none, none]) rfl (Nat.le_of_ble_eq_true rfl) rfl ?_
  obtain ⟨⟨m1, f2, m2, mf⟩, ⟨m3, f4, m4, mg⟩, ⟨so, fl, dr, md⟩, mn, msl, mk, mc, ⟨wo, mw⟩⟩ := id hm
  refine ax_aload_n (pc := 0) dX5_wrongRow_0 rfl ?_
  refine ax_getf (pc := 1) fX5_7 dX5_wrongRow_1 (by exact hM_0) rfl ?_
  refine ax_iload_n (pc := 4) dX5_wrongRow_4 rfl ?_
  refine bx_iaload dX5_wrongRow_5 ((hM_n (by decide)).trans m1) hq (by decide) rfl ?_
  refine ax_ifge (pc := 6) (tgt := 11) dX5_wrongRow_6 (by decide) (fun c6a => ?_) (fun c6a => ?_)
  · obtain ⟨m, hm2, ez⟩ := z_m (hv.1 q hq) (Int32.not_lt.mpr c6a)
    have em : (s_rz s q).toNatClampNeg = m := by rw [ez, ni_cl (by omega)]
    refine ax_aload_n (pc := 11) dX5_wrongRow_11 rfl ?_
    refine ax_getf (pc := 12) fX5_7 dX5_wrongRow_12 (by exact hM_0) rfl ?_
    refine ax_iload_n (pc := 15) dX5_wrongRow_15 rfl ?_
    refine bx_iaload dX5_wrongRow_16 ((hM_n (by decide)).trans m1) hq (by decide) rfl ?_
    refine ax_i2l (pc := 17) dX5_wrongRow_17 ?_
    refine ax_lconst (pc := 18) (v := 1) dX5_wrongRow_18 (by decide) ?_
    refine ax_ldc2 (pc := 19) dX5_wrongRow_19 tw_887 ?_
    refine ax_eSi3 (pc := 22) sX5_63 dX5_wrongRow_22 (by decide) (Nat.le_of_ble_eq_true rfl) (c_X5_in _ _ (s_rz s q) 1 20 _ _ (by decide) (by decide)) ?_
    refine ax_ifneB (pc := 25) (tgt := 30) dX5_wrongRow_25 (by decide) (fun c25 => ?_) (fun c25 => ?_)
    · rw [ez, n_1, n_20, nI_leI (by decide) (by omega), nI_leI (by omega) (by decide)] at c25
      refine ax_iconst (pc := 30) (v := nI 0) dX5_wrongRow_30 (by decide) ?_
      refine ax_istore2 (pc := 31) dX5_wrongRow_31 rfl (by decide) ?_
      refine ax_iconst (pc := 32) (v := nI 0) dX5_wrongRow_32 (by decide) ?_
      refine ax_istore3 (pc := 33) dX5_wrongRow_33 rfl (by decide) ?_
      have K := l_X5_wrong dom h (xs s nd) sl tu (s_rz s) f2 (s_rc s q) q m hq hm2 m1 ez m2 (fun i hi => mf q hq i (by rw [em]; exact hi)) m 0 (by omega) false
      rw [Bool.false_or] at K
      rw [show sp_wr s q = wv (sp_neg (s_rc s q) m 0) by unfold sp_wr; rw [if_neg (Int32.not_lt.mpr c6a), em, if_pos c25]]
      exact K
    · rw [ez, n_1, n_20, nI_leI (by decide) (by omega), nI_leI (by omega) (by decide)] at c25
      refine ax_iconst (pc := 28) (v := 5) dX5_wrongRow_28 (by decide) ?_
      refine ax_iret (pc := 29) dX5_wrongRow_29 rfl ?_
      exact ⟨_, rfl, by unfold sp_wr; rw [if_neg (Int32.not_lt.mpr c6a), em, if_neg c25]; rfl, rfl⟩
  · refine ax_iconst (pc := 9) (v := 1) dX5_wrongRow_9 (by decide) ?_
    refine ax_iret (pc := 10) dX5_wrongRow_10 rfl ?_
    exact ⟨_, rfl, by unfold sp_wr; rw [if_pos (Int32.not_le.mp c6a)]; rfl, rfl⟩
set_option maxHeartbeats 4000000 in
set_option maxRecDepth 100000 in
theorem l_X5_isGround (dom : List Nat) (h : mh_H) (x : mxT) (sl : Nat → Int32) (D : sp_D) (so fl dr : Nat → Int32) (hd : dayH D so fl dr h) (z f c : Nat → Int32) (r m : Nat) (hr : r < 6) (hm : m ≤ 40) (h1 : h 1 = mh_ia 0 6 z) (hz : z r = nI m) (h2 : h 2 = mh_ia 0 240 f) (hf : ∀ i, i < m → f (40 * r + i) = c i) (fi : Nat) (hD0 : sp_D0 D) (hfi : fi < 512) (hx : x.1 = nI D.1) : ∀ (nn j : Nat), j + nn = m → ∀ (w : sp_W) (ok : Bool) (g tu : Int32), sp_W0 D.1 w → At mX5_isGround dom 4 4 [some (.ref 0), some (.int (nI r)), some (.int (bb ok)), some (.int (nI j))] [] (hM h x (s6 sl 984 w fi g) tu) (mx_Ri (fun v' h' => v' = (if (ok && sp_gs D fi c nn j w) = true then 1 else 0) ∧ ∃ w' g' tu', h' = hM h x (s6 sl 984 w' fi g') tu')) := by
  intro nn
  induction nn with
  | zero =>
    intro j hj w ok g tu hinv
    have hj : j = m := by omega
    subst hj
    refine ax_iload_n (pc := 4) dX5_isGround_4 rfl ?_
    refine ax_aload_n (pc := 5) dX5_isGround_5 rfl ?_
    refine ax_getf (pc := 6) fX5_7 dX5_isGround_6 (by exact hM_0) rfl ?_
    refine ax_iload_n (pc := 9) dX5_isGround_9 rfl ?_
    refine bx_iaload dX5_isGround_10 ((hM_n (by decide)).trans h1) hr (by decide) hz ?_
    refine ax_icmpge (pc := 11) (tgt := 52) dX5_isGround_11 (by decide) (fun _ => ?_) (fun q => absurd (nI_le (Nat.le_refl _) (by omega)) q)
    refine ax_iload_n (pc := 52) dX5_isGround_52 rfl ?_
    refine ax_zret (pc := 53) dX5_isGround_53 rfl (by first | rfl | exact bi_n) ?_
    exact ⟨_, rfl, by rw [sp_gs, Bool.and_true], _, _, _, rfl⟩
  | succ nn ih =>
    intro j hj w ok g tu hinv
    have hlt : j < m := by omega
    cases ok
    · skip
      refine ax_iload_n (pc := 4) dX5_isGround_4 rfl ?_
      refine ax_aload_n (pc := 5) dX5_isGround_5 rfl ?_
      refine ax_getf (pc := 6) fX5_7 dX5_isGround_6 (by exact hM_0) rfl ?_
      refine ax_iload_n (pc := 9) dX5_isGround_9 rfl ?_
      refine bx_iaload dX5_isGround_10 ((hM_n (by decide)).trans h1) hr (by decide) hz ?_
      refine ax_icmpge (pc := 11) (tgt := 52) dX5_isGround_11 (by decide) (fun q => absurd q (nI_ge hlt (by omega))) (fun _ => ?_)
      refine ax_aload_n (pc := 14) dX5_isGround_14 rfl ?_
      refine ax_sipush (pc := 15) (v := nI 984) dX5_isGround_15 (by decide) ?_
      refine ax_iconst (pc := 18) (v := 0) dX5_isGround_18 (by decide) ?_
      refine ax_eVi2 (pc := 19) vX5_156 dX5_isGround_19 (by decide) (by exact hM_0) (Nat.le_of_ble_eq_true rfl) (c_X5_steps _ h x sl tu D so fl dr hd 984 fi w g (by decide) hD0 hinv hfi hx) ?_
      refine ax_aload_n (pc := 22) dX5_isGround_22 rfl ?_
      refine ax_getf (pc := 23) fX5_13 dX5_isGround_23 (by exact hM_0) rfl ?_
      refine ax_bipush (pc := 26) (v := nI 40) dX5_isGround_26 (by decide) ?_
      refine ax_iload_n (pc := 28) dX5_isGround_28 rfl ?_
      refine bx_imul dX5_isGround_29  ?_
      refine ax_iload_n (pc := 30) dX5_isGround_30 rfl ?_
      refine bx_iadd dX5_isGround_31  ?_
      refine bx_iaload dX5_isGround_32 ((hM_n (by decide)).trans h2) (by omega) (by decide) (hf j hlt) ?_
      refine ax_icmpne (pc := 33) (tgt := 44) dX5_isGround_33 (by decide) (fun c33 => ?_) (fun c33 => ?_)
      · refine ax_iconst (pc := 44) (v := nI 0) dX5_isGround_44 (by decide) ?_
        refine ax_istore2 (pc := 45) dX5_isGround_45 rfl (by decide) ?_
        refine ax_inc3p1 (pc := 46) dX5_isGround_46 rfl (by decide) ?_
        refine ax_goto (pc := 49) (tgt := 4) dX5_isGround_49 (by decide) ?_
        rw [nI_1]
        first
          | (have K := fun g2 tu2 => ih (j + 1) (by omega) (sp_st D fi w) false g2 tu2 (sp_st_ok hD0 hinv); rw [Bool.false_and] at K ⊢; exact K _ _)
          | (have K := fun g2 tu2 => ih (j + 1) (by omega) (sp_st D fi w) false g2 tu2 (sp_st_ok hD0 hinv); rw [show sp_gs D fi c (nn + 1) j w = false by rw [sp_gs, if_neg c33], Bool.and_false]; rw [Bool.false_and] at K; exact K _ _)
      · refine ax_iload_n (pc := 36) dX5_isGround_36 rfl ?_
        refine ax_ifeq (pc := 37) (tgt := 44) dX5_isGround_37 (by decide) (fun _ => ?_) (fun q => absurd (show bb false = 0 by decide) q)
        refine ax_iconst (pc := 44) (v := nI 0) dX5_isGround_44 (by decide) ?_
        refine ax_istore2 (pc := 45) dX5_isGround_45 rfl (by decide) ?_
        refine ax_inc3p1 (pc := 46) dX5_isGround_46 rfl (by decide) ?_
        refine ax_goto (pc := 49) (tgt := 4) dX5_isGround_49 (by decide) ?_
        rw [nI_1]
        first
          | (have K := fun g2 tu2 => ih (j + 1) (by omega) (sp_st D fi w) false g2 tu2 (sp_st_ok hD0 hinv); rw [Bool.false_and] at K ⊢; exact K _ _)
          | (have K := fun g2 tu2 => ih (j + 1) (by omega) (sp_st D fi w) false g2 tu2 (sp_st_ok hD0 hinv); rw [show sp_gs D fi c (nn + 1) j w = false by rw [sp_gs, if_neg c33], Bool.and_false]; rw [Bool.false_and] at K; exact K _ _)
    · skip
      refine ax_iload_n (pc := 4) dX5_isGround_4 rfl ?_
      refine ax_aload_n (pc := 5) dX5_isGround_5 rfl ?_
      refine ax_getf (pc := 6) fX5_7 dX5_isGround_6 (by exact hM_0) rfl ?_
      refine ax_iload_n (pc := 9) dX5_isGround_9 rfl ?_
      refine bx_iaload dX5_isGround_10 ((hM_n (by decide)).trans h1) hr (by decide) hz ?_
      refine ax_icmpge (pc := 11) (tgt := 52) dX5_isGround_11 (by decide) (fun q => absurd q (nI_ge hlt (by omega))) (fun _ => ?_)
      refine ax_aload_n (pc := 14) dX5_isGround_14 rfl ?_
      refine ax_sipush (pc := 15) (v := nI 984) dX5_isGround_15 (by decide) ?_
      refine ax_iconst (pc := 18) (v := 0) dX5_isGround_18 (by decide) ?_
      refine ax_eVi2 (pc := 19) vX5_156 dX5_isGround_19 (by decide) (by exact hM_0) (Nat.le_of_ble_eq_true rfl) (c_X5_steps _ h x sl tu D so fl dr hd 984 fi w g (by decide) hD0 hinv hfi hx) ?_
      refine ax_aload_n (pc := 22) dX5_isGround_22 rfl ?_
      refine ax_getf (pc := 23) fX5_13 dX5_isGround_23 (by exact hM_0) rfl ?_
      refine ax_bipush (pc := 26) (v := nI 40) dX5_isGround_26 (by decide) ?_
      refine ax_iload_n (pc := 28) dX5_isGround_28 rfl ?_
      refine bx_imul dX5_isGround_29  ?_
      refine ax_iload_n (pc := 30) dX5_isGround_30 rfl ?_
      refine bx_iadd dX5_isGround_31  ?_
      refine bx_iaload dX5_isGround_32 ((hM_n (by decide)).trans h2) (by omega) (by decide) (hf j hlt) ?_
      refine ax_icmpne (pc := 33) (tgt := 44) dX5_isGround_33 (by decide) (fun c33 => ?_) (fun c33 => ?_)
      · refine ax_iconst (pc := 44) (v := nI 0) dX5_isGround_44 (by decide) ?_
        refine ax_istore2 (pc := 45) dX5_isGround_45 rfl (by decide) ?_
        refine ax_inc3p1 (pc := 46) dX5_isGround_46 rfl (by decide) ?_
        refine ax_goto (pc := 49) (tgt := 4) dX5_isGround_49 (by decide) ?_
        rw [nI_1]
        first
          | (have K := fun g2 tu2 => ih (j + 1) (by omega) (sp_st D fi w) true g2 tu2 (sp_st_ok hD0 hinv); rw [show sp_gs D fi c (nn + 1) j w = sp_gs D fi c nn (j + 1) (sp_st D fi w) by rw [sp_gs, if_pos c33]]; exact K _ _)
          | (have K := fun g2 tu2 => ih (j + 1) (by omega) (sp_st D fi w) false g2 tu2 (sp_st_ok hD0 hinv); rw [show sp_gs D fi c (nn + 1) j w = false by rw [sp_gs, if_neg c33], Bool.and_false]; rw [Bool.false_and] at K; exact K _ _)
      · refine ax_iload_n (pc := 36) dX5_isGround_36 rfl ?_
        refine ax_ifeq (pc := 37) (tgt := 44) dX5_isGround_37 (by decide) (fun q => absurd q (show ¬ bb true = 0 by decide)) (fun _ => ?_)
        refine ax_iconst (pc := 40) (v := nI 1) dX5_isGround_40 (by decide) ?_
        refine ax_goto (pc := 41) (tgt := 45) dX5_isGround_41 (by decide) ?_
        refine ax_istore2 (pc := 45) dX5_isGround_45 rfl (by decide) ?_
        refine ax_inc3p1 (pc := 46) dX5_isGround_46 rfl (by decide) ?_
        refine ax_goto (pc := 49) (tgt := 4) dX5_isGround_49 (by decide) ?_
        rw [nI_1]
        first
          | (have K := fun g2 tu2 => ih (j + 1) (by omega) (sp_st D fi w) true g2 tu2 (sp_st_ok hD0 hinv); rw [show sp_gs D fi c (nn + 1) j w = sp_gs D fi c nn (j + 1) (sp_st D fi w) by rw [sp_gs, if_pos c33]]; exact K _ _)
          | (have K := fun g2 tu2 => ih (j + 1) (by omega) (sp_st D fi w) false g2 tu2 (sp_st_ok hD0 hinv); rw [show sp_gs D fi c (nn + 1) j w = false by rw [sp_gs, if_neg c33], Bool.and_false]; rw [Bool.false_and] at K; exact K _ _)
set_option maxHeartbeats 4000000 in
set_option maxRecDepth 100000 in
theorem c_X5_isGround (dom : List Nat) (h : mh_H) (x : mxT) (sl : Nat → Int32) (D : sp_D) (so fl dr : Nat → Int32) (hd : dayH D so fl dr h) (z f c : Nat → Int32) (r m : Nat) (hr : r < 6) (hm : m ≤ 40) (h1 : h 1 = mh_ia 0 6 z) (hz : z r = nI m) (h2 : h 2 = mh_ia 0 240 f) (hf : ∀ i, i < m → f (40 * r + i) = c i) (fi : Nat) (hD0 : sp_D0 D) (hfi : fi < 512) (hx : x.1 = nI D.1) (w : sp_W) (g tu : Int32) (hW0 : sp_W0 D.1 w) : Mt mX5_isGround dom 4 [.ref 0, .int (nI r)] (hM h x (s6 sl 984 w fi g) tu) (mx_Ri (fun v' h' => v' = (if sp_gs D fi c m 0 w = true then 1 else 0) ∧ ∃ w' g' tu', h' = hM h x (s6 sl 984 w' fi g') tu')) := by
  refine Mt.of (L := [some (.ref 0), some (.int (nI r)), none, none]) rfl (Nat.le_of_ble_eq_true rfl) rfl ?_
  refine ax_iconst (pc := 0) (v := nI 1) dX5_isGround_0 (by decide) ?_
  refine ax_istore2 (pc := 1) dX5_isGround_1 rfl (by decide) ?_
  refine ax_iconst (pc := 2) (v := nI 0) dX5_isGround_2 (by decide) ?_
  refine ax_istore3 (pc := 3) dX5_isGround_3 rfl (by decide) ?_
  have K := l_X5_isGround dom h x sl D so fl dr hd z f c r m hr hm h1 hz h2 hf fi hD0 hfi hx m 0 (by omega) w true g tu hW0
  rw [Bool.true_and] at K
  exact K
set_option maxHeartbeats 4000000 in
set_option maxRecDepth 100000 in
theorem l_X5_where (dom : List Nat) (h : mh_H) (s : sg) (nd : Int32) (hv : IV s) (hd0 : ¬ (s_D s).1 = 0) (q m : Nat) (hq : q < 6) (hm2 : m ≤ 20) (ez : s_rz s q = nI m) (em : (s_rz s q).toNatClampNeg = m) (x2 : Int32) : ∀ (nn j : Nat), j + nn = (s_D s).1 → ∀ (sl : Nat → Int32) (tu : Int32), MB s h sl → At mX5_where dom 5 45 [some (.ref 0), some (.int (nI q)), some (.int x2), some (.int (nI (sp_set (fun k => s_fm s q (s_D s) (k, (s_w s).2.1, (s_w s).2.2.1, (s_w s).2.2.2.1, 0)) j))), some (.int (nI j))] [] (hM h (xs s nd) sl tu) (mx_Ri (fun v' h' => v' = nI (sp_set (fun k => s_fm s q (s_D s) (k, (s_w s).2.1, (s_w s).2.2.1, (s_w s).2.2.2.1, 0)) (s_D s).1) ∧ MP s h')) := by
  intro nn
  induction nn with
  | zero =>
    intro j hj sl tu hinv
    have hj : j = (s_D s).1 := by omega
    subst hj
    have hm := hinv
    have h9 := hv.2.2.1.1
    refine ax_iload (pc := 45) dX5_where_45 rfl ?_
    refine ax_aload_n (pc := 47) dX5_where_47 rfl ?_
    refine ax_getf (pc := 48) fX5_97 dX5_where_48 (by exact hM_0) rfl ?_
    refine ax_icmpge (pc := 51) (tgt := 93) dX5_where_51 (by decide) (fun _ => ?_) (fun q => absurd (nI_le (Nat.le_refl _) (by omega)) q)
    refine ax_iload_n (pc := 93) dX5_where_93 rfl ?_
    refine ax_iret (pc := 94) dX5_where_94 rfl ?_
    exact ⟨_, rfl, rfl, MB.mp (s := s) hm⟩
  | succ nn ih =>
    intro j hj sl tu hinv
    have hlt : j < (s_D s).1 := by omega
    have hm := hinv
    obtain ⟨⟨m1, f2, m2, mf⟩, ⟨m3, f4, m4, mg⟩, ⟨so, fl, dr, md⟩, mn, msl, mk, mc, ⟨wo, mw⟩⟩ := id hm
    have hn := hm.now
    have h40 := hv.2.2.2.1.1
    obtain ⟨d5, d6, d7, dR⟩ := id md
    obtain ⟨hD0, hW0, hfi⟩ := hv.w hd0
    have h9 := hv.2.2.1.1
    refine ax_iload (pc := 45) dX5_where_45 rfl ?_
    refine ax_aload_n (pc := 47) dX5_where_47 rfl ?_
    refine ax_getf (pc := 48) fX5_97 dX5_where_48 (by exact hM_0) rfl ?_
    refine ax_icmpge (pc := 51) (tgt := 93) dX5_where_51 (by decide) (fun q => absurd q (nI_ge hlt (by omega))) (fun _ => ?_)
    refine ax_aload_n (pc := 54) dX5_where_54 rfl ?_
    refine ax_eVv0 (pc := 55) vX5_164 dX5_where_55 (by decide) (by exact hM_0) (Nat.le_of_ble_eq_true rfl) (c_X5_try _ h s nd sl tu hn h40) ?_
    refine ax_aload_n (pc := 58) dX5_where_58 rfl ?_
    refine ax_getf (pc := 59) fX5_41 dX5_where_59 (by exact hM_0) rfl ?_
    refine ax_sipush (pc := 62) (v := nI 984) dX5_where_62 (by decide) ?_
    refine ax_iload (pc := 65) dX5_where_65 rfl ?_
    refine bx_slst dX5_where_67 (by decide) s6_u0 ?_
    refine ax_iload_n (pc := 68) dX5_where_68 rfl ?_
    refine ax_aload_n (pc := 69) dX5_where_69 rfl ?_
    refine ax_iload_n (pc := 70) dX5_where_70 rfl ?_
    refine ax_cVi1 (pc := 71) vX5_182 dX5_where_71 (by decide) (by exact hM_0) (Nat.le_of_ble_eq_true rfl) (c_X5_isGround _ h (xs s nd) sl (s_D s) so fl dr md (s_rz s) f2 (s_rc s q) q m hq (by omega) m1 ez m2 (fun i hi => mf q hq i (by rw [em]; exact hi)) (s_fi s) hD0 hfi rfl (j, (s_w s).2.1, (s_w s).2.2.1, (s_w s).2.2.2.1, 0) _ _ ⟨hlt, hW0.2⟩) (fun v1 h1 hq2 => ?_)
    obtain ⟨rfl, w1, g1, tu1, rfl⟩ := hq2
    refine ax_ifeqB (pc := 74) (tgt := 84) dX5_where_74 (by decide) (fun c74 => ?_) (fun c74 => ?_)
    · have eP := set_f (p := (fun k => s_fm s q (s_D s) (k, (s_w s).2.1, (s_w s).2.2.1, (s_w s).2.2.2.1, 0))) (j := j) (by show ¬ sp_gs _ _ _ (s_rz s q).toNatClampNeg _ _ = true; rw [em]; exact c74)
      refine ax_iconst (pc := 84) (v := nI 0) dX5_where_84 (by decide) ?_
      refine ax_ior (pc := 85) dX5_where_85 ?_
      refine At.ti eP ?_
      refine ax_istore3 (pc := 86) dX5_where_86 rfl (by decide) ?_
      refine ax_inc4p1 (pc := 87) dX5_where_87 rfl (by decide) ?_
      refine ax_goto (pc := 90) (tgt := 45) dX5_where_90 (by decide) ?_
      rw [nI_1]
      exact ih (j + 1) (by omega) _ _ (hm.t hv)
    · have eP := set_t (p := (fun k => s_fm s q (s_D s) (k, (s_w s).2.1, (s_w s).2.2.1, (s_w s).2.2.2.1, 0))) (j := j) (by omega) (by show sp_gs _ _ _ (s_rz s q).toNatClampNeg _ _ = true; rw [em]; exact c74)
      refine ax_iconst (pc := 77) (v := 1) dX5_where_77 (by decide) ?_
      refine ax_iload (pc := 78) dX5_where_78 rfl ?_
      refine ax_ishl (pc := 80) dX5_where_80 ?_
      refine ax_goto (pc := 81) (tgt := 85) dX5_where_81 (by decide) ?_
      refine ax_ior (pc := 85) dX5_where_85 ?_
      refine At.ti eP ?_
      refine ax_istore3 (pc := 86) dX5_where_86 rfl (by decide) ?_
      refine ax_inc4p1 (pc := 87) dX5_where_87 rfl (by decide) ?_
      refine ax_goto (pc := 90) (tgt := 45) dX5_where_90 (by decide) ?_
      rw [nI_1]
      exact ih (j + 1) (by omega) _ _ (hm.t hv)
set_option maxHeartbeats 4000000 in
set_option maxRecDepth 100000 in
theorem c_X5_where (dom : List Nat) (h : mh_H) (s : sg) (nd : Int32) (sl : Nat → Int32) (tu : Int32) (r : Int32) (hm : MB s h sl) (hv : IV s) : Mt mX5_where dom 5 [.ref 0, .int r] (hM h (xs s nd) sl tu) (mx_Ri (fun v' h' => v' = (sp_where s r).1 ∧ MP (sp_where s r).2 h')) := by
  refine Mt.of (L := [some (.ref 0), some (.int r), none, none, none]) rfl (Nat.le_of_ble_eq_true rfl) rfl ?_
  obtain ⟨⟨m1, f2, m2, mf⟩, ⟨m3, f4, m4, mg⟩, ⟨so, fl, dr, md⟩, mn, msl, mk, mc, ⟨wo, mw⟩⟩ := id hm
  have hn := hm.now
  have h40 := hv.2.2.2.1.1
  obtain ⟨d5, d6, d7, dR⟩ := id md
  refine ax_iload_n (pc := 0) dX5_where_0 rfl ?_
  refine ax_i2l (pc := 1) dX5_where_1 ?_
  refine ax_lconst (pc := 2) (v := 0) dX5_where_2 (by decide) ?_
  refine ax_ldc2 (pc := 3) dX5_where_3 tw_707 ?_
  refine ax_eSi3 (pc := 6) sX5_63 dX5_where_6 (by decide) (Nat.le_of_ble_eq_true rfl) (c_X5_in _ _ r 0 5 _ _ (by decide) (by decide)) ?_
  refine ax_ifneB (pc := 9) (tgt := 14) dX5_where_9 (by decide) (fun c9a => ?_) (fun c9a => ?_)
  · obtain ⟨q, hq, rfl⟩ := ix_5 c9a
    refine ax_aload_n (pc := 14) dX5_where_14 rfl ?_
    refine ax_getf (pc := 15) fX5_97 dX5_where_15 (by exact hM_0) rfl ?_
    refine ax_ifne (pc := 18) (tgt := 24) dX5_where_18 (by decide) (fun c18 => ?_) (fun c18 => ?_)
    · have hd0 : ¬ (s_D s).1 = 0 := fun q => c18 (by show nI (s_D s).1 = 0; rw [q]; rfl)
      obtain ⟨hD0, hW0, hfi⟩ := hv.w hd0
      have hWt : sp_W0 (s_D s).1 (s_t s) := hW0
      refine ax_aload_n (pc := 24) dX5_where_24 rfl ?_
      refine ax_iload_n (pc := 25) dX5_where_25 rfl ?_
      refine ax_eVi1 (pc := 26) vX5_179 dX5_where_26 (by decide) (by exact hM_0) (Nat.le_of_ble_eq_true rfl) (c_X5_wrongRow _ h s nd sl tu hm hv q hq) ?_
      refine ax_istore2 (pc := 29) dX5_where_29 rfl (by decide) ?_
      refine ax_iload_n (pc := 30) dX5_where_30 rfl ?_
      refine ax_ifle (pc := 31) (tgt := 40) dX5_where_31 (by decide) (fun c31 => ?_) (fun c31 => ?_)
      · have wz : sp_wr s q = 0 := by rw [show (0 : Int32) = nI 0 from rfl, nI_leI (Nat.lt_trans (sp_wr_lt s q) (by decide)) (by decide)] at c31; omega
        obtain ⟨m, hm1, hm2, ez, em⟩ := sp_wr_0 (hv.1 q hq) wz
        refine ax_iconst (pc := 40) (v := nI 0) dX5_where_40 (by decide) ?_
        refine ax_istore3 (pc := 41) dX5_where_41 rfl (by decide) ?_
        refine ax_iconst (pc := 42) (v := nI 0) dX5_where_42 (by decide) ?_
        refine ax_istore4 (pc := 43) dX5_where_43 rfl (by decide) ?_
        unfold sp_where
        rw [if_neg (not_not_intro c9a), if_neg hd0, ni_cl (by omega), if_neg (not_not_intro wz)]
        exact l_X5_where dom h s nd hv hd0 q m hq hm2 ez em _ (s_D s).1 0 (by omega) sl tu hm
      · have wz : ¬ sp_wr s q = 0 := fun z => c31 (by rw [z]; decide)
        refine ax_aload_n (pc := 34) dX5_where_34 rfl ?_
        refine ax_iload_n (pc := 35) dX5_where_35 rfl ?_
        refine ax_cVi1 (pc := 36) vX5_67 dX5_where_36 (by decide) (by exact hM_0) (Nat.le_of_ble_eq_true rfl) (c_X5_finds _ h s nd sl tu (sp_wr s q) (sp_wr_lt s q) hm) (fun v1 h1 hq2 => ?_)
        obtain ⟨rfl, hq2⟩ := hq2
        refine ax_iret (pc := 39) dX5_where_39 rfl ?_
        exact fin_m (by unfold sp_where; rw [if_neg (not_not_intro c9a), if_neg hd0, ni_cl (by omega), if_pos wz]) hq2
    · refine ax_bipush (pc := 21) (v := -4) dX5_where_21 (by decide) ?_
      refine ax_iret (pc := 23) dX5_where_23 rfl ?_
      exact fin_m (by unfold sp_where; rw [if_neg (not_not_intro c9a), if_pos ((nI_eq (by have := hv.2.2.1.1; omega) (show 0 < 2 ^ 31 by decide)).mp c18)]) hm.mp
  · refine ax_iconst (pc := 12) (v := -1) dX5_where_12 (by decide) ?_
    refine ax_iret (pc := 13) dX5_where_13 rfl ?_
    exact fin_m (by unfold sp_where; exact if_pos c9a) hm.mp
set_option maxHeartbeats 4000000 in
set_option maxRecDepth 100000 in
theorem l_X5_flows (dom : List Nat) (h : mh_H) (s : sg) (nd : Int32) (hv : IV s) (k2 : Nat) (hk : k2 < (s_D s).1) (hD0 : sp_D0 (s_D s)) (hW0 : sp_W0 (s_D s).1 (s_w s)) (hfi : s_fi s < 512) (q m : Nat) (hq : q < 6) (hm2 : m ≤ 20) (ez : s_rz s q = nI m) (em : (s_rz s q).toNatClampNeg = m) (x3 : Int32) (so fl dr : Nat → Int32) (md : dayH (s_D s) so fl dr h) : ∀ (nn j : Nat), j + nn = 10 → ∀ (v : Int32) (sl : Nat → Int32) (tu : Int32), MB s h sl → At mX5_flows dom 5 52 [some (.ref 0), some (.int (nI k2)), some (.int (nI q)), some (.int x3), some (.int (nI ((s_D s).2.2.1 k2))), some (.int (nI (sp_set (fun x => s_fm s q ((s_D s).1, (s_D s).2.1, up_n (s_D s).2.2.1 k2 x, (s_D s).2.2.2) (s_t s)) j))), some (.int (nI j))] [] (hM (mh_up h 6 (mh_ia 0 9 (upd fl k2 v))) (xs s nd) sl tu) (mx_Ri (fun v' h' => v' = nI (sp_set (fun x => s_fm s q ((s_D s).1, (s_D s).2.1, up_n (s_D s).2.2.1 k2 x, (s_D s).2.2.2) (s_t s)) 10) ∧ MP s h')) := by
  intro nn
  induction nn with
  | zero =>
    intro j hj v sl tu hinv
    have hj : j = 10 := by omega
    subst hj
    have hm := hinv
    have h9 := hv.2.2.1.1
    obtain ⟨d5, d6, d7, dR⟩ := id md
    refine ax_iload (pc := 52) dX5_flows_52 rfl ?_
    refine ax_bipush (pc := 54) (v := nI 10) dX5_flows_54 (by decide) ?_
    refine ax_icmpge (pc := 56) (tgt := 98) dX5_flows_56 (by decide) (fun _ => ?_) (fun q => absurd (by decide) q)
    refine ax_aload_n (pc := 98) dX5_flows_98 rfl ?_
    refine ax_getf (pc := 99) fX5_26 dX5_flows_99 (by exact hM_0) rfl ?_
    refine ax_iload_n (pc := 102) dX5_flows_102 rfl ?_
    refine ax_iload (pc := 103) dX5_flows_103 rfl ?_
    refine bx_iastoreu dX5_flows_105 (by decide) (by omega) (by decide) (upd_uu.trans (upd_id (dR k2 hk).2.1)) ?_
    refine At.hp (show hM (mh_up h 6 (mh_ia 0 9 fl)) (xs s nd) sl tu = hM h (xs s nd) sl tu by rw [mh_up_id d6]) ?_
    refine ax_iload (pc := 106) dX5_flows_106 rfl ?_
    refine ax_iret (pc := 108) dX5_flows_108 rfl ?_
    exact ⟨_, rfl, rfl, MB.mp (s := s) hm⟩
  | succ nn ih =>
    intro j hj v sl tu hinv
    have hlt : j < 10 := by omega
    have hm := hinv
    obtain ⟨⟨m1, f2, m2, mf⟩, ⟨m3, f4, m4, mg⟩, md0, mn, msl, mk, mc, ⟨wo, mw⟩⟩ := id hm
    have hn := hm.now
    have h40 := hv.2.2.2.1.1
    have h9 := hv.2.2.1.1
    refine ax_iload (pc := 52) dX5_flows_52 rfl ?_
    refine ax_bipush (pc := 54) (v := nI 10) dX5_flows_54 (by decide) ?_
    refine ax_icmpge (pc := 56) (tgt := 98) dX5_flows_56 (by decide) (fun q => absurd q (by rw [nI_leI (by decide) (by omega)]; omega)) (fun _ => ?_)
    refine ax_aload_n (pc := 59) dX5_flows_59 rfl ?_
    refine ax_getf (pc := 60) fX5_26 dX5_flows_60 (by exact hM_0) rfl ?_
    refine ax_iload_n (pc := 63) dX5_flows_63 rfl ?_
    refine ax_iload (pc := 64) dX5_flows_64 rfl ?_
    refine bx_iastoreu dX5_flows_66 (by decide) (by omega) (by decide) upd_uu ?_
    refine ax_aload_n (pc := 67) dX5_flows_67 rfl ?_
    refine ax_eVv0 (pc := 68) vX5_164 dX5_flows_68 (by decide) (by exact hM_0) (Nat.le_of_ble_eq_true rfl) (c_X5_try _ _ s nd sl tu hn h40) ?_
    refine ax_iload (pc := 71) dX5_flows_71 rfl ?_
    refine ax_aload_n (pc := 73) dX5_flows_73 rfl ?_
    refine ax_iload_n (pc := 74) dX5_flows_74 rfl ?_
    refine ax_cVi1 (pc := 75) vX5_182 dX5_flows_75 (by decide) (by exact hM_0) (Nat.le_of_ble_eq_true rfl) (c_X5_isGround _ _ (xs s nd) sl (dF (s_D s) k2 j) so (upd fl k2 (nI j)) dr (dayH_f md) (s_rz s) f2 (s_rc s q) q m hq (by omega) ((mh_up_n (by decide)).trans m1) ez ((mh_up_n (by decide)).trans m2) (fun i hi => mf q hq i (by rw [em]; exact hi)) (s_fi s) (D0_fj hD0 (by omega)) hfi rfl (s_t s) _ _ hW0) (fun v1 h1 hq2 => ?_)
    obtain ⟨rfl, w1, g1, tu1, rfl⟩ := hq2
    refine ax_ifeqB (pc := 78) (tgt := 88) dX5_flows_78 (by decide) (fun c78 => ?_) (fun c78 => ?_)
    · have eP := set_f (p := (fun x => s_fm s q ((s_D s).1, (s_D s).2.1, up_n (s_D s).2.2.1 k2 x, (s_D s).2.2.2) (s_t s))) (j := j) (by show ¬ sp_gs _ _ _ (s_rz s q).toNatClampNeg _ _ = true; rw [em]; exact c78)
      refine ax_iconst (pc := 88) (v := nI 0) dX5_flows_88 (by decide) ?_
      refine ax_ior (pc := 89) dX5_flows_89 ?_
      refine At.ti eP ?_
      refine ax_istore5 (pc := 90) dX5_flows_90 rfl (by decide) ?_
      refine ax_inc6p1 (pc := 92) dX5_flows_92 rfl (by decide) ?_
      refine ax_goto (pc := 95) (tgt := 52) dX5_flows_95 (by decide) ?_
      rw [nI_1]
      exact ih (j + 1) (by omega) (nI j) _ _ (hm.t hv)
    · have eP := set_t (p := (fun x => s_fm s q ((s_D s).1, (s_D s).2.1, up_n (s_D s).2.2.1 k2 x, (s_D s).2.2.2) (s_t s))) (j := j) (by omega) (by show sp_gs _ _ _ (s_rz s q).toNatClampNeg _ _ = true; rw [em]; exact c78)
      refine ax_iconst (pc := 81) (v := 1) dX5_flows_81 (by decide) ?_
      refine ax_iload (pc := 82) dX5_flows_82 rfl ?_
      refine ax_ishl (pc := 84) dX5_flows_84 ?_
      refine ax_goto (pc := 85) (tgt := 89) dX5_flows_85 (by decide) ?_
      refine ax_ior (pc := 89) dX5_flows_89 ?_
      refine At.ti eP ?_
      refine ax_istore5 (pc := 90) dX5_flows_90 rfl (by decide) ?_
      refine ax_inc6p1 (pc := 92) dX5_flows_92 rfl (by decide) ?_
      refine ax_goto (pc := 95) (tgt := 52) dX5_flows_95 (by decide) ?_
      rw [nI_1]
      exact ih (j + 1) (by omega) (nI j) _ _ (hm.t hv)
set_option maxHeartbeats 4000000 in
set_option maxRecDepth 100000 in
theorem c_X5_flows (dom : List Nat) (h : mh_H) (s : sg) (nd : Int32) (sl : Nat → Int32) (tu : Int32) (k r : Int32) (hm : MB s h sl) (hv : IV s) : Mt mX5_flows dom 5 [.ref 0, .int k, .int r] (hM h (xs s nd) sl tu) (mx_Ri (fun v' h' => v' = (sp_flows s k r).1 ∧ MP (sp_flows s k r).2 h')) := by
  refine Mt.of (L := [some (.ref 0), some (.int k), some (.int r), none, none, none, none]) rfl (Nat.le_of_ble_eq_true rfl) rfl ?_
  obtain ⟨⟨m1, f2, m2, mf⟩, ⟨m3, f4, m4, mg⟩, ⟨so, fl, dr, md⟩, mn, msl, mk, mc, ⟨wo, mw⟩⟩ := id hm
  have hn := hm.now
  have h40 := hv.2.2.2.1.1
  obtain ⟨d5, d6, d7, dR⟩ := id md
  refine ax_aload_n (pc := 0) dX5_flows_0 rfl ?_
  refine ax_iload_n (pc := 1) dX5_flows_1 rfl ?_
  refine ax_eVi1 (pc := 2) vX5_133 dX5_flows_2 (by decide) (by exact hM_0) (Nat.le_of_ble_eq_true rfl) (c_X5_isDay _ h (xs s nd) sl tu (s_D s).1 k rfl) ?_
  refine ax_ifeqB (pc := 5) (tgt := 20) dX5_flows_5 (by decide) (fun c5a => ?_) (fun c5a => ?_)
  · refine ax_iconst (pc := 20) (v := -1) dX5_flows_20 (by decide) ?_
    refine ax_iret (pc := 21) dX5_flows_21 rfl ?_
    exact fin_m (by unfold sp_flows; first | exact if_pos (Or.inl c5a) | exact if_pos (Or.inr c17)) hm.mp
  · refine ax_iload_n (pc := 8) dX5_flows_8 rfl ?_
    refine ax_i2l (pc := 9) dX5_flows_9 ?_
    refine ax_lconst (pc := 10) (v := 0) dX5_flows_10 (by decide) ?_
    refine ax_ldc2 (pc := 11) dX5_flows_11 tw_707 ?_
    refine ax_eSi3 (pc := 14) sX5_63 dX5_flows_14 (by decide) (Nat.le_of_ble_eq_true rfl) (c_X5_in _ _ r 0 5 _ _ (by decide) (by decide)) ?_
    refine ax_ifneB (pc := 17) (tgt := 22) dX5_flows_17 (by decide) (fun c17 => ?_) (fun c17 => ?_)
    · obtain ⟨k2, hk, rfl, hk9, hD0, hW0, hfi⟩ := hv.d c5a
      obtain ⟨q, hq, rfl⟩ := ix_5 c17
      refine ax_aload_n (pc := 22) dX5_flows_22 rfl ?_
      refine ax_iload_n (pc := 23) dX5_flows_23 rfl ?_
      refine ax_eVi1 (pc := 24) vX5_179 dX5_flows_24 (by decide) (by exact hM_0) (Nat.le_of_ble_eq_true rfl) (c_X5_wrongRow _ h s nd sl tu hm hv q hq) ?_
      refine ax_istore3 (pc := 27) dX5_flows_27 rfl (by decide) ?_
      refine ax_iload_n (pc := 28) dX5_flows_28 rfl ?_
      refine ax_ifle (pc := 29) (tgt := 38) dX5_flows_29 (by decide) (fun c29 => ?_) (fun c29 => ?_)
      · have wz : sp_wr s q = 0 := by rw [show (0 : Int32) = nI 0 from rfl, nI_leI (Nat.lt_trans (sp_wr_lt s q) (by decide)) (by decide)] at c29; omega
        obtain ⟨m, hm1, hm2, ez, em⟩ := sp_wr_0 (hv.1 q hq) wz
        refine ax_aload_n (pc := 38) dX5_flows_38 rfl ?_
        refine ax_getf (pc := 39) fX5_26 dX5_flows_39 (by exact hM_0) rfl ?_
        refine ax_iload_n (pc := 42) dX5_flows_42 rfl ?_
        refine bx_iaload dX5_flows_43 ((hM_n (by decide)).trans d6) (by omega) (by decide) (dR k2 hk).2.1 ?_
        refine ax_istore4 (pc := 44) dX5_flows_44 rfl (by decide) ?_
        refine ax_iconst (pc := 46) (v := nI 0) dX5_flows_46 (by decide) ?_
        refine ax_istore5 (pc := 47) dX5_flows_47 rfl (by decide) ?_
        refine ax_iconst (pc := 49) (v := nI 0) dX5_flows_49 (by decide) ?_
        refine ax_istore6 (pc := 50) dX5_flows_50 rfl (by decide) ?_
        unfold sp_flows
        rw [if_neg (by rintro (z | z); exact z c5a; exact z c17), ni_cl (by omega), ni_cl (by omega), if_neg (not_not_intro wz)]
        have K := l_X5_flows dom h s nd hv k2 hk hD0 hW0 hfi q m hq hm2 ez em (nI (sp_wr s q)) so fl dr md 10 0 (by omega) (fl k2) sl tu hm
        rw [upd_id rfl, mh_up_id d6] at K
        exact K
      · have wz : ¬ sp_wr s q = 0 := fun z => c29 (by rw [z]; decide)
        refine ax_aload_n (pc := 32) dX5_flows_32 rfl ?_
        refine ax_iload_n (pc := 33) dX5_flows_33 rfl ?_
        refine ax_cVi1 (pc := 34) vX5_67 dX5_flows_34 (by decide) (by exact hM_0) (Nat.le_of_ble_eq_true rfl) (c_X5_finds _ h s nd sl tu (sp_wr s q) (sp_wr_lt s q) hm) (fun v1 h1 hq2 => ?_)
        obtain ⟨rfl, hq2⟩ := hq2
        refine ax_iret (pc := 37) dX5_flows_37 rfl ?_
        exact fin_m (by unfold sp_flows; rw [if_neg (by rintro (z | z); exact z c5a; exact z c17), ni_cl (by omega), ni_cl (by omega), if_pos wz]) hq2
    · refine ax_iconst (pc := 20) (v := -1) dX5_flows_20 (by decide) ?_
      refine ax_iret (pc := 21) dX5_flows_21 rfl ?_
      exact fin_m (by unfold sp_flows; first | exact if_pos (Or.inl c5a) | exact if_pos (Or.inr c17)) hm.mp
set_option maxHeartbeats 4000000 in
set_option maxRecDepth 100000 in
theorem l_X5_kinds (dom : List Nat) (h : mh_H) (s : sg) (nd : Int32) (hv : IV s) (k2 : Nat) (hk : k2 < (s_D s).1) (hD0 : sp_D0 (s_D s)) (hW0 : sp_W0 (s_D s).1 (s_w s)) (hfi : s_fi s < 512) (q m : Nat) (hq : q < 6) (hm2 : m ≤ 20) (ez : s_rz s q = nI m) (em : (s_rz s q).toNatClampNeg = m) (x3 : Int32) (so fl dr : Nat → Int32) (md : dayH (s_D s) so fl dr h) : ∀ (nn j : Nat), j + nn = 6 → ∀ (v : Int32) (sl : Nat → Int32) (tu : Int32), MB s h sl → At mX5_kinds dom 5 52 [some (.ref 0), some (.int (nI k2)), some (.int (nI q)), some (.int x3), some (.int (nI ((s_D s).2.1 k2))), some (.int (nI (sp_set (fun x => s_fm s q ((s_D s).1, up_n (s_D s).2.1 k2 x, (s_D s).2.2.1, (s_D s).2.2.2) (s_t s)) j))), some (.int (nI j))] [] (hM (mh_up h 5 (mh_ia 0 9 (upd so k2 v))) (xs s nd) sl tu) (mx_Ri (fun v' h' => v' = nI (sp_set (fun x => s_fm s q ((s_D s).1, up_n (s_D s).2.1 k2 x, (s_D s).2.2.1, (s_D s).2.2.2) (s_t s)) 6) ∧ MP s h')) := by
  intro nn
  induction nn with
  | zero =>
    intro j hj v sl tu hinv
    have hj : j = 6 := by omega
    subst hj
    have hm := hinv
    have h9 := hv.2.2.1.1
    obtain ⟨d5, d6, d7, dR⟩ := id md
    refine ax_iload (pc := 52) dX5_kinds_52 rfl ?_
    refine ax_bipush (pc := 54) (v := nI 6) dX5_kinds_54 (by decide) ?_
    refine ax_icmpge (pc := 56) (tgt := 98) dX5_kinds_56 (by decide) (fun _ => ?_) (fun q => absurd (by decide) q)
    refine ax_aload_n (pc := 98) dX5_kinds_98 rfl ?_
    refine ax_getf (pc := 99) fX5_23 dX5_kinds_99 (by exact hM_0) rfl ?_
    refine ax_iload_n (pc := 102) dX5_kinds_102 rfl ?_
    refine ax_iload (pc := 103) dX5_kinds_103 rfl ?_
    refine bx_iastoreu dX5_kinds_105 (by decide) (by omega) (by decide) (upd_uu.trans (upd_id (dR k2 hk).1)) ?_
    refine At.hp (show hM (mh_up h 5 (mh_ia 0 9 so)) (xs s nd) sl tu = hM h (xs s nd) sl tu by rw [mh_up_id d5]) ?_
    refine ax_iload (pc := 106) dX5_kinds_106 rfl ?_
    refine ax_iret (pc := 108) dX5_kinds_108 rfl ?_
    exact ⟨_, rfl, rfl, MB.mp (s := s) hm⟩
  | succ nn ih =>
    intro j hj v sl tu hinv
    have hlt : j < 6 := by omega
    have hm := hinv
    obtain ⟨⟨m1, f2, m2, mf⟩, ⟨m3, f4, m4, mg⟩, md0, mn, msl, mk, mc, ⟨wo, mw⟩⟩ := id hm
    have hn := hm.now
    have h40 := hv.2.2.2.1.1
    have h9 := hv.2.2.1.1
    refine ax_iload (pc := 52) dX5_kinds_52 rfl ?_
    refine ax_bipush (pc := 54) (v := nI 6) dX5_kinds_54 (by decide) ?_
    refine ax_icmpge (pc := 56) (tgt := 98) dX5_kinds_56 (by decide) (fun q => absurd q (by rw [nI_leI (by decide) (by omega)]; omega)) (fun _ => ?_)
    refine ax_aload_n (pc := 59) dX5_kinds_59 rfl ?_
    refine ax_getf (pc := 60) fX5_23 dX5_kinds_60 (by exact hM_0) rfl ?_
    refine ax_iload_n (pc := 63) dX5_kinds_63 rfl ?_
    refine ax_iload (pc := 64) dX5_kinds_64 rfl ?_
    refine bx_iastoreu dX5_kinds_66 (by decide) (by omega) (by decide) upd_uu ?_
    refine ax_aload_n (pc := 67) dX5_kinds_67 rfl ?_
    refine ax_eVv0 (pc := 68) vX5_164 dX5_kinds_68 (by decide) (by exact hM_0) (Nat.le_of_ble_eq_true rfl) (c_X5_try _ _ s nd sl tu hn h40) ?_
    refine ax_iload (pc := 71) dX5_kinds_71 rfl ?_
    refine ax_aload_n (pc := 73) dX5_kinds_73 rfl ?_
    refine ax_iload_n (pc := 74) dX5_kinds_74 rfl ?_
    refine ax_cVi1 (pc := 75) vX5_182 dX5_kinds_75 (by decide) (by exact hM_0) (Nat.le_of_ble_eq_true rfl) (c_X5_isGround _ _ (xs s nd) sl (dK (s_D s) k2 j) (upd so k2 (nI j)) fl dr (dayH_s md) (s_rz s) f2 (s_rc s q) q m hq (by omega) ((mh_up_n (by decide)).trans m1) ez ((mh_up_n (by decide)).trans m2) (fun i hi => mf q hq i (by rw [em]; exact hi)) (s_fi s) (D0_sj hD0 (by omega)) hfi rfl (s_t s) _ _ hW0) (fun v1 h1 hq2 => ?_)
    obtain ⟨rfl, w1, g1, tu1, rfl⟩ := hq2
    refine ax_ifeqB (pc := 78) (tgt := 88) dX5_kinds_78 (by decide) (fun c78 => ?_) (fun c78 => ?_)
    · have eP := set_f (p := (fun x => s_fm s q ((s_D s).1, up_n (s_D s).2.1 k2 x, (s_D s).2.2.1, (s_D s).2.2.2) (s_t s))) (j := j) (by show ¬ sp_gs _ _ _ (s_rz s q).toNatClampNeg _ _ = true; rw [em]; exact c78)
      refine ax_iconst (pc := 88) (v := nI 0) dX5_kinds_88 (by decide) ?_
      refine ax_ior (pc := 89) dX5_kinds_89 ?_
      refine At.ti eP ?_
      refine ax_istore5 (pc := 90) dX5_kinds_90 rfl (by decide) ?_
      refine ax_inc6p1 (pc := 92) dX5_kinds_92 rfl (by decide) ?_
      refine ax_goto (pc := 95) (tgt := 52) dX5_kinds_95 (by decide) ?_
      rw [nI_1]
      exact ih (j + 1) (by omega) (nI j) _ _ (hm.t hv)
    · have eP := set_t (p := (fun x => s_fm s q ((s_D s).1, up_n (s_D s).2.1 k2 x, (s_D s).2.2.1, (s_D s).2.2.2) (s_t s))) (j := j) (by omega) (by show sp_gs _ _ _ (s_rz s q).toNatClampNeg _ _ = true; rw [em]; exact c78)
      refine ax_iconst (pc := 81) (v := 1) dX5_kinds_81 (by decide) ?_
      refine ax_iload (pc := 82) dX5_kinds_82 rfl ?_
      refine ax_ishl (pc := 84) dX5_kinds_84 ?_
      refine ax_goto (pc := 85) (tgt := 89) dX5_kinds_85 (by decide) ?_
      refine ax_ior (pc := 89) dX5_kinds_89 ?_
      refine At.ti eP ?_
      refine ax_istore5 (pc := 90) dX5_kinds_90 rfl (by decide) ?_
      refine ax_inc6p1 (pc := 92) dX5_kinds_92 rfl (by decide) ?_
      refine ax_goto (pc := 95) (tgt := 52) dX5_kinds_95 (by decide) ?_
      rw [nI_1]
      exact ih (j + 1) (by omega) (nI j) _ _ (hm.t hv)
set_option maxHeartbeats 4000000 in
set_option maxRecDepth 100000 in
theorem c_X5_kinds (dom : List Nat) (h : mh_H) (s : sg) (nd : Int32) (sl : Nat → Int32) (tu : Int32) (k r : Int32) (hm : MB s h sl) (hv : IV s) : Mt mX5_kinds dom 5 [.ref 0, .int k, .int r] (hM h (xs s nd) sl tu) (mx_Ri (fun v' h' => v' = (sp_kinds s k r).1 ∧ MP (sp_kinds s k r).2 h')) := by
  refine Mt.of (L := [some (.ref 0), some (.int k), some (.int r), none, none, none, none]) rfl (Nat.le_of_ble_eq_true rfl) rfl ?_
  obtain ⟨⟨m1, f2, m2, mf⟩, ⟨m3, f4, m4, mg⟩, ⟨so, fl, dr, md⟩, mn, msl, mk, mc, ⟨wo, mw⟩⟩ := id hm
  have hn := hm.now
  have h40 := hv.2.2.2.1.1
  obtain ⟨d5, d6, d7, dR⟩ := id md
  refine ax_aload_n (pc := 0) dX5_kinds_0 rfl ?_
  refine ax_iload_n (pc := 1) dX5_kinds_1 rfl ?_
  refine ax_eVi1 (pc := 2) vX5_133 dX5_kinds_2 (by decide) (by exact hM_0) (Nat.le_of_ble_eq_true rfl) (c_X5_isDay _ h (xs s nd) sl tu (s_D s).1 k rfl) ?_
  refine ax_ifeqB (pc := 5) (tgt := 20) dX5_kinds_5 (by decide) (fun c5a => ?_) (fun c5a => ?_)
  · refine ax_iconst (pc := 20) (v := -1) dX5_kinds_20 (by decide) ?_
    refine ax_iret (pc := 21) dX5_kinds_21 rfl ?_
    exact fin_m (by unfold sp_kinds; first | exact if_pos (Or.inl c5a) | exact if_pos (Or.inr c17)) hm.mp
  · refine ax_iload_n (pc := 8) dX5_kinds_8 rfl ?_
    refine ax_i2l (pc := 9) dX5_kinds_9 ?_
    refine ax_lconst (pc := 10) (v := 0) dX5_kinds_10 (by decide) ?_
    refine ax_ldc2 (pc := 11) dX5_kinds_11 tw_707 ?_
    refine ax_eSi3 (pc := 14) sX5_63 dX5_kinds_14 (by decide) (Nat.le_of_ble_eq_true rfl) (c_X5_in _ _ r 0 5 _ _ (by decide) (by decide)) ?_
    refine ax_ifneB (pc := 17) (tgt := 22) dX5_kinds_17 (by decide) (fun c17 => ?_) (fun c17 => ?_)
    · obtain ⟨k2, hk, rfl, hk9, hD0, hW0, hfi⟩ := hv.d c5a
      obtain ⟨q, hq, rfl⟩ := ix_5 c17
      refine ax_aload_n (pc := 22) dX5_kinds_22 rfl ?_
      refine ax_iload_n (pc := 23) dX5_kinds_23 rfl ?_
      refine ax_eVi1 (pc := 24) vX5_179 dX5_kinds_24 (by decide) (by exact hM_0) (Nat.le_of_ble_eq_true rfl) (c_X5_wrongRow _ h s nd sl tu hm hv q hq) ?_
      refine ax_istore3 (pc := 27) dX5_kinds_27 rfl (by decide) ?_
      refine ax_iload_n (pc := 28) dX5_kinds_28 rfl ?_
      refine ax_ifle (pc := 29) (tgt := 38) dX5_kinds_29 (by decide) (fun c29 => ?_) (fun c29 => ?_)
      · have wz : sp_wr s q = 0 := by rw [show (0 : Int32) = nI 0 from rfl, nI_leI (Nat.lt_trans (sp_wr_lt s q) (by decide)) (by decide)] at c29; omega
        obtain ⟨m, hm1, hm2, ez, em⟩ := sp_wr_0 (hv.1 q hq) wz
        refine ax_aload_n (pc := 38) dX5_kinds_38 rfl ?_
        refine ax_getf (pc := 39) fX5_23 dX5_kinds_39 (by exact hM_0) rfl ?_
        refine ax_iload_n (pc := 42) dX5_kinds_42 rfl ?_
        refine bx_iaload dX5_kinds_43 ((hM_n (by decide)).trans d5) (by omega) (by decide) (dR k2 hk).1 ?_
        refine ax_istore4 (pc := 44) dX5_kinds_44 rfl (by decide) ?_
        refine ax_iconst (pc := 46) (v := nI 0) dX5_kinds_46 (by decide) ?_
        refine ax_istore5 (pc := 47) dX5_kinds_47 rfl (by decide) ?_
        refine ax_iconst (pc := 49) (v := nI 0) dX5_kinds_49 (by decide) ?_
        refine ax_istore6 (pc := 50) dX5_kinds_50 rfl (by decide) ?_
        unfold sp_kinds
        rw [if_neg (by rintro (z | z); exact z c5a; exact z c17), ni_cl (by omega), ni_cl (by omega), if_neg (not_not_intro wz)]
        have K := l_X5_kinds dom h s nd hv k2 hk hD0 hW0 hfi q m hq hm2 ez em (nI (sp_wr s q)) so fl dr md 6 0 (by omega) (so k2) sl tu hm
        rw [upd_id rfl, mh_up_id d5] at K
        exact K
      · have wz : ¬ sp_wr s q = 0 := fun z => c29 (by rw [z]; decide)
        refine ax_aload_n (pc := 32) dX5_kinds_32 rfl ?_
        refine ax_iload_n (pc := 33) dX5_kinds_33 rfl ?_
        refine ax_cVi1 (pc := 34) vX5_67 dX5_kinds_34 (by decide) (by exact hM_0) (Nat.le_of_ble_eq_true rfl) (c_X5_finds _ h s nd sl tu (sp_wr s q) (sp_wr_lt s q) hm) (fun v1 h1 hq2 => ?_)
        obtain ⟨rfl, hq2⟩ := hq2
        refine ax_iret (pc := 37) dX5_kinds_37 rfl ?_
        exact fin_m (by unfold sp_kinds; rw [if_neg (by rintro (z | z); exact z c5a; exact z c17), ni_cl (by omega), ni_cl (by omega), if_pos wz]) hq2
    · refine ax_iconst (pc := 20) (v := -1) dX5_kinds_20 (by decide) ?_
      refine ax_iret (pc := 21) dX5_kinds_21 rfl ?_
      exact fin_m (by unfold sp_kinds; first | exact if_pos (Or.inl c5a) | exact if_pos (Or.inr c17)) hm.mp
def lkF (g : Nat → Nat) : Nat → Nat
  | 0 => 0
  | j + 1 => if g (j + 1) < g (lkF g j) then j + 1 else lkF g j
theorem lkF_le {g : Nat → Nat} : ∀ j, lkF g j ≤ j
  | 0 => Nat.le_refl _
  | j + 1 => by
    rw [lkF]
    have := lkF_le (g := g) j
    split <;> omega
theorem lkF_mn {g : Nat → Nat} (hg : ∀ t, g t ≤ 6) : ∀ j, sp_mn 0 7 g (j + 1) = (nI (lkF g j), nI (g (lkF g j)))
  | 0 => sp_mn_t (i0 := 0) (m0 := 7) (g := g) (j := 0) (by
      have := hg 0
      show nI (g 0) < nI 7
      rw [nI_ltI (by omega) (by decide)]
      omega)
  | j + 1 => by
    have ih := lkF_mn hg j
    have h1 := hg (j + 1)
    have h2 := hg (lkF g j)
    rw [lkF]
    by_cases q : g (j + 1) < g (lkF g j)
    · rw [if_pos q]
      exact sp_mn_t (by rw [ih]; exact nI_lt q (by omega))
    · rw [if_neg q]
      rw [sp_mn_f (by rw [ih]; exact nI_nlt (by omega) (by omega))]
      exact ih
theorem gp_le (s : sg) (k t : Nat) : sp_gp s k t ≤ 6 := sp_mxn_le (fun j => sp_ct_le _ 6) 6
theorem la_n {a b : Nat} (ha : a < 2 ^ 31) (hb : b < 2 ^ 31) : (if nI a < nI b then nI b else nI a) = nI (max a b) := ni_max ha hb
theorem fk_le {s : sg} {k t b : Nat} (hD0 : sp_D0 (s_D s)) (hk : k < (s_D s).1) (ht : t ≤ 4) : sp_fk s k t b < 2 ^ 31 := Nat.lt_of_le_of_lt (sp_fl_le (D0_j hD0 hk).2.1 ht) (by decide)
set_option maxHeartbeats 4000000 in
set_option maxRecDepth 100000 in
theorem l_X5_gr1 (dom : List Nat) (h : mh_H) (s : sg) (nd : Int32) (sl : Nat → Int32) (tu : Int32) (hm : MB s h sl) (hv : IV s) (k2 : Nat) (hk : k2 < (s_D s).1) (hD0 : sp_D0 (s_D s)) (hW0 : sp_W0 (s_D s).1 (s_w s)) (hfi : s_fi s < 512) (t : Nat) (ht : t ≤ 4) (a mo : Nat) (ha : a < 6) (Q : Option Value → mh_H → Prop) (KK : At mX5_greatest dom 2 102 [some (.ref 0), some (.int (nI k2)), some (.int (nI t)), some (.int (nI (6 * (s_ds s).length))), some (.int (nI mo)), some (.int (nI a)), some (.int (nI (sp_ct (fun b => decide (sp_fk s k2 t b = sp_fk s k2 t a)) 6))), some (.int (nI 6))] [] (hM h (xs s nd) sl tu) Q) : ∀ (nn j : Nat), j + nn = 6 → At mX5_greatest dom 2 24 [some (.ref 0), some (.int (nI k2)), some (.int (nI t)), some (.int (nI (6 * (s_ds s).length))), some (.int (nI mo)), some (.int (nI a)), some (.int (nI (sp_ct (fun b => decide (sp_fk s k2 t b = sp_fk s k2 t a)) j))), some (.int (nI j))] [] (hM h (xs s nd) sl tu) Q := by
  intro nn
  induction nn with
  | zero =>
    intro j hj
    have hj : j = 6 := by omega
    subst hj
    refine ax_iload (pc := 24) dX5_greatest_24 rfl ?_
    refine ax_bipush (pc := 26) (v := nI 6) dX5_greatest_26 (by decide) ?_
    refine ax_icmpge (pc := 28) (tgt := 102) dX5_greatest_28 (by decide) (fun _ => ?_) (fun q => absurd (by decide) q)
    exact KK
  | succ nn ih =>
    intro j hj
    have hlt : j < 6 := by omega
    obtain ⟨⟨m1, f2, m2, mf⟩, ⟨m3, f4, m4, mg⟩, ⟨so, fl, dr, md⟩, mn, msl, mk, mc, ⟨wo, mw⟩⟩ := id hm
    have hn := hm.now
    have h40 := hv.2.2.2.1.1
    obtain ⟨d5, d6, d7, dR⟩ := id md
    have h9 := hD0.2.1
    refine ax_iload (pc := 24) dX5_greatest_24 rfl ?_
    refine ax_bipush (pc := 26) (v := nI 6) dX5_greatest_26 (by decide) ?_
    refine ax_icmpge (pc := 28) (tgt := 102) dX5_greatest_28 (by decide) (fun q => absurd q (by rw [nI_leI (by decide) (by omega)]; omega)) (fun _ => ?_)
    refine ax_iload (pc := 31) dX5_greatest_31 rfl ?_
    refine ax_iload (pc := 33) dX5_greatest_33 rfl ?_
    refine ax_aload_n (pc := 35) dX5_greatest_35 rfl ?_
    refine ax_getf (pc := 36) fX5_26 dX5_greatest_36 (by exact hM_0) rfl ?_
    refine ax_iload_n (pc := 39) dX5_greatest_39 rfl ?_
    refine bx_iaload dX5_greatest_40 ((hM_n (by decide)).trans d6) (by omega) (by decide) (dR k2 hk).2.1 ?_
    refine ax_aload_n (pc := 41) dX5_greatest_41 rfl ?_
    refine ax_iload_n (pc := 42) dX5_greatest_42 rfl ?_
    refine ax_iload_n (pc := 43) dX5_greatest_43 rfl ?_
    refine ax_eVi2 (pc := 44) vX5_113 dX5_greatest_44 (by decide) (by exact hM_0) (Nat.le_of_ble_eq_true rfl) (c_X5_driftOf _ h (xs s nd) sl tu (s_D s) so fl dr md (6 * (s_ds s).length) k2 (s_fi s) (by omega) hk hD0.2.1 hfi hn.2.2.2.2.2) ?_
    refine ax_iload_n (pc := 47) dX5_greatest_47 rfl ?_
    refine ax_aload_n (pc := 48) dX5_greatest_48 rfl ?_
    refine ax_getf (pc := 49) fX5_41 dX5_greatest_49 (by exact hM_0) rfl ?_
    refine ax_iload_n (pc := 52) dX5_greatest_52 rfl ?_
    refine ax_iconst (pc := 53) (v := nI 2) dX5_greatest_53 (by decide) ?_
    refine bx_iadd dX5_greatest_54  ?_
    refine bx_slld dX5_greatest_55 (by omega) hn.2.2.1 ?_
    refine ax_eSi5 (pc := 56) sX5_116 dX5_greatest_56 (by decide) (Nat.le_of_ble_eq_true rfl) (c_X5_grindsAs _ _ a ((s_D s).2.2.1 k2) (sp_dr (s_D s) (s_fi s) k2) t (s_w s).2.2.1 (by omega) (D0_j hD0 hk).2.1 (dr_lt hD0 hk) ht hW0.2.2) ?_
    refine ax_iload (pc := 59) dX5_greatest_59 rfl ?_
    refine ax_aload_n (pc := 61) dX5_greatest_61 rfl ?_
    refine ax_getf (pc := 62) fX5_26 dX5_greatest_62 (by exact hM_0) rfl ?_
    refine ax_iload_n (pc := 65) dX5_greatest_65 rfl ?_
    refine bx_iaload dX5_greatest_66 ((hM_n (by decide)).trans d6) (by omega) (by decide) (dR k2 hk).2.1 ?_
    refine ax_aload_n (pc := 67) dX5_greatest_67 rfl ?_
    refine ax_iload_n (pc := 68) dX5_greatest_68 rfl ?_
    refine ax_iload_n (pc := 69) dX5_greatest_69 rfl ?_
    refine ax_eVi2 (pc := 70) vX5_113 dX5_greatest_70 (by decide) (by exact hM_0) (Nat.le_of_ble_eq_true rfl) (c_X5_driftOf _ h (xs s nd) sl tu (s_D s) so fl dr md (6 * (s_ds s).length) k2 (s_fi s) (by omega) hk hD0.2.1 hfi hn.2.2.2.2.2) ?_
    refine ax_iload_n (pc := 73) dX5_greatest_73 rfl ?_
    refine ax_aload_n (pc := 74) dX5_greatest_74 rfl ?_
    refine ax_getf (pc := 75) fX5_41 dX5_greatest_75 (by exact hM_0) rfl ?_
    refine ax_iload_n (pc := 78) dX5_greatest_78 rfl ?_
    refine ax_iconst (pc := 79) (v := nI 2) dX5_greatest_79 (by decide) ?_
    refine bx_iadd dX5_greatest_80  ?_
    refine bx_slld dX5_greatest_81 (by omega) hn.2.2.1 ?_
    refine ax_eSi5 (pc := 82) sX5_116 dX5_greatest_82 (by decide) (Nat.le_of_ble_eq_true rfl) (c_X5_grindsAs _ _ j ((s_D s).2.2.1 k2) (sp_dr (s_D s) (s_fi s) k2) t (s_w s).2.2.1 (by omega) (D0_j hD0 hk).2.1 (dr_lt hD0 hk) ht hW0.2.2) ?_
    refine ax_icmpne (pc := 85) (tgt := 92) dX5_greatest_85 (by decide) (fun c85 => ?_) (fun c85 => ?_)
    · refine ax_iconst (pc := 92) (v := nI 0) dX5_greatest_92 (by decide) ?_
      refine bx_iadd dX5_greatest_93  ?_
      refine ax_istore6 (pc := 94) dX5_greatest_94 rfl (by decide) ?_
      refine ax_inc7p1 (pc := 96) dX5_greatest_96 rfl (by decide) ?_
      refine ax_goto (pc := 99) (tgt := 24) dX5_greatest_99 (by decide) ?_
      rw [nI_1]
      have e := nI_eq (fk_le (s := s) (b := a) hD0 hk ht) (fk_le (s := s) (b := j) hD0 hk ht)
      have K := ih (j + 1) (by omega)
      rw [sp_ct] at K
      first
        | (rw [if_pos (decide_eq_true (e.mp c85).symm)] at K; exact K)
        | (rw [if_neg (fun z => c85 (e.mpr (of_decide_eq_true z).symm))] at K; exact K)
    · refine ax_iconst (pc := 88) (v := nI 1) dX5_greatest_88 (by decide) ?_
      refine ax_goto (pc := 89) (tgt := 93) dX5_greatest_89 (by decide) ?_
      refine bx_iadd dX5_greatest_93  ?_
      refine ax_istore6 (pc := 94) dX5_greatest_94 rfl (by decide) ?_
      refine ax_inc7p1 (pc := 96) dX5_greatest_96 rfl (by decide) ?_
      refine ax_goto (pc := 99) (tgt := 24) dX5_greatest_99 (by decide) ?_
      rw [nI_1]
      have e := nI_eq (fk_le (s := s) (b := a) hD0 hk ht) (fk_le (s := s) (b := j) hD0 hk ht)
      have K := ih (j + 1) (by omega)
      rw [sp_ct] at K
      first
        | (rw [if_pos (decide_eq_true (e.mp c85).symm)] at K; exact K)
        | (rw [if_neg (fun z => c85 (e.mpr (of_decide_eq_true z).symm))] at K; exact K)
set_option maxHeartbeats 4000000 in
set_option maxRecDepth 100000 in
theorem l_X5_gr2 (dom : List Nat) (h : mh_H) (s : sg) (nd : Int32) (sl : Nat → Int32) (tu : Int32) (hm : MB s h sl) (hv : IV s) (k2 : Nat) (hk : k2 < (s_D s).1) (hD0 : sp_D0 (s_D s)) (hW0 : sp_W0 (s_D s).1 (s_w s)) (hfi : s_fi s < 512) (t : Nat) (ht : t ≤ 4) : ∀ (nn j : Nat), j + nn = 6 → ∀ (l6 l7 : Option Value), At mX5_greatest dom 2 11 [some (.ref 0), some (.int (nI k2)), some (.int (nI t)), some (.int (nI (6 * (s_ds s).length))), some (.int (nI (sp_mxn (fun a => sp_gc s k2 t (sp_fk s k2 t a)) j))), some (.int (nI j)), l6, l7] [] (hM h (xs s nd) sl tu) (mx_Ri (fun v' h' => v' = nI (sp_gp s k2 t) ∧ h' = (hM h (xs s nd) sl tu))) := by
  intro nn
  induction nn with
  | zero =>
    intro j hj l6 l7
    have hj : j = 6 := by omega
    subst hj
    refine ax_iload (pc := 11) dX5_greatest_11 rfl ?_
    refine ax_bipush (pc := 13) (v := nI 6) dX5_greatest_13 (by decide) ?_
    refine ax_icmpge (pc := 15) (tgt := 117) dX5_greatest_15 (by decide) (fun _ => ?_) (fun q => absurd (by decide) q)
    refine ax_iload (pc := 117) dX5_greatest_117 rfl ?_
    refine ax_iret (pc := 119) dX5_greatest_119 rfl ?_
    exact ⟨_, rfl, rfl, rfl⟩
  | succ nn ih =>
    intro j hj l6 l7
    have hlt : j < 6 := by omega
    refine ax_iload (pc := 11) dX5_greatest_11 rfl ?_
    refine ax_bipush (pc := 13) (v := nI 6) dX5_greatest_13 (by decide) ?_
    refine ax_icmpge (pc := 15) (tgt := 117) dX5_greatest_15 (by decide) (fun q => absurd q (by rw [nI_leI (by decide) (by omega)]; omega)) (fun _ => ?_)
    refine ax_iconst (pc := 18) (v := nI 0) dX5_greatest_18 (by decide) ?_
    refine ax_istore6 (pc := 19) dX5_greatest_19 rfl (by decide) ?_
    refine ax_iconst (pc := 21) (v := nI 0) dX5_greatest_21 (by decide) ?_
    refine ax_istore7 (pc := 22) dX5_greatest_22 rfl (by decide) ?_
    refine l_X5_gr1 dom h s nd sl tu hm hv k2 hk hD0 hW0 hfi t ht j _ hlt _ ?_ 6 0 (by omega)
    refine ax_iload (pc := 102) dX5_greatest_102 rfl ?_
    refine ax_iload (pc := 104) dX5_greatest_104 rfl ?_
    refine ax_eSi2 (pc := 106) sX5_106 dX5_greatest_106 (by decide) (Nat.le_of_ble_eq_true rfl) (c_X5_larger _ _ _ _) ?_
    refine At.ti (la_n (Nat.lt_of_le_of_lt (sp_mxn_le (M := 6) (fun j => sp_ct_le _ 6) j) (by decide)) (Nat.lt_of_le_of_lt (sp_ct_le _ 6) (by decide))) ?_
    refine ax_istore4 (pc := 109) dX5_greatest_109 rfl (by decide) ?_
    refine ax_inc5p1 (pc := 111) dX5_greatest_111 rfl (by decide) ?_
    refine ax_goto (pc := 114) (tgt := 11) dX5_greatest_114 (by decide) ?_
    rw [nI_1]
    exact ih (j + 1) (by omega) _ _
set_option maxHeartbeats 4000000 in
set_option maxRecDepth 100000 in
theorem c_X5_greatest (dom : List Nat) (h : mh_H) (s : sg) (nd : Int32) (sl : Nat → Int32) (tu : Int32) (hm : MB s h sl) (hv : IV s) (k2 : Nat) (hk : k2 < (s_D s).1) (hD0 : sp_D0 (s_D s)) (hW0 : sp_W0 (s_D s).1 (s_w s)) (hfi : s_fi s < 512) (t : Nat) (ht : t ≤ 4) : Mt mX5_greatest dom 2 [.ref 0, .int (nI k2), .int (nI t)] (hM h (xs s nd) sl tu) (mx_Ri (fun v' h' => v' = nI (sp_gp s k2 t) ∧ h' = (hM h (xs s nd) sl tu))) := by
  refine Mt.of (L := [some (.ref 0), some (.int (nI k2)), some (.int (nI t)), none, none, none, none, none]) rfl (Nat.le_of_ble_eq_true rfl) rfl ?_
  obtain ⟨⟨m1, f2, m2, mf⟩, ⟨m3, f4, m4, mg⟩, ⟨so, fl, dr, md⟩, mn, msl, mk, mc, ⟨wo, mw⟩⟩ := id hm
  have hn := hm.now
  have h40 := hv.2.2.2.1.1
  obtain ⟨d5, d6, d7, dR⟩ := id md
  refine ax_aload_n (pc := 0) dX5_greatest_0 rfl ?_
  refine ax_eVi0 (pc := 1) vX5_123 dX5_greatest_1 (by decide) (by exact hM_0) (Nat.le_of_ble_eq_true rfl) (c_X5_now _ h (xs s nd) sl tu (s_ds s).length rfl) ?_
  refine ax_istore3 (pc := 4) dX5_greatest_4 rfl (by decide) ?_
  refine ax_iconst (pc := 5) (v := nI 0) dX5_greatest_5 (by decide) ?_
  refine ax_istore4 (pc := 6) dX5_greatest_6 rfl (by decide) ?_
  refine ax_iconst (pc := 8) (v := nI 0) dX5_greatest_8 (by decide) ?_
  refine ax_istore5 (pc := 9) dX5_greatest_9 rfl (by decide) ?_
  exact l_X5_gr2 dom h s nd sl tu hm hv k2 hk hD0 hW0 hfi t ht 6 0 (by omega) none none
set_option maxHeartbeats 4000000 in
set_option maxRecDepth 100000 in
theorem l_X5_look (dom : List Nat) (h : mh_H) (s : sg) (nd : Int32) (sl : Nat → Int32) (tu : Int32) (hm : MB s h sl) (hv : IV s) (k2 : Nat) (hk : k2 < (s_D s).1) (hD0 : sp_D0 (s_D s)) (hW0 : sp_W0 (s_D s).1 (s_w s)) (hfi : s_fi s < 512)  : ∀ (nn j : Nat), j + nn = 4 → At mX5_look dom 3 14 [some (.ref 0), some (.int (nI k2)), some (.int (nI (lkF (sp_gp s k2) j))), some (.int (nI (j + 1)))] [] (hM h (xs s nd) sl tu) (mx_Ri (fun v' h' => v' = nI (lkF (sp_gp s k2) 4) ∧ MP (u_ask s (nI (sp_gp s k2 (lkF (sp_gp s k2) 4)))) h')) := by
  intro nn
  induction nn with
  | zero =>
    intro j hj
    have hj : j = 4 := by omega
    subst hj
    refine ax_iload_n (pc := 14) dX5_look_14 rfl ?_
    refine ax_iconst (pc := 15) (v := nI 5) dX5_look_15 (by decide) ?_
    refine ax_icmpge (pc := 16) (tgt := 46) dX5_look_16 (by decide) (fun _ => ?_) (fun q => absurd (by decide) q)
    refine ax_aload_n (pc := 46) dX5_look_46 rfl ?_
    refine ax_aload_n (pc := 47) dX5_look_47 rfl ?_
    refine ax_iload_n (pc := 48) dX5_look_48 rfl ?_
    refine ax_iload_n (pc := 49) dX5_look_49 rfl ?_
    refine ax_eVi2 (pc := 50) vX5_185 dX5_look_50 (by decide) (by exact hM_0) (Nat.le_of_ble_eq_true rfl) (c_X5_greatest _ h s nd sl tu hm hv k2 hk hD0 hW0 hfi (lkF (sp_gp s k2) 4) (lkF_le 4)) ?_
    refine bx_ptold gX5_75 dX5_look_53 ?_
    refine ax_iload_n (pc := 56) dX5_look_56 rfl ?_
    refine ax_iret (pc := 57) dX5_look_57 rfl ?_
    exact ⟨_, rfl, rfl, MB.mp (s := u_ask s _) hm.ask⟩
  | succ nn ih =>
    intro j hj
    have hlt : j < 4 := by omega
    refine ax_iload_n (pc := 14) dX5_look_14 rfl ?_
    refine ax_iconst (pc := 15) (v := nI 5) dX5_look_15 (by decide) ?_
    refine ax_icmpge (pc := 16) (tgt := 46) dX5_look_16 (by decide) (fun q => absurd q (by rw [nI_leI (by decide) (by omega)]; omega)) (fun _ => ?_)
    refine ax_aload_n (pc := 19) dX5_look_19 rfl ?_
    refine ax_iload_n (pc := 20) dX5_look_20 rfl ?_
    refine ax_iload_n (pc := 21) dX5_look_21 rfl ?_
    refine ax_eVi2 (pc := 22) vX5_185 dX5_look_22 (by decide) (by exact hM_0) (Nat.le_of_ble_eq_true rfl) (c_X5_greatest _ h s nd sl tu hm hv k2 hk hD0 hW0 hfi (j + 1) (by omega)) ?_
    refine ax_aload_n (pc := 25) dX5_look_25 rfl ?_
    refine ax_iload_n (pc := 26) dX5_look_26 rfl ?_
    refine ax_iload_n (pc := 27) dX5_look_27 rfl ?_
    refine ax_eVi2 (pc := 28) vX5_185 dX5_look_28 (by decide) (by exact hM_0) (Nat.le_of_ble_eq_true rfl) (c_X5_greatest _ h s nd sl tu hm hv k2 hk hD0 hW0 hfi (lkF (sp_gp s k2) j) (by have := lkF_le (g := sp_gp s k2) j; omega)) ?_
    refine ax_icmpge (pc := 31) (tgt := 38) dX5_look_31 (by decide) (fun c31 => ?_) (fun c31 => ?_)
    · refine ax_iload_n (pc := 38) dX5_look_38 rfl ?_
      refine ax_istore2 (pc := 39) dX5_look_39 rfl (by decide) ?_
      refine ax_inc3p1 (pc := 40) dX5_look_40 rfl (by decide) ?_
      refine ax_goto (pc := 43) (tgt := 14) dX5_look_43 (by decide) ?_
      rw [nI_1]
      have e := nI_leI (Nat.lt_of_le_of_lt (gp_le s k2 (lkF (sp_gp s k2) j)) (show 6 < 2 ^ 31 by decide)) (Nat.lt_of_le_of_lt (gp_le s k2 (j + 1)) (show 6 < 2 ^ 31 by decide))
      have K := ih (j + 1) (by omega)
      rw [show lkF (sp_gp s k2) (j + 1) = if sp_gp s k2 (j + 1) < sp_gp s k2 (lkF (sp_gp s k2) j) then j + 1 else lkF (sp_gp s k2) j from rfl] at K
      first
        | (rw [if_neg (Nat.not_lt.mpr (e.mp c31))] at K; exact K)
        | (rw [if_pos (Nat.not_le.mp (fun z => c31 (e.mpr z)))] at K; exact K)
    · refine ax_iload_n (pc := 34) dX5_look_34 rfl ?_
      refine ax_goto (pc := 35) (tgt := 39) dX5_look_35 (by decide) ?_
      refine ax_istore2 (pc := 39) dX5_look_39 rfl (by decide) ?_
      refine ax_inc3p1 (pc := 40) dX5_look_40 rfl (by decide) ?_
      refine ax_goto (pc := 43) (tgt := 14) dX5_look_43 (by decide) ?_
      rw [nI_1]
      have e := nI_leI (Nat.lt_of_le_of_lt (gp_le s k2 (lkF (sp_gp s k2) j)) (show 6 < 2 ^ 31 by decide)) (Nat.lt_of_le_of_lt (gp_le s k2 (j + 1)) (show 6 < 2 ^ 31 by decide))
      have K := ih (j + 1) (by omega)
      rw [show lkF (sp_gp s k2) (j + 1) = if sp_gp s k2 (j + 1) < sp_gp s k2 (lkF (sp_gp s k2) j) then j + 1 else lkF (sp_gp s k2) j from rfl] at K
      first
        | (rw [if_neg (Nat.not_lt.mpr (e.mp c31))] at K; exact K)
        | (rw [if_pos (Nat.not_le.mp (fun z => c31 (e.mpr z)))] at K; exact K)
set_option maxHeartbeats 4000000 in
set_option maxRecDepth 100000 in
theorem c_X5_look (dom : List Nat) (h : mh_H) (s : sg) (nd : Int32) (sl : Nat → Int32) (tu : Int32) (k : Int32) (hm : MB s h sl) (hv : IV s) : Mt mX5_look dom 3 [.ref 0, .int k] (hM h (xs s nd) sl tu) (mx_Ri (fun v' h' => v' = (sp_look s k).1 ∧ MP (sp_look s k).2 h')) := by
  refine Mt.of (L := [some (.ref 0), some (.int k), none, none]) rfl (Nat.le_of_ble_eq_true rfl) rfl ?_
  obtain ⟨⟨m1, f2, m2, mf⟩, ⟨m3, f4, m4, mg⟩, ⟨so, fl, dr, md⟩, mn, msl, mk, mc, ⟨wo, mw⟩⟩ := id hm
  have hn := hm.now
  have h40 := hv.2.2.2.1.1
  obtain ⟨d5, d6, d7, dR⟩ := id md
  refine ax_aload_n (pc := 0) dX5_look_0 rfl ?_
  refine ax_iload_n (pc := 1) dX5_look_1 rfl ?_
  refine ax_eVi1 (pc := 2) vX5_133 dX5_look_2 (by decide) (by exact hM_0) (Nat.le_of_ble_eq_true rfl) (c_X5_isDay _ h (xs s nd) sl tu (s_D s).1 k rfl) ?_
  refine ax_ifneB (pc := 5) (tgt := 10) dX5_look_5 (by decide) (fun c5a => ?_) (fun c5a => ?_)
  · obtain ⟨k2, hk, rfl, hk9, hD0, hW0, hfi⟩ := hv.d c5a
    refine ax_iconst (pc := 10) (v := nI 0) dX5_look_10 (by decide) ?_
    refine ax_istore2 (pc := 11) dX5_look_11 rfl (by decide) ?_
    refine ax_iconst (pc := 12) (v := nI 1) dX5_look_12 (by decide) ?_
    refine ax_istore3 (pc := 13) dX5_look_13 rfl (by decide) ?_
    unfold sp_look
    rw [if_neg (not_not_intro c5a), ni_cl (by omega), lkF_mn (gp_le s k2) 4]
    exact l_X5_look dom h s nd sl tu hm hv k2 hk hD0 hW0 hfi 4 0 (by omega)
  · refine ax_iconst (pc := 8) (v := -1) dX5_look_8 (by decide) ?_
    refine ax_iret (pc := 9) dX5_look_9 rfl ?_
    exact fin_m (by unfold sp_look; exact if_pos c5a) hm.mp
