theorem bit_n {a k : Nat} (ha : a < 2 ^ 31) (hk : k < 31) : (nI a >>> (nI k &&& 31)) &&& 1 = nI (if a.testBit k then 1 else 0) := by
  have h := bc_st (j := k) ha hk
  rw [ni_bit ha hk]
  have h1 : a.testBit k = true ↔ a / 2 ^ k % 2 = 1 := by rw [Nat.testBit_eq_decide_div_mod_eq]; exact decide_eq_true_iff
  have h2 : a / 2 ^ k % 2 < 2 := Nat.mod_lt _ (by decide)
  congr 1
  split
  · rename_i q; exact h1.mp q
  · rename_i q
    have : ¬ a / 2 ^ k % 2 = 1 := fun z => q (h1.mpr z)
    omega
theorem MB.mpe {s : sg} {h : mh_H} {nd tu : Int32} {sl : Nat → Int32} {x : mxT} (hx : x = xs s nd) (m : MB s h sl) : MP s (hM h x sl tu) := by
  rw [hx]
  exact m.mp
theorem MB.sl {s : sg} {h : mh_H} {sl sl' : Nat → Int32} {ds : List (Nat × Nat)} (m : MB s h sl) (hs : slP (s_D s) ds (s_kp s) sl') : MB (u_leat s (s_D s) ds (s_kp s)) h sl' := ⟨m.1, m.2.1, m.2.2.1, m.2.2.2.1, hs, m.2.2.2.2.2⟩
theorem MB.do {s : sg} {h : mh_H} {sl : Nat → Int32} {q b : Nat} {g : Int32} (m : MB s h sl) (hv : IV s) (hl : (s_ds s).length < 40) (t : sp_W × Nat) (ht : rp_ap (s_D s) (rp (s_D s) (s_ds s)) (q, b) = t) (hg : g = nI t.1.2.2.2.2) : MB (sp_do s q b) h (s6 sl (6 * ((s_ds s).length + 1)) t.1 t.2 g) := by
  subst hg
  refine m.sl ⟨fun j hj => ?_, fun k hk e he j hj => ?_⟩
  · rw [List.length_append] at hj
    have hj : j ≤ (s_ds s).length + 1 := hj
    by_cases q1 : j ≤ (s_ds s).length
    · rw [List.take_append_of_le_length q1]
      exact s6_Rn (by omega) (m.2.2.2.2.1.1 j q1)
    · have : j = (s_ds s).length + 1 := by omega
      subst this
      rw [List.take_of_length_le (by rw [List.length_append]; exact Nat.le_refl _), rp_snoc, ht]
      exact s6_R
  · have := (hv.2.2.2.2 k hk e he).1
    exact s6_Rn (by omega) (m.2.2.2.2.1.2 k hk e he j hj)
theorem xs_do {s : sg} {nd : Int32} {q b : Nat} : ((xs s nd).1, (xs s nd).2.1, nI ((s_ds s).length + 1), (xs s nd).2.2.2.1, (xs s nd).2.2.2.2.1, (xs s nd).2.2.2.2.2.1, (xs s nd).2.2.2.2.2.2) = xs (sp_do s q b) nd := by
  show _ = (nI (s_D s).1, nd, nI (s_ds s ++ [(q, b)]).length, s_ask s, s_up s, s_lo s, s_fin s)
  rw [List.length_append]
  rfl
theorem s_w_do {s : sg} {q b : Nat} : rp (s_D (sp_do s q b)) (s_ds (sp_do s q b)) = rp_ap (s_D s) (rp (s_D s) (s_ds s)) (q, b) := rp_snoc _ _ _
theorem cpS_R {sl : Nat → Int32} {b c c0 n : Nat} {t : sp_W × Nat} (h : slR sl (b + c0) t) (hc : c0 + 6 ≤ n) : slR (cpS sl b c n) (c + c0) t := by
  refine ⟨?_, ?_, ?_, ?_, ?_, ?_⟩
  · exact (if_pos (by omega)).trans (Eq.trans (congrArg sl (by omega)) h.1)
  · exact (if_pos (by omega)).trans (Eq.trans (congrArg sl (by omega)) h.2.1)
  · exact (if_pos (by omega)).trans (Eq.trans (congrArg sl (by omega)) h.2.2.1)
  · exact (if_pos (by omega)).trans (Eq.trans (congrArg sl (by omega)) h.2.2.2.1)
  · exact (if_pos (by omega)).trans (Eq.trans (congrArg sl (by omega)) h.2.2.2.2.1)
  · exact (if_pos (by omega)).trans (Eq.trans (congrArg sl (by omega)) h.2.2.2.2.2)
theorem cpS_Rn {sl : Nat → Int32} {b c d n : Nat} {t : sp_W × Nat} (h : slR sl d t) (hc : d + 6 ≤ c ∨ c + n ≤ d) : slR (cpS sl b c n) d t := ⟨(if_neg (by omega)).trans h.1, (if_neg (by omega)).trans h.2.1, (if_neg (by omega)).trans h.2.2.1, (if_neg (by omega)).trans h.2.2.2.1, (if_neg (by omega)).trans h.2.2.2.2.1, (if_neg (by omega)).trans h.2.2.2.2.2⟩
theorem cpS_s0 {sl : Nat → Int32} {b j : Nat} : upd (cpS sl b 0 j) j (sl (b + j)) = cpS sl b 0 (j + 1) := by
  have e := cpS_s (sl := sl) (b := b) (c := 0) (j := j)
  rwa [Nat.zero_add] at e
theorem kz_fn {kp : Nat → Option (List (Nat × Nat))} {k : Nat} {e : List (Nat × Nat)} : upd (fun k => kz (kp k)) k (nI e.length) = fun j => kz (va_fn kp k (some e) j) := by
  funext j
  by_cases h : j = k
  · subst h; rw [pk_us, va_fn_s]; rfl
  · rw [pk_un h, va_fn_n h]
theorem MB.keep {s : sg} {h : mh_H} {sl : Nat → Int32} {k : Nat} (m : MB s h sl) (hv : IV s) (hk : k < 3) : MB (u_leat s (s_D s) (s_ds s) (va_fn (s_kp s) k (some (s_ds s)))) (mh_up h 12 (mh_ia 0 3 (fun j => kz (va_fn (s_kp s) k (some (s_ds s)) j)))) (cpS sl 0 (246 * (k + 1)) 246) := by
  obtain ⟨m1, m2, m3, m4, m5, m6, m7, m8⟩ := m
  have h40 := hv.2.2.2.1.1
  refine ⟨mRw_k (fun k hk => mh_up_n (by omega)) m1, mTx_k (fun k hk => mh_up_n (by omega)) m2, dayX_k (fun k hk => mh_up_n (by omega)) m3, mNw_k (fun k hk => mh_up_n (by omega)) m4, ⟨fun j hj => ?_, fun k' hk' e he j hj => ?_⟩, mh_up_s, (mh_up_n (by decide)).trans m7, wo_k (mh_up_n (by decide)) m8⟩
  · have hj : j ≤ (s_ds s).length := hj
    exact cpS_Rn (m5.1 j hj) (by omega)
  · have he : va_fn (s_kp s) k (some (s_ds s)) k' = some e := he
    by_cases q : k' = k
    · subst q
      rw [va_fn_s] at he
      cases he
      refine cpS_R ?_ (by omega)
      rw [Nat.zero_add]
      exact m5.1 j hj
    · rw [va_fn_n q] at he
      have := (hv.2.2.2.2 k' hk' e he).1
      exact cpS_Rn (m5.2 k' hk' e he j hj) (by omega)
theorem MB.on {s : sg} {h : mh_H} {sl : Nat → Int32} {k : Nat} {e : List (Nat × Nat)} (m : MB s h sl) (hv : IV s) (hk : k < 3) (he : s_kp s k = some e) : MB (u_leat s (s_D s) e (s_kp s)) h (cpS sl (246 * (k + 1)) 0 246) := by
  refine m.sl ⟨fun j hj => ?_, fun k' hk' e' he' j hj => ?_⟩
  · have := (hv.2.2.2.2 k hk e he).1
    have q := cpS_R (sl := sl) (b := 246 * (k + 1)) (c := 0) (c0 := 6 * j) (n := 246) (m.2.2.2.2.1.2 k hk e he j hj) (by omega)
    rwa [Nat.zero_add] at q
  · exact cpS_Rn (m.2.2.2.2.1.2 k' hk' e' he' j hj) (by omega)
theorem sp_on_n {s : sg} {k : Nat} (hk : k < 100) (c : 0 ≤ nI k ∧ nI k ≤ 2) (e : s_kp s k = none) : sp_on s (nI k) = (-3, u_fnd s 1) := by
  unfold sp_on
  rw [if_neg (not_not_intro c), ni_cl (by omega), e]
theorem sp_on_s {s : sg} {k : Nat} {d : List (Nat × Nat)} (hk : k < 100) (c : 0 ≤ nI k ∧ nI k ≤ 2) (e : s_kp s k = some d) : sp_on s (nI k) = (nI d.length, u_leat s (s_D s) d (s_kp s)) := by
  unfold sp_on
  rw [if_neg (not_not_intro c), ni_cl (by omega), e]
theorem MB.undo {s : sg} {h : mh_H} {sl : Nat → Int32} {n : Nat} (m : MB s h sl) : MB (u_leat s (s_D s) ((s_ds s).take n) (s_kp s)) h sl := by
  refine m.sl ⟨fun j hj => ?_, m.2.2.2.2.1.2⟩
  have hj : j ≤ ((s_ds s).take n).length := hj
  rw [List.length_take] at hj
  rw [List.take_take, Nat.min_eq_left (by omega)]
  exact m.2.2.2.2.1.1 j (by omega)
set_option maxHeartbeats 4000000 in
set_option maxRecDepth 100000 in
theorem c_X5_dayTold (dom : List Nat) (h : mh_H) (s : sg) (nd : Int32) (sl : Nat → Int32) (tu : Int32) (hm : MB s h sl) (hv : IV s) (k2 : Nat) (hk : k2 < (s_D s).1) (hD0 : sp_D0 (s_D s)) (hW0 : sp_W0 (s_D s).1 (s_w s)) (hfi : s_fi s < 512) (q : Nat) (hq : q ≤ 5) : Mt mX5_dayTold dom 3 [.ref 0, .int (nI k2), .int (nI q)] (hM h (xs s nd) sl tu) (mx_Ri (fun v' h' => v' = nI (sp_told s k2 q) ∧ h' = (hM h (xs s nd) sl tu))) := by
  refine Mt.of (L := [some (.ref 0), some (.int (nI k2)), some (.int (nI q)), none]) rfl (Nat.le_of_ble_eq_true rfl) rfl ?_
  obtain ⟨⟨m1, f2, m2, mf⟩, ⟨m3, f4, m4, mg⟩, ⟨so, fl, dr, md⟩, mn, msl, mk, mc, ⟨wo, mw⟩⟩ := id hm
  have hn := hm.now
  have h40 := hv.2.2.2.1.1
  obtain ⟨d5, d6, d7, dR⟩ := id md
  have hk9 := hD0.2.1
  refine ax_aload_n (pc := 0) dX5_dayTold_0 rfl ?_
  refine ax_eVi0 (pc := 1) vX5_123 dX5_dayTold_1 (by decide) (by exact hM_0) (Nat.le_of_ble_eq_true rfl) (c_X5_now _ h (xs s nd) sl tu (s_ds s).length rfl) ?_
  refine ax_istore3 (pc := 4) dX5_dayTold_4 rfl (by decide) ?_
  rcases (show q = 0 ∨ q = 1 ∨ q = 2 ∨ q = 3 ∨ q = 4 ∨ q = 5 by omega) with rfl | rfl | rfl | rfl | rfl | rfl
  · refine ax_iload_n (pc := 5) dX5_dayTold_5 rfl ?_
    refine ax_ifne (pc := 6) (tgt := 18) dX5_dayTold_6 (by decide) (fun q => absurd q (by decide)) (fun _ => ?_)
    refine ax_aload_n (pc := 9) dX5_dayTold_9 rfl ?_
    refine ax_getf (pc := 10) fX5_23 dX5_dayTold_10 (by exact hM_0) rfl ?_
    refine ax_iload_n (pc := 13) dX5_dayTold_13 rfl ?_
    refine bx_iaload dX5_dayTold_14 ((hM_n (by decide)).trans d5) (by omega) (by decide) (dR k2 hk).1 ?_
    refine ax_goto (pc := 15) (tgt := 86) dX5_dayTold_15 (by decide) ?_
    refine ax_iret (pc := 86) dX5_dayTold_86 rfl ?_
    exact ⟨_, rfl, rfl, rfl⟩
  · refine ax_iload_n (pc := 5) dX5_dayTold_5 rfl ?_
    refine ax_ifne (pc := 6) (tgt := 18) dX5_dayTold_6 (by decide) (fun _ => ?_) (fun q => absurd q (by decide))
    refine ax_iload_n (pc := 18) dX5_dayTold_18 rfl ?_
    refine ax_iconst (pc := 19) (v := nI 1) dX5_dayTold_19 (by decide) ?_
    refine ax_icmpne (pc := 20) (tgt := 32) dX5_dayTold_20 (by decide) (fun q => absurd q (by decide)) (fun _ => ?_)
    refine ax_aload_n (pc := 23) dX5_dayTold_23 rfl ?_
    refine ax_getf (pc := 24) fX5_26 dX5_dayTold_24 (by exact hM_0) rfl ?_
    refine ax_iload_n (pc := 27) dX5_dayTold_27 rfl ?_
    refine bx_iaload dX5_dayTold_28 ((hM_n (by decide)).trans d6) (by omega) (by decide) (dR k2 hk).2.1 ?_
    refine ax_goto (pc := 29) (tgt := 86) dX5_dayTold_29 (by decide) ?_
    refine ax_iret (pc := 86) dX5_dayTold_86 rfl ?_
    exact ⟨_, rfl, rfl, rfl⟩
  · refine ax_iload_n (pc := 5) dX5_dayTold_5 rfl ?_
    refine ax_ifne (pc := 6) (tgt := 18) dX5_dayTold_6 (by decide) (fun _ => ?_) (fun q => absurd q (by decide))
    refine ax_iload_n (pc := 18) dX5_dayTold_18 rfl ?_
    refine ax_iconst (pc := 19) (v := nI 1) dX5_dayTold_19 (by decide) ?_
    refine ax_icmpne (pc := 20) (tgt := 32) dX5_dayTold_20 (by decide) (fun _ => ?_) (fun q => absurd q (by decide))
    refine ax_iload_n (pc := 32) dX5_dayTold_32 rfl ?_
    refine ax_iconst (pc := 33) (v := nI 2) dX5_dayTold_33 (by decide) ?_
    refine ax_icmpne (pc := 34) (tgt := 46) dX5_dayTold_34 (by decide) (fun q => absurd q (by decide)) (fun _ => ?_)
    refine ax_aload_n (pc := 37) dX5_dayTold_37 rfl ?_
    refine ax_iload_n (pc := 38) dX5_dayTold_38 rfl ?_
    refine ax_iload_n (pc := 39) dX5_dayTold_39 rfl ?_
    refine ax_eVi2 (pc := 40) vX5_113 dX5_dayTold_40 (by decide) (by exact hM_0) (Nat.le_of_ble_eq_true rfl) (c_X5_driftOf _ h (xs s nd) sl tu (s_D s) so fl dr md (6 * (s_ds s).length) k2 (s_fi s) (by omega) hk hD0.2.1 hfi hn.2.2.2.2.2) ?_
    refine ax_goto (pc := 43) (tgt := 86) dX5_dayTold_43 (by decide) ?_
    refine ax_iret (pc := 86) dX5_dayTold_86 rfl ?_
    exact ⟨_, rfl, rfl, rfl⟩
  · refine ax_iload_n (pc := 5) dX5_dayTold_5 rfl ?_
    refine ax_ifne (pc := 6) (tgt := 18) dX5_dayTold_6 (by decide) (fun _ => ?_) (fun q => absurd q (by decide))
    refine ax_iload_n (pc := 18) dX5_dayTold_18 rfl ?_
    refine ax_iconst (pc := 19) (v := nI 1) dX5_dayTold_19 (by decide) ?_
    refine ax_icmpne (pc := 20) (tgt := 32) dX5_dayTold_20 (by decide) (fun _ => ?_) (fun q => absurd q (by decide))
    refine ax_iload_n (pc := 32) dX5_dayTold_32 rfl ?_
    refine ax_iconst (pc := 33) (v := nI 2) dX5_dayTold_33 (by decide) ?_
    refine ax_icmpne (pc := 34) (tgt := 46) dX5_dayTold_34 (by decide) (fun _ => ?_) (fun q => absurd q (by decide))
    refine ax_iload_n (pc := 46) dX5_dayTold_46 rfl ?_
    refine ax_iconst (pc := 47) (v := nI 3) dX5_dayTold_47 (by decide) ?_
    refine ax_icmpne (pc := 48) (tgt := 60) dX5_dayTold_48 (by decide) (fun q => absurd q (by decide)) (fun _ => ?_)
    refine ax_aload_n (pc := 51) dX5_dayTold_51 rfl ?_
    refine ax_iload_n (pc := 52) dX5_dayTold_52 rfl ?_
    refine ax_iload_n (pc := 53) dX5_dayTold_53 rfl ?_
    refine ax_eVi2 (pc := 54) vX5_127 dX5_dayTold_54 (by decide) (by exact hM_0) (Nat.le_of_ble_eq_true rfl) (c_X5_grindsNow _ h (xs s nd) sl tu (s_D s) so fl dr md (6 * (s_ds s).length) k2 (s_fi s) (s_w s).2.1 (s_w s).2.2.1 (by omega) hk hD0 hfi hn.2.2.2.2.2 hn.2.1 hn.2.2.1 hW0.2.1 hW0.2.2) ?_
    refine ax_goto (pc := 57) (tgt := 86) dX5_dayTold_57 (by decide) ?_
    refine ax_iret (pc := 86) dX5_dayTold_86 rfl ?_
    exact ⟨_, rfl, rfl, rfl⟩
  · refine ax_iload_n (pc := 5) dX5_dayTold_5 rfl ?_
    refine ax_ifne (pc := 6) (tgt := 18) dX5_dayTold_6 (by decide) (fun _ => ?_) (fun q => absurd q (by decide))
    refine ax_iload_n (pc := 18) dX5_dayTold_18 rfl ?_
    refine ax_iconst (pc := 19) (v := nI 1) dX5_dayTold_19 (by decide) ?_
    refine ax_icmpne (pc := 20) (tgt := 32) dX5_dayTold_20 (by decide) (fun _ => ?_) (fun q => absurd q (by decide))
    refine ax_iload_n (pc := 32) dX5_dayTold_32 rfl ?_
    refine ax_iconst (pc := 33) (v := nI 2) dX5_dayTold_33 (by decide) ?_
    refine ax_icmpne (pc := 34) (tgt := 46) dX5_dayTold_34 (by decide) (fun _ => ?_) (fun q => absurd q (by decide))
    refine ax_iload_n (pc := 46) dX5_dayTold_46 rfl ?_
    refine ax_iconst (pc := 47) (v := nI 3) dX5_dayTold_47 (by decide) ?_
    refine ax_icmpne (pc := 48) (tgt := 60) dX5_dayTold_48 (by decide) (fun _ => ?_) (fun q => absurd q (by decide))
    refine ax_iload_n (pc := 60) dX5_dayTold_60 rfl ?_
    refine ax_iconst (pc := 61) (v := nI 4) dX5_dayTold_61 (by decide) ?_
    refine ax_icmpne (pc := 62) (tgt := 74) dX5_dayTold_62 (by decide) (fun q => absurd q (by decide)) (fun _ => ?_)
    refine ax_aload_n (pc := 65) dX5_dayTold_65 rfl ?_
    refine ax_iload_n (pc := 66) dX5_dayTold_66 rfl ?_
    refine ax_iload_n (pc := 67) dX5_dayTold_67 rfl ?_
    refine ax_eVi2 (pc := 68) vX5_130 dX5_dayTold_68 (by decide) (by exact hM_0) (Nat.le_of_ble_eq_true rfl) (c_X5_leavesNow _ h (xs s nd) sl tu (s_D s) so fl dr md (6 * (s_ds s).length) k2 (s_fi s) (by omega) hk hD0 hfi hn.2.2.2.2.2) ?_
    refine ax_goto (pc := 71) (tgt := 86) dX5_dayTold_71 (by decide) ?_
    refine ax_iret (pc := 86) dX5_dayTold_86 rfl ?_
    exact ⟨_, rfl, rfl, rfl⟩
  · refine ax_iload_n (pc := 5) dX5_dayTold_5 rfl ?_
    refine ax_ifne (pc := 6) (tgt := 18) dX5_dayTold_6 (by decide) (fun _ => ?_) (fun q => absurd q (by decide))
    refine ax_iload_n (pc := 18) dX5_dayTold_18 rfl ?_
    refine ax_iconst (pc := 19) (v := nI 1) dX5_dayTold_19 (by decide) ?_
    refine ax_icmpne (pc := 20) (tgt := 32) dX5_dayTold_20 (by decide) (fun _ => ?_) (fun q => absurd q (by decide))
    refine ax_iload_n (pc := 32) dX5_dayTold_32 rfl ?_
    refine ax_iconst (pc := 33) (v := nI 2) dX5_dayTold_33 (by decide) ?_
    refine ax_icmpne (pc := 34) (tgt := 46) dX5_dayTold_34 (by decide) (fun _ => ?_) (fun q => absurd q (by decide))
    refine ax_iload_n (pc := 46) dX5_dayTold_46 rfl ?_
    refine ax_iconst (pc := 47) (v := nI 3) dX5_dayTold_47 (by decide) ?_
    refine ax_icmpne (pc := 48) (tgt := 60) dX5_dayTold_48 (by decide) (fun _ => ?_) (fun q => absurd q (by decide))
    refine ax_iload_n (pc := 60) dX5_dayTold_60 rfl ?_
    refine ax_iconst (pc := 61) (v := nI 4) dX5_dayTold_61 (by decide) ?_
    refine ax_icmpne (pc := 62) (tgt := 74) dX5_dayTold_62 (by decide) (fun _ => ?_) (fun q => absurd q (by decide))
    refine ax_aload_n (pc := 74) dX5_dayTold_74 rfl ?_
    refine ax_getf (pc := 75) fX5_41 dX5_dayTold_75 (by exact hM_0) rfl ?_
    refine ax_iload_n (pc := 78) dX5_dayTold_78 rfl ?_
    refine ax_iconst (pc := 79) (v := nI 5) dX5_dayTold_79 (by decide) ?_
    refine bx_iadd dX5_dayTold_80  ?_
    refine bx_slld dX5_dayTold_81 (by omega) hn.2.2.2.2.2 ?_
    refine ax_iload_n (pc := 82) dX5_dayTold_82 rfl ?_
    refine ax_ishr (pc := 83) dX5_dayTold_83 ?_
    refine ax_iconst (pc := 84) (v := 1) dX5_dayTold_84 (by decide) ?_
    refine ax_iand (pc := 85) dX5_dayTold_85 ?_
    refine At.ti (bit_n (Nat.lt_trans hfi (by decide)) (by omega)) ?_
    refine ax_iret (pc := 86) dX5_dayTold_86 rfl ?_
    exact ⟨_, rfl, rfl, rfl⟩
set_option maxHeartbeats 4000000 in
set_option maxRecDepth 100000 in
theorem c_X5_day (dom : List Nat) (h : mh_H) (s : sg) (nd : Int32) (sl : Nat → Int32) (tu : Int32) (k q : Int32) (hm : MB s h sl) (hv : IV s) : Mt mX5_day dom 4 [.ref 0, .int k, .int q] (hM h (xs s nd) sl tu) (mx_Ri (fun v' h' => v' = (sp_day s k q).1 ∧ MP (sp_day s k q).2 h')) := by
  refine Mt.of (L := [some (.ref 0), some (.int k), some (.int q)]) rfl (Nat.le_of_ble_eq_true rfl) rfl ?_
  refine ax_aload_n (pc := 0) dX5_day_0 rfl ?_
  refine ax_iload_n (pc := 1) dX5_day_1 rfl ?_
  refine ax_eVi1 (pc := 2) vX5_133 dX5_day_2 (by decide) (by exact hM_0) (Nat.le_of_ble_eq_true rfl) (c_X5_isDay _ h (xs s nd) sl tu (s_D s).1 k rfl) ?_
  refine ax_ifeqB (pc := 5) (tgt := 20) dX5_day_5 (by decide) (fun c5a => ?_) (fun c5a => ?_)
  · refine ax_iconst (pc := 20) (v := -1) dX5_day_20 (by decide) ?_
    refine ax_iret (pc := 21) dX5_day_21 rfl ?_
    exact fin_m (by unfold sp_day; first | exact if_pos (Or.inl c5a) | exact if_pos (Or.inr c17)) hm.mp
  · refine ax_iload_n (pc := 8) dX5_day_8 rfl ?_
    refine ax_i2l (pc := 9) dX5_day_9 ?_
    refine ax_lconst (pc := 10) (v := 0) dX5_day_10 (by decide) ?_
    refine ax_ldc2 (pc := 11) dX5_day_11 tw_707 ?_
    refine ax_eSi3 (pc := 14) sX5_63 dX5_day_14 (by decide) (Nat.le_of_ble_eq_true rfl) (c_X5_in _ _ q 0 5 _ _ (by decide) (by decide)) ?_
    refine ax_ifneB (pc := 17) (tgt := 22) dX5_day_17 (by decide) (fun c17 => ?_) (fun c17 => ?_)
    · obtain ⟨k2, hk, rfl, hk9, hD0, hW0, hfi⟩ := hv.d c5a
      obtain ⟨q2, hq2, rfl⟩ := ix_5 c17
      refine ax_aload_n (pc := 22) dX5_day_22 rfl ?_
      refine ax_aload_n (pc := 23) dX5_day_23 rfl ?_
      refine ax_iload_n (pc := 24) dX5_day_24 rfl ?_
      refine ax_iload_n (pc := 25) dX5_day_25 rfl ?_
      refine ax_eVi2 (pc := 26) vX5_137 dX5_day_26 (by decide) (by exact hM_0) (Nat.le_of_ble_eq_true rfl) (c_X5_dayTold _ h s nd sl tu hm hv k2 hk hD0 hW0 hfi q2 (by omega)) ?_
      refine bx_ptold gX5_75 dX5_day_29 ?_
      refine ax_iconst (pc := 32) (v := 1) dX5_day_32 (by decide) ?_
      refine ax_iret (pc := 33) dX5_day_33 rfl ?_
      exact fin_m (s' := u_ask s (nI (sp_told s k2 q2))) (by unfold sp_day; rw [if_neg (by rintro (z | z); exact z c5a; exact z c17), ni_cl (by omega), ni_cl (by omega)]) (MB.mp (s := u_ask s _) hm.ask)
    · refine ax_iconst (pc := 20) (v := -1) dX5_day_20 (by decide) ?_
      refine ax_iret (pc := 21) dX5_day_21 rfl ?_
      exact fin_m (by unfold sp_day; first | exact if_pos (Or.inl c5a) | exact if_pos (Or.inr c17)) hm.mp
set_option maxHeartbeats 4000000 in
set_option maxRecDepth 100000 in
theorem c_X5_mark (dom : List Nat) (h : mh_H) (s : sg) (nd : Int32) (sl : Nat → Int32) (tu : Int32) (k q : Int32) (hm : MB s h sl) (hv : IV s) : Mt mX5_mark dom 2 [.ref 0, .int k, .int q] (hM h (xs s nd) sl tu) (mx_Ri (fun v' h' => v' = (sp_mark s k q).1 ∧ MP (sp_mark s k q).2 h')) := by
  refine Mt.of (L := [some (.ref 0), some (.int k), some (.int q), none, none, none, none, none, none, none]) rfl (Nat.le_of_ble_eq_true rfl) rfl ?_
  obtain ⟨⟨m1, f2, m2, mf⟩, ⟨m3, f4, m4, mg⟩, ⟨so, fl, dr, md⟩, mn, msl, mk, mc, ⟨wo, mw⟩⟩ := id hm
  have hn := hm.now
  have h40 := hv.2.2.2.1.1
  obtain ⟨d5, d6, d7, dR⟩ := id md
  refine ax_aload_n (pc := 0) dX5_mark_0 rfl ?_
  refine ax_iload_n (pc := 1) dX5_mark_1 rfl ?_
  refine ax_eVi1 (pc := 2) vX5_133 dX5_mark_2 (by decide) (by exact hM_0) (Nat.le_of_ble_eq_true rfl) (c_X5_isDay _ h (xs s nd) sl tu (s_D s).1 k rfl) ?_
  refine ax_ifeqB (pc := 5) (tgt := 20) dX5_mark_5 (by decide) (fun c5a => ?_) (fun c5a => ?_)
  · refine ax_iconst (pc := 20) (v := -1) dX5_mark_20 (by decide) ?_
    refine ax_iret (pc := 21) dX5_mark_21 rfl ?_
    exact fin_m (by unfold sp_mark; first | exact if_pos (Or.inl c5a) | exact if_pos (Or.inr c17)) hm.mp
  · refine ax_iload_n (pc := 8) dX5_mark_8 rfl ?_
    refine ax_i2l (pc := 9) dX5_mark_9 ?_
    refine ax_lconst (pc := 10) (v := 1) dX5_mark_10 (by decide) ?_
    refine ax_ldc2 (pc := 11) dX5_mark_11 tw_707 ?_
    refine ax_eSi3 (pc := 14) sX5_63 dX5_mark_14 (by decide) (Nat.le_of_ble_eq_true rfl) (c_X5_in _ _ q 1 5 _ _ (by decide) (by decide)) ?_
    refine ax_ifneB (pc := 17) (tgt := 22) dX5_mark_17 (by decide) (fun c17 => ?_) (fun c17 => ?_)
    · obtain ⟨k2, hk, rfl, hk9, hD0, hW0, hfi⟩ := hv.d c5a
      obtain ⟨q2, hq2, rfl⟩ := ix_5 ⟨Int32.le_trans (by decide) c17.1, c17.2⟩
      have hq1 : 1 ≤ q2 := by have := c17.1; rw [n_1, nI_leI (by decide) (by omega)] at this; exact this
      refine ax_aload_n (pc := 22) dX5_mark_22 rfl ?_
      refine ax_getf (pc := 23) fX5_23 dX5_mark_23 (by exact hM_0) rfl ?_
      refine ax_iload_n (pc := 26) dX5_mark_26 rfl ?_
      refine bx_iaload dX5_mark_27 ((hM_n (by decide)).trans d5) (by omega) (by decide) (dR k2 hk).1 ?_
      refine ax_iload_n (pc := 28) dX5_mark_28 rfl ?_
      refine ax_eSi2 (pc := 29) sX5_140 dX5_mark_29 (by decide) (Nat.le_of_ble_eq_true rfl) (c_X5_isOf _ _ ((s_D s).2.1 k2) q2 (D0_j hD0 hk).1 (by omega)) ?_
      refine ax_ifneB (pc := 32) (tgt := 41) dX5_mark_32 (by decide) (fun c32 => ?_) (fun c32 => ?_)
      · have eS : sp_mark s (nI k2) (nI q2) = (sp_mk s k2 q2 + 100, s) := by
          unfold sp_mark
          rw [if_neg (by rintro (z | z); exact z c5a; exact z c17), ni_cl (by omega), ni_cl (by omega), if_neg (not_not_intro c32)]
        rw [eS]
        refine ax_aload_n (pc := 41) dX5_mark_41 rfl ?_
        refine ax_eVi0 (pc := 42) vX5_123 dX5_mark_42 (by decide) (by exact hM_0) (Nat.le_of_ble_eq_true rfl) (c_X5_now _ h (xs s nd) sl tu (s_ds s).length rfl) ?_
        refine ax_istore3 (pc := 45) dX5_mark_45 rfl (by decide) ?_
        refine ax_aload_n (pc := 46) dX5_mark_46 rfl ?_
        refine ax_iload_n (pc := 47) dX5_mark_47 rfl ?_
        refine ax_iload_n (pc := 48) dX5_mark_48 rfl ?_
        refine ax_eVi2 (pc := 49) vX5_113 dX5_mark_49 (by decide) (by exact hM_0) (Nat.le_of_ble_eq_true rfl) (c_X5_driftOf _ h (xs s nd) sl tu (s_D s) so fl dr md (6 * (s_ds s).length) k2 (s_fi s) (by omega) hk hD0.2.1 hfi hn.2.2.2.2.2) ?_
        refine ax_istore4 (pc := 52) dX5_mark_52 rfl (by decide) ?_
        refine ax_aload_n (pc := 54) dX5_mark_54 rfl ?_
        refine ax_getf (pc := 55) fX5_41 dX5_mark_55 (by exact hM_0) rfl ?_
        refine ax_iload_n (pc := 58) dX5_mark_58 rfl ?_
        refine ax_iconst (pc := 59) (v := nI 1) dX5_mark_59 (by decide) ?_
        refine bx_iadd dX5_mark_60  ?_
        refine bx_slld dX5_mark_61 (by omega) hn.2.1 ?_
        refine ax_istore5 (pc := 62) dX5_mark_62 rfl (by decide) ?_
        refine ax_aload_n (pc := 64) dX5_mark_64 rfl ?_
        refine ax_getf (pc := 65) fX5_41 dX5_mark_65 (by exact hM_0) rfl ?_
        refine ax_iload_n (pc := 68) dX5_mark_68 rfl ?_
        refine ax_iconst (pc := 69) (v := nI 2) dX5_mark_69 (by decide) ?_
        refine bx_iadd dX5_mark_70  ?_
        refine bx_slld dX5_mark_71 (by omega) hn.2.2.1 ?_
        refine ax_istore6 (pc := 72) dX5_mark_72 rfl (by decide) ?_
        rcases (show q2 = 1 ∨ q2 = 2 ∨ q2 = 3 ∨ q2 = 4 ∨ q2 = 5 by omega) with rfl | rfl | rfl | rfl | rfl
        · refine ax_iload_n (pc := 74) dX5_mark_74 rfl ?_
          refine ax_iconst (pc := 75) (v := nI 4) dX5_mark_75 (by decide) ?_
          refine ax_icmpne (pc := 76) (tgt := 83) dX5_mark_76 (by decide) (fun _ => ?_) (fun q => absurd q (by decide))
          refine ax_iload_n (pc := 83) dX5_mark_83 rfl ?_
          refine ax_iconst (pc := 84) (v := nI 5) dX5_mark_84 (by decide) ?_
          refine ax_icmpne (pc := 85) (tgt := 92) dX5_mark_85 (by decide) (fun _ => ?_) (fun q => absurd q (by decide))
          refine ax_iconst (pc := 92) (v := nI 0) dX5_mark_92 (by decide) ?_
          refine ax_istore7 (pc := 93) dX5_mark_93 rfl (by decide) ?_
          refine ax_iload_n (pc := 95) dX5_mark_95 rfl ?_
          refine ax_iconst (pc := 96) (v := nI 3) dX5_mark_96 (by decide) ?_
          refine ax_icmpeq (pc := 97) (tgt := 105) dX5_mark_97 (by decide) (fun q => absurd q (by decide)) (fun _ => ?_)
          refine ax_iload_n (pc := 100) dX5_mark_100 rfl ?_
          refine ax_iconst (pc := 101) (v := nI 5) dX5_mark_101 (by decide) ?_
          refine ax_icmpne (pc := 102) (tgt := 109) dX5_mark_102 (by decide) (fun _ => ?_) (fun q => absurd q (by decide))
          refine ax_iconst (pc := 109) (v := nI 0) dX5_mark_109 (by decide) ?_
          refine ax_istore8 (pc := 110) dX5_mark_110 rfl (by decide) ?_
          refine ax_iload (pc := 112) dX5_mark_112 rfl ?_
          refine ax_ifeq (pc := 114) (tgt := 139) dX5_mark_114 (by decide) (fun _ => ?_) (fun q => absurd (by decide) q)
          refine ax_aload_n (pc := 139) dX5_mark_139 rfl ?_
          refine ax_getf (pc := 140) fX5_23 dX5_mark_140 (by exact hM_0) rfl ?_
          refine ax_iload_n (pc := 143) dX5_mark_143 rfl ?_
          refine bx_iaload dX5_mark_144 ((hM_n (by decide)).trans d5) (by omega) (by decide) (dR k2 hk).1 ?_
          refine ax_aload_n (pc := 145) dX5_mark_145 rfl ?_
          refine ax_getf (pc := 146) fX5_26 dX5_mark_146 (by exact hM_0) rfl ?_
          refine ax_iload_n (pc := 149) dX5_mark_149 rfl ?_
          refine bx_iaload dX5_mark_150 ((hM_n (by decide)).trans d6) (by omega) (by decide) (dR k2 hk).2.1 ?_
          refine ax_iload (pc := 151) dX5_mark_151 rfl ?_
          refine ax_iload (pc := 153) dX5_mark_153 rfl ?_
          refine ax_iload (pc := 155) dX5_mark_155 rfl ?_
          refine ax_eSi5 (pc := 157) sX5_116 dX5_mark_157 (by decide) (Nat.le_of_ble_eq_true rfl) (c_X5_grindsAs _ _ ((s_D s).2.1 k2) ((s_D s).2.2.1 k2) (sp_dr (s_D s) (s_fi s) k2) (s_w s).2.1 (s_w s).2.2.1 (D0_j hD0 hk).1 (D0_j hD0 hk).2.1 (dr_lt hD0 hk) hW0.2.1 hW0.2.2) ?_
          refine ax_iload (pc := 160) dX5_mark_160 rfl ?_
          refine ax_aload_n (pc := 162) dX5_mark_162 rfl ?_
          refine ax_getf (pc := 163) fX5_26 dX5_mark_163 (by exact hM_0) rfl ?_
          refine ax_iload_n (pc := 166) dX5_mark_166 rfl ?_
          refine bx_iaload dX5_mark_167 ((hM_n (by decide)).trans d6) (by omega) (by decide) (dR k2 hk).2.1 ?_
          refine ax_iload (pc := 168) dX5_mark_168 rfl ?_
          refine ax_iload (pc := 170) dX5_mark_170 rfl ?_
          refine ax_iload (pc := 172) dX5_mark_172 rfl ?_
          refine ax_eSi5 (pc := 174) sX5_116 dX5_mark_174 (by decide) (Nat.le_of_ble_eq_true rfl) (c_X5_grindsAs _ _ 0 ((s_D s).2.2.1 k2) (sp_dr (s_D s) (s_fi s) k2) (s_w s).2.1 (s_w s).2.2.1 (by decide) (D0_j hD0 hk).2.1 (dr_lt hD0 hk) hW0.2.1 hW0.2.2) ?_
          refine ax_isub (pc := 177) dX5_mark_177 ?_
          refine ax_istore9 (pc := 178) dX5_mark_178 rfl (by decide) ?_
          refine ax_iload (pc := 180) dX5_mark_180 rfl ?_
          refine ax_bipush (pc := 182) (v := 100) dX5_mark_182 (by decide) ?_
          refine ax_iadd (pc := 184) dX5_mark_184 ?_
          refine ax_iret (pc := 185) dX5_mark_185 rfl ?_
          exact ⟨_, rfl, rfl, hm.mp⟩
        · refine ax_iload_n (pc := 74) dX5_mark_74 rfl ?_
          refine ax_iconst (pc := 75) (v := nI 4) dX5_mark_75 (by decide) ?_
          refine ax_icmpne (pc := 76) (tgt := 83) dX5_mark_76 (by decide) (fun _ => ?_) (fun q => absurd q (by decide))
          refine ax_iload_n (pc := 83) dX5_mark_83 rfl ?_
          refine ax_iconst (pc := 84) (v := nI 5) dX5_mark_84 (by decide) ?_
          refine ax_icmpne (pc := 85) (tgt := 92) dX5_mark_85 (by decide) (fun _ => ?_) (fun q => absurd q (by decide))
          refine ax_iconst (pc := 92) (v := nI 0) dX5_mark_92 (by decide) ?_
          refine ax_istore7 (pc := 93) dX5_mark_93 rfl (by decide) ?_
          refine ax_iload_n (pc := 95) dX5_mark_95 rfl ?_
          refine ax_iconst (pc := 96) (v := nI 3) dX5_mark_96 (by decide) ?_
          refine ax_icmpeq (pc := 97) (tgt := 105) dX5_mark_97 (by decide) (fun q => absurd q (by decide)) (fun _ => ?_)
          refine ax_iload_n (pc := 100) dX5_mark_100 rfl ?_
          refine ax_iconst (pc := 101) (v := nI 5) dX5_mark_101 (by decide) ?_
          refine ax_icmpne (pc := 102) (tgt := 109) dX5_mark_102 (by decide) (fun _ => ?_) (fun q => absurd q (by decide))
          refine ax_iconst (pc := 109) (v := nI 0) dX5_mark_109 (by decide) ?_
          refine ax_istore8 (pc := 110) dX5_mark_110 rfl (by decide) ?_
          refine ax_iload (pc := 112) dX5_mark_112 rfl ?_
          refine ax_ifeq (pc := 114) (tgt := 139) dX5_mark_114 (by decide) (fun _ => ?_) (fun q => absurd (by decide) q)
          refine ax_aload_n (pc := 139) dX5_mark_139 rfl ?_
          refine ax_getf (pc := 140) fX5_23 dX5_mark_140 (by exact hM_0) rfl ?_
          refine ax_iload_n (pc := 143) dX5_mark_143 rfl ?_
          refine bx_iaload dX5_mark_144 ((hM_n (by decide)).trans d5) (by omega) (by decide) (dR k2 hk).1 ?_
          refine ax_aload_n (pc := 145) dX5_mark_145 rfl ?_
          refine ax_getf (pc := 146) fX5_26 dX5_mark_146 (by exact hM_0) rfl ?_
          refine ax_iload_n (pc := 149) dX5_mark_149 rfl ?_
          refine bx_iaload dX5_mark_150 ((hM_n (by decide)).trans d6) (by omega) (by decide) (dR k2 hk).2.1 ?_
          refine ax_iload (pc := 151) dX5_mark_151 rfl ?_
          refine ax_iload (pc := 153) dX5_mark_153 rfl ?_
          refine ax_iload (pc := 155) dX5_mark_155 rfl ?_
          refine ax_eSi5 (pc := 157) sX5_116 dX5_mark_157 (by decide) (Nat.le_of_ble_eq_true rfl) (c_X5_grindsAs _ _ ((s_D s).2.1 k2) ((s_D s).2.2.1 k2) (sp_dr (s_D s) (s_fi s) k2) (s_w s).2.1 (s_w s).2.2.1 (D0_j hD0 hk).1 (D0_j hD0 hk).2.1 (dr_lt hD0 hk) hW0.2.1 hW0.2.2) ?_
          refine ax_iload (pc := 160) dX5_mark_160 rfl ?_
          refine ax_aload_n (pc := 162) dX5_mark_162 rfl ?_
          refine ax_getf (pc := 163) fX5_26 dX5_mark_163 (by exact hM_0) rfl ?_
          refine ax_iload_n (pc := 166) dX5_mark_166 rfl ?_
          refine bx_iaload dX5_mark_167 ((hM_n (by decide)).trans d6) (by omega) (by decide) (dR k2 hk).2.1 ?_
          refine ax_iload (pc := 168) dX5_mark_168 rfl ?_
          refine ax_iload (pc := 170) dX5_mark_170 rfl ?_
          refine ax_iload (pc := 172) dX5_mark_172 rfl ?_
          refine ax_eSi5 (pc := 174) sX5_116 dX5_mark_174 (by decide) (Nat.le_of_ble_eq_true rfl) (c_X5_grindsAs _ _ 0 ((s_D s).2.2.1 k2) (sp_dr (s_D s) (s_fi s) k2) (s_w s).2.1 (s_w s).2.2.1 (by decide) (D0_j hD0 hk).2.1 (dr_lt hD0 hk) hW0.2.1 hW0.2.2) ?_
          refine ax_isub (pc := 177) dX5_mark_177 ?_
          refine ax_istore9 (pc := 178) dX5_mark_178 rfl (by decide) ?_
          refine ax_iload (pc := 180) dX5_mark_180 rfl ?_
          refine ax_bipush (pc := 182) (v := 100) dX5_mark_182 (by decide) ?_
          refine ax_iadd (pc := 184) dX5_mark_184 ?_
          refine ax_iret (pc := 185) dX5_mark_185 rfl ?_
          exact ⟨_, rfl, rfl, hm.mp⟩
        · refine ax_iload_n (pc := 74) dX5_mark_74 rfl ?_
          refine ax_iconst (pc := 75) (v := nI 4) dX5_mark_75 (by decide) ?_
          refine ax_icmpne (pc := 76) (tgt := 83) dX5_mark_76 (by decide) (fun _ => ?_) (fun q => absurd q (by decide))
          refine ax_iload_n (pc := 83) dX5_mark_83 rfl ?_
          refine ax_iconst (pc := 84) (v := nI 5) dX5_mark_84 (by decide) ?_
          refine ax_icmpne (pc := 85) (tgt := 92) dX5_mark_85 (by decide) (fun _ => ?_) (fun q => absurd q (by decide))
          refine ax_iconst (pc := 92) (v := nI 0) dX5_mark_92 (by decide) ?_
          refine ax_istore7 (pc := 93) dX5_mark_93 rfl (by decide) ?_
          refine ax_iload_n (pc := 95) dX5_mark_95 rfl ?_
          refine ax_iconst (pc := 96) (v := nI 3) dX5_mark_96 (by decide) ?_
          refine ax_icmpeq (pc := 97) (tgt := 105) dX5_mark_97 (by decide) (fun _ => ?_) (fun q => absurd (by decide) q)
          refine ax_iconst (pc := 105) (v := nI 1) dX5_mark_105 (by decide) ?_
          refine ax_goto (pc := 106) (tgt := 110) dX5_mark_106 (by decide) ?_
          refine ax_istore8 (pc := 110) dX5_mark_110 rfl (by decide) ?_
          refine ax_iload (pc := 112) dX5_mark_112 rfl ?_
          refine ax_ifeq (pc := 114) (tgt := 139) dX5_mark_114 (by decide) (fun q => absurd q (by decide)) (fun _ => ?_)
          refine ax_aload_n (pc := 117) dX5_mark_117 rfl ?_
          refine ax_getf (pc := 118) fX5_23 dX5_mark_118 (by exact hM_0) rfl ?_
          refine ax_iload_n (pc := 121) dX5_mark_121 rfl ?_
          refine bx_iaload dX5_mark_122 ((hM_n (by decide)).trans d5) (by omega) (by decide) (dR k2 hk).1 ?_
          refine ax_iload (pc := 123) dX5_mark_123 rfl ?_
          refine ax_eSi2 (pc := 125) sX5_120 dX5_mark_125 (by decide) (Nat.le_of_ble_eq_true rfl) (c_X5_leavesAs _ _ ((s_D s).2.1 k2) (sp_dr (s_D s) (s_fi s) k2) (D0_j hD0 hk).1 (dr_lt hD0 hk)) ?_
          refine ax_iload (pc := 128) dX5_mark_128 rfl ?_
          refine ax_iload (pc := 130) dX5_mark_130 rfl ?_
          refine ax_eSi2 (pc := 132) sX5_120 dX5_mark_132 (by decide) (Nat.le_of_ble_eq_true rfl) (c_X5_leavesAs _ _ 0 (sp_dr (s_D s) (s_fi s) k2) (by decide) (dr_lt hD0 hk)) ?_
          refine ax_isub (pc := 135) dX5_mark_135 ?_
          refine ax_goto (pc := 136) (tgt := 178) dX5_mark_136 (by decide) ?_
          refine ax_istore9 (pc := 178) dX5_mark_178 rfl (by decide) ?_
          refine ax_iload (pc := 180) dX5_mark_180 rfl ?_
          refine ax_bipush (pc := 182) (v := 100) dX5_mark_182 (by decide) ?_
          refine ax_iadd (pc := 184) dX5_mark_184 ?_
          refine ax_iret (pc := 185) dX5_mark_185 rfl ?_
          exact ⟨_, rfl, rfl, hm.mp⟩
        · refine ax_iload_n (pc := 74) dX5_mark_74 rfl ?_
          refine ax_iconst (pc := 75) (v := nI 4) dX5_mark_75 (by decide) ?_
          refine ax_icmpne (pc := 76) (tgt := 83) dX5_mark_76 (by decide) (fun q => absurd q (by decide)) (fun _ => ?_)
          refine ax_iconst (pc := 79) (v := nI 1) dX5_mark_79 (by decide) ?_
          refine ax_goto (pc := 80) (tgt := 93) dX5_mark_80 (by decide) ?_
          refine ax_istore7 (pc := 93) dX5_mark_93 rfl (by decide) ?_
          refine ax_iload_n (pc := 95) dX5_mark_95 rfl ?_
          refine ax_iconst (pc := 96) (v := nI 3) dX5_mark_96 (by decide) ?_
          refine ax_icmpeq (pc := 97) (tgt := 105) dX5_mark_97 (by decide) (fun q => absurd q (by decide)) (fun _ => ?_)
          refine ax_iload_n (pc := 100) dX5_mark_100 rfl ?_
          refine ax_iconst (pc := 101) (v := nI 5) dX5_mark_101 (by decide) ?_
          refine ax_icmpne (pc := 102) (tgt := 109) dX5_mark_102 (by decide) (fun _ => ?_) (fun q => absurd q (by decide))
          refine ax_iconst (pc := 109) (v := nI 0) dX5_mark_109 (by decide) ?_
          refine ax_istore8 (pc := 110) dX5_mark_110 rfl (by decide) ?_
          refine ax_iload (pc := 112) dX5_mark_112 rfl ?_
          refine ax_ifeq (pc := 114) (tgt := 139) dX5_mark_114 (by decide) (fun _ => ?_) (fun q => absurd (by decide) q)
          refine ax_aload_n (pc := 139) dX5_mark_139 rfl ?_
          refine ax_getf (pc := 140) fX5_23 dX5_mark_140 (by exact hM_0) rfl ?_
          refine ax_iload_n (pc := 143) dX5_mark_143 rfl ?_
          refine bx_iaload dX5_mark_144 ((hM_n (by decide)).trans d5) (by omega) (by decide) (dR k2 hk).1 ?_
          refine ax_aload_n (pc := 145) dX5_mark_145 rfl ?_
          refine ax_getf (pc := 146) fX5_26 dX5_mark_146 (by exact hM_0) rfl ?_
          refine ax_iload_n (pc := 149) dX5_mark_149 rfl ?_
          refine bx_iaload dX5_mark_150 ((hM_n (by decide)).trans d6) (by omega) (by decide) (dR k2 hk).2.1 ?_
          refine ax_iload (pc := 151) dX5_mark_151 rfl ?_
          refine ax_iload (pc := 153) dX5_mark_153 rfl ?_
          refine ax_iload (pc := 155) dX5_mark_155 rfl ?_
          refine ax_eSi5 (pc := 157) sX5_116 dX5_mark_157 (by decide) (Nat.le_of_ble_eq_true rfl) (c_X5_grindsAs _ _ ((s_D s).2.1 k2) ((s_D s).2.2.1 k2) (sp_dr (s_D s) (s_fi s) k2) (s_w s).2.1 (s_w s).2.2.1 (D0_j hD0 hk).1 (D0_j hD0 hk).2.1 (dr_lt hD0 hk) hW0.2.1 hW0.2.2) ?_
          refine ax_iload (pc := 160) dX5_mark_160 rfl ?_
          refine ax_aload_n (pc := 162) dX5_mark_162 rfl ?_
          refine ax_getf (pc := 163) fX5_26 dX5_mark_163 (by exact hM_0) rfl ?_
          refine ax_iload_n (pc := 166) dX5_mark_166 rfl ?_
          refine bx_iaload dX5_mark_167 ((hM_n (by decide)).trans d6) (by omega) (by decide) (dR k2 hk).2.1 ?_
          refine ax_iload (pc := 168) dX5_mark_168 rfl ?_
          refine ax_iload (pc := 170) dX5_mark_170 rfl ?_
          refine ax_iload (pc := 172) dX5_mark_172 rfl ?_
          refine ax_eSi5 (pc := 174) sX5_116 dX5_mark_174 (by decide) (Nat.le_of_ble_eq_true rfl) (c_X5_grindsAs _ _ 1 ((s_D s).2.2.1 k2) (sp_dr (s_D s) (s_fi s) k2) (s_w s).2.1 (s_w s).2.2.1 (by decide) (D0_j hD0 hk).2.1 (dr_lt hD0 hk) hW0.2.1 hW0.2.2) ?_
          refine ax_isub (pc := 177) dX5_mark_177 ?_
          refine ax_istore9 (pc := 178) dX5_mark_178 rfl (by decide) ?_
          refine ax_iload (pc := 180) dX5_mark_180 rfl ?_
          refine ax_bipush (pc := 182) (v := 100) dX5_mark_182 (by decide) ?_
          refine ax_iadd (pc := 184) dX5_mark_184 ?_
          refine ax_iret (pc := 185) dX5_mark_185 rfl ?_
          exact ⟨_, rfl, rfl, hm.mp⟩
        · refine ax_iload_n (pc := 74) dX5_mark_74 rfl ?_
          refine ax_iconst (pc := 75) (v := nI 4) dX5_mark_75 (by decide) ?_
          refine ax_icmpne (pc := 76) (tgt := 83) dX5_mark_76 (by decide) (fun _ => ?_) (fun q => absurd q (by decide))
          refine ax_iload_n (pc := 83) dX5_mark_83 rfl ?_
          refine ax_iconst (pc := 84) (v := nI 5) dX5_mark_84 (by decide) ?_
          refine ax_icmpne (pc := 85) (tgt := 92) dX5_mark_85 (by decide) (fun q => absurd q (by decide)) (fun _ => ?_)
          refine ax_iconst (pc := 88) (v := nI 3) dX5_mark_88 (by decide) ?_
          refine ax_goto (pc := 89) (tgt := 93) dX5_mark_89 (by decide) ?_
          refine ax_istore7 (pc := 93) dX5_mark_93 rfl (by decide) ?_
          refine ax_iload_n (pc := 95) dX5_mark_95 rfl ?_
          refine ax_iconst (pc := 96) (v := nI 3) dX5_mark_96 (by decide) ?_
          refine ax_icmpeq (pc := 97) (tgt := 105) dX5_mark_97 (by decide) (fun q => absurd q (by decide)) (fun _ => ?_)
          refine ax_iload_n (pc := 100) dX5_mark_100 rfl ?_
          refine ax_iconst (pc := 101) (v := nI 5) dX5_mark_101 (by decide) ?_
          refine ax_icmpne (pc := 102) (tgt := 109) dX5_mark_102 (by decide) (fun q => absurd q (by decide)) (fun _ => ?_)
          refine ax_iconst (pc := 105) (v := nI 1) dX5_mark_105 (by decide) ?_
          refine ax_goto (pc := 106) (tgt := 110) dX5_mark_106 (by decide) ?_
          refine ax_istore8 (pc := 110) dX5_mark_110 rfl (by decide) ?_
          refine ax_iload (pc := 112) dX5_mark_112 rfl ?_
          refine ax_ifeq (pc := 114) (tgt := 139) dX5_mark_114 (by decide) (fun q => absurd q (by decide)) (fun _ => ?_)
          refine ax_aload_n (pc := 117) dX5_mark_117 rfl ?_
          refine ax_getf (pc := 118) fX5_23 dX5_mark_118 (by exact hM_0) rfl ?_
          refine ax_iload_n (pc := 121) dX5_mark_121 rfl ?_
          refine bx_iaload dX5_mark_122 ((hM_n (by decide)).trans d5) (by omega) (by decide) (dR k2 hk).1 ?_
          refine ax_iload (pc := 123) dX5_mark_123 rfl ?_
          refine ax_eSi2 (pc := 125) sX5_120 dX5_mark_125 (by decide) (Nat.le_of_ble_eq_true rfl) (c_X5_leavesAs _ _ ((s_D s).2.1 k2) (sp_dr (s_D s) (s_fi s) k2) (D0_j hD0 hk).1 (dr_lt hD0 hk)) ?_
          refine ax_iload (pc := 128) dX5_mark_128 rfl ?_
          refine ax_iload (pc := 130) dX5_mark_130 rfl ?_
          refine ax_eSi2 (pc := 132) sX5_120 dX5_mark_132 (by decide) (Nat.le_of_ble_eq_true rfl) (c_X5_leavesAs _ _ 3 (sp_dr (s_D s) (s_fi s) k2) (by decide) (dr_lt hD0 hk)) ?_
          refine ax_isub (pc := 135) dX5_mark_135 ?_
          refine ax_goto (pc := 136) (tgt := 178) dX5_mark_136 (by decide) ?_
          refine ax_istore9 (pc := 178) dX5_mark_178 rfl (by decide) ?_
          refine ax_iload (pc := 180) dX5_mark_180 rfl ?_
          refine ax_bipush (pc := 182) (v := 100) dX5_mark_182 (by decide) ?_
          refine ax_iadd (pc := 184) dX5_mark_184 ?_
          refine ax_iret (pc := 185) dX5_mark_185 rfl ?_
          exact ⟨_, rfl, rfl, hm.mp⟩
      · refine ax_aload_n (pc := 35) dX5_mark_35 rfl ?_
        refine ax_iconst (pc := 36) (v := nI 3) dX5_mark_36 (by decide) ?_
        refine ax_cVi1 (pc := 37) vX5_67 dX5_mark_37 (by decide) (by exact hM_0) (Nat.le_of_ble_eq_true rfl) (c_X5_finds _ h s nd sl tu 3 (by decide) hm) (fun v1 h1 hq => ?_)
        obtain ⟨rfl, hq⟩ := hq
        refine ax_iret (pc := 40) dX5_mark_40 rfl ?_
        exact fin_m (by unfold sp_mark; rw [if_neg (by rintro (z | z); exact z c5a; exact z c17), ni_cl (by omega), ni_cl (by omega), if_pos c32]) hq
    · refine ax_iconst (pc := 20) (v := -1) dX5_mark_20 (by decide) ?_
      refine ax_iret (pc := 21) dX5_mark_21 rfl ?_
      exact fin_m (by unfold sp_mark; first | exact if_pos (Or.inl c5a) | exact if_pos (Or.inr c17)) hm.mp
set_option maxHeartbeats 4000000 in
set_option maxRecDepth 100000 in
theorem c_X5_grinds (dom : List Nat) (h : mh_H) (s : sg) (nd : Int32) (sl : Nat → Int32) (tu : Int32) (k t c : Int32) (hm : MB s h sl) (hv : IV s) : Mt mX5_grinds dom 2 [.ref 0, .int k, .int t, .int c] (hM h (xs s nd) sl tu) (mx_Ri (fun v' h' => v' = (sp_grinds s k t c).1 ∧ MP (sp_grinds s k t c).2 h')) := by
  refine Mt.of (L := [some (.ref 0), some (.int k), some (.int t), some (.int c)]) rfl (Nat.le_of_ble_eq_true rfl) rfl ?_
  obtain ⟨⟨m1, f2, m2, mf⟩, ⟨m3, f4, m4, mg⟩, ⟨so, fl, dr, md⟩, mn, msl, mk, mc, ⟨wo, mw⟩⟩ := id hm
  have hn := hm.now
  have h40 := hv.2.2.2.1.1
  obtain ⟨d5, d6, d7, dR⟩ := id md
  refine ax_aload_n (pc := 0) dX5_grinds_0 rfl ?_
  refine ax_iload_n (pc := 1) dX5_grinds_1 rfl ?_
  refine ax_eVi1 (pc := 2) vX5_133 dX5_grinds_2 (by decide) (by exact hM_0) (Nat.le_of_ble_eq_true rfl) (c_X5_isDay _ h (xs s nd) sl tu (s_D s).1 k rfl) ?_
  refine ax_ifeqB (pc := 5) (tgt := 32) dX5_grinds_5 (by decide) (fun c5a => ?_) (fun c5a => ?_)
  · refine ax_iconst (pc := 32) (v := -1) dX5_grinds_32 (by decide) ?_
    refine ax_iret (pc := 33) dX5_grinds_33 rfl ?_
    exact fin_m (by unfold sp_grinds; first | exact if_pos (Or.inl c5a) | exact if_pos (Or.inr (Or.inl c17)) | exact if_pos (Or.inr (Or.inr c29))) hm.mp
  · refine ax_iload_n (pc := 8) dX5_grinds_8 rfl ?_
    refine ax_i2l (pc := 9) dX5_grinds_9 ?_
    refine ax_lconst (pc := 10) (v := 0) dX5_grinds_10 (by decide) ?_
    refine ax_ldc2 (pc := 11) dX5_grinds_11 tw_823 ?_
    refine ax_eSi3 (pc := 14) sX5_63 dX5_grinds_14 (by decide) (Nat.le_of_ble_eq_true rfl) (c_X5_in _ _ t 0 4 _ _ (by decide) (by decide)) ?_
    refine ax_ifeqB (pc := 17) (tgt := 32) dX5_grinds_17 (by decide) (fun c17 => ?_) (fun c17 => ?_)
    · refine ax_iconst (pc := 32) (v := -1) dX5_grinds_32 (by decide) ?_
      refine ax_iret (pc := 33) dX5_grinds_33 rfl ?_
      exact fin_m (by unfold sp_grinds; first | exact if_pos (Or.inl c5a) | exact if_pos (Or.inr (Or.inl c17)) | exact if_pos (Or.inr (Or.inr c29))) hm.mp
    · refine ax_iload_n (pc := 20) dX5_grinds_20 rfl ?_
      refine ax_i2l (pc := 21) dX5_grinds_21 ?_
      refine ax_lconst (pc := 22) (v := 0) dX5_grinds_22 (by decide) ?_
      refine ax_ldc2 (pc := 23) dX5_grinds_23 tw_824 ?_
      refine ax_eSi3 (pc := 26) sX5_63 dX5_grinds_26 (by decide) (Nat.le_of_ble_eq_true rfl) (c_X5_in _ _ c 0 40 _ _ (by decide) (by decide)) ?_
      refine ax_ifneB (pc := 29) (tgt := 34) dX5_grinds_29 (by decide) (fun c29 => ?_) (fun c29 => ?_)
      · obtain ⟨k2, hk, rfl, hk9, hD0, hW0, hfi⟩ := hv.d c5a
        obtain ⟨t2, ht, rfl⟩ := nI_of2 (n := 4) (M := 4) rfl (Int32.not_lt.mpr c17.1) c17.2
        obtain ⟨q2, hq2, rfl⟩ := nI_of2 (n := 40) (M := 40) rfl (Int32.not_lt.mpr c29.1) c29.2
        refine ax_aload_n (pc := 34) dX5_grinds_34 rfl ?_
        refine ax_getf (pc := 35) fX5_23 dX5_grinds_35 (by exact hM_0) rfl ?_
        refine ax_iload_n (pc := 38) dX5_grinds_38 rfl ?_
        refine bx_iaload dX5_grinds_39 ((hM_n (by decide)).trans d5) (by omega) (by decide) (dR k2 hk).1 ?_
        refine ax_aload_n (pc := 40) dX5_grinds_40 rfl ?_
        refine ax_getf (pc := 41) fX5_26 dX5_grinds_41 (by exact hM_0) rfl ?_
        refine ax_iload_n (pc := 44) dX5_grinds_44 rfl ?_
        refine bx_iaload dX5_grinds_45 ((hM_n (by decide)).trans d6) (by omega) (by decide) (dR k2 hk).2.1 ?_
        refine ax_aload_n (pc := 46) dX5_grinds_46 rfl ?_
        refine ax_aload_n (pc := 47) dX5_grinds_47 rfl ?_
        refine ax_eVi0 (pc := 48) vX5_123 dX5_grinds_48 (by decide) (by exact hM_0) (Nat.le_of_ble_eq_true rfl) (c_X5_now _ h (xs s nd) sl tu (s_ds s).length rfl) ?_
        refine ax_iload_n (pc := 51) dX5_grinds_51 rfl ?_
        refine ax_eVi2 (pc := 52) vX5_113 dX5_grinds_52 (by decide) (by exact hM_0) (Nat.le_of_ble_eq_true rfl) (c_X5_driftOf _ h (xs s nd) sl tu (s_D s) so fl dr md (6 * (s_ds s).length) k2 (s_fi s) (by omega) hk hD0.2.1 hfi hn.2.2.2.2.2) ?_
        refine ax_iload_n (pc := 55) dX5_grinds_55 rfl ?_
        refine ax_iload_n (pc := 56) dX5_grinds_56 rfl ?_
        refine ax_eSi5 (pc := 57) sX5_116 dX5_grinds_57 (by decide) (Nat.le_of_ble_eq_true rfl) (c_X5_grindsAs _ _ ((s_D s).2.1 k2) ((s_D s).2.2.1 k2) (sp_dr (s_D s) (s_fi s) k2) t2 q2 (D0_j hD0 hk).1 (D0_j hD0 hk).2.1 (dr_lt hD0 hk) ht hq2) ?_
        refine ax_iret (pc := 60) dX5_grinds_60 rfl ?_
        exact fin_m (by unfold sp_grinds; rw [if_neg (by rintro (z | z | z); exact z c5a; exact z c17; exact z c29), ni_cl (by omega), ni_cl (by omega), ni_cl (by omega)]; rfl) hm.mp
      · refine ax_iconst (pc := 32) (v := -1) dX5_grinds_32 (by decide) ?_
        refine ax_iret (pc := 33) dX5_grinds_33 rfl ?_
        exact fin_m (by unfold sp_grinds; first | exact if_pos (Or.inl c5a) | exact if_pos (Or.inr (Or.inl c17)) | exact if_pos (Or.inr (Or.inr c29))) hm.mp
set_option maxHeartbeats 4000000 in
set_option maxRecDepth 100000 in
theorem c_X5_step (dom : List Nat) (h : mh_H) (s : sg) (nd : Int32) (sl : Nat → Int32) (tu : Int32) (hm : MB s h sl) (hv : IV s) : Mt mX5_step dom 4 [.ref 0] (hM h (xs s nd) sl tu) (mx_Ri (fun v' h' => v' = (sp_step s).1 ∧ MP (sp_step s).2 h')) := by
  refine Mt.of (L := [some (.ref 0), none]) rfl (Nat.le_of_ble_eq_true rfl) rfl ?_
  obtain ⟨⟨m1, f2, m2, mf⟩, ⟨m3, f4, m4, mg⟩, ⟨so, fl, dr, md⟩, mn, msl, mk, mc, ⟨wo, mw⟩⟩ := id hm
  have hn := hm.now
  have h40 := hv.2.2.2.1.1
  obtain ⟨d5, d6, d7, dR⟩ := id md
  refine ax_aload_n (pc := 0) dX5_step_0 rfl ?_
  refine ax_getf (pc := 1) fX5_97 dX5_step_1 (by exact hM_0) rfl ?_
  refine ax_ifne (pc := 4) (tgt := 10) dX5_step_4 (by decide) (fun c4a => ?_) (fun c4a => ?_)
  · have hd0 : ¬ (s_D s).1 = 0 := fun q => c4a (by show nI (s_D s).1 = 0; rw [q]; rfl)
    obtain ⟨hD0, hW0, hfi⟩ := hv.w hd0
    refine ax_aload_n (pc := 10) dX5_step_10 rfl ?_
    refine ax_getf (pc := 11) fX5_100 dX5_step_11 (by exact hM_0) rfl ?_
    refine ax_bipush (pc := 14) (v := nI 40) dX5_step_14 (by decide) ?_
    refine ax_icmpne (pc := 16) (tgt := 22) dX5_step_16 (by decide) (fun c16 => ?_) (fun c16 => ?_)
    · have hl : ¬ (s_ds s).length = 40 := fun q => c16 (by show nI (s_ds s).length = nI 40; rw [q])
      have hlt : (s_ds s).length < 40 := by omega
      refine ax_aload_n (pc := 22) dX5_step_22 rfl ?_
      refine ax_aload_n (pc := 23) dX5_step_23 rfl ?_
      refine ax_eVi0 (pc := 24) vX5_153 dX5_step_24 (by decide) (by exact hM_0) (Nat.le_of_ble_eq_true rfl) (c_X5_deed _ h (xs s nd) sl tu (s_ds s).length (rp (s_D s) (s_ds s)) rfl hn (by omega)) ?_
      refine ax_iconst (pc := 27) (v := 0) dX5_step_27 (by decide) ?_
      refine ax_eVi2 (pc := 28) vX5_156 dX5_step_28 (by decide) (by exact hM_0) (Nat.le_of_ble_eq_true rfl) (c_X5_steps _ h ((xs s nd).1, (xs s nd).2.1, nI ((s_ds s).length + 1), (xs s nd).2.2.2.1, (xs s nd).2.2.2.2.1, (xs s nd).2.2.2.2.2.1, (xs s nd).2.2.2.2.2.2) sl tu (s_D s) so fl dr md (6 * ((s_ds s).length + 1)) (s_fi s) (s_w s) (nI (s_w s).2.2.2.2) (by omega) hD0 hW0 hfi rfl) ?_
      refine ax_istore1 (pc := 31) dX5_step_31 rfl (by decide) ?_
      refine ax_aload_n (pc := 32) dX5_step_32 rfl ?_
      refine ax_aload_n (pc := 33) dX5_step_33 rfl ?_
      refine ax_getf (pc := 34) fX5_41 dX5_step_34 (by exact hM_0) rfl ?_
      refine ax_aload_n (pc := 37) dX5_step_37 rfl ?_
      refine ax_eVi0 (pc := 38) vX5_123 dX5_step_38 (by decide) (by exact hM_0) (Nat.le_of_ble_eq_true rfl) (c_X5_now _ h ((xs s nd).1, (xs s nd).2.1, nI ((s_ds s).length + 1), (xs s nd).2.2.2.1, (xs s nd).2.2.2.2.1, (xs s nd).2.2.2.2.2.1, (xs s nd).2.2.2.2.2.2) _ _ ((s_ds s).length + 1) rfl) ?_
      refine ax_iconst (pc := 41) (v := nI 0) dX5_step_41 (by decide) ?_
      refine bx_iadd dX5_step_42  ?_
      refine bx_slld dX5_step_43 (by omega) s6_0 ?_
      refine bx_ptold gX5_75 dX5_step_44 ?_
      refine ax_iload_n (pc := 47) dX5_step_47 rfl ?_
      refine ax_iret (pc := 48) dX5_step_48 rfl ?_
      refine fin_m (s' := u_ask (sp_do s 0 0) (nI (s_w (sp_do s 0 0)).1)) (by unfold sp_step; rw [if_neg hd0, if_neg hl]; rfl) ?_
      refine MB.mpe (nd := nd) (s := u_ask (sp_do s 0 0) (nI (s_w (sp_do s 0 0)).1)) ?_ (MB.ask (s := sp_do s 0 0) (MB.do hm hv hlt (sp_st (s_D s) (s_fi s) (s_w s), s_fi s) rp_ap0 (nI_add _ _)))
      have e := xs_do (s := s) (nd := nd) (q := 0) (b := 0)
      have e2 : (s_w (sp_do s 0 0)).1 = (sp_st (s_D s) (s_fi s) (s_w s)).1 := by show (rp (s_D (sp_do s 0 0)) (s_ds (sp_do s 0 0))).1.1 = _; rw [s_w_do]; rfl
      rw [e2]
      show (_, _, nI ((s_ds s).length + 1), _, _, _, _) = (_, _, nI (s_ds s ++ [(0, 0)]).length, _, _, _, _)
      rw [List.length_append]
      rfl
    · refine ax_bipush (pc := 19) (v := -2) dX5_step_19 (by decide) ?_
      refine ax_iret (pc := 21) dX5_step_21 rfl ?_
      exact fin_m (by unfold sp_step; rw [if_neg hd0, if_pos ((nI_eq (by omega) (by decide)).mp c16)]) hm.mp
  · refine ax_bipush (pc := 7) (v := -4) dX5_step_7 (by decide) ?_
    refine ax_iret (pc := 9) dX5_step_9 rfl ?_
    exact fin_m (by unfold sp_step; exact if_pos ((nI_eq (by have := hv.2.2.1.1; omega) (show 0 < 2 ^ 31 by decide)).mp c4a)) hm.mp
set_option maxHeartbeats 4000000 in
set_option maxRecDepth 100000 in
theorem c_X5_hatch (dom : List Nat) (h : mh_H) (s : sg) (nd : Int32) (sl : Nat → Int32) (tu : Int32) (t : Int32) (hm : MB s h sl) (hv : IV s) : Mt mX5_hatch dom 2 [.ref 0, .int t] (hM h (xs s nd) sl tu) (mx_Ri (fun v' h' => v' = (sp_hatch s t).1 ∧ MP (sp_hatch s t).2 h')) := by
  refine Mt.of (L := [some (.ref 0), some (.int t), none]) rfl (Nat.le_of_ble_eq_true rfl) rfl ?_
  obtain ⟨⟨m1, f2, m2, mf⟩, ⟨m3, f4, m4, mg⟩, ⟨so, fl, dr, md⟩, mn, msl, mk, mc, ⟨wo, mw⟩⟩ := id hm
  have hn := hm.now
  have h40 := hv.2.2.2.1.1
  obtain ⟨d5, d6, d7, dR⟩ := id md
  refine ax_iload_n (pc := 0) dX5_hatch_0 rfl ?_
  refine ax_i2l (pc := 1) dX5_hatch_1 ?_
  refine ax_lconst (pc := 2) (v := 0) dX5_hatch_2 (by decide) ?_
  refine ax_ldc2 (pc := 3) dX5_hatch_3 tw_823 ?_
  refine ax_eSi3 (pc := 6) sX5_63 dX5_hatch_6 (by decide) (Nat.le_of_ble_eq_true rfl) (c_X5_in _ _ t 0 4 _ _ (by decide) (by decide)) ?_
  refine ax_ifneB (pc := 9) (tgt := 14) dX5_hatch_9 (by decide) (fun c9a => ?_) (fun c9a => ?_)
  · refine ax_aload_n (pc := 14) dX5_hatch_14 rfl ?_
    refine ax_getf (pc := 15) fX5_97 dX5_hatch_15 (by exact hM_0) rfl ?_
    refine ax_ifeq (pc := 18) (tgt := 36) dX5_hatch_18 (by decide) (fun c18 => ?_) (fun c18 => ?_)
    · refine ax_bipush (pc := 36) (v := -4) dX5_hatch_36 (by decide) ?_
      refine ax_iret (pc := 38) dX5_hatch_38 rfl ?_
      exact fin_m (by unfold sp_hatch; rw [if_neg (not_not_intro c9a)]; first | exact if_pos (Or.inl ((nI_eq (by have := hv.2.2.1.1; omega) (show 0 < 2 ^ 31 by decide)).mp c18)) | exact if_pos (Or.inr c33)) hm.mp
    · have hd0 : ¬ (s_D s).1 = 0 := fun q => c18 (by show nI (s_D s).1 = 0; rw [q]; rfl)
      obtain ⟨hD0, hW0, hfi⟩ := hv.w hd0
      refine ax_aload_n (pc := 21) dX5_hatch_21 rfl ?_
      refine ax_getf (pc := 22) fX5_41 dX5_hatch_22 (by exact hM_0) rfl ?_
      refine ax_aload_n (pc := 25) dX5_hatch_25 rfl ?_
      refine ax_eVi0 (pc := 26) vX5_123 dX5_hatch_26 (by decide) (by exact hM_0) (Nat.le_of_ble_eq_true rfl) (c_X5_now _ h (xs s nd) sl tu (s_ds s).length rfl) ?_
      refine ax_iconst (pc := 29) (v := nI 1) dX5_hatch_29 (by decide) ?_
      refine bx_iadd dX5_hatch_30  ?_
      refine bx_slld dX5_hatch_31 (by omega) hn.2.1 ?_
      refine ax_iload_n (pc := 32) dX5_hatch_32 rfl ?_
      refine ax_icmpne (pc := 33) (tgt := 39) dX5_hatch_33 (by decide) (fun c33 => ?_) (fun c33 => ?_)
      · refine ax_aload_n (pc := 39) dX5_hatch_39 rfl ?_
        refine ax_getf (pc := 40) fX5_100 dX5_hatch_40 (by exact hM_0) rfl ?_
        refine ax_bipush (pc := 43) (v := nI 40) dX5_hatch_43 (by decide) ?_
        refine ax_icmpne (pc := 45) (tgt := 51) dX5_hatch_45 (by decide) (fun c45 => ?_) (fun c45 => ?_)
        · have hl : ¬ (s_ds s).length = 40 := fun q => c45 (by show nI (s_ds s).length = nI 40; rw [q])
          have hlt : (s_ds s).length < 40 := by omega
          obtain ⟨t2, ht, rfl⟩ := nI_of2 (n := 4) (M := 4) rfl (Int32.not_lt.mpr c9a.1) c9a.2
          refine ax_aload_n (pc := 51) dX5_hatch_51 rfl ?_
          refine ax_getf (pc := 52) fX5_41 dX5_hatch_52 (by exact hM_0) rfl ?_
          refine ax_aload_n (pc := 55) dX5_hatch_55 rfl ?_
          refine ax_eVi0 (pc := 56) vX5_123 dX5_hatch_56 (by decide) (by exact hM_0) (Nat.le_of_ble_eq_true rfl) (c_X5_now _ h (xs s nd) sl tu (s_ds s).length rfl) ?_
          refine ax_iconst (pc := 59) (v := nI 1) dX5_hatch_59 (by decide) ?_
          refine bx_iadd dX5_hatch_60  ?_
          refine bx_slld dX5_hatch_61 (by omega) hn.2.1 ?_
          refine ax_istore2 (pc := 62) dX5_hatch_62 rfl (by decide) ?_
          refine ax_aload_n (pc := 63) dX5_hatch_63 rfl ?_
          refine ax_getf (pc := 64) fX5_41 dX5_hatch_64 (by exact hM_0) rfl ?_
          refine ax_aload_n (pc := 67) dX5_hatch_67 rfl ?_
          refine ax_eVi0 (pc := 68) vX5_153 dX5_hatch_68 (by decide) (by exact hM_0) (Nat.le_of_ble_eq_true rfl) (c_X5_deed _ h (xs s nd) sl tu (s_ds s).length (rp (s_D s) (s_ds s)) rfl hn (by omega)) ?_
          refine ax_iconst (pc := 71) (v := nI 1) dX5_hatch_71 (by decide) ?_
          refine bx_iadd dX5_hatch_72  ?_
          refine ax_iload_n (pc := 73) dX5_hatch_73 rfl ?_
          refine bx_slst dX5_hatch_74 (by omega) s6_u1 ?_
          refine ax_iload_n (pc := 75) dX5_hatch_75 rfl ?_
          refine ax_iret (pc := 76) dX5_hatch_76 rfl ?_
          refine fin_m (s' := sp_do s 2 t2) (by unfold sp_hatch; rw [if_neg (not_not_intro c9a), if_neg (by rintro (z | z); exact hd0 z; exact c33 z), if_neg hl, ni_cl (by omega)]; rfl) ?_
          exact MB.mpe (nd := nd) xs_do (MB.do hm hv hlt (((s_w s).1, t2, (s_w s).2.2.1, (s_w s).2.2.2.1, (s_w s).2.2.2.2), s_fi s) rp_ap2 rfl)
        · refine ax_bipush (pc := 48) (v := -2) dX5_hatch_48 (by decide) ?_
          refine ax_iret (pc := 50) dX5_hatch_50 rfl ?_
          exact fin_m (by unfold sp_hatch; rw [if_neg (not_not_intro c9a), if_neg (by rintro (z | z); exact hd0 z; exact c33 z), if_pos ((nI_eq (by omega) (by decide)).mp c45)]) hm.mp
      · refine ax_bipush (pc := 36) (v := -4) dX5_hatch_36 (by decide) ?_
        refine ax_iret (pc := 38) dX5_hatch_38 rfl ?_
        exact fin_m (by unfold sp_hatch; rw [if_neg (not_not_intro c9a)]; first | exact if_pos (Or.inl ((nI_eq (by have := hv.2.2.1.1; omega) (show 0 < 2 ^ 31 by decide)).mp c18)) | exact if_pos (Or.inr c33)) hm.mp
  · refine ax_iconst (pc := 12) (v := -1) dX5_hatch_12 (by decide) ?_
    refine ax_iret (pc := 13) dX5_hatch_13 rfl ?_
    exact fin_m (by unfold sp_hatch; exact if_pos c9a) hm.mp
set_option maxHeartbeats 4000000 in
set_option maxRecDepth 100000 in
theorem c_X5_rake (dom : List Nat) (h : mh_H) (s : sg) (nd : Int32) (sl : Nat → Int32) (tu : Int32) (hm : MB s h sl) (hv : IV s) : Mt mX5_rake dom 2 [.ref 0] (hM h (xs s nd) sl tu) (mx_Ri (fun v' h' => v' = (sp_rake s).1 ∧ MP (sp_rake s).2 h')) := by
  refine Mt.of (L := [some (.ref 0), none]) rfl (Nat.le_of_ble_eq_true rfl) rfl ?_
  obtain ⟨⟨m1, f2, m2, mf⟩, ⟨m3, f4, m4, mg⟩, ⟨so, fl, dr, md⟩, mn, msl, mk, mc, ⟨wo, mw⟩⟩ := id hm
  have hn := hm.now
  have h40 := hv.2.2.2.1.1
  obtain ⟨d5, d6, d7, dR⟩ := id md
  refine ax_aload_n (pc := 0) dX5_rake_0 rfl ?_
  refine ax_getf (pc := 1) fX5_97 dX5_rake_1 (by exact hM_0) rfl ?_
  refine ax_ifeq (pc := 4) (tgt := 21) dX5_rake_4 (by decide) (fun c4a => ?_) (fun c4a => ?_)
  · refine ax_bipush (pc := 21) (v := -4) dX5_rake_21 (by decide) ?_
    refine ax_iret (pc := 23) dX5_rake_23 rfl ?_
    exact fin_m (by unfold sp_rake; first | exact if_pos (Or.inl ((nI_eq (by have := hv.2.2.1.1; omega) (show 0 < 2 ^ 31 by decide)).mp c4a)) | exact if_pos (Or.inr c18)) hm.mp
  · have hd0 : ¬ (s_D s).1 = 0 := fun q => c4a (by show nI (s_D s).1 = 0; rw [q]; rfl)
    obtain ⟨hD0, hW0, hfi⟩ := hv.w hd0
    refine ax_aload_n (pc := 7) dX5_rake_7 rfl ?_
    refine ax_getf (pc := 8) fX5_41 dX5_rake_8 (by exact hM_0) rfl ?_
    refine ax_aload_n (pc := 11) dX5_rake_11 rfl ?_
    refine ax_eVi0 (pc := 12) vX5_123 dX5_rake_12 (by decide) (by exact hM_0) (Nat.le_of_ble_eq_true rfl) (c_X5_now _ h (xs s nd) sl tu (s_ds s).length rfl) ?_
    refine ax_iconst (pc := 15) (v := nI 2) dX5_rake_15 (by decide) ?_
    refine bx_iadd dX5_rake_16  ?_
    refine bx_slld dX5_rake_17 (by omega) hn.2.2.1 ?_
    refine ax_ifne (pc := 18) (tgt := 24) dX5_rake_18 (by decide) (fun c18 => ?_) (fun c18 => ?_)
    · refine ax_aload_n (pc := 24) dX5_rake_24 rfl ?_
      refine ax_getf (pc := 25) fX5_100 dX5_rake_25 (by exact hM_0) rfl ?_
      refine ax_bipush (pc := 28) (v := nI 40) dX5_rake_28 (by decide) ?_
      refine ax_icmpne (pc := 30) (tgt := 36) dX5_rake_30 (by decide) (fun c30 => ?_) (fun c30 => ?_)
      · have hl : ¬ (s_ds s).length = 40 := fun q => c30 (by show nI (s_ds s).length = nI 40; rw [q])
        have hlt : (s_ds s).length < 40 := by omega
        refine ax_aload_n (pc := 36) dX5_rake_36 rfl ?_
        refine ax_getf (pc := 37) fX5_41 dX5_rake_37 (by exact hM_0) rfl ?_
        refine ax_aload_n (pc := 40) dX5_rake_40 rfl ?_
        refine ax_eVi0 (pc := 41) vX5_123 dX5_rake_41 (by decide) (by exact hM_0) (Nat.le_of_ble_eq_true rfl) (c_X5_now _ h (xs s nd) sl tu (s_ds s).length rfl) ?_
        refine ax_iconst (pc := 44) (v := nI 2) dX5_rake_44 (by decide) ?_
        refine bx_iadd dX5_rake_45  ?_
        refine bx_slld dX5_rake_46 (by omega) hn.2.2.1 ?_
        refine ax_istore1 (pc := 47) dX5_rake_47 rfl (by decide) ?_
        refine ax_aload_n (pc := 48) dX5_rake_48 rfl ?_
        refine ax_getf (pc := 49) fX5_41 dX5_rake_49 (by exact hM_0) rfl ?_
        refine ax_aload_n (pc := 52) dX5_rake_52 rfl ?_
        refine ax_eVi0 (pc := 53) vX5_153 dX5_rake_53 (by decide) (by exact hM_0) (Nat.le_of_ble_eq_true rfl) (c_X5_deed _ h (xs s nd) sl tu (s_ds s).length (rp (s_D s) (s_ds s)) rfl hn (by omega)) ?_
        refine ax_iconst (pc := 56) (v := nI 2) dX5_rake_56 (by decide) ?_
        refine bx_iadd dX5_rake_57  ?_
        refine ax_iconst (pc := 58) (v := nI 0) dX5_rake_58 (by decide) ?_
        refine bx_slst dX5_rake_59 (by omega) s6_u2 ?_
        refine ax_iload_n (pc := 60) dX5_rake_60 rfl ?_
        refine ax_iret (pc := 61) dX5_rake_61 rfl ?_
        refine fin_m (s' := sp_do s 1 0) (by unfold sp_rake; rw [if_neg (by rintro (z | z); exact hd0 z; exact c18 z), if_neg hl]; rfl) ?_
        exact MB.mpe (nd := nd) xs_do (MB.do hm hv hlt (((s_w s).1, (s_w s).2.1, 0, (s_w s).2.2.2.1, (s_w s).2.2.2.2), s_fi s) rp_ap1 rfl)
      · refine ax_bipush (pc := 33) (v := -2) dX5_rake_33 (by decide) ?_
        refine ax_iret (pc := 35) dX5_rake_35 rfl ?_
        exact fin_m (by unfold sp_rake; rw [if_neg (by rintro (z | z); exact hd0 z; exact c18 z), if_pos ((nI_eq (by omega) (by decide)).mp c30)]) hm.mp
    · refine ax_bipush (pc := 21) (v := -4) dX5_rake_21 (by decide) ?_
      refine ax_iret (pc := 23) dX5_rake_23 rfl ?_
      exact fin_m (by unfold sp_rake; first | exact if_pos (Or.inl ((nI_eq (by have := hv.2.2.1.1; omega) (show 0 < 2 ^ 31 by decide)).mp c4a)) | exact if_pos (Or.inr c18)) hm.mp
set_option maxHeartbeats 4000000 in
set_option maxRecDepth 100000 in
theorem c_X5_fish (dom : List Nat) (h : mh_H) (s : sg) (nd : Int32) (sl : Nat → Int32) (tu : Int32) (k : Int32) (hm : MB s h sl) (hv : IV s) : Mt mX5_fish dom 2 [.ref 0, .int k] (hM h (xs s nd) sl tu) (mx_Ri (fun v' h' => v' = (sp_fish s k).1 ∧ MP (sp_fish s k).2 h')) := by
  refine Mt.of (L := [some (.ref 0), some (.int k)]) rfl (Nat.le_of_ble_eq_true rfl) rfl ?_
  obtain ⟨⟨m1, f2, m2, mf⟩, ⟨m3, f4, m4, mg⟩, ⟨so, fl, dr, md⟩, mn, msl, mk, mc, ⟨wo, mw⟩⟩ := id hm
  have hn := hm.now
  have h40 := hv.2.2.2.1.1
  obtain ⟨d5, d6, d7, dR⟩ := id md
  refine ax_aload_n (pc := 0) dX5_fish_0 rfl ?_
  refine ax_iload_n (pc := 1) dX5_fish_1 rfl ?_
  refine ax_eVi1 (pc := 2) vX5_133 dX5_fish_2 (by decide) (by exact hM_0) (Nat.le_of_ble_eq_true rfl) (c_X5_isDay _ h (xs s nd) sl tu (s_D s).1 k rfl) ?_
  refine ax_ifneB (pc := 5) (tgt := 10) dX5_fish_5 (by decide) (fun c5a => ?_) (fun c5a => ?_)
  · obtain ⟨k2, hk, rfl, hk9, hD0, hW0, hfi⟩ := hv.d c5a
    refine ax_aload_n (pc := 10) dX5_fish_10 rfl ?_
    refine ax_getf (pc := 11) fX5_41 dX5_fish_11 (by exact hM_0) rfl ?_
    refine ax_aload_n (pc := 14) dX5_fish_14 rfl ?_
    refine ax_eVi0 (pc := 15) vX5_123 dX5_fish_15 (by decide) (by exact hM_0) (Nat.le_of_ble_eq_true rfl) (c_X5_now _ h (xs s nd) sl tu (s_ds s).length rfl) ?_
    refine ax_iconst (pc := 18) (v := nI 5) dX5_fish_18 (by decide) ?_
    refine bx_iadd dX5_fish_19  ?_
    refine bx_slld dX5_fish_20 (by omega) hn.2.2.2.2.2 ?_
    refine ax_iload_n (pc := 21) dX5_fish_21 rfl ?_
    refine ax_eSi2 (pc := 22) sX5_109 dX5_fish_22 (by decide) (Nat.le_of_ble_eq_true rfl) (c_X5_has _ _ (s_fi s) k2 (by omega) (by omega)) ?_
    refine ax_ifeqB (pc := 25) (tgt := 31) dX5_fish_25 (by decide) (fun c25 => ?_) (fun c25 => ?_)
    · refine ax_aload_n (pc := 31) dX5_fish_31 rfl ?_
      refine ax_getf (pc := 32) fX5_100 dX5_fish_32 (by exact hM_0) rfl ?_
      refine ax_bipush (pc := 35) (v := nI 40) dX5_fish_35 (by decide) ?_
      refine ax_icmpne (pc := 37) (tgt := 43) dX5_fish_37 (by decide) (fun c37 => ?_) (fun c37 => ?_)
      · have hl : ¬ (s_ds s).length = 40 := fun q => c37 (by show nI (s_ds s).length = nI 40; rw [q])
        have hlt : (s_ds s).length < 40 := by omega
        refine ax_aload_n (pc := 43) dX5_fish_43 rfl ?_
        refine ax_getf (pc := 44) fX5_41 dX5_fish_44 (by exact hM_0) rfl ?_
        refine ax_aload_n (pc := 47) dX5_fish_47 rfl ?_
        refine ax_eVi0 (pc := 48) vX5_153 dX5_fish_48 (by decide) (by exact hM_0) (Nat.le_of_ble_eq_true rfl) (c_X5_deed _ h (xs s nd) sl tu (s_ds s).length (rp (s_D s) (s_ds s)) rfl hn (by omega)) ?_
        refine ax_iconst (pc := 51) (v := nI 5) dX5_fish_51 (by decide) ?_
        refine bx_iadd dX5_fish_52  ?_
        refine ax_dup2 (pc := 53) dX5_fish_53 rfl rfl ?_
        refine bx_slld dX5_fish_54 (by omega) s6_5 ?_
        refine ax_iconst (pc := 55) (v := 1) dX5_fish_55 (by decide) ?_
        refine ax_iload_n (pc := 56) dX5_fish_56 rfl ?_
        refine ax_ishl (pc := 57) dX5_fish_57 ?_
        refine ax_ior (pc := 58) dX5_fish_58 ?_
        refine At.ti (show nI (s_fi s) ||| (1 <<< (nI k2 &&& 31)) = nI (s_fi s ||| 2 ^ k2) by rw [ni_shl1 (by omega), ni_or]) ?_
        refine bx_slst dX5_fish_59 (by omega) s6_u5 ?_
        refine ax_aload_n (pc := 60) dX5_fish_60 rfl ?_
        refine ax_getf (pc := 61) fX5_29 dX5_fish_61 (by exact hM_0) rfl ?_
        refine ax_iload_n (pc := 64) dX5_fish_64 rfl ?_
        refine bx_iaload dX5_fish_65 ((hM_n (by decide)).trans d7) (by omega) (by decide) (dR k2 hk).2.2 ?_
        refine ax_iret (pc := 66) dX5_fish_66 rfl ?_
        refine fin_m (s' := sp_do s 3 k2) (by unfold sp_fish; rw [if_neg (not_not_intro c5a), ni_cl (by omega), if_neg c25, if_neg hl]; show (nI (sp_dr (s_D s) (s_fi s) k2), _) = _; rw [show sp_dr (s_D s) (s_fi s) k2 = (s_D s).2.2.2 k2 from if_neg c25]) ?_
        exact MB.mpe (nd := nd) xs_do (MB.do hm hv hlt (s_w s, s_fi s ||| 2 ^ k2) rp_ap3 rfl)
      · refine ax_bipush (pc := 40) (v := -2) dX5_fish_40 (by decide) ?_
        refine ax_iret (pc := 42) dX5_fish_42 rfl ?_
        exact fin_m (by unfold sp_fish; rw [if_neg (not_not_intro c5a), ni_cl (by omega), if_neg c25, if_pos ((nI_eq (by omega) (by decide)).mp c37)]) hm.mp
    · refine ax_bipush (pc := 28) (v := -4) dX5_fish_28 (by decide) ?_
      refine ax_iret (pc := 30) dX5_fish_30 rfl ?_
      exact fin_m (by unfold sp_fish; rw [if_neg (not_not_intro c5a), ni_cl (by omega), if_pos c25]) hm.mp
  · refine ax_iconst (pc := 8) (v := -1) dX5_fish_8 (by decide) ?_
    refine ax_iret (pc := 9) dX5_fish_9 rfl ?_
    exact fin_m (by unfold sp_fish; exact if_pos c5a) hm.mp
set_option maxHeartbeats 4000000 in
set_option maxRecDepth 100000 in
theorem c_X5_undo (dom : List Nat) (h : mh_H) (s : sg) (nd : Int32) (sl : Nat → Int32) (tu : Int32) (n : Int32) (hm : MB s h sl) (hv : IV s) : Mt mX5_undo dom 1 [.ref 0, .int n] (hM h (xs s nd) sl tu) (mx_Ri (fun v' h' => v' = (sp_undo s n).1 ∧ MP (sp_undo s n).2 h')) := by
  refine Mt.of (L := [some (.ref 0), some (.int n), none]) rfl (Nat.le_of_ble_eq_true rfl) rfl ?_
  obtain ⟨⟨m1, f2, m2, mf⟩, ⟨m3, f4, m4, mg⟩, ⟨so, fl, dr, md⟩, mn, msl, mk, mc, ⟨wo, mw⟩⟩ := id hm
  have hn := hm.now
  have h40 := hv.2.2.2.1.1
  obtain ⟨d5, d6, d7, dR⟩ := id md
  refine ax_iload_n (pc := 0) dX5_undo_0 rfl ?_
  refine ax_i2l (pc := 1) dX5_undo_1 ?_
  refine ax_lconst (pc := 2) (v := 0) dX5_undo_2 (by decide) ?_
  refine ax_aload_n (pc := 3) dX5_undo_3 rfl ?_
  refine ax_getf (pc := 4) fX5_100 dX5_undo_4 (by exact hM_0) rfl ?_
  refine ax_i2l (pc := 7) dX5_undo_7 ?_
  refine ax_eSi3 (pc := 8) sX5_63 dX5_undo_8 (by decide) (Nat.le_of_ble_eq_true rfl) (c_X5_in _ _ n 0 (nI (s_ds s).length) _ _ (by decide) rfl) ?_
  refine ax_ifneB (pc := 11) (tgt := 16) dX5_undo_11 (by decide) (fun c11 => ?_) (fun c11 => ?_)
  · obtain ⟨n2, hn2, rfl⟩ := nI_of (Int32.not_lt.mpr c11.1)
    have hle : n2 ≤ (s_ds s).length := by have := c11.2; rw [nI_leI hn2 (by omega)] at this; exact this
    refine ax_aload_n (pc := 16) dX5_undo_16 rfl ?_
    refine ax_getf (pc := 17) fX5_100 dX5_undo_17 (by exact hM_0) rfl ?_
    refine ax_iload_n (pc := 20) dX5_undo_20 rfl ?_
    refine bx_isub dX5_undo_21 hle ?_
    refine ax_istore2 (pc := 22) dX5_undo_22 rfl (by decide) ?_
    refine ax_aload_n (pc := 23) dX5_undo_23 rfl ?_
    refine ax_iload_n (pc := 24) dX5_undo_24 rfl ?_
    refine bx_pdeeds gX5_100 dX5_undo_25 ?_
    refine ax_iload_n (pc := 28) dX5_undo_28 rfl ?_
    refine ax_iret (pc := 29) dX5_undo_29 rfl ?_
    refine fin_m (by unfold sp_undo; rw [if_neg (not_not_intro c11), ni_cl hn2]) ?_
    refine MB.mpe (nd := nd) ?_ hm.undo
    show (_, _, nI n2, _, _, _, _) = (_, _, nI ((s_ds s).take n2).length, _, _, _, _)
    rw [List.length_take, Nat.min_eq_left hle]
    rfl
  · refine ax_iconst (pc := 14) (v := -1) dX5_undo_14 (by decide) ?_
    refine ax_iret (pc := 15) dX5_undo_15 rfl ?_
    exact fin_m (by unfold sp_undo; exact if_pos c11) hm.mp
set_option maxHeartbeats 4000000 in
set_option maxRecDepth 100000 in
theorem l_X5_keep (dom : List Nat) (h : mh_H) (x : mxT) (sl : Nat → Int32) (tu : Int32) (k : Nat) (hk : k < 3) (Q : Option Value → mh_H → Prop) (KK : At mX5_keep dom 1 59 [some (.ref 0), some (.int (nI k)), some (.int (nI 246))] [] (hM h x (cpS sl 0 (246 * (k + 1)) 246) tu) Q) : ∀ (nn j : Nat), j + nn = 246 → At mX5_keep dom 1 26 [some (.ref 0), some (.int (nI k)), some (.int (nI j))] [] (hM h x (cpS sl 0 (246 * (k + 1)) j) tu) Q := by
  intro nn
  induction nn with
  | zero =>
    intro j hj
    have hj : j = 246 := by omega
    subst hj
    refine ax_iload_n (pc := 26) dX5_keep_26 rfl ?_
    refine ax_sipush (pc := 27) (v := nI 246) dX5_keep_27 (by decide) ?_
    refine ax_icmpge (pc := 30) (tgt := 59) dX5_keep_30 (by decide) (fun _ => ?_) (fun q => absurd (by decide) q)
    exact KK
  | succ nn ih =>
    intro j hj
    have hlt : j < 246 := by omega
    refine ax_iload_n (pc := 26) dX5_keep_26 rfl ?_
    refine ax_sipush (pc := 27) (v := nI 246) dX5_keep_27 (by decide) ?_
    refine ax_icmpge (pc := 30) (tgt := 59) dX5_keep_30 (by decide) (fun q => absurd q (by rw [nI_leI (by decide) (by omega)]; omega)) (fun _ => ?_)
    refine ax_aload_n (pc := 33) dX5_keep_33 rfl ?_
    refine ax_getf (pc := 34) fX5_41 dX5_keep_34 (by exact hM_0) rfl ?_
    refine ax_sipush (pc := 37) (v := nI 246) dX5_keep_37 (by decide) ?_
    refine ax_iload_n (pc := 40) dX5_keep_40 rfl ?_
    refine ax_iconst (pc := 41) (v := nI 1) dX5_keep_41 (by decide) ?_
    refine bx_iadd dX5_keep_42  ?_
    refine bx_imul dX5_keep_43  ?_
    refine ax_iload_n (pc := 44) dX5_keep_44 rfl ?_
    refine bx_iadd dX5_keep_45  ?_
    refine ax_aload_n (pc := 46) dX5_keep_46 rfl ?_
    refine ax_getf (pc := 47) fX5_41 dX5_keep_47 (by exact hM_0) rfl ?_
    refine ax_iload_n (pc := 50) dX5_keep_50 rfl ?_
    refine bx_slld dX5_keep_51 (by omega) (show cpS sl 0 (246 * (k + 1)) j j = sl (0 + j) by rw [Nat.zero_add]; exact if_neg (by omega)) ?_
    refine bx_slst dX5_keep_52 (by omega) cpS_s ?_
    refine ax_inc2p1 (pc := 53) dX5_keep_53 rfl (by decide) ?_
    refine ax_goto (pc := 56) (tgt := 26) dX5_keep_56 (by decide) ?_
    rw [nI_1]
    exact ih (j + 1) (by omega)
set_option maxHeartbeats 4000000 in
set_option maxRecDepth 100000 in
theorem c_X5_keep (dom : List Nat) (h : mh_H) (s : sg) (nd : Int32) (sl : Nat → Int32) (tu : Int32) (k : Int32) (hm : MB s h sl) (hv : IV s) : Mt mX5_keep dom 1 [.ref 0, .int k] (hM h (xs s nd) sl tu) (mx_Ri (fun v' h' => v' = (sp_keep s k).1 ∧ MP (sp_keep s k).2 h')) := by
  refine Mt.of (L := [some (.ref 0), some (.int k), none]) rfl (Nat.le_of_ble_eq_true rfl) rfl ?_
  obtain ⟨⟨m1, f2, m2, mf⟩, ⟨m3, f4, m4, mg⟩, ⟨so, fl, dr, md⟩, mn, msl, mk, mc, ⟨wo, mw⟩⟩ := id hm
  have hn := hm.now
  have h40 := hv.2.2.2.1.1
  obtain ⟨d5, d6, d7, dR⟩ := id md
  refine ax_iload_n (pc := 0) dX5_keep_0 rfl ?_
  refine ax_i2l (pc := 1) dX5_keep_1 ?_
  refine ax_lconst (pc := 2) (v := 0) dX5_keep_2 (by decide) ?_
  refine ax_ldc2 (pc := 3) dX5_keep_3 tw_861 ?_
  refine ax_eSi3 (pc := 6) sX5_63 dX5_keep_6 (by decide) (Nat.le_of_ble_eq_true rfl) (c_X5_in _ _ k 0 2 _ _ (by decide) (by decide)) ?_
  refine ax_ifneB (pc := 9) (tgt := 14) dX5_keep_9 (by decide) (fun c9a => ?_) (fun c9a => ?_)
  · refine ax_aload_n (pc := 14) dX5_keep_14 rfl ?_
    refine ax_getf (pc := 15) fX5_97 dX5_keep_15 (by exact hM_0) rfl ?_
    refine ax_ifne (pc := 18) (tgt := 24) dX5_keep_18 (by decide) (fun c18 => ?_) (fun c18 => ?_)
    · have hd0 : ¬ (s_D s).1 = 0 := fun q => c18 (by show nI (s_D s).1 = 0; rw [q]; rfl)
      obtain ⟨hD0, hW0, hfi⟩ := hv.w hd0
      obtain ⟨k2, hk2, rfl⟩ := ix_2 c9a
      refine ax_iconst (pc := 24) (v := nI 0) dX5_keep_24 (by decide) ?_
      refine ax_istore2 (pc := 25) dX5_keep_25 rfl (by decide) ?_
      refine At.hp (show hM h (xs s nd) sl tu = hM h (xs s nd) (cpS sl 0 (246 * (k2 + 1)) 0) tu by rw [cpS_0]) ?_
      refine l_X5_keep dom h (xs s nd) sl tu k2 hk2 _ ?_ 246 0 (by omega)
      refine ax_aload_n (pc := 59) dX5_keep_59 rfl ?_
      refine ax_getf (pc := 60) fX5_44 dX5_keep_60 (by exact hM_0) rfl ?_
      refine ax_iload_n (pc := 63) dX5_keep_63 rfl ?_
      refine ax_aload_n (pc := 64) dX5_keep_64 rfl ?_
      refine ax_getf (pc := 65) fX5_100 dX5_keep_65 (by exact hM_0) rfl ?_
      refine bx_iastore dX5_keep_68 mk (by decide) hk2 (by decide) kz_fn ?_
      refine ax_aload_n (pc := 69) dX5_keep_69 rfl ?_
      refine ax_getf (pc := 70) fX5_100 dX5_keep_70 (by exact hM_0) rfl ?_
      refine ax_iret (pc := 73) dX5_keep_73 rfl ?_
      refine fin_m (by unfold sp_keep; rw [if_neg (not_not_intro c9a), if_neg hd0, ni_cl (by omega)]) ?_
      exact MB.mp (s := u_leat s _ _ _) (MB.keep hm hv hk2)
    · refine ax_bipush (pc := 21) (v := -4) dX5_keep_21 (by decide) ?_
      refine ax_iret (pc := 23) dX5_keep_23 rfl ?_
      exact fin_m (by unfold sp_keep; rw [if_neg (not_not_intro c9a), if_pos ((nI_eq (by have := hv.2.2.1.1; omega) (show 0 < 2 ^ 31 by decide)).mp c18)]) hm.mp
  · refine ax_iconst (pc := 12) (v := -1) dX5_keep_12 (by decide) ?_
    refine ax_iret (pc := 13) dX5_keep_13 rfl ?_
    exact fin_m (by unfold sp_keep; exact if_pos c9a) hm.mp
set_option maxHeartbeats 4000000 in
set_option maxRecDepth 100000 in
theorem l_X5_on (dom : List Nat) (h : mh_H) (x : mxT) (sl : Nat → Int32) (tu : Int32) (k : Nat) (hk : k < 3) (Q : Option Value → mh_H → Prop) (KK : At mX5_on dom 1 64 [some (.ref 0), some (.int (nI k)), some (.int (nI 246))] [] (hM h x (cpS sl (246 * (k + 1)) 0 246) tu) Q) : ∀ (nn j : Nat), j + nn = 246 → At mX5_on dom 1 31 [some (.ref 0), some (.int (nI k)), some (.int (nI j))] [] (hM h x (cpS sl (246 * (k + 1)) 0 j) tu) Q := by
  intro nn
  induction nn with
  | zero =>
    intro j hj
    have hj : j = 246 := by omega
    subst hj
    refine ax_iload_n (pc := 31) dX5_on_31 rfl ?_
    refine ax_sipush (pc := 32) (v := nI 246) dX5_on_32 (by decide) ?_
    refine ax_icmpge (pc := 35) (tgt := 64) dX5_on_35 (by decide) (fun _ => ?_) (fun q => absurd (by decide) q)
    exact KK
  | succ nn ih =>
    intro j hj
    have hlt : j < 246 := by omega
    refine ax_iload_n (pc := 31) dX5_on_31 rfl ?_
    refine ax_sipush (pc := 32) (v := nI 246) dX5_on_32 (by decide) ?_
    refine ax_icmpge (pc := 35) (tgt := 64) dX5_on_35 (by decide) (fun q => absurd q (by rw [nI_leI (by decide) (by omega)]; omega)) (fun _ => ?_)
    refine ax_aload_n (pc := 38) dX5_on_38 rfl ?_
    refine ax_getf (pc := 39) fX5_41 dX5_on_39 (by exact hM_0) rfl ?_
    refine ax_iload_n (pc := 42) dX5_on_42 rfl ?_
    refine ax_aload_n (pc := 43) dX5_on_43 rfl ?_
    refine ax_getf (pc := 44) fX5_41 dX5_on_44 (by exact hM_0) rfl ?_
    refine ax_sipush (pc := 47) (v := nI 246) dX5_on_47 (by decide) ?_
    refine ax_iload_n (pc := 50) dX5_on_50 rfl ?_
    refine ax_iconst (pc := 51) (v := nI 1) dX5_on_51 (by decide) ?_
    refine bx_iadd dX5_on_52  ?_
    refine bx_imul dX5_on_53  ?_
    refine ax_iload_n (pc := 54) dX5_on_54 rfl ?_
    refine bx_iadd dX5_on_55  ?_
    refine bx_slld dX5_on_56 (by omega) (if_neg (by omega)) ?_
    refine bx_slst dX5_on_57 (by omega) cpS_s0 ?_
    refine ax_inc2p1 (pc := 58) dX5_on_58 rfl (by decide) ?_
    refine ax_goto (pc := 61) (tgt := 31) dX5_on_61 (by decide) ?_
    rw [nI_1]
    exact ih (j + 1) (by omega)
set_option maxHeartbeats 4000000 in
set_option maxRecDepth 100000 in
theorem c_X5_on (dom : List Nat) (h : mh_H) (s : sg) (nd : Int32) (sl : Nat → Int32) (tu : Int32) (k : Int32) (hm : MB s h sl) (hv : IV s) : Mt mX5_on dom 1 [.ref 0, .int k] (hM h (xs s nd) sl tu) (mx_Ri (fun v' h' => v' = (sp_on s k).1 ∧ MP (sp_on s k).2 h')) := by
  refine Mt.of (L := [some (.ref 0), some (.int k), none]) rfl (Nat.le_of_ble_eq_true rfl) rfl ?_
  obtain ⟨⟨m1, f2, m2, mf⟩, ⟨m3, f4, m4, mg⟩, ⟨so, fl, dr, md⟩, mn, msl, mk, mc, ⟨wo, mw⟩⟩ := id hm
  have hn := hm.now
  have h40 := hv.2.2.2.1.1
  obtain ⟨d5, d6, d7, dR⟩ := id md
  refine ax_iload_n (pc := 0) dX5_on_0 rfl ?_
  refine ax_i2l (pc := 1) dX5_on_1 ?_
  refine ax_lconst (pc := 2) (v := 0) dX5_on_2 (by decide) ?_
  refine ax_ldc2 (pc := 3) dX5_on_3 tw_861 ?_
  refine ax_eSi3 (pc := 6) sX5_63 dX5_on_6 (by decide) (Nat.le_of_ble_eq_true rfl) (c_X5_in _ _ k 0 2 _ _ (by decide) (by decide)) ?_
  refine ax_ifneB (pc := 9) (tgt := 14) dX5_on_9 (by decide) (fun c9a => ?_) (fun c9a => ?_)
  · obtain ⟨k2, hk2, rfl⟩ := ix_2 c9a
    cases eo : s_kp s k2 with
    | none =>
      rw [sp_on_n (by omega) c9a eo]
      have ek : kz (s_kp s k2) = -1 := by rw [eo]; rfl
      refine ax_aload_n (pc := 14) dX5_on_14 rfl ?_
      refine ax_getf (pc := 15) fX5_44 dX5_on_15 (by exact hM_0) rfl ?_
      refine ax_iload_n (pc := 18) dX5_on_18 rfl ?_
      refine bx_iaload dX5_on_19 ((hM_n (by decide)).trans mk) hk2 (by decide) ek ?_
      refine ax_ifge (pc := 20) (tgt := 29) dX5_on_20 (by decide) (fun q => absurd q (by decide)) (fun _ => ?_)
      refine ax_aload_n (pc := 23) dX5_on_23 rfl ?_
      refine ax_iconst (pc := 24) (v := nI 1) dX5_on_24 (by decide) ?_
      refine ax_cVi1 (pc := 25) vX5_67 dX5_on_25 (by decide) (by exact hM_0) (Nat.le_of_ble_eq_true rfl) (c_X5_finds _ h s nd sl tu 1 (by decide) hm) (fun v1 h1 hq => ?_)
      obtain ⟨rfl, hq⟩ := hq
      refine ax_iret (pc := 28) dX5_on_28 rfl ?_
      exact ⟨_, rfl, rfl, hq⟩
    | some e =>
      rw [sp_on_s (by omega) c9a eo]
      have ek : kz (s_kp s k2) = nI e.length := by rw [eo]; rfl
      have he40 := (hv.2.2.2.2 k2 hk2 e eo).1
      refine ax_aload_n (pc := 14) dX5_on_14 rfl ?_
      refine ax_getf (pc := 15) fX5_44 dX5_on_15 (by exact hM_0) rfl ?_
      refine ax_iload_n (pc := 18) dX5_on_18 rfl ?_
      refine bx_iaload dX5_on_19 ((hM_n (by decide)).trans mk) hk2 (by decide) ek ?_
      refine ax_ifge (pc := 20) (tgt := 29) dX5_on_20 (by decide) (fun _ => ?_) (fun q => absurd (nI_pos' (by omega)) q)
      refine ax_iconst (pc := 29) (v := nI 0) dX5_on_29 (by decide) ?_
      refine ax_istore2 (pc := 30) dX5_on_30 rfl (by decide) ?_
      refine At.hp (show hM h (xs s nd) sl tu = hM h (xs s nd) (cpS sl (246 * (k2 + 1)) 0 0) tu by rw [cpS_0]) ?_
      refine l_X5_on dom h (xs s nd) sl tu k2 hk2 _ ?_ 246 0 (by omega)
      refine ax_aload_n (pc := 64) dX5_on_64 rfl ?_
      refine ax_aload_n (pc := 65) dX5_on_65 rfl ?_
      refine ax_getf (pc := 66) fX5_44 dX5_on_66 (by exact hM_0) rfl ?_
      refine ax_iload_n (pc := 69) dX5_on_69 rfl ?_
      refine bx_iaload dX5_on_70 ((hM_n (by decide)).trans mk) hk2 (by decide) ek ?_
      refine bx_pdeeds gX5_100 dX5_on_71 ?_
      refine ax_aload_n (pc := 74) dX5_on_74 rfl ?_
      refine ax_getf (pc := 75) fX5_100 dX5_on_75 (by exact hM_0) rfl ?_
      refine ax_iret (pc := 78) dX5_on_78 rfl ?_
      exact ⟨_, rfl, rfl, MB.mp (s := u_leat s (s_D s) e (s_kp s)) (MB.on hm hv hk2 eo)⟩
  · refine ax_iconst (pc := 12) (v := -1) dX5_on_12 (by decide) ?_
    refine ax_iret (pc := 13) dX5_on_13 rfl ?_
    exact fin_m (by unfold sp_on; exact if_pos c9a) hm.mp
