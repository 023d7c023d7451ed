def dlH (h : mh_H) (so fl dr : Nat → Int32) : mh_H := mh_up (mh_up (mh_up h 5 (mh_ia 0 9 so)) 6 (mh_ia 0 9 fl)) 7 (mh_ia 0 9 dr)
section DL
variable {h : mh_H} {ns nf nr g : Nat → Int32}
theorem dlH_n {k : Nat} (hk : k ≠ 5 ∧ k ≠ 6 ∧ k ≠ 7) : dlH h ns nf nr k = h k := (mh_up_n hk.2.2).trans ((mh_up_n hk.2.1).trans (mh_up_n hk.1))
theorem dlH_a5 : dlH h ns nf nr 5 = mh_ia 0 9 ns := (mh_up_n (by decide)).trans ((mh_up_n (by decide)).trans mh_up_s)
theorem dlH_a6 : dlH h ns nf nr 6 = mh_ia 0 9 nf := (mh_up_n (by decide)).trans mh_up_s
theorem dlH_a7 : dlH h ns nf nr 7 = mh_ia 0 9 nr := mh_up_s
theorem dlH_5 : mh_up (dlH h ns nf nr) 5 (mh_ia 0 9 g) = dlH h g nf nr := by
  unfold dlH
  rw [mh_up_cm (k := 7) (j := 5) (by decide), mh_up_cm (k := 6) (j := 5) (by decide), mh_up_uu]
theorem dlH_6 : mh_up (dlH h ns nf nr) 6 (mh_ia 0 9 g) = dlH h ns g nr := by
  unfold dlH
  rw [mh_up_cm (k := 7) (j := 6) (by decide), mh_up_uu]
theorem dlH_7 : mh_up (dlH h ns nf nr) 7 (mh_ia 0 9 g) = dlH h ns nf g := mh_up_uu
theorem dlH_id (h1 : h 5 = mh_ia 0 9 ns) (h2 : h 6 = mh_ia 0 9 nf) (h3 : h 7 = mh_ia 0 9 nr) : dlH h ns nf nr = h := by
  unfold dlH
  rw [mh_up_id h1, mh_up_id h2, mh_up_id h3]
end DL
def cq (g f : Nat → Int32) (n : Nat) : Nat → Int32 := fun i => if i < n then f i else g i
theorem cq_0 {g f : Nat → Int32} : cq g f 0 = g := by
  funext i
  exact if_neg (Nat.not_lt_zero i)
theorem cq_s {g f : Nat → Int32} {n : Nat} : upd (cq g f n) n (f n) = cq g f (n + 1) := by
  funext i
  unfold upd cq
  by_cases h : i = n
  · rw [if_pos h, if_pos (by omega), h]
  · rw [if_neg h]
    by_cases h2 : i < n
    · rw [if_pos h2, if_pos (by omega)]
    · rw [if_neg h2, if_neg (by omega)]
theorem cq_6 {sl : Nat → Int32} : upd (cq sl (fun _ => nI 0) 6) 1 (nI 2) = s6 sl 0 (0, 2, 0, false, 0) 0 (nI 0) := by
  refine s6_e (fun j hj => (pk_un (by omega)).trans (if_neg (by omega))) ?_ ?_ ?_ ?_ ?_ ?_
  · exact (pk_un (by decide)).trans (if_pos (by decide))
  · exact pk_us
  · exact (pk_un (by decide)).trans (if_pos (by decide))
  · exact (pk_un (by decide)).trans (if_pos (by decide))
  · exact (pk_un (by decide)).trans (if_pos (by decide))
  · exact (pk_un (by decide)).trans (if_pos (by decide))
theorem MB.leat {s : sg} {h : mh_H} {sl so fl dr ns nf nr : Nat → Int32} {D : sp_D} (hm : MB s h sl) (h2 : 2 ≤ D.1 ∧ D.1 ≤ 9) (R : dayR D ns nf nr) : MB (u_leat s D [] (fun _ => none)) (mh_up (dlH h (cq so ns 9) (cq fl nf 9) (cq dr nr 9)) 12 (mh_ia 0 3 (fun _ => -1))) (s6 sl 0 (0, 2, 0, false, 0) 0 (nI 0)) := by
  obtain ⟨m1, m2, m3, m4, m5, m6, m7, m8⟩ := hm
  have e : ∀ k, k ≠ 5 ∧ k ≠ 6 ∧ k ≠ 7 ∧ k ≠ 12 → mh_up (dlH h (cq so ns 9) (cq fl nf 9) (cq dr nr 9)) 12 (mh_ia 0 3 (fun _ => -1)) k = h k := fun k hk => (mh_up_n hk.2.2.2).trans (dlH_n ⟨hk.1, hk.2.1, hk.2.2.1⟩)
  refine ⟨mRw_k (fun k hk => e k (by omega)) m1, mTx_k (fun k hk => e k (by omega)) m2, ⟨_, _, _, (mh_up_n (by decide)).trans dlH_a5, (mh_up_n (by decide)).trans dlH_a6, (mh_up_n (by decide)).trans dlH_a7, ?_⟩, mNw_k (fun k hk => e k (by omega)) m4, ⟨?_, fun k hk q hq => by cases hq⟩, mh_up_s, (e 13 (by decide)).trans m7, wo_k (e 14 (by decide)) m8⟩
  · intro k hk
    have := R k hk
    have hk : k < D.1 := hk
    exact ⟨(if_pos (by omega)).trans this.1, (if_pos (by omega)).trans this.2.1, (if_pos (by omega)).trans this.2.2⟩
  · intro j hj
    have hj : j ≤ 0 := hj
    have hj : j = 0 := by omega
    subst hj
    have hr : rp D ([].take 0) = ((0, 2, 0, false, 0), 0) := if_neg (by omega)
    show slR _ _ (rp D ([].take 0))
    rw [hr]
    exact s6_R
set_option maxHeartbeats 4000000 in
set_option maxRecDepth 100000 in
theorem c_X5_fault (dom : List Nat) (h : mh_H) (s : sg) (nd : Int32) (sl : Nat → Int32) (tu : Int32) (r : Int32) (hm : MB s h sl) (hv : IV s) : Mt mX5_fault dom 3 [.ref 0, .int r] (hM h (xs s nd) sl tu) (mx_Ri (fun v' h' => v' = (sp_fault s r).1 ∧ MP (sp_fault s r).2 h')) := by
  refine Mt.of (L := [some (.ref 0), some (.int r)]) rfl (Nat.le_of_ble_eq_true rfl) rfl ?_
  obtain ⟨⟨m1, f2, m2, mf⟩, ⟨m3, f4, m4, mg⟩, ⟨so, fl, dr, md⟩, mn, msl, mk, mc, ⟨wo, mw⟩⟩ := id hm
  refine ax_iload_n (pc := 0) dX5_fault_0 rfl ?_
  refine ax_i2l (pc := 1) dX5_fault_1 ?_
  refine ax_lconst (pc := 2) (v := 0) dX5_fault_2 (by decide) ?_
  refine ax_ldc2 (pc := 3) dX5_fault_3 tw_743 ?_
  refine ax_eSi3 (pc := 6) sX5_63 dX5_fault_6 (by decide) (Nat.le_of_ble_eq_true rfl) (c_X5_in _ _ r 0 3 _ _ (by decide) (by decide)) ?_
  refine ax_ifneB (pc := 9) (tgt := 14) dX5_fault_9 (by decide) (fun c9a => ?_) (fun c9a => ?_)
  · obtain ⟨j, hj, rfl⟩ := ix_3 c9a
    refine ax_aload_n (pc := 14) dX5_fault_14 rfl ?_
    refine ax_getf (pc := 15) fX5_16 dX5_fault_15 (by exact hM_0) rfl ?_
    refine ax_iload_n (pc := 18) dX5_fault_18 rfl ?_
    refine bx_iaload dX5_fault_19 ((hM_n (by decide)).trans m3) hj (by decide) rfl ?_
    refine ax_ifge (pc := 20) (tgt := 31) dX5_fault_20 (by decide) (fun c20 => ?_) (fun c20 => ?_)
    · obtain ⟨m, hm2, ez⟩ := (hv.2.1 j hj).resolve_left (fun q => by rw [q] at c20; exact absurd c20 (by decide))
      refine ax_aload_n (pc := 31) dX5_fault_31 rfl ?_
      refine ax_iload_n (pc := 32) dX5_fault_32 rfl ?_
      refine ax_cVi1 (pc := 33) vX5_94 dX5_fault_33 (by decide) (by exact hM_0) (Nat.le_of_ble_eq_true rfl) (c_X5_reads _ h (xs s nd) sl tu (s_tz s) f4 (s_tc s j) j m hj hm2 m3 ez m4 (fun i hi => mg j hj i (by rw [ez, ni_cl (by omega)]; exact hi)) (s_D s) mn) (fun v1 h1 hq => ?_)
      obtain ⟨rfl, nd2, ns, nf, nr, rfl, hok⟩ := hq
      refine ax_iret (pc := 36) dX5_fault_36 rfl ?_
      first
        | exact fin_m (by unfold sp_fault; rw [if_neg (not_not_intro c9a), ni_cl (by omega), if_pos (Int32.not_le.mp c20)]) hq
        | exact fin_m (by unfold sp_fault; rw [if_neg (not_not_intro c9a), ni_cl (by omega), if_neg (Int32.not_lt.mpr c20), ez, ni_cl (by omega)]) (MB.mp (s := s) (hm.new))
    · refine ax_aload_n (pc := 23) dX5_fault_23 rfl ?_
      refine ax_iconst (pc := 24) (v := nI 1) dX5_fault_24 (by decide) ?_
      refine ax_cVi1 (pc := 25) vX5_67 dX5_fault_25 (by decide) (by exact hM_0) (Nat.le_of_ble_eq_true rfl) (c_X5_finds _ h s nd sl tu 1 (by decide) hm) (fun v1 h1 hq => ?_)
      obtain ⟨rfl, hq⟩ := hq
      refine ax_goto (pc := 28) (tgt := 36) dX5_fault_28 (by decide) ?_
      refine ax_iret (pc := 36) dX5_fault_36 rfl ?_
      first
        | exact fin_m (by unfold sp_fault; rw [if_neg (not_not_intro c9a), ni_cl (by omega), if_pos (Int32.not_le.mp c20)]) hq
        | exact fin_m (by unfold sp_fault; rw [if_neg (not_not_intro c9a), ni_cl (by omega), if_neg (Int32.not_lt.mpr c20), ez, ni_cl (by omega)]) (MB.mp (s := s) (hm.new))
  · refine ax_iconst (pc := 12) (v := -1) dX5_fault_12 (by decide) ?_
    refine ax_iret (pc := 13) dX5_fault_13 rfl ?_
    exact fin_m (by unfold sp_fault; exact if_pos c9a) hm.mp
set_option maxHeartbeats 4000000 in
set_option maxRecDepth 100000 in
theorem l_X5_leat1 (dom : List Nat) (h : mh_H) (x : mxT) (sl : Nat → Int32) (tu : Int32) (so fl dr ns nf nr : Nat → Int32) (t : Nat) (h8 : h 8 = mh_ia 0 10 ns) (h9 : h 9 = mh_ia 0 10 nf) (h10 : h 10 = mh_ia 0 10 nr) (Q : Option Value → mh_H → Prop) (KK : At mX5_leat dom 3 100 [some (.ref 0), some (.int (nI t)), some (.int (nI 9))] [] (hM (dlH h (cq so ns 9) (cq fl nf 9) (cq dr nr 9)) x sl tu) Q) : ∀ (nn j : Nat), j + nn = 9 → At mX5_leat dom 3 52 [some (.ref 0), some (.int (nI t)), some (.int (nI j))] [] (hM (dlH h (cq so ns j) (cq fl nf j) (cq dr nr j)) x sl tu) Q := by
  intro nn
  induction nn with
  | zero =>
    intro j hj
    have hj : j = 9 := by omega
    subst hj
    refine ax_iload_n (pc := 52) dX5_leat_52 rfl ?_
    refine ax_bipush (pc := 53) (v := nI 9) dX5_leat_53 (by decide) ?_
    refine ax_icmpge (pc := 55) (tgt := 100) dX5_leat_55 (by decide) (fun _ => ?_) (fun q => absurd (by decide) q)
    exact KK
  | succ nn ih =>
    intro j hj
    have hlt : j < 9 := by omega
    refine ax_iload_n (pc := 52) dX5_leat_52 rfl ?_
    refine ax_bipush (pc := 53) (v := nI 9) dX5_leat_53 (by decide) ?_
    refine ax_icmpge (pc := 55) (tgt := 100) dX5_leat_55 (by decide) (fun q => absurd q (by rw [nI_leI (by decide) (by omega)]; omega)) (fun _ => ?_)
    refine ax_aload_n (pc := 58) dX5_leat_58 rfl ?_
    refine ax_getf (pc := 59) fX5_23 dX5_leat_59 (by exact hM_0) rfl ?_
    refine ax_iload_n (pc := 62) dX5_leat_62 rfl ?_
    refine ax_aload_n (pc := 63) dX5_leat_63 rfl ?_
    refine ax_getf (pc := 64) fX5_32 dX5_leat_64 (by exact hM_0) rfl ?_
    refine ax_iload_n (pc := 67) dX5_leat_67 rfl ?_
    refine bx_iaload dX5_leat_68 ((hM_n (by decide)).trans ((dlH_n (by decide)).trans h8)) (by omega) (by decide) rfl ?_
    refine bx_iastore dX5_leat_69 dlH_a5 (by decide) (by omega) (by decide) cq_s ?_
    refine At.hp (congrArg (fun q => hM q _ _ _) dlH_5) ?_
    refine ax_aload_n (pc := 70) dX5_leat_70 rfl ?_
    refine ax_getf (pc := 71) fX5_26 dX5_leat_71 (by exact hM_0) rfl ?_
    refine ax_iload_n (pc := 74) dX5_leat_74 rfl ?_
    refine ax_aload_n (pc := 75) dX5_leat_75 rfl ?_
    refine ax_getf (pc := 76) fX5_35 dX5_leat_76 (by exact hM_0) rfl ?_
    refine ax_iload_n (pc := 79) dX5_leat_79 rfl ?_
    refine bx_iaload dX5_leat_80 ((hM_n (by decide)).trans ((dlH_n (by decide)).trans h9)) (by omega) (by decide) rfl ?_
    refine bx_iastore dX5_leat_81 dlH_a6 (by decide) (by omega) (by decide) cq_s ?_
    refine At.hp (congrArg (fun q => hM q _ _ _) dlH_6) ?_
    refine ax_aload_n (pc := 82) dX5_leat_82 rfl ?_
    refine ax_getf (pc := 83) fX5_29 dX5_leat_83 (by exact hM_0) rfl ?_
    refine ax_iload_n (pc := 86) dX5_leat_86 rfl ?_
    refine ax_aload_n (pc := 87) dX5_leat_87 rfl ?_
    refine ax_getf (pc := 88) fX5_38 dX5_leat_88 (by exact hM_0) rfl ?_
    refine ax_iload_n (pc := 91) dX5_leat_91 rfl ?_
    refine bx_iaload dX5_leat_92 ((hM_n (by decide)).trans ((dlH_n (by decide)).trans h10)) (by omega) (by decide) rfl ?_
    refine bx_iastore dX5_leat_93 dlH_a7 (by decide) (by omega) (by decide) cq_s ?_
    refine At.hp (congrArg (fun q => hM q _ _ _) dlH_7) ?_
    refine ax_inc2p1 (pc := 94) dX5_leat_94 rfl (by decide) ?_
    refine ax_goto (pc := 97) (tgt := 52) dX5_leat_97 (by decide) ?_
    rw [nI_1]
    exact ih (j + 1) (by omega)
set_option maxHeartbeats 4000000 in
set_option maxRecDepth 100000 in
theorem l_X5_leat2 (dom : List Nat) (h : mh_H) (x : mxT) (sl : Nat → Int32) (tu : Int32) (t : Nat) (Q : Option Value → mh_H → Prop) (KK : At mX5_leat dom 3 126 [some (.ref 0), some (.int (nI t)), some (.int (nI 6))] [] (hM h x (cq sl (fun _ => nI 0) 6) tu) Q) : ∀ (nn j : Nat), j + nn = 6 → At mX5_leat dom 3 107 [some (.ref 0), some (.int (nI t)), some (.int (nI j))] [] (hM h x (cq sl (fun _ => nI 0) j) tu) Q := by
  intro nn
  induction nn with
  | zero =>
    intro j hj
    have hj : j = 6 := by omega
    subst hj
    refine ax_iload_n (pc := 107) dX5_leat_107 rfl ?_
    refine ax_bipush (pc := 108) (v := nI 6) dX5_leat_108 (by decide) ?_
    refine ax_icmpge (pc := 110) (tgt := 126) dX5_leat_110 (by decide) (fun _ => ?_) (fun q => absurd (by decide) q)
    exact KK
  | succ nn ih =>
    intro j hj
    have hlt : j < 6 := by omega
    refine ax_iload_n (pc := 107) dX5_leat_107 rfl ?_
    refine ax_bipush (pc := 108) (v := nI 6) dX5_leat_108 (by decide) ?_
    refine ax_icmpge (pc := 110) (tgt := 126) dX5_leat_110 (by decide) (fun q => absurd q (by rw [nI_leI (by decide) (by omega)]; omega)) (fun _ => ?_)
    refine ax_aload_n (pc := 113) dX5_leat_113 rfl ?_
    refine ax_getf (pc := 114) fX5_41 dX5_leat_114 (by exact hM_0) rfl ?_
    refine ax_iload_n (pc := 117) dX5_leat_117 rfl ?_
    refine ax_iconst (pc := 118) (v := nI 0) dX5_leat_118 (by decide) ?_
    refine bx_slst dX5_leat_119 (by omega) (cq_s (f := fun _ => nI 0)) ?_
    refine ax_inc2p1 (pc := 120) dX5_leat_120 rfl (by decide) ?_
    refine ax_goto (pc := 123) (tgt := 107) dX5_leat_123 (by decide) ?_
    rw [nI_1]
    exact ih (j + 1) (by omega)
set_option maxHeartbeats 4000000 in
set_option maxRecDepth 100000 in
theorem l_X5_leat3 (dom : List Nat) (h : mh_H) (x : mxT) (sl : Nat → Int32) (tu : Int32) (t : Nat) (kf : Nat → Int32) (Q : Option Value → mh_H → Prop) (KK : At mX5_leat dom 3 153 [some (.ref 0), some (.int (nI t)), some (.int (nI 3))] [] (hM (mh_up h 12 (mh_ia 0 3 (cq kf (fun _ => -1) 3))) x sl tu) Q) : ∀ (nn j : Nat), j + nn = 3 → At mX5_leat dom 3 135 [some (.ref 0), some (.int (nI t)), some (.int (nI j))] [] (hM (mh_up h 12 (mh_ia 0 3 (cq kf (fun _ => -1) j))) x sl tu) Q := by
  intro nn
  induction nn with
  | zero =>
    intro j hj
    have hj : j = 3 := by omega
    subst hj
    refine ax_iload_n (pc := 135) dX5_leat_135 rfl ?_
    refine ax_iconst (pc := 136) (v := nI 3) dX5_leat_136 (by decide) ?_
    refine ax_icmpge (pc := 137) (tgt := 153) dX5_leat_137 (by decide) (fun _ => ?_) (fun q => absurd (by decide) q)
    exact KK
  | succ nn ih =>
    intro j hj
    have hlt : j < 3 := by omega
    refine ax_iload_n (pc := 135) dX5_leat_135 rfl ?_
    refine ax_iconst (pc := 136) (v := nI 3) dX5_leat_136 (by decide) ?_
    refine ax_icmpge (pc := 137) (tgt := 153) dX5_leat_137 (by decide) (fun q => absurd q (by rw [nI_leI (by decide) (by omega)]; omega)) (fun _ => ?_)
    refine ax_aload_n (pc := 140) dX5_leat_140 rfl ?_
    refine ax_getf (pc := 141) fX5_44 dX5_leat_141 (by exact hM_0) rfl ?_
    refine ax_iload_n (pc := 144) dX5_leat_144 rfl ?_
    refine ax_iconst (pc := 145) (v := -1) dX5_leat_145 (by decide) ?_
    refine bx_iastoreu dX5_leat_146 (by decide) hlt (by decide) (cq_s (f := fun _ => -1)) ?_
    refine ax_inc2p1 (pc := 147) dX5_leat_147 rfl (by decide) ?_
    refine ax_goto (pc := 150) (tgt := 135) dX5_leat_150 (by decide) ?_
    rw [nI_1]
    exact ih (j + 1) (by omega)
set_option maxHeartbeats 4000000 in
set_option maxRecDepth 100000 in
theorem c_X5_leat (dom : List Nat) (h : mh_H) (s : sg) (nd : Int32) (sl : Nat → Int32) (tu : Int32) (r : Int32) (hm : MB s h sl) (hv : IV s) : Mt mX5_leat dom 3 [.ref 0, .int r] (hM h (xs s nd) sl tu) (mx_Ri (fun v' h' => v' = (sp_leat s r).1 ∧ MP (sp_leat s r).2 h')) := by
  refine Mt.of (L := [some (.ref 0), some (.int r), none]) rfl (Nat.le_of_ble_eq_true rfl) rfl ?_
  obtain ⟨⟨m1, f2, m2, mf⟩, ⟨m3, f4, m4, mg⟩, ⟨so, fl, dr, md⟩, mn, msl, mk, mc, ⟨wo, mw⟩⟩ := id hm
  refine ax_iload_n (pc := 0) dX5_leat_0 rfl ?_
  refine ax_i2l (pc := 1) dX5_leat_1 ?_
  refine ax_lconst (pc := 2) (v := 0) dX5_leat_2 (by decide) ?_
  refine ax_ldc2 (pc := 3) dX5_leat_3 tw_743 ?_
  refine ax_eSi3 (pc := 6) sX5_63 dX5_leat_6 (by decide) (Nat.le_of_ble_eq_true rfl) (c_X5_in _ _ r 0 3 _ _ (by decide) (by decide)) ?_
  refine ax_ifneB (pc := 9) (tgt := 14) dX5_leat_9 (by decide) (fun c9a => ?_) (fun c9a => ?_)
  · obtain ⟨j, hj, rfl⟩ := ix_3 c9a
    refine ax_aload_n (pc := 14) dX5_leat_14 rfl ?_
    refine ax_getf (pc := 15) fX5_16 dX5_leat_15 (by exact hM_0) rfl ?_
    refine ax_iload_n (pc := 18) dX5_leat_18 rfl ?_
    refine bx_iaload dX5_leat_19 ((hM_n (by decide)).trans m3) hj (by decide) rfl ?_
    refine ax_ifge (pc := 20) (tgt := 29) dX5_leat_20 (by decide) (fun c20 => ?_) (fun c20 => ?_)
    · obtain ⟨m, hm2, ez⟩ := (hv.2.1 j hj).resolve_left (fun q => by rw [q] at c20; exact absurd c20 (by decide))
      refine ax_aload_n (pc := 29) dX5_leat_29 rfl ?_
      refine ax_iload_n (pc := 30) dX5_leat_30 rfl ?_
      refine ax_cVi1 (pc := 31) vX5_94 dX5_leat_31 (by decide) (by exact hM_0) (Nat.le_of_ble_eq_true rfl) (c_X5_reads _ h (xs s nd) sl tu (s_tz s) f4 (s_tc s j) j m hj hm2 m3 ez m4 (fun i hi => mg j hj i (by rw [ez, ni_cl (by omega)]; exact hi)) (s_D s) mn) (fun v1 h1 hq => ?_)
      obtain ⟨rfl, nd2, ns, nf, nr, rfl, hok⟩ := hq
      refine ax_bipush (pc := 34) (v := -9) dX5_leat_34 (by decide) ?_
      refine ax_icmpeq (pc := 36) (tgt := 42) dX5_leat_36 (by decide) (fun c36 => ?_) (fun c36 => ?_)
      · obtain ⟨rfl, R⟩ := hok c36
        obtain ⟨k1, k2, k3⟩ := rd_ok (f := s_tc s j) hm2 m (0, (s_D s).2) 0 (by omega) (Nat.zero_le _) hv.2.2.1.2.2 c36
        have eS : sp_leat s (nI j) = (nI (sp_rd (s_tc s j) m m (0, (s_D s).2) 0).1, u_leat s (sp_rd (s_tc s j) m m (0, (s_D s).2) 0) [] (fun _ => none)) := by
          unfold sp_leat
          rw [if_neg (not_not_intro c9a), ni_cl (by omega), if_neg (Int32.not_lt.mpr c20), show (s_tz s j).toNatClampNeg = m by rw [ez, ni_cl (by omega)], if_neg (not_not_intro c36)]
        refine ax_aload_n (pc := 42) dX5_leat_42 rfl ?_
        refine ax_aload_n (pc := 43) dX5_leat_43 rfl ?_
        refine ax_getf (pc := 44) fX5_80 dX5_leat_44 (by exact hM_0) rfl ?_
        refine bx_pdays gX5_97 dX5_leat_47 ?_
        refine ax_iconst (pc := 50) (v := nI 0) dX5_leat_50 (by decide) ?_
        refine ax_istore2 (pc := 51) dX5_leat_51 rfl (by decide) ?_
        obtain ⟨d5, d6, d7, dR⟩ := md
        refine At.hp (show hM (nwH h ns nf nr) _ sl tu = hM (dlH (nwH h ns nf nr) (cq so ns 0) (cq fl nf 0) (cq dr nr 0)) _ sl tu by rw [cq_0, cq_0, cq_0, dlH_id ((nwH_n (by decide)).trans d5) ((nwH_n (by decide)).trans d6) ((nwH_n (by decide)).trans d7)]) ?_
        refine l_X5_leat1 dom (nwH h ns nf nr) _ sl tu so fl dr ns nf nr j nwH_a8 nwH_a9 nwH_a10 _ ?_ 9 0 (by omega)
        refine ax_aload_n (pc := 100) dX5_leat_100 rfl ?_
        refine ax_iconst (pc := 101) (v := nI 0) dX5_leat_101 (by decide) ?_
        refine bx_pdeeds gX5_100 dX5_leat_102 ?_
        refine ax_iconst (pc := 105) (v := nI 0) dX5_leat_105 (by decide) ?_
        refine ax_istore2 (pc := 106) dX5_leat_106 rfl (by decide) ?_
        refine At.hp (show hM _ _ sl tu = hM _ _ (cq sl (fun _ => nI 0) 0) tu by rw [cq_0]) ?_
        refine l_X5_leat2 dom _ _ sl tu j _ ?_ 6 0 (by omega)
        refine ax_aload_n (pc := 126) dX5_leat_126 rfl ?_
        refine ax_getf (pc := 127) fX5_41 dX5_leat_127 (by exact hM_0) rfl ?_
        refine ax_iconst (pc := 130) (v := nI 1) dX5_leat_130 (by decide) ?_
        refine ax_iconst (pc := 131) (v := nI 2) dX5_leat_131 (by decide) ?_
        refine bx_slst dX5_leat_132 (by decide) cq_6 ?_
        refine ax_iconst (pc := 133) (v := nI 0) dX5_leat_133 (by decide) ?_
        refine ax_istore2 (pc := 134) dX5_leat_134 rfl (by decide) ?_
        refine At.hp (hM_ex (a := 12) (e := mh_ia 0 3 (cq (fun k => kz (s_kp s k)) (fun _ => -1) 0)) ((dlH_n (by decide)).trans ((nwH_n (by decide)).trans (by rw [cq_0]; exact mk)))) ?_
        refine l_X5_leat3 dom _ _ _ tu j (fun k => kz (s_kp s k)) _ ?_ 3 0 (by omega)
        refine At.ib (a := 12) (f' := fun _ => -1) ((hM_n (by decide)).trans mh_up_s) (fun i hi => if_pos hi) ?_
        refine At.hp ((hM_a (by decide)).trans (by rw [mh_up_uu])) ?_
        refine ax_aload_n (pc := 153) dX5_leat_153 rfl ?_
        refine ax_getf (pc := 154) fX5_97 dX5_leat_154 (by exact hM_0) rfl ?_
        refine ax_iret (pc := 157) dX5_leat_157 rfl ?_
        exact fin_m eS (MB.mp (s := u_leat s _ _ _) (MB.leat hm.new ⟨k1, k2⟩ R))
      · refine ax_bipush (pc := 39) (v := -4) dX5_leat_39 (by decide) ?_
        refine ax_iret (pc := 41) dX5_leat_41 rfl ?_
        exact fin_m (by unfold sp_leat; rw [if_neg (not_not_intro c9a), ni_cl (by omega), if_neg (Int32.not_lt.mpr c20), show (s_tz s j).toNatClampNeg = m by rw [ez, ni_cl (by omega)], if_pos c36]) (MB.mp (s := s) hm.new)
    · refine ax_aload_n (pc := 23) dX5_leat_23 rfl ?_
      refine ax_iconst (pc := 24) (v := nI 1) dX5_leat_24 (by decide) ?_
      refine ax_cVi1 (pc := 25) vX5_67 dX5_leat_25 (by decide) (by exact hM_0) (Nat.le_of_ble_eq_true rfl) (c_X5_finds _ h s nd sl tu 1 (by decide) hm) (fun v1 h1 hq => ?_)
      obtain ⟨rfl, hq⟩ := hq
      refine ax_iret (pc := 28) dX5_leat_28 rfl ?_
      exact fin_m (by unfold sp_leat; rw [if_neg (not_not_intro c9a), ni_cl (by omega), if_pos (Int32.not_le.mp c20)]) hq
  · refine ax_iconst (pc := 12) (v := -1) dX5_leat_12 (by decide) ?_
    refine ax_iret (pc := 13) dX5_leat_13 rfl ?_
    exact fin_m (by unfold sp_leat; exact if_pos c9a) hm.mp
