/-- the days at 3 and the wheel at 4 hold this -/
def wdH (h : mh_H) (D : sp_D) (t : sp_W × Nat) : mh_H := mh_up (mh_up h 3 (mh_ob 0 [.ref 11, .ref 12, .ref 13, .int (nI D.1), .int (nI t.2)])) 4 (wc t.1)
theorem wdH_n {h : mh_H} {D : sp_D} {t : sp_W × Nat} {k : Nat} (hk : k ≠ 3 ∧ k ≠ 4) : wdH h D t k = h k := (mh_up_n hk.2).trans (mh_up_n hk.1)
theorem wdH_wd {h : mh_H} {D : sp_D} {t t' : sp_W × Nat} : wdH (wdH h D t) D t' = wdH h D t' := by
  unfold wdH
  rw [mh_r2 (k := 4) (by decide), mh_r2 (k := 3) (by decide)]
theorem rp_ap0 {D : sp_D} {s : sp_W × Nat} {b : Nat} : rp_ap D s (0, b) = (sp_st D s.2 s.1, s.2) := rfl
theorem rp_ap1 {D : sp_D} {s : sp_W × Nat} {b : Nat} : rp_ap D s (1, b) = ((s.1.1, s.1.2.1, 0, s.1.2.2.2.1, s.1.2.2.2.2), s.2) := rfl
theorem rp_ap2 {D : sp_D} {s : sp_W × Nat} {b : Nat} : rp_ap D s (2, b) = ((s.1.1, b, s.1.2.2.1, s.1.2.2.2.1, s.1.2.2.2.2), s.2) := rfl
theorem rp_ap3 {D : sp_D} {s : sp_W × Nat} {b : Nat} : rp_ap D s (3, b) = (s.1, s.2 ||| 2 ^ b) := rfl
def dyA (D : sp_D) (h : mh_H) : Prop := h 11 = mh_ia 0 9 (fun j => nI (D.2.1 j)) ∧ h 12 = mh_ia 0 9 (fun j => nI (D.2.2.1 j)) ∧ h 13 = mh_ia 0 9 (fun j => nI (D.2.2.2 j))
theorem wdH_P {h : mh_H} {D : sp_D} {t : sp_W × Nat} (hA : dyA D h) : dyP D t.2 3 11 12 13 (wdH h D t) := ⟨rfl, (wdH_n (by decide)).trans hA.1, (wdH_n (by decide)).trans hA.2.1, (wdH_n (by decide)).trans hA.2.2⟩
theorem wdH_id {h : mh_H} {D : sp_D} {t : sp_W × Nat} (h1 : h 3 = mh_ob 0 [.ref 11, .ref 12, .ref 13, .int (nI D.1), .int (nI t.2)]) (h2 : h 4 = wc t.1) : wdH h D t = h := by
  unfold wdH
  rw [mh_up_id h1, mh_up_id h2]
theorem wdH_4 {h : mh_H} {D : sp_D} {t : sp_W × Nat} {w : sp_W} : mh_up (wdH h D t) 4 (wc w) = wdH h D (w, t.2) := mh_up_uu
theorem CP_new {s : sg} {h h' : mh_H} {ds' : List (Nat × Nat)} (c : CP s h) (he : ∀ k, k ≠ 3 ∧ k ≠ 4 ∧ k ≠ 5 ∧ k ≠ 17 ∧ k ≠ 18 → h' k = h k) (h3 : dyP (s_D s) (rp (s_D s) ds').2 3 11 12 13 h') (h4 : h' 4 = wc (rp (s_D s) ds').1) (h5 : gE ds' h') : CP (u_leat s (s_D s) ds' (s_kp s)) h' := by
  obtain ⟨c1, c2, c3, c4, c5, c6, c7, c8, c9⟩ := c
  exact ⟨gS_k (fun k hk => he k (by omega)) c1, gC_k (fun k hk => he k (by omega)) c2, gR_k (fun k hk => he k (by omega)) c3, gT_k (fun k hk => he k (by omega)) c4, h3, h4, h5, gK_k (fun k hk => he k (by omega)) c8, gX_k (fun k hk => he k (by omega)) c9⟩
theorem dsR_add {ds : List (Nat × Nat)} {f g : Nat → Int32} {d : Nat × Nat} (h : dsR ds f g) : dsR (ds ++ [d]) (upd f ds.length (nI d.1)) (upd g ds.length (nI d.2)) := by
  intro j e he
  by_cases hj : j < ds.length
  · rw [List.getElem?_append_left hj] at he
    rw [pk_un (by omega), pk_un (by omega)]
    exact h j e he
  · rw [List.getElem?_append_right (by omega)] at he
    have hz : j - ds.length < 1 := (List.getElem?_eq_some_iff.mp he).1
    have : j = ds.length := by omega
    subst this
    rw [Nat.sub_self] at he
    cases he
    rw [pk_us, pk_us]
    exact ⟨rfl, rfl⟩
theorem dsR_take {ds : List (Nat × Nat)} {f g : Nat → Int32} {n : Nat} (h : dsR ds f g) : dsR (ds.take n) f g := fun j d hd => by
  rw [List.getElem?_take] at hd
  split at hd
  · exact h j d hd
  · cases hd
theorem dsR_cp {ds : List (Nat × Nat)} {f g f2 g2 : Nat → Int32} (h : dsR ds f2 g2) : dsR ds (sl_cp f2 f ds.length) (sl_cp g2 g ds.length) := fun j d hd => by
  have hj := (List.getElem?_eq_some_iff.mp hd).1
  unfold sl_cp
  rw [if_pos hj, if_pos hj]
  exact h j d hd
theorem rp_take {D : sp_D} {ds : List (Nat × Nat)} {j : Nat} {d : Nat × Nat} (h : ds[j]? = some d) : rp D (ds.take (j + 1)) = rp_ap D (rp D (ds.take j)) d := by
  rw [← rp_snoc, List.take_succ, h]
  rfl
set_option maxHeartbeats 4000000 in
set_option maxRecDepth 100000 in
theorem c_X4_apply (dom : List Nat) (h : mh_H) (D : sp_D) (fi x0 x1 x2 x4 : Nat) (x3 : Bool) (ask fin : Int32) (up lo : Int64) (h0 : h 0 = o4 ask up lo fin) (hD : dyP D fi 3 11 12 13 h) (hw : h 4 = wc (x0, x1, x2, x3, x4)) (hD0 : sp_D0 D) (hW0 : sp_W0 D.1 (x0, x1, x2, x3, x4)) (hfi : fi < 512) (q b : Nat) (hd : dOK D.1 (q, b)) : Mt mX4_apply dom 3 [.ref 0, .int (nI q), .int (nI b)] h (mx_Ri (fun v' h' => v' = nI (rp_an D ((x0, x1, x2, x3, x4), fi) (q, b)) ∧ h' = wdH h D (rp_ap D ((x0, x1, x2, x3, x4), fi) (q, b)))) := by
  refine Mt.of (L := [some (.ref 0), some (.int (nI q)), some (.int (nI b)), none]) rfl (Nat.le_of_ble_eq_true rfl) rfl ?_
  refine ax_iload_n (pc := 0) dX4_apply_0 rfl ?_
  have hq3 : q ≤ 3 := hd.1
  rcases (show q = 0 ∨ q = 1 ∨ q = 2 ∨ q = 3 by omega) with rfl | rfl | rfl | rfl
  · refine ax_tswOut (tgt := 83) dX4_apply_1 (by decide) (by decide) ?_
    refine ax_aload_n (pc := 83) dX4_apply_83 rfl ?_
    refine ax_getf (pc := 84) fX4_28 dX4_apply_84 (by first | exact h0 | exact hD.1 | exact hw | rfl) rfl ?_
    refine ax_aload_n (pc := 87) dX4_apply_87 rfl ?_
    refine ax_getf (pc := 88) fX4_21 dX4_apply_88 (by first | exact h0 | exact hD.1 | exact hw | rfl) rfl ?_
    refine ax_eVi1 (pc := 91) vX4_189 dX4_apply_91 (by decide) (by first | exact h0 | exact hD.1 | exact hw | rfl) (Nat.le_of_ble_eq_true rfl) (c_X3_goRound _ _ D fi 4 3 11 12 13 x0 x1 x2 x4 x3 hw hD hD0 hW0 hfi) ?_
    refine ax_iret (pc := 94) dX4_apply_94 rfl ?_
    exact ⟨_, rfl, rfl, by rw [rp_ap0]; unfold wdH; dsimp only; rw [mh_up_id hD.1]⟩
  · refine ax_tswIn (tgt := 28) dX4_apply_1 (by decide) (by decide) rfl (by decide) ?_
    refine ax_aload_n (pc := 28) dX4_apply_28 rfl ?_
    refine ax_getf (pc := 29) fX4_28 dX4_apply_29 (by first | exact h0 | exact hD.1 | exact hw | rfl) rfl ?_
    refine ax_getf (pc := 32) fX4_169 dX4_apply_32 (by first | exact h0 | exact hD.1 | exact hw | rfl) rfl ?_
    refine ax_istore3 (pc := 35) dX4_apply_35 rfl (by decide) ?_
    refine ax_aload_n (pc := 36) dX4_apply_36 rfl ?_
    refine ax_getf (pc := 37) fX4_28 dX4_apply_37 (by first | exact h0 | exact hD.1 | exact hw | rfl) rfl ?_
    refine ax_iconst (pc := 40) (v := 0) dX4_apply_40 (by decide) ?_
    refine ax_puti2 (pc := 41) gX4_169 dX4_apply_41 (by first | exact h0 | exact hD.1 | exact hw | rfl) ?_
    refine ax_iload_n (pc := 44) dX4_apply_44 rfl ?_
    refine ax_iret (pc := 45) dX4_apply_45 rfl ?_
    exact ⟨_, rfl, rfl, by rw [rp_ap1]; unfold wdH; dsimp only; rw [mh_up_id hD.1]; rfl⟩
  · refine ax_tswIn (tgt := 46) dX4_apply_1 (by decide) (by decide) rfl (by decide) ?_
    refine ax_aload_n (pc := 46) dX4_apply_46 rfl ?_
    refine ax_getf (pc := 47) fX4_28 dX4_apply_47 (by first | exact h0 | exact hD.1 | exact hw | rfl) rfl ?_
    refine ax_getf (pc := 50) fX4_166 dX4_apply_50 (by first | exact h0 | exact hD.1 | exact hw | rfl) rfl ?_
    refine ax_istore3 (pc := 53) dX4_apply_53 rfl (by decide) ?_
    refine ax_aload_n (pc := 54) dX4_apply_54 rfl ?_
    refine ax_getf (pc := 55) fX4_28 dX4_apply_55 (by first | exact h0 | exact hD.1 | exact hw | rfl) rfl ?_
    refine ax_iload_n (pc := 58) dX4_apply_58 rfl ?_
    refine ax_puti1 (pc := 59) gX4_166 dX4_apply_59 (by first | exact h0 | exact hD.1 | exact hw | rfl) ?_
    refine ax_iload_n (pc := 62) dX4_apply_62 rfl ?_
    refine ax_iret (pc := 63) dX4_apply_63 rfl ?_
    exact ⟨_, rfl, rfl, by rw [rp_ap2]; unfold wdH; dsimp only; rw [mh_up_id hD.1]; rfl⟩
  · refine ax_tswIn (tgt := 64) dX4_apply_1 (by decide) (by decide) rfl (by decide) ?_
    have hb9 : b < 9 := Nat.lt_of_lt_of_le (hd.2.2 rfl) hD0.2.1
    refine ax_aload_n (pc := 64) dX4_apply_64 rfl ?_
    refine ax_getf (pc := 65) fX4_21 dX4_apply_65 (by first | exact h0 | exact hD.1 | exact hw | rfl) rfl ?_
    refine ax_iload_n (pc := 68) dX4_apply_68 rfl ?_
    refine ax_eVi1 (pc := 69) vX4_295 dX4_apply_69 (by decide) (by first | exact h0 | exact hD.1 | exact hw | rfl) (Nat.le_of_ble_eq_true rfl) (c_X0_drift _ _ D fi 3 11 12 13 hD b hb9 hfi) ?_
    refine ax_istore3 (pc := 72) dX4_apply_72 rfl (by decide) ?_
    refine ax_aload_n (pc := 73) dX4_apply_73 rfl ?_
    refine ax_getf (pc := 74) fX4_21 dX4_apply_74 (by first | exact h0 | exact hD.1 | exact hw | rfl) rfl ?_
    refine ax_iload_n (pc := 77) dX4_apply_77 rfl ?_
    refine ax_eVv1 (pc := 78) vX4_210 dX4_apply_78 (by decide) (by first | exact h0 | exact hD.1 | exact hw | rfl) (Nat.le_of_ble_eq_true rfl) (c_X0_setFished _ _ _ _ _ _ fi 3 hD.1 b hb9) ?_
    refine ax_iload_n (pc := 81) dX4_apply_81 rfl ?_
    refine ax_iret (pc := 82) dX4_apply_82 rfl ?_
    exact ⟨_, rfl, rfl, by rw [rp_ap3]; unfold wdH; dsimp only; exact (mh_up_id ((mh_up_n (by decide)).trans hw)).symm⟩
set_option maxHeartbeats 4000000 in
set_option maxRecDepth 100000 in
theorem c_X4_doDeed (dom : List Nat) (h : mh_H) (s : sg) (hc : CP s h) (hv : IV s) (h0 : (s_D s).1 ≠ 0) (hl : (s_ds s).length < 40) (q b : Nat) (hd : dOK (s_D s).1 (q, b)) : Mt mX4_doDeed dom 4 [.ref 0, .int (nI q), .int (nI b)] h (mx_Ri (fun v' h' => v' = nI (rp_an (s_D s) (rp (s_D s) (s_ds s)) (q, b)) ∧ CP (u_leat s (s_D s) (s_ds s ++ [(q, b)]) (s_kp s)) h')) := by
  refine Mt.of (L := [some (.ref 0), some (.int (nI q)), some (.int (nI b))]) rfl (Nat.le_of_ble_eq_true rfl) rfl ?_
  obtain ⟨c1, c2, c3, c4, c5, c6, c7, c8, c9⟩ := id hc
  obtain ⟨f, g, e1, e2, e3, e4⟩ := id c7
  obtain ⟨hD0, hW0, hfi⟩ := hv.w h0
  refine ax_aload_n (pc := 0) dX4_doDeed_0 rfl ?_
  refine ax_getf (pc := 1) fX4_35 dX4_doDeed_1 (by first | exact c1.1 | exact e1) rfl ?_
  refine ax_iload_n (pc := 4) dX4_doDeed_4 rfl ?_
  refine ax_iload_n (pc := 5) dX4_doDeed_5 rfl ?_
  refine ax_eVv2 (pc := 6) vX4_298 dX4_doDeed_6 (by decide) (by first | exact c1.1 | exact e1) (Nat.le_of_ble_eq_true rfl) (c_X1_add _ _ 5 17 18 (s_ds s).length f g e1 e2 e3 (by decide) hl _ _) ?_
  refine ax_aload_n (pc := 9) dX4_doDeed_9 rfl ?_
  refine ax_iload_n (pc := 10) dX4_doDeed_10 rfl ?_
  refine ax_iload_n (pc := 11) dX4_doDeed_11 rfl ?_
  refine ax_eVi2 (pc := 12) vX4_301 dX4_doDeed_12 (by decide) (by first | exact c1.1 | exact e1) (Nat.le_of_ble_eq_true rfl) (c_X4_apply _ _ (s_D s) (s_fi s) (s_w s).1 (s_w s).2.1 (s_w s).2.2.1 (s_w s).2.2.2.2 (s_w s).2.2.2.1 (s_ask s) (s_fin s) (s_up s) (s_lo s) (by exact c1.1) (by exact ⟨c5.1, c5.2.1, c5.2.2.1, c5.2.2.2⟩) (by exact c6) hD0 hW0 hfi q b hd) ?_
  refine ax_iret (pc := 15) dX4_doDeed_15 rfl ?_
  refine ⟨_, rfl, rfl, ?_⟩
  refine CP_new hc (fun k hk => (wdH_n ⟨hk.1, hk.2.1⟩).trans ((mh_up_n hk.2.2.1).trans ((mh_up_n hk.2.2.2.2).trans (mh_up_n hk.2.2.2.1)))) ?_ ?_ ⟨_, _, ?_, ?_, ?_, dsR_add e4⟩
  · rw [rp_snoc]
    exact wdH_P ⟨c5.2.1, c5.2.2.1, c5.2.2.2⟩
  · rw [rp_snoc]
    rfl
  · rw [List.length_append]
    rfl
  · rfl
  · rfl
set_option maxHeartbeats 4000000 in
set_option maxRecDepth 100000 in
theorem l_X4_doAgain (dom : List Nat) (h : mh_H) (D : sp_D) (ds : List (Nat × Nat)) (f g : Nat → Int32) (ask fin : Int32) (up lo : Int64) (h0 : h 0 = o4 ask up lo fin) (hA : dyA D h) (e1 : h 5 = mh_ob 1 [.ref 17, .ref 18, .int (nI ds.length)]) (e2 : h 17 = mh_ia 0 40 f) (e3 : h 18 = mh_ia 0 40 g) (e4 : dsR ds f g) (hD0 : sp_D0 D) (hl : ds.length ≤ 40) (hd : ∀ d ∈ ds, dOK D.1 d) : ∀ (nn j : Nat), j + nn = ds.length → At mX4_doAgain dom 4 17 [some (.ref 0), some (.int (nI j))] [] (wdH h D (rp D (ds.take j))) (mx_Rv (fun h' => h' = wdH h D (rp D ds))) := by
  intro nn
  induction nn with
  | zero =>
    intro j hj
    have hj : j = ds.length := by omega
    subst hj
    refine ax_iload_n (pc := 17) dX4_doAgain_17 rfl ?_
    refine ax_aload_n (pc := 18) dX4_doAgain_18 rfl ?_
    refine ax_getf (pc := 19) fX4_35 dX4_doAgain_19 (by first | exact (wdH_n (by decide)).trans h0 | exact (wdH_n (by decide)).trans e1 | exact (wdH_n (by decide)).trans e2 | exact (wdH_n (by decide)).trans e3 | rfl) rfl ?_
    refine ax_getf (pc := 22) fX4_72 dX4_doAgain_22 (by first | exact (wdH_n (by decide)).trans h0 | exact (wdH_n (by decide)).trans e1 | exact (wdH_n (by decide)).trans e2 | exact (wdH_n (by decide)).trans e3 | rfl) rfl ?_
    refine ax_icmpge (pc := 25) (tgt := 57) dX4_doAgain_25 (by decide) (fun _ => ?_) (fun q => absurd (nI_le (Nat.le_refl _) (by omega)) q)
    refine ax_vret (pc := 57) dX4_doAgain_57 rfl ?_
    exact ⟨rfl, by rw [List.take_length]⟩
  | succ nn ih =>
    intro j hj
    have hlt : j < ds.length := by omega
    obtain ⟨q, hq⟩ : ∃ q, ds[j]? = some q := ⟨_, List.getElem?_eq_getElem hlt⟩
    have hok := rp_ok (ds := ds.take j) hD0 (fun d hdd => hd d (List.mem_of_mem_take hdd))
    refine ax_iload_n (pc := 17) dX4_doAgain_17 rfl ?_
    refine ax_aload_n (pc := 18) dX4_doAgain_18 rfl ?_
    refine ax_getf (pc := 19) fX4_35 dX4_doAgain_19 (by first | exact (wdH_n (by decide)).trans h0 | exact (wdH_n (by decide)).trans e1 | exact (wdH_n (by decide)).trans e2 | exact (wdH_n (by decide)).trans e3 | rfl) rfl ?_
    refine ax_getf (pc := 22) fX4_72 dX4_doAgain_22 (by first | exact (wdH_n (by decide)).trans h0 | exact (wdH_n (by decide)).trans e1 | exact (wdH_n (by decide)).trans e2 | exact (wdH_n (by decide)).trans e3 | rfl) rfl ?_
    refine ax_icmpge (pc := 25) (tgt := 57) dX4_doAgain_25 (by decide) (fun q => absurd q (nI_ge hlt (by omega))) (fun _ => ?_)
    refine ax_aload_n (pc := 28) dX4_doAgain_28 rfl ?_
    refine ax_aload_n (pc := 29) dX4_doAgain_29 rfl ?_
    refine ax_getf (pc := 30) fX4_35 dX4_doAgain_30 (by first | exact (wdH_n (by decide)).trans h0 | exact (wdH_n (by decide)).trans e1 | exact (wdH_n (by decide)).trans e2 | exact (wdH_n (by decide)).trans e3 | rfl) rfl ?_
    refine ax_getf (pc := 33) fX4_307 dX4_doAgain_33 (by first | exact (wdH_n (by decide)).trans h0 | exact (wdH_n (by decide)).trans e1 | exact (wdH_n (by decide)).trans e2 | exact (wdH_n (by decide)).trans e3 | rfl) rfl ?_
    refine ax_iload_n (pc := 36) dX4_doAgain_36 rfl ?_
    refine ax_iald (pc := 37) dX4_doAgain_37 (by first | exact (wdH_n (by decide)).trans h0 | exact (wdH_n (by decide)).trans e1 | exact (wdH_n (by decide)).trans e2 | exact (wdH_n (by decide)).trans e3 | rfl) (ni_in9 (by omega) (by decide)) ?_
    refine At.ti (x' := nI q.1) (by rw [ni_cl (by omega)]; exact (e4 j q hq).1) ?_
    refine ax_aload_n (pc := 38) dX4_doAgain_38 rfl ?_
    refine ax_getf (pc := 39) fX4_35 dX4_doAgain_39 (by first | exact (wdH_n (by decide)).trans h0 | exact (wdH_n (by decide)).trans e1 | exact (wdH_n (by decide)).trans e2 | exact (wdH_n (by decide)).trans e3 | rfl) rfl ?_
    refine ax_getf (pc := 42) fX4_310 dX4_doAgain_42 (by first | exact (wdH_n (by decide)).trans h0 | exact (wdH_n (by decide)).trans e1 | exact (wdH_n (by decide)).trans e2 | exact (wdH_n (by decide)).trans e3 | rfl) rfl ?_
    refine ax_iload_n (pc := 45) dX4_doAgain_45 rfl ?_
    refine ax_iald (pc := 46) dX4_doAgain_46 (by first | exact (wdH_n (by decide)).trans h0 | exact (wdH_n (by decide)).trans e1 | exact (wdH_n (by decide)).trans e2 | exact (wdH_n (by decide)).trans e3 | rfl) (ni_in9 (by omega) (by decide)) ?_
    refine At.ti (x' := nI q.2) (by rw [ni_cl (by omega)]; exact (e4 j q hq).2) ?_
    refine ax_eVi2 (pc := 47) vX4_301 dX4_doAgain_47 (by decide) (by first | exact (wdH_n (by decide)).trans h0 | exact (wdH_n (by decide)).trans e1 | exact (wdH_n (by decide)).trans e2 | exact (wdH_n (by decide)).trans e3 | rfl) (Nat.le_of_ble_eq_true rfl) (c_X4_apply _ _ D (rp D (ds.take j)).2 _ _ _ _ _ ask fin up lo ((wdH_n (by decide)).trans h0) (wdH_P hA) rfl hD0 hok.1 hok.2 q.1 q.2 (hd q (List.mem_of_getElem? hq))) ?_
    refine At.hp wdH_wd ?_
    refine ax_pop (pc := 50) dX4_doAgain_50 rfl ?_
    refine ax_inc1p1 (pc := 51) dX4_doAgain_51 rfl (by decide) ?_
    refine ax_goto (pc := 54) (tgt := 17) dX4_doAgain_54 (by decide) ?_
    rw [nI_1]
    have e5 : rp_ap D ((rp D (ds.take j)).1, (rp D (ds.take j)).2) (q.1, q.2) = rp D (ds.take (j + 1)) := (rp_take hq).symm
    refine At.hp (congrArg (wdH h D) e5) ?_
    exact ih (j + 1) (by omega)
set_option maxHeartbeats 4000000 in
set_option maxRecDepth 100000 in
theorem c_X4_doAgain (dom : List Nat) (h : mh_H) (D : sp_D) (ds : List (Nat × Nat)) (f g : Nat → Int32) (ask fin : Int32) (up lo : Int64) (h0 : h 0 = o4 ask up lo fin) (hA : dyA D h) (e1 : h 5 = mh_ob 1 [.ref 17, .ref 18, .int (nI ds.length)]) (e2 : h 17 = mh_ia 0 40 f) (e3 : h 18 = mh_ia 0 40 g) (e4 : dsR ds f g) (hD0 : sp_D0 D) (hl : ds.length ≤ 40) (hd : ∀ d ∈ ds, dOK D.1 d) (x : Int32) (h3 : h 3 = mh_ob 0 [.ref 11, .ref 12, .ref 13, .int (nI D.1), .int x]) (h4 : gV h 4) : Mt mX4_doAgain dom 4 [.ref 0] h (mx_Rv (fun h' => h' = wdH h D (rp D ds))) := by
  refine Mt.of (L := [some (.ref 0), none]) rfl (Nat.le_of_ble_eq_true rfl) rfl ?_
  obtain ⟨f0, f1, f2, f3, f4, g4⟩ := h4
  refine ax_aload_n (pc := 0) dX4_doAgain_0 rfl ?_
  refine ax_getf (pc := 1) fX4_28 dX4_doAgain_1 (by first | exact h0 | exact g4 | exact h3 | exact (mh_up_n (by decide)).trans h3) rfl ?_
  refine ax_eVv0 (pc := 4) vX4_304 dX4_doAgain_4 (by decide) (by first | exact h0 | exact g4 | exact h3 | exact (mh_up_n (by decide)).trans h3) (Nat.le_of_ble_eq_true rfl) (c_X3_start _ _ 4 _ _ _ _ _ g4) ?_
  refine ax_aload_n (pc := 7) dX4_doAgain_7 rfl ?_
  refine ax_getf (pc := 8) fX4_21 dX4_doAgain_8 (by first | exact h0 | exact g4 | exact h3 | exact (mh_up_n (by decide)).trans h3) rfl ?_
  refine ax_iconst (pc := 11) (v := 0) dX4_doAgain_11 (by decide) ?_
  refine ax_puti4 (pc := 12) gX4_256 dX4_doAgain_12 (by first | exact h0 | exact g4 | exact h3 | exact (mh_up_n (by decide)).trans h3) ?_
  refine ax_iconst (pc := 15) (v := 0) dX4_doAgain_15 (by decide) ?_
  refine ax_istore1 (pc := 16) dX4_doAgain_16 rfl (by decide) ?_
  have e0 : rp D (ds.take 0) = ((0, 2, 0, false, 0), 0) := by
    show rp_0 D = _
    unfold rp_0
    rw [if_neg (by have := hD0.1; omega)]
  refine At.hp (h' := wdH h D (rp D (ds.take 0))) (by rw [e0]; exact mh_up_cm (by decide)) ?_
  exact l_X4_doAgain dom h D ds f g ask fin up lo h0 hA e1 e2 e3 e4 hD0 hl hd ds.length 0 (by omega)
theorem dOK_0 {n b : Nat} : dOK n (0, b) := ⟨Nat.zero_le _, fun z => absurd z (by decide : ¬ (0 : Nat) = 2), fun z => absurd z (by decide : ¬ (0 : Nat) = 3)⟩
theorem dOK_1 {n b : Nat} : dOK n (1, b) := ⟨(by decide : 1 ≤ 3), fun z => absurd z (by decide : ¬ (1 : Nat) = 2), fun z => absurd z (by decide : ¬ (1 : Nat) = 3)⟩
theorem dOK_2 {n b : Nat} (h : b ≤ 4) : dOK n (2, b) := ⟨(by decide : 2 ≤ 3), fun _ => h, fun z => absurd z (by decide : ¬ (2 : Nat) = 3)⟩
theorem dOK_3 {n b : Nat} (h : b < n) : dOK n (3, b) := ⟨(by decide : 3 ≤ 3), fun z => absurd z (by decide : ¬ (3 : Nat) = 2), fun _ => h⟩
def sp_do (s : sg) (q b : Nat) : sg := u_leat s (s_D s) (s_ds s ++ [(q, b)]) (s_kp s)
def sp_an (s : sg) (q b : Nat) : Int32 := nI (rp_an (s_D s) (rp (s_D s) (s_ds s)) (q, b))
def sp_step (s : sg) : Int32 × sg := if (s_D s).1 = 0 then (-4, s) else if (s_ds s).length = 40 then (-2, s) else (sp_an s 0 0, u_ask (sp_do s 0 0) (nI (s_w (sp_do s 0 0)).1))
def sp_hatch (s : sg) (t : Int32) : Int32 × sg := if ¬ (0 ≤ t ∧ t ≤ 4) then (-1, s) else if (s_D s).1 = 0 ∨ nI (s_w s).2.1 = t then (-4, s) else if (s_ds s).length = 40 then (-2, s) else (sp_an s 2 t.toNatClampNeg, sp_do s 2 t.toNatClampNeg)
def sp_rake (s : sg) : Int32 × sg := if (s_D s).1 = 0 ∨ nI (s_w s).2.2.1 = 0 then (-4, s) else if (s_ds s).length = 40 then (-2, s) else (sp_an s 1 0, sp_do s 1 0)
def sp_fish (s : sg) (k : Int32) : Int32 × sg := if ¬ isD s k then (-1, s) else if (s_fi s).testBit k.toNatClampNeg = true then (-4, s) else if (s_ds s).length = 40 then (-2, s) else (sp_an s 3 k.toNatClampNeg, sp_do s 3 k.toNatClampNeg)
def sp_undo (s : sg) (n : Int32) : Int32 × sg := if ¬ (0 ≤ n ∧ n ≤ nI (s_ds s).length) then (-1, s) else (nI ((s_ds s).length - n.toNatClampNeg), u_leat s (s_D s) ((s_ds s).take n.toNatClampNeg) (s_kp s))
def sp_keep (s : sg) (k : Int32) : Int32 × sg := if ¬ (0 ≤ k ∧ k ≤ 2) then (-1, s) else if (s_D s).1 = 0 then (-4, s) else (nI (s_ds s).length, u_leat s (s_D s) (s_ds s) (va_fn (s_kp s) k.toNatClampNeg (some (s_ds s))))
def sp_on (s : sg) (k : Int32) : Int32 × sg := if ¬ (0 ≤ k ∧ k ≤ 2) then (-1, s) else match s_kp s k.toNatClampNeg with
  | none => (-3, u_fnd s 1)
  | some ds => (nI ds.length, u_leat s (s_D s) ds (s_kp s))
theorem IV.do {s : sg} {q b : Nat} (hv : IV s) (h0 : (s_D s).1 ≠ 0) (hl : (s_ds s).length < 40) (hd : dOK (s_D s).1 (q, b)) : IV (sp_do s q b) := by
  obtain ⟨v1, v2, v3, v4, v5⟩ := hv
  refine ⟨v1, v2, v3, ⟨?_, fun d hdd => ?_, fun z => absurd z h0⟩, v5⟩
  · show (s_ds s ++ [(q, b)]).length ≤ 40
    rw [List.length_append]
    show (s_ds s).length + 1 ≤ 40
    omega
  · rcases List.mem_append.mp hdd with h | h
    · exact v4.2.1 d h
    · rw [List.mem_singleton.mp h]
      exact hd
theorem IV.ask {s : sg} {v : Int32} (hv : IV s) : IV (u_ask s v) := hv
theorem IV.fnd {s : sg} {f : Nat} (hv : IV s) : IV (u_fnd s f) := hv
theorem IV.tell {s : sg} {a b : Int64} (hv : IV s) : IV (u_tell s a b) := hv
theorem CP_kp {s : sg} {h h' : mh_H} {k : Nat} (hk : k < 3) (c : CP s h) (he : ∀ j, j ≠ 60 + k ∧ j ≠ 64 + k ∧ j ≠ 68 + k → h' j = h j) (hq : ∃ f g, h' (60 + k) = mh_ob 1 [.ref (64 + k), .ref (68 + k), .int (nI (s_ds s).length)] ∧ h' (64 + k) = mh_ia 0 40 f ∧ h' (68 + k) = mh_ia 0 40 g ∧ dsR (s_ds s) f g) : CP (u_leat s (s_D s) (s_ds s) (va_fn (s_kp s) k (some (s_ds s)))) h' := by
  obtain ⟨c1, c2, c3, c4, c5, c6, c7, c8, c9⟩ := c
  refine ⟨gS_k (fun k hk => he k (by omega)) c1, gC_k (fun k hk => he k (by omega)) c2, gR_k (fun k hk => he k (by omega)) c3, gT_k (fun k hk => he k (by omega)) c4, dyP_k (fun k hk => he k (by omega)) c5, (he 4 (by omega)).trans c6, gE_k (fun k hk => he k (by omega)) c7, fun j hj => ?_, gX_k (fun k hk => he k (by omega)) c9⟩
  by_cases hjk : j = k
  · subst hjk
    obtain ⟨f, g, q1, q2, q3, q4⟩ := hq
    refine ⟨f, g, q1.trans ?_, q2, q3, fun ds hds => ?_⟩
    · show _ = mh_ob 1 [_, _, .int (kz (va_fn (s_kp s) j (some (s_ds s)) j))]
      rw [va_fn_s]
      rfl
    · have hds : va_fn (s_kp s) j (some (s_ds s)) j = some ds := hds
      rw [va_fn_s] at hds
      cases hds
      exact q4
  · obtain ⟨f, g, q1, q2, q3, q4⟩ := c8 j hj
    refine ⟨f, g, (he _ (by omega)).trans (q1.trans ?_), (he _ (by omega)).trans q2, (he _ (by omega)).trans q3, fun ds hds => ?_⟩
    · show _ = mh_ob 1 [_, _, .int (kz (va_fn (s_kp s) k (some (s_ds s)) j))]
      rw [va_fn_n hjk]
    · have hds : va_fn (s_kp s) k (some (s_ds s)) j = some ds := hds
      rw [va_fn_n hjk] at hds
      exact q4 ds hds
set_option maxHeartbeats 4000000 in
set_option maxRecDepth 100000 in
theorem c_X4_step (dom : List Nat) (h : mh_H) (s : sg) (hc : CP s h) (hv : IV s) : Mt mX4_step dom 5 [.ref 0] h (mx_Ri (fun v' h' => v' = (sp_step s).1 ∧ CP (sp_step s).2 h')) := by
  refine Mt.of (L := [some (.ref 0), none]) rfl (Nat.le_of_ble_eq_true rfl) rfl ?_
  obtain ⟨c1, c2, c3, c4, c5, c6, c7, c8, c9⟩ := id hc
  obtain ⟨f, g, e1, e2, e3, e4⟩ := id c7
  have hl40 := hv.2.2.2.1.1
  refine ax_aload_n (pc := 0) dX4_step_0 rfl ?_
  refine ax_eVi0 (pc := 1) vX4_154 dX4_step_1 (by decide) (by first | exact c1.1 | exact e1 | exact hq.1.1 | exact hq.2.2.2.2.2.1) (Nat.le_of_ble_eq_true rfl) (c_X4_noDays _ _ s hc hv) ?_
  refine ax_ifeqB (pc := 4) (tgt := 10) dX4_step_4 (by decide) (fun c4a => ?_) (fun c4a => ?_)
  · refine ax_aload_n (pc := 10) dX4_step_10 rfl ?_
    refine ax_getf (pc := 11) fX4_35 dX4_step_11 (by first | exact c1.1 | exact e1 | exact hq.1.1 | exact hq.2.2.2.2.2.1) rfl ?_
    refine ax_eVi0 (pc := 14) vX4_157 dX4_step_14 (by decide) (by first | exact c1.1 | exact e1 | exact hq.1.1 | exact hq.2.2.2.2.2.1) (Nat.le_of_ble_eq_true rfl) (c_X1_isFull _ _ 5 17 18 _ e1 hv.2.2.2.1.1) ?_
    refine ax_ifeqB (pc := 17) (tgt := 23) dX4_step_17 (by decide) (fun c17 => ?_) (fun c17 => ?_)
    · have h0 : (s_D s).1 ≠ 0 := c4a
      refine ax_aload_n (pc := 23) dX4_step_23 rfl ?_
      refine ax_iconst (pc := 24) (v := 0) dX4_step_24 (by decide) ?_
      refine ax_iconst (pc := 25) (v := 0) dX4_step_25 (by decide) ?_
      refine ax_cVi2 (pc := 26) vX4_160 dX4_step_26 (by decide) (by first | exact c1.1 | exact e1 | exact hq.1.1 | exact hq.2.2.2.2.2.1) (Nat.le_of_ble_eq_true rfl) (c_X4_doDeed _ _ s hc hv h0 (by omega) 0 0 dOK_0) (fun v1 h1 hq => ?_)
      obtain ⟨rfl, hq⟩ := hq
      refine ax_istore1 (pc := 29) dX4_step_29 rfl (by decide) ?_
      refine ax_aload_n (pc := 30) dX4_step_30 rfl ?_
      refine ax_aload_n (pc := 31) dX4_step_31 rfl ?_
      refine ax_getf (pc := 32) fX4_28 dX4_step_32 (by first | exact c1.1 | exact e1 | exact hq.1.1 | exact hq.2.2.2.2.2.1) rfl ?_
      refine ax_getf (pc := 35) fX4_163 dX4_step_35 (by first | exact c1.1 | exact e1 | exact hq.1.1 | exact hq.2.2.2.2.2.1) rfl ?_
      refine ax_puti9 (pc := 38) gX4_53 dX4_step_38 (by first | exact c1.1 | exact e1 | exact hq.1.1 | exact hq.2.2.2.2.2.1) ?_
      refine ax_iload_n (pc := 41) dX4_step_41 rfl ?_
      refine ax_iret (pc := 42) dX4_step_42 rfl ?_
      exact fin_i (by unfold sp_step; rw [if_neg c4a, if_neg c17]; rfl) (CP_ask hq)
    · refine ax_bipush (pc := 20) (v := -2) dX4_step_20 (by decide) ?_
      refine ax_iret (pc := 22) dX4_step_22 rfl ?_
      exact fin_i (by unfold sp_step; rw [if_neg c4a, if_pos c17]) hc
  · refine ax_bipush (pc := 7) (v := -4) dX4_step_7 (by decide) ?_
    refine ax_iret (pc := 9) dX4_step_9 rfl ?_
    exact fin_i (by unfold sp_step; exact if_pos c4a) hc
set_option maxHeartbeats 4000000 in
set_option maxRecDepth 100000 in
theorem c_X4_hatch (dom : List Nat) (h : mh_H) (s : sg) (t : Int32) (hc : CP s h) (hv : IV s) : Mt mX4_hatch dom 5 [.ref 0, .int t] h (mx_Ri (fun v' h' => v' = (sp_hatch s t).1 ∧ CP (sp_hatch s t).2 h')) := by
  refine Mt.of (L := [some (.ref 0), some (.int t)]) rfl (Nat.le_of_ble_eq_true rfl) rfl ?_
  obtain ⟨c1, c2, c3, c4, c5, c6, c7, c8, c9⟩ := id hc
  obtain ⟨f, g, e1, e2, e3, e4⟩ := id c7
  have hl40 := hv.2.2.2.1.1
  refine ax_iload_n (pc := 0) dX4_hatch_0 rfl ?_
  refine ax_iconst (pc := 1) (v := 0) dX4_hatch_1 (by decide) ?_
  refine ax_iconst (pc := 2) (v := 4) dX4_hatch_2 (by decide) ?_
  refine ax_eSi3 (pc := 3) sX4_133 dX4_hatch_3 (by decide) (Nat.le_of_ble_eq_true rfl) (c_X4_within _ _ _ _ _) ?_
  refine ax_ifneB (pc := 6) (tgt := 11) dX4_hatch_6 (by decide) (fun c6a => ?_) (fun c6a => ?_)
  · refine ax_aload_n (pc := 11) dX4_hatch_11 rfl ?_
    refine ax_eVi0 (pc := 12) vX4_154 dX4_hatch_12 (by decide) (by first | exact c1.1 | exact e1 | exact c6 | exact c5.1 | exact c2.2.2.1) (Nat.le_of_ble_eq_true rfl) (c_X4_noDays _ _ s hc hv) ?_
    refine ax_ifneB (pc := 15) (tgt := 29) dX4_hatch_15 (by decide) (fun c15 => ?_) (fun c15 => ?_)
    · refine ax_bipush (pc := 29) (v := -4) dX4_hatch_29 (by decide) ?_
      refine ax_iret (pc := 31) dX4_hatch_31 rfl ?_
      exact fin_i (by unfold sp_hatch; rw [if_neg (not_not_intro c6a)]; first | exact if_pos (Or.inl c15) | exact if_pos (Or.inr c26)) hc
    · refine ax_aload_n (pc := 18) dX4_hatch_18 rfl ?_
      refine ax_getf (pc := 19) fX4_28 dX4_hatch_19 (by first | exact c1.1 | exact e1 | exact c6 | exact c5.1 | exact c2.2.2.1) rfl ?_
      refine ax_getf (pc := 22) fX4_166 dX4_hatch_22 (by first | exact c1.1 | exact e1 | exact c6 | exact c5.1 | exact c2.2.2.1) rfl ?_
      refine ax_iload_n (pc := 25) dX4_hatch_25 rfl ?_
      refine ax_icmpne (pc := 26) (tgt := 32) dX4_hatch_26 (by decide) (fun c26 => ?_) (fun c26 => ?_)
      · refine ax_aload_n (pc := 32) dX4_hatch_32 rfl ?_
        refine ax_getf (pc := 33) fX4_35 dX4_hatch_33 (by first | exact c1.1 | exact e1 | exact c6 | exact c5.1 | exact c2.2.2.1) rfl ?_
        refine ax_eVi0 (pc := 36) vX4_157 dX4_hatch_36 (by decide) (by first | exact c1.1 | exact e1 | exact c6 | exact c5.1 | exact c2.2.2.1) (Nat.le_of_ble_eq_true rfl) (c_X1_isFull _ _ 5 17 18 _ e1 hv.2.2.2.1.1) ?_
        refine ax_ifeqB (pc := 39) (tgt := 47) dX4_hatch_39 (by decide) (fun c39 => ?_) (fun c39 => ?_)
        · have h0 : (s_D s).1 ≠ 0 := c15
          obtain ⟨t2, ht2, rfl⟩ := nI_of2 (n := 4) (M := 4) rfl (Int32.not_lt.mpr c6a.1) c6a.2
          refine ax_aload_n (pc := 47) dX4_hatch_47 rfl ?_
          refine ax_iconst (pc := 48) (v := 2) dX4_hatch_48 (by decide) ?_
          refine ax_iload_n (pc := 49) dX4_hatch_49 rfl ?_
          refine ax_cVi2 (pc := 50) vX4_160 dX4_hatch_50 (by decide) (by first | exact c1.1 | exact e1 | exact c6 | exact c5.1 | exact c2.2.2.1) (Nat.le_of_ble_eq_true rfl) (c_X4_doDeed _ _ s hc hv h0 (by omega) 2 t2 (dOK_2 ht2)) (fun v1 h1 hq => ?_)
          obtain ⟨rfl, hq⟩ := hq
          by_cases h40 : (s_ds s).length = 40
          · refine ax_iret (pc := 53) dX4_hatch_53 rfl ?_
            first | exact absurd h40 c39 | exact fin_i (by unfold sp_hatch; rw [if_neg (not_not_intro c6a), if_neg (by rintro (q | q); exact c15 q; exact c26 q), if_pos h40]) hc
          · refine ax_iret (pc := 53) dX4_hatch_53 rfl ?_
            first | exact absurd c39 h40 | exact fin_i (by unfold sp_hatch; rw [if_neg (not_not_intro c6a), if_neg (by rintro (q | q); exact c15 q; exact c26 q), if_neg h40, ni_cl (by omega)]; rfl) hq
        · refine ax_bipush (pc := 42) (v := -2) dX4_hatch_42 (by decide) ?_
          refine ax_goto (pc := 44) (tgt := 53) dX4_hatch_44 (by decide) ?_
          by_cases h40 : (s_ds s).length = 40
          · refine ax_iret (pc := 53) dX4_hatch_53 rfl ?_
            first | exact absurd h40 c39 | exact fin_i (by unfold sp_hatch; rw [if_neg (not_not_intro c6a), if_neg (by rintro (q | q); exact c15 q; exact c26 q), if_pos h40]) hc
          · refine ax_iret (pc := 53) dX4_hatch_53 rfl ?_
            first | exact absurd c39 h40 | exact fin_i (by unfold sp_hatch; rw [if_neg (not_not_intro c6a), if_neg (by rintro (q | q); exact c15 q; exact c26 q), if_neg h40, ni_cl (by omega)]; rfl) hq
      · refine ax_bipush (pc := 29) (v := -4) dX4_hatch_29 (by decide) ?_
        refine ax_iret (pc := 31) dX4_hatch_31 rfl ?_
        exact fin_i (by unfold sp_hatch; rw [if_neg (not_not_intro c6a)]; first | exact if_pos (Or.inl c15) | exact if_pos (Or.inr c26)) hc
  · refine ax_iconst (pc := 9) (v := -1) dX4_hatch_9 (by decide) ?_
    refine ax_iret (pc := 10) dX4_hatch_10 rfl ?_
    exact fin_i (by unfold sp_hatch; exact if_pos c6a) hc
set_option maxHeartbeats 4000000 in
set_option maxRecDepth 100000 in
theorem c_X4_rake (dom : List Nat) (h : mh_H) (s : sg) (hc : CP s h) (hv : IV s) : Mt mX4_rake dom 5 [.ref 0] h (mx_Ri (fun v' h' => v' = (sp_rake s).1 ∧ CP (sp_rake s).2 h')) := by
  refine Mt.of (L := [some (.ref 0)]) rfl (Nat.le_of_ble_eq_true rfl) rfl ?_
  obtain ⟨c1, c2, c3, c4, c5, c6, c7, c8, c9⟩ := id hc
  obtain ⟨f, g, e1, e2, e3, e4⟩ := id c7
  have hl40 := hv.2.2.2.1.1
  refine ax_aload_n (pc := 0) dX4_rake_0 rfl ?_
  refine ax_eVi0 (pc := 1) vX4_154 dX4_rake_1 (by decide) (by first | exact c1.1 | exact e1 | exact c6 | exact c5.1 | exact c2.2.2.1) (Nat.le_of_ble_eq_true rfl) (c_X4_noDays _ _ s hc hv) ?_
  refine ax_ifneB (pc := 4) (tgt := 17) dX4_rake_4 (by decide) (fun c4a => ?_) (fun c4a => ?_)
  · refine ax_bipush (pc := 17) (v := -4) dX4_rake_17 (by decide) ?_
    refine ax_iret (pc := 19) dX4_rake_19 rfl ?_
    exact fin_i (by unfold sp_rake; first | exact if_pos (Or.inl c4a) | exact if_pos (Or.inr c14)) hc
  · refine ax_aload_n (pc := 7) dX4_rake_7 rfl ?_
    refine ax_getf (pc := 8) fX4_28 dX4_rake_8 (by first | exact c1.1 | exact e1 | exact c6 | exact c5.1 | exact c2.2.2.1) rfl ?_
    refine ax_getf (pc := 11) fX4_169 dX4_rake_11 (by first | exact c1.1 | exact e1 | exact c6 | exact c5.1 | exact c2.2.2.1) rfl ?_
    refine ax_ifne (pc := 14) (tgt := 20) dX4_rake_14 (by decide) (fun c14 => ?_) (fun c14 => ?_)
    · refine ax_aload_n (pc := 20) dX4_rake_20 rfl ?_
      refine ax_getf (pc := 21) fX4_35 dX4_rake_21 (by first | exact c1.1 | exact e1 | exact c6 | exact c5.1 | exact c2.2.2.1) rfl ?_
      refine ax_eVi0 (pc := 24) vX4_157 dX4_rake_24 (by decide) (by first | exact c1.1 | exact e1 | exact c6 | exact c5.1 | exact c2.2.2.1) (Nat.le_of_ble_eq_true rfl) (c_X1_isFull _ _ 5 17 18 _ e1 hv.2.2.2.1.1) ?_
      refine ax_ifeqB (pc := 27) (tgt := 35) dX4_rake_27 (by decide) (fun c27 => ?_) (fun c27 => ?_)
      · have h0 : (s_D s).1 ≠ 0 := c4a
        refine ax_aload_n (pc := 35) dX4_rake_35 rfl ?_
        refine ax_iconst (pc := 36) (v := 1) dX4_rake_36 (by decide) ?_
        refine ax_iconst (pc := 37) (v := 0) dX4_rake_37 (by decide) ?_
        refine ax_cVi2 (pc := 38) vX4_160 dX4_rake_38 (by decide) (by first | exact c1.1 | exact e1 | exact c6 | exact c5.1 | exact c2.2.2.1) (Nat.le_of_ble_eq_true rfl) (c_X4_doDeed _ _ s hc hv h0 (by omega) 1 0 dOK_1) (fun v1 h1 hq => ?_)
        obtain ⟨rfl, hq⟩ := hq
        by_cases h40 : (s_ds s).length = 40
        · refine ax_iret (pc := 41) dX4_rake_41 rfl ?_
          first | exact absurd h40 c27 | exact fin_i (by unfold sp_rake; rw [if_neg (by rintro (q | q); exact c4a q; exact c14 q), if_pos h40]) hc
        · refine ax_iret (pc := 41) dX4_rake_41 rfl ?_
          first | exact absurd c27 h40 | exact fin_i (by unfold sp_rake; rw [if_neg (by rintro (q | q); exact c4a q; exact c14 q), if_neg h40]; rfl) hq
      · refine ax_bipush (pc := 30) (v := -2) dX4_rake_30 (by decide) ?_
        refine ax_goto (pc := 32) (tgt := 41) dX4_rake_32 (by decide) ?_
        by_cases h40 : (s_ds s).length = 40
        · refine ax_iret (pc := 41) dX4_rake_41 rfl ?_
          first | exact absurd h40 c27 | exact fin_i (by unfold sp_rake; rw [if_neg (by rintro (q | q); exact c4a q; exact c14 q), if_pos h40]) hc
        · refine ax_iret (pc := 41) dX4_rake_41 rfl ?_
          first | exact absurd c27 h40 | exact fin_i (by unfold sp_rake; rw [if_neg (by rintro (q | q); exact c4a q; exact c14 q), if_neg h40]; rfl) hq
    · refine ax_bipush (pc := 17) (v := -4) dX4_rake_17 (by decide) ?_
      refine ax_iret (pc := 19) dX4_rake_19 rfl ?_
      exact fin_i (by unfold sp_rake; first | exact if_pos (Or.inl c4a) | exact if_pos (Or.inr c14)) hc
set_option maxHeartbeats 4000000 in
set_option maxRecDepth 100000 in
theorem c_X4_fish (dom : List Nat) (h : mh_H) (s : sg) (k : Int32) (hc : CP s h) (hv : IV s) : Mt mX4_fish dom 5 [.ref 0, .int k] h (mx_Ri (fun v' h' => v' = (sp_fish s k).1 ∧ CP (sp_fish s k).2 h')) := by
  refine Mt.of (L := [some (.ref 0), some (.int k)]) rfl (Nat.le_of_ble_eq_true rfl) rfl ?_
  obtain ⟨c1, c2, c3, c4, c5, c6, c7, c8, c9⟩ := id hc
  obtain ⟨f, g, e1, e2, e3, e4⟩ := id c7
  have hl40 := hv.2.2.2.1.1
  refine ax_aload_n (pc := 0) dX4_fish_0 rfl ?_
  refine ax_iload_n (pc := 1) dX4_fish_1 rfl ?_
  refine ax_eVi1 (pc := 2) vX4_130 dX4_fish_2 (by decide) (by first | exact c1.1 | exact e1 | exact c6 | exact c5.1 | exact c2.2.2.1) (Nat.le_of_ble_eq_true rfl) (c_X4_isDay _ _ s _ hc) ?_
  refine ax_ifneB (pc := 5) (tgt := 10) dX4_fish_5 (by decide) (fun c5a => ?_) (fun c5a => ?_)
  · obtain ⟨j, hj, rfl, h9, hD0, hW0, hfi⟩ := hv.d c5a
    have h0 : (s_D s).1 ≠ 0 := by omega
    refine ax_aload_n (pc := 10) dX4_fish_10 rfl ?_
    refine ax_getf (pc := 11) fX4_21 dX4_fish_11 (by first | exact c1.1 | exact e1 | exact c6 | exact c5.1 | exact c2.2.2.1) rfl ?_
    refine ax_iload_n (pc := 14) dX4_fish_14 rfl ?_
    refine ax_eVi1 (pc := 15) vX4_172 dX4_fish_15 (by decide) (by first | exact c1.1 | exact e1 | exact c6 | exact c5.1 | exact c2.2.2.1) (Nat.le_of_ble_eq_true rfl) (c_X0_wasFished _ _ (s_D s) (s_fi s) 3 11 12 13 c5 j h9 hfi) ?_
    refine ax_ifeqB (pc := 18) (tgt := 24) dX4_fish_18 (by decide) (fun c18 => ?_) (fun c18 => ?_)
    · refine ax_aload_n (pc := 24) dX4_fish_24 rfl ?_
      refine ax_getf (pc := 25) fX4_35 dX4_fish_25 (by first | exact c1.1 | exact e1 | exact c6 | exact c5.1 | exact c2.2.2.1) rfl ?_
      refine ax_eVi0 (pc := 28) vX4_157 dX4_fish_28 (by decide) (by first | exact c1.1 | exact e1 | exact c6 | exact c5.1 | exact c2.2.2.1) (Nat.le_of_ble_eq_true rfl) (c_X1_isFull _ _ 5 17 18 _ e1 hv.2.2.2.1.1) ?_
      refine ax_ifeqB (pc := 31) (tgt := 39) dX4_fish_31 (by decide) (fun c31 => ?_) (fun c31 => ?_)
      · refine ax_aload_n (pc := 39) dX4_fish_39 rfl ?_
        refine ax_iconst (pc := 40) (v := 3) dX4_fish_40 (by decide) ?_
        refine ax_iload_n (pc := 41) dX4_fish_41 rfl ?_
        refine ax_cVi2 (pc := 42) vX4_160 dX4_fish_42 (by decide) (by first | exact c1.1 | exact e1 | exact c6 | exact c5.1 | exact c2.2.2.1) (Nat.le_of_ble_eq_true rfl) (c_X4_doDeed _ _ s hc hv h0 (by omega) 3 j (dOK_3 hj)) (fun v1 h1 hq => ?_)
        obtain ⟨rfl, hq⟩ := hq
        by_cases h40 : (s_ds s).length = 40
        · refine ax_iret (pc := 45) dX4_fish_45 rfl ?_
          first | exact absurd h40 c31 | exact fin_i (by unfold sp_fish; rw [if_neg (not_not_intro c5a), ni_cl (by omega), if_neg c18, if_pos h40]) hc
        · refine ax_iret (pc := 45) dX4_fish_45 rfl ?_
          first | exact absurd c31 h40 | exact fin_i (by unfold sp_fish; rw [if_neg (not_not_intro c5a), ni_cl (by omega), if_neg c18, if_neg h40]; rfl) hq
      · refine ax_bipush (pc := 34) (v := -2) dX4_fish_34 (by decide) ?_
        refine ax_goto (pc := 36) (tgt := 45) dX4_fish_36 (by decide) ?_
        by_cases h40 : (s_ds s).length = 40
        · refine ax_iret (pc := 45) dX4_fish_45 rfl ?_
          first | exact absurd h40 c31 | exact fin_i (by unfold sp_fish; rw [if_neg (not_not_intro c5a), ni_cl (by omega), if_neg c18, if_pos h40]) hc
        · refine ax_iret (pc := 45) dX4_fish_45 rfl ?_
          first | exact absurd c31 h40 | exact fin_i (by unfold sp_fish; rw [if_neg (not_not_intro c5a), ni_cl (by omega), if_neg c18, if_neg h40]; rfl) hq
    · refine ax_bipush (pc := 21) (v := -4) dX4_fish_21 (by decide) ?_
      refine ax_iret (pc := 23) dX4_fish_23 rfl ?_
      exact fin_i (by unfold sp_fish; rw [if_neg (not_not_intro c5a), ni_cl (by omega), if_pos c18]) hc
  · refine ax_iconst (pc := 8) (v := -1) dX4_fish_8 (by decide) ?_
    refine ax_iret (pc := 9) dX4_fish_9 rfl ?_
    exact fin_i (by unfold sp_fish; exact if_pos c5a) hc
set_option maxHeartbeats 4000000 in
set_option maxRecDepth 100000 in
theorem c_X4_undo (dom : List Nat) (h : mh_H) (s : sg) (n : Int32) (hc : CP s h) (hv : IV s) : Mt mX4_undo dom 5 [.ref 0, .int n] h (mx_Ri (fun v' h' => v' = (sp_undo s n).1 ∧ CP (sp_undo s n).2 h')) := by
  refine Mt.of (L := [some (.ref 0), some (.int n), none]) rfl (Nat.le_of_ble_eq_true rfl) rfl ?_
  obtain ⟨c1, c2, c3, c4, c5, c6, c7, c8, c9⟩ := id hc
  obtain ⟨f, g, e1, e2, e3, e4⟩ := id c7
  have hl40 := hv.2.2.2.1.1
  refine ax_iload_n (pc := 0) dX4_undo_0 rfl ?_
  refine ax_iconst (pc := 1) (v := 0) dX4_undo_1 (by decide) ?_
  refine ax_aload_n (pc := 2) dX4_undo_2 rfl ?_
  refine ax_getf (pc := 3) fX4_35 dX4_undo_3 (by first | exact c1.1 | exact e1 | exact c6 | exact c5.1 | exact c2.2.2.1) rfl ?_
  refine ax_getf (pc := 6) fX4_72 dX4_undo_6 (by first | exact c1.1 | exact e1 | exact c6 | exact c5.1 | exact c2.2.2.1) rfl ?_
  refine ax_eSi3 (pc := 9) sX4_133 dX4_undo_9 (by decide) (Nat.le_of_ble_eq_true rfl) (c_X4_within _ _ _ _ _) ?_
  refine ax_ifneB (pc := 12) (tgt := 17) dX4_undo_12 (by decide) (fun c12 => ?_) (fun c12 => ?_)
  · obtain ⟨m, hm, rfl⟩ := nI_of2 (n := (s_ds s).length) (nI_toInt (by omega)) (Int32.not_lt.mpr c12.1) c12.2
    refine ax_aload_n (pc := 17) dX4_undo_17 rfl ?_
    refine ax_getf (pc := 18) fX4_35 dX4_undo_18 (by first | exact c1.1 | exact e1 | exact c6 | exact c5.1 | exact c2.2.2.1) rfl ?_
    refine ax_getf (pc := 21) fX4_72 dX4_undo_21 (by first | exact c1.1 | exact e1 | exact c6 | exact c5.1 | exact c2.2.2.1) rfl ?_
    refine ax_iload_n (pc := 24) dX4_undo_24 rfl ?_
    refine ax_isub (pc := 25) dX4_undo_25 ?_
    rw [nI_s hm]
    refine ax_istore2 (pc := 26) dX4_undo_26 rfl (by decide) ?_
    refine ax_iload_n (pc := 27) dX4_undo_27 rfl ?_
    refine ax_ifle (pc := 28) (tgt := 43) dX4_undo_28 (by decide) (fun c28 => ?_) (fun c28 => ?_)
    · refine ax_iload_n (pc := 43) dX4_undo_43 rfl ?_
      refine ax_iret (pc := 44) dX4_undo_44 rfl ?_
      refine fin_i (by unfold sp_undo; rw [if_neg (not_not_intro c12), ni_cl (by omega)]) ?_
      first | (rw [n_0, nI_leI (by omega) (by decide)] at c28; rw [List.take_of_length_le (by omega)]; exact hc) | exact CP_new hc (fun k hk => (wdH_n ⟨hk.1, hk.2.1⟩).trans (mh_up_n hk.2.2.1)) (wdH_P ⟨c5.2.1, c5.2.2.1, c5.2.2.2⟩) rfl ⟨f, g, by rw [List.length_take, Nat.min_eq_left (by omega)]; rfl, e2, e3, dsR_take e4⟩
    · rw [n_0, nI_leI (by omega) (by decide)] at c28
      have h0 : (s_D s).1 ≠ 0 := fun z => by have := hv.2.2.2.1.2.2 z; rw [this] at hm c28; exact c28 (Nat.zero_sub _ ▸ Nat.le_refl _)
      obtain ⟨hD0, hW0, hfi⟩ := hv.w h0
      refine ax_aload_n (pc := 31) dX4_undo_31 rfl ?_
      refine ax_getf (pc := 32) fX4_35 dX4_undo_32 (by first | exact c1.1 | exact e1 | exact c6 | exact c5.1 | exact c2.2.2.1) rfl ?_
      refine ax_iload_n (pc := 35) dX4_undo_35 rfl ?_
      refine ax_puti2 (pc := 36) gX4_72 dX4_undo_36 (by first | exact c1.1 | exact e1 | exact c6 | exact c5.1 | exact c2.2.2.1) ?_
      refine ax_aload_n (pc := 39) dX4_undo_39 rfl ?_
      refine ax_eVv0 (pc := 40) vX4_126 dX4_undo_40 (by decide) (by first | exact c1.1 | exact e1 | exact c6 | exact c5.1 | exact c2.2.2.1) (Nat.le_of_ble_eq_true rfl) (c_X4_doAgain _ _ (s_D s) ((s_ds s).take m) f g (s_ask s) (s_fin s) (s_up s) (s_lo s) (by exact c1.1) (by exact ⟨c5.2.1, c5.2.2.1, c5.2.2.2⟩) (by rw [List.length_take, Nat.min_eq_left (by omega)]; rfl) (by exact e2) (by exact e3) (dsR_take e4) hD0 (by rw [List.length_take]; omega) (fun d hd => hv.2.2.2.1.2.1 d (List.mem_of_mem_take hd)) _ (by exact c5.1) (by exact wc_V c6)) ?_
      refine ax_iload_n (pc := 43) dX4_undo_43 rfl ?_
      refine ax_iret (pc := 44) dX4_undo_44 rfl ?_
      refine fin_i (by unfold sp_undo; rw [if_neg (not_not_intro c12), ni_cl (by omega)]) ?_
      first | (rw [n_0, nI_leI (by omega) (by decide)] at c28; rw [List.take_of_length_le (by omega)]; exact hc) | exact CP_new hc (fun k hk => (wdH_n ⟨hk.1, hk.2.1⟩).trans (mh_up_n hk.2.2.1)) (wdH_P ⟨c5.2.1, c5.2.2.1, c5.2.2.2⟩) rfl ⟨f, g, by rw [List.length_take, Nat.min_eq_left (by omega)]; rfl, e2, e3, dsR_take e4⟩
  · refine ax_iconst (pc := 15) (v := -1) dX4_undo_15 (by decide) ?_
    refine ax_iret (pc := 16) dX4_undo_16 rfl ?_
    exact fin_i (by unfold sp_undo; exact if_pos c12) hc
set_option maxHeartbeats 4000000 in
set_option maxRecDepth 100000 in
theorem c_X4_keep (dom : List Nat) (h : mh_H) (s : sg) (k : Int32) (hc : CP s h) (hv : IV s) : Mt mX4_keep dom 2 [.ref 0, .int k] h (mx_Ri (fun v' h' => v' = (sp_keep s k).1 ∧ CP (sp_keep s k).2 h')) := by
  refine Mt.of (L := [some (.ref 0), some (.int k)]) rfl (Nat.le_of_ble_eq_true rfl) rfl ?_
  obtain ⟨c1, c2, c3, c4, c5, c6, c7, c8, c9⟩ := id hc
  obtain ⟨f, g, e1, e2, e3, e4⟩ := id c7
  have hl40 := hv.2.2.2.1.1
  refine ax_iload_n (pc := 0) dX4_keep_0 rfl ?_
  refine ax_eSi1 (pc := 1) sX4_175 dX4_keep_1 (by decide) (Nat.le_of_ble_eq_true rfl) (c_X4_isPlace _ _ _) ?_
  refine ax_ifneB (pc := 4) (tgt := 9) dX4_keep_4 (by decide) (fun c4a => ?_) (fun c4a => ?_)
  · refine ax_aload_n (pc := 9) dX4_keep_9 rfl ?_
    refine ax_eVi0 (pc := 10) vX4_154 dX4_keep_10 (by decide) (by first | exact c1.1 | exact c2.2.2.1 | exact e1 | exact k1 | exact (mh_up_n (by omega)).trans ((mh_up_n (by omega)).trans ((mh_up_n (by omega)).trans c1.1)) | exact (mh_up_n (by omega)).trans ((mh_up_n (by omega)).trans ((mh_up_n (by omega)).trans e1))) (Nat.le_of_ble_eq_true rfl) (c_X4_noDays _ _ s hc hv) ?_
    refine ax_ifeqB (pc := 13) (tgt := 19) dX4_keep_13 (by decide) (fun c13 => ?_) (fun c13 => ?_)
    · obtain ⟨j, hj, rfl⟩ := ix_2 c4a
      obtain ⟨kf, kg, k1, k2, k3, k4⟩ := c8 j hj
      refine ax_aload_n (pc := 19) dX4_keep_19 rfl ?_
      refine ax_getf (pc := 20) fX4_39 dX4_keep_20 (by first | exact c1.1 | exact c2.2.2.1 | exact e1 | exact k1 | exact (mh_up_n (by omega)).trans ((mh_up_n (by omega)).trans ((mh_up_n (by omega)).trans c1.1)) | exact (mh_up_n (by omega)).trans ((mh_up_n (by omega)).trans ((mh_up_n (by omega)).trans e1))) rfl ?_
      refine ax_iload_n (pc := 23) dX4_keep_23 rfl ?_
      refine ax_aald (pc := 24) dX4_keep_24 (by first | exact c1.1 | exact c2.2.2.1 | exact e1 | exact k1 | exact (mh_up_n (by omega)).trans ((mh_up_n (by omega)).trans ((mh_up_n (by omega)).trans c1.1)) | exact (mh_up_n (by omega)).trans ((mh_up_n (by omega)).trans ((mh_up_n (by omega)).trans e1))) (by decide) (ni_in9 hj (by decide)) (by rw [ni_cl (by omega)]) ?_
      refine ax_aload_n (pc := 25) dX4_keep_25 rfl ?_
      refine ax_getf (pc := 26) fX4_35 dX4_keep_26 (by first | exact c1.1 | exact c2.2.2.1 | exact e1 | exact k1 | exact (mh_up_n (by omega)).trans ((mh_up_n (by omega)).trans ((mh_up_n (by omega)).trans c1.1)) | exact (mh_up_n (by omega)).trans ((mh_up_n (by omega)).trans ((mh_up_n (by omega)).trans e1))) rfl ?_
      refine ax_eVv1 (pc := 29) vX4_178 dX4_keep_29 (by decide) (by first | exact c1.1 | exact c2.2.2.1 | exact e1 | exact k1 | exact (mh_up_n (by omega)).trans ((mh_up_n (by omega)).trans ((mh_up_n (by omega)).trans c1.1)) | exact (mh_up_n (by omega)).trans ((mh_up_n (by omega)).trans ((mh_up_n (by omega)).trans e1))) (Nat.le_of_ble_eq_true rfl) (c_X1_copyOf _ _ (60 + j) (64 + j) (68 + j) 5 17 18 (s_ds s).length _ kf kg f g k1 k2 k3 e1 e2 e3 (by omega) (by omega) (by omega) (by omega) (by omega) (by omega) hl40) ?_
      refine ax_aload_n (pc := 32) dX4_keep_32 rfl ?_
      refine ax_getf (pc := 33) fX4_35 dX4_keep_33 (by first | exact c1.1 | exact c2.2.2.1 | exact e1 | exact k1 | exact (mh_up_n (by omega)).trans ((mh_up_n (by omega)).trans ((mh_up_n (by omega)).trans c1.1)) | exact (mh_up_n (by omega)).trans ((mh_up_n (by omega)).trans ((mh_up_n (by omega)).trans e1))) rfl ?_
      refine ax_getf (pc := 36) fX4_72 dX4_keep_36 (by first | exact c1.1 | exact c2.2.2.1 | exact e1 | exact k1 | exact (mh_up_n (by omega)).trans ((mh_up_n (by omega)).trans ((mh_up_n (by omega)).trans c1.1)) | exact (mh_up_n (by omega)).trans ((mh_up_n (by omega)).trans ((mh_up_n (by omega)).trans e1))) rfl ?_
      refine ax_iret (pc := 39) dX4_keep_39 rfl ?_
      refine fin_i (by unfold sp_keep; rw [if_neg (not_not_intro c4a), if_neg c13, ni_cl (by omega)]) ?_
      exact CP_kp hj hc (fun i hi => (mh_up_n hi.2.2).trans ((mh_up_n hi.2.1).trans (mh_up_n hi.1))) ⟨_, _, (mh_up_n (by omega)).trans ((mh_up_n (by omega)).trans mh_up_s), (mh_up_n (by omega)).trans mh_up_s, mh_up_s, dsR_cp e4⟩
    · refine ax_bipush (pc := 16) (v := -4) dX4_keep_16 (by decide) ?_
      refine ax_iret (pc := 18) dX4_keep_18 rfl ?_
      exact fin_i (by unfold sp_keep; rw [if_neg (not_not_intro c4a), if_pos c13]) hc
  · refine ax_iconst (pc := 7) (v := -1) dX4_keep_7 (by decide) ?_
    refine ax_iret (pc := 8) dX4_keep_8 rfl ?_
    exact fin_i (by unfold sp_keep; exact if_pos c4a) hc
set_option maxHeartbeats 4000000 in
set_option maxRecDepth 100000 in
theorem c_X4_on (dom : List Nat) (h : mh_H) (s : sg) (k : Int32) (hc : CP s h) (hv : IV s) : Mt mX4_on dom 5 [.ref 0, .int k] h (mx_Ri (fun v' h' => v' = (sp_on s k).1 ∧ CP (sp_on s k).2 h')) := by
  refine Mt.of (L := [some (.ref 0), some (.int k)]) rfl (Nat.le_of_ble_eq_true rfl) rfl ?_
  obtain ⟨c1, c2, c3, c4, c5, c6, c7, c8, c9⟩ := id hc
  obtain ⟨f, g, e1, e2, e3, e4⟩ := id c7
  have hl40 := hv.2.2.2.1.1
  refine ax_iload_n (pc := 0) dX4_on_0 rfl ?_
  refine ax_eSi1 (pc := 1) sX4_175 dX4_on_1 (by decide) (Nat.le_of_ble_eq_true rfl) (c_X4_isPlace _ _ _) ?_
  refine ax_ifneB (pc := 4) (tgt := 9) dX4_on_4 (by decide) (fun c4a => ?_) (fun c4a => ?_)
  · obtain ⟨j, hj, rfl⟩ := ix_2 c4a
    obtain ⟨kf, kg, k1, k2, k3, k4⟩ := c8 j hj
    refine ax_aload_n (pc := 9) dX4_on_9 rfl ?_
    refine ax_getf (pc := 10) fX4_39 dX4_on_10 (by first | exact c1.1 | exact c2.2.2.1 | exact e1 | exact k1 | exact (mh_up_n (by decide)).trans ((mh_up_n (by decide)).trans ((mh_up_n (by decide)).trans c1.1))) rfl ?_
    refine ax_iload_n (pc := 13) dX4_on_13 rfl ?_
    refine ax_aald (pc := 14) dX4_on_14 (by first | exact c1.1 | exact c2.2.2.1 | exact e1 | exact k1 | exact (mh_up_n (by decide)).trans ((mh_up_n (by decide)).trans ((mh_up_n (by decide)).trans c1.1))) (by decide) (ni_in9 hj (by decide)) (by rw [ni_cl (by omega)]) ?_
    refine ax_getf (pc := 15) fX4_72 dX4_on_15 (by first | exact c1.1 | exact c2.2.2.1 | exact e1 | exact k1 | exact (mh_up_n (by decide)).trans ((mh_up_n (by decide)).trans ((mh_up_n (by decide)).trans c1.1))) rfl ?_
    refine ax_ifge (pc := 18) (tgt := 27) dX4_on_18 (by decide) (fun c18 => ?_) (fun c18 => ?_)
    · obtain ⟨ds, ek⟩ : ∃ ds, s_kp s j = some ds := by
        cases ek : s_kp s j with
        | none => rw [ek] at c18; exact absurd c18 (by decide)
        | some ds => exact ⟨ds, rfl⟩
      have hk40 := hv.2.2.2.2 j hj ds ek
      obtain ⟨hD0, hW0, hfi⟩ := hv.w hk40.2.2
      refine ax_aload_n (pc := 27) dX4_on_27 rfl ?_
      refine ax_getf (pc := 28) fX4_35 dX4_on_28 (by first | exact c1.1 | exact c2.2.2.1 | exact e1 | exact k1 | exact (mh_up_n (by decide)).trans ((mh_up_n (by decide)).trans ((mh_up_n (by decide)).trans c1.1))) rfl ?_
      refine ax_aload_n (pc := 31) dX4_on_31 rfl ?_
      refine ax_getf (pc := 32) fX4_39 dX4_on_32 (by first | exact c1.1 | exact c2.2.2.1 | exact e1 | exact k1 | exact (mh_up_n (by decide)).trans ((mh_up_n (by decide)).trans ((mh_up_n (by decide)).trans c1.1))) rfl ?_
      refine ax_iload_n (pc := 35) dX4_on_35 rfl ?_
      refine ax_aald (pc := 36) dX4_on_36 (by first | exact c1.1 | exact c2.2.2.1 | exact e1 | exact k1 | exact (mh_up_n (by decide)).trans ((mh_up_n (by decide)).trans ((mh_up_n (by decide)).trans c1.1))) (by decide) (ni_in9 hj (by decide)) (by rw [ni_cl (by omega)]) ?_
      refine ax_eVv1 (pc := 37) vX4_178 dX4_on_37 (by decide) (by first | exact c1.1 | exact c2.2.2.1 | exact e1 | exact k1 | exact (mh_up_n (by decide)).trans ((mh_up_n (by decide)).trans ((mh_up_n (by decide)).trans c1.1))) (Nat.le_of_ble_eq_true rfl) (c_X1_copyOf _ _ 5 17 18 (60 + j) (64 + j) (68 + j) ds.length _ f g kf kg e1 e2 e3 (k1.trans (by rw [ek]; rfl)) k2 k3 (by omega) (by decide) (by omega) (by omega) (by omega) (by omega) hk40.1) ?_
      refine ax_aload_n (pc := 40) dX4_on_40 rfl ?_
      refine ax_eVv0 (pc := 41) vX4_126 dX4_on_41 (by decide) (by first | exact c1.1 | exact c2.2.2.1 | exact e1 | exact k1 | exact (mh_up_n (by decide)).trans ((mh_up_n (by decide)).trans ((mh_up_n (by decide)).trans c1.1))) (Nat.le_of_ble_eq_true rfl) (c_X4_doAgain _ _ (s_D s) ds (sl_cp kf f ds.length) (sl_cp kg g ds.length) (s_ask s) (s_fin s) (s_up s) (s_lo s) (by exact c1.1) (by exact ⟨c5.2.1, c5.2.2.1, c5.2.2.2⟩) rfl rfl rfl (dsR_cp (k4 ds ek)) hD0 hk40.1 hk40.2.1 _ (by exact c5.1) (by exact wc_V c6)) ?_
      refine ax_aload_n (pc := 44) dX4_on_44 rfl ?_
      refine ax_getf (pc := 45) fX4_35 dX4_on_45 (by first | exact c1.1 | exact c2.2.2.1 | exact e1 | exact k1 | exact (mh_up_n (by decide)).trans ((mh_up_n (by decide)).trans ((mh_up_n (by decide)).trans c1.1))) rfl ?_
      refine ax_getf (pc := 48) fX4_72 dX4_on_48 rfl rfl ?_
      refine ax_iret (pc := 51) dX4_on_51 rfl ?_
      refine fin_i (by unfold sp_on; rw [if_neg (not_not_intro c4a), ni_cl (by omega), ek]) ?_
      exact CP_new hc (fun k hk => (wdH_n ⟨hk.1, hk.2.1⟩).trans ((mh_up_n hk.2.2.2.2).trans ((mh_up_n hk.2.2.2.1).trans (mh_up_n hk.2.2.1)))) (wdH_P ⟨c5.2.1, c5.2.2.1, c5.2.2.2⟩) rfl ⟨_, _, rfl, rfl, rfl, dsR_cp (k4 ds ek)⟩
    · refine ax_aload_n (pc := 21) dX4_on_21 rfl ?_
      refine ax_iconst (pc := 22) (v := 1) dX4_on_22 (by decide) ?_
      refine ax_cVi1 (pc := 23) vX4_79 dX4_on_23 (by decide) (by first | exact c1.1 | exact c2.2.2.1 | exact e1 | exact k1 | exact (mh_up_n (by decide)).trans ((mh_up_n (by decide)).trans ((mh_up_n (by decide)).trans c1.1))) (Nat.le_of_ble_eq_true rfl) (c_X4_found _ _ s 1 (by decide) hc) (fun v1 h1 hq => ?_)
      obtain ⟨rfl, hq⟩ := hq
      refine ax_iret (pc := 26) dX4_on_26 rfl ?_
      have ek : s_kp s j = none := by
        cases ek : s_kp s j with
        | none => rfl
        | some ds => rw [ek] at c18; exact absurd (nI_pos' (Nat.lt_of_le_of_lt (hv.2.2.2.2 j hj ds ek).1 (by decide))) c18
      exact fin_i (by unfold sp_on; rw [if_neg (not_not_intro c4a), ni_cl (by omega), ek]) hq
  · refine ax_iconst (pc := 7) (v := -1) dX4_on_7 (by decide) ?_
    refine ax_iret (pc := 8) dX4_on_8 rfl ?_
    exact fin_i (by unfold sp_on; exact if_pos c4a) hc
