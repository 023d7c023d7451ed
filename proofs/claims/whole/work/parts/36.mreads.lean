abbrev bA (f : Nat → Int32) (m i : Nat) : Int32 := if i < m then f i else -1
abbrev xN (x : mxT) (nd : Int32) : mxT := (x.1, nd, x.2.2.1, x.2.2.2.1, x.2.2.2.2.1, x.2.2.2.2.2.1, x.2.2.2.2.2.2)
def nwH (h : mh_H) (ns nf nr : Nat → Int32) : mh_H := mh_up (mh_up (mh_up h 8 (mh_ia 0 10 ns)) 9 (mh_ia 0 10 nf)) 10 (mh_ia 0 10 nr)
section NW
variable {h : mh_H} {ns nf nr g : Nat → Int32}
theorem nwH_n {k : Nat} (hk : k ≠ 8 ∧ k ≠ 9 ∧ k ≠ 10) : nwH h ns nf nr k = h k := (mh_up_n hk.2.2).trans ((mh_up_n hk.2.1).trans (mh_up_n hk.1))
theorem nwH_a8 : nwH h ns nf nr 8 = mh_ia 0 10 ns := (mh_up_n (by decide)).trans ((mh_up_n (by decide)).trans mh_up_s)
theorem nwH_a9 : nwH h ns nf nr 9 = mh_ia 0 10 nf := (mh_up_n (by decide)).trans mh_up_s
theorem nwH_a10 : nwH h ns nf nr 10 = mh_ia 0 10 nr := mh_up_s
theorem nwH_8 : mh_up (nwH h ns nf nr) 8 (mh_ia 0 10 g) = nwH h g nf nr := by
  unfold nwH
  rw [mh_up_cm (k := 10) (j := 8) (by decide), mh_up_cm (k := 9) (j := 8) (by decide), mh_up_uu]
theorem nwH_9 : mh_up (nwH h ns nf nr) 9 (mh_ia 0 10 g) = nwH h ns g nr := by
  unfold nwH
  rw [mh_up_cm (k := 10) (j := 9) (by decide), mh_up_uu]
theorem nwH_10 : mh_up (nwH h ns nf nr) 10 (mh_ia 0 10 g) = nwH h ns nf g := mh_up_uu
theorem nwH_id (h1 : h 8 = mh_ia 0 10 ns) (h2 : h 9 = mh_ia 0 10 nf) (h3 : h 10 = mh_ia 0 10 nr) : nwH h ns nf nr = h := by
  unfold nwH
  rw [mh_up_id h1, mh_up_id h2, mh_up_id h3]
end NW
theorem MB.new {s : sg} {h : mh_H} {sl ns nf nr : Nat → Int32} (m : MB s h sl) : MB s (nwH h ns nf nr) sl := by
  obtain ⟨m1, m2, m3, m4, m5, m6, m7, m8⟩ := m
  exact ⟨mRw_k (fun k hk => nwH_n (by omega)) m1, mTx_k (fun k hk => nwH_n (by omega)) m2, dayX_k (fun k hk => nwH_n (by omega)) m3, ⟨ns, nf, nr, nwH_a8, nwH_a9, nwH_a10⟩, m5, (nwH_n (by decide)).trans m6, (nwH_n (by decide)).trans m7, wo_k (nwH_n (by decide)) m8⟩
theorem let_neg {c : Int32} : sp_let c < 0 ↔ sp_let c = -9 := by
  constructor
  · intro h
    by_cases q : sp_let c = -9
    · exact q
    · obtain ⟨k, hk, e⟩ := sp_let_r c q
      rw [e] at h
      exact absurd h (nI_pos (by omega))
  · intro h
    rw [h]; decide
section FT
variable {f : Nat → Int32} {m n c i : Nat} {D : sp_D}
theorem ft_a (hi : i < m) (hm : m ≤ 60) (hb : ¬ f i = 32) (h : sp_let (f i) < 0 ∨ c = 9) : sp_ft f m (n + 1) c i = nI i := by
  rw [sp_ft, if_neg (by omega), if_neg hb]
  by_cases h9 : c = 9
  · rw [if_pos h9]
  · have e : sp_fi f m i = nI i := by
      unfold sp_fi
      rw [if_pos (let_neg.mp (h.resolve_right h9))]
    rw [if_neg h9, e]
    rw [if_neg (ni_ne9 (show i < 100 by omega))]
theorem ft_b (hi : i < m) (hm : m ≤ 60) (hb : ¬ f i = 32) (h1 : ¬ sp_let (f i) < 0) (h9 : ¬ c = 9) (h2 : ¬ (48 ≤ bA f m (i + 1) ∧ bA f m (i + 1) ≤ 57)) : sp_ft f m (n + 1) c i = nI (i + 1) := by
  have e : sp_fi f m i = nI (i + 1) := by
    unfold sp_fi
    rw [if_neg (fun q => h1 (let_neg.mpr q)), sp_fd]
    by_cases q : m ≤ i + 1
    · rw [if_pos q, show m = i + 1 by omega]
    · rw [if_neg q]
      rw [show bA f m (i + 1) = f (i + 1) from if_pos (by omega)] at h2
      rw [if_pos h2]
  rw [sp_ft, if_neg (by omega), if_neg hb, if_neg h9, e, if_neg (ni_ne9 (by omega))]
theorem ft_c (hi : i < m) (hm : m ≤ 60) (hb : ¬ f i = 32) (h1 : ¬ sp_let (f i) < 0) (h9 : ¬ c = 9) (h2 : 48 ≤ bA f m (i + 1) ∧ bA f m (i + 1) ≤ 57) (h3 : ¬ (48 ≤ bA f m (i + 2) ∧ bA f m (i + 2) ≤ 57)) : sp_ft f m (n + 1) c i = nI (i + 2) := by
  have hm1 : i + 1 < m := by
    by_cases q : i + 1 < m
    · exact q
    · rw [show bA f m (i + 1) = -1 from if_neg q] at h2
      exact absurd h2 (by decide)
  rw [show bA f m (i + 1) = f (i + 1) from if_pos hm1] at h2
  have e : sp_fi f m i = nI (i + 2) := by
    unfold sp_fi
    rw [if_neg (fun q => h1 (let_neg.mpr q)), sp_fd, if_neg (by omega), if_neg (not_not_intro h2), sp_fd]
    by_cases q : m ≤ i + 1 + 1
    · rw [if_pos q, show m = i + 2 by omega]
    · rw [if_neg q]
      rw [show bA f m (i + 2) = f (i + 2) from if_pos (by omega)] at h3
      rw [if_pos h3]
  rw [sp_ft, if_neg (by omega), if_neg hb, if_neg h9, e, if_neg (ni_ne9 (by omega))]
theorem bA_ok {k : Nat} (h2 : 48 ≤ bA f m k ∧ bA f m k ≤ 57) : k < m := by
  by_cases q : k < m
  · exact q
  · rw [show bA f m k = -1 from if_neg q] at h2
    exact absurd h2 (by decide)
theorem ft_d (hi : i < m) (hb : ¬ f i = 32) (h1 : ¬ sp_let (f i) < 0) (h9 : ¬ c = 9) (h2 : 48 ≤ bA f m (i + 1) ∧ bA f m (i + 1) ≤ 57) (h3 : 48 ≤ bA f m (i + 2) ∧ bA f m (i + 2) ≤ 57) : sp_ft f m (n + 1) c i = sp_ft f m n (c + 1) (i + 3) := by
  have hm1 := bA_ok h2
  have hm2 := bA_ok h3
  rw [show bA f m (i + 1) = f (i + 1) from if_pos hm1] at h2
  rw [show bA f m (i + 2) = f (i + 2) from if_pos hm2] at h3
  have e : sp_fi f m i = -9 := by
    unfold sp_fi
    rw [if_neg (fun q => h1 (let_neg.mpr q)), sp_fd, if_neg (by omega), if_neg (not_not_intro h2), sp_fd, if_neg (by omega), if_neg (not_not_intro h3), sp_fd]
  rw [sp_ft, if_neg (by omega), if_neg hb, if_neg h9, if_pos e]
theorem rd_b (hi : i < m) (hb : f i = 32) : sp_rd f m (n + 1) D i = sp_rd f m n D (i + 1) := by rw [sp_rd, if_neg (by omega), if_pos hb]
theorem rd_i (hi : i < m) (hb : ¬ f i = 32) : sp_rd f m (n + 1) D i = sp_rd f m n (sp_it f D i) (i + 3) := by rw [sp_rd, if_neg (by omega), if_neg hb]
theorem ft_bl (hi : i < m) (hb : f i = 32) : sp_ft f m (n + 1) c i = sp_ft f m n c (i + 1) := by rw [sp_ft, if_neg (by omega), if_pos hb]
theorem it_R {ns nf nr : Nat → Int32} (h1 : ¬ sp_let (f i) < 0) (h2 : 48 ≤ f (i + 1) ∧ f (i + 1) ≤ 57) (h3 : 48 ≤ f (i + 2) ∧ f (i + 2) ≤ 57) (R : dayR D ns nf nr) : dayR (sp_it f D i) (upd ns D.1 (sp_let (f i))) (upd nf D.1 (f (i + 1) - 48)) (upd nr D.1 (f (i + 2) - 48)) := by
  obtain ⟨k1, hk1, e1⟩ := sp_let_r (f i) (fun q => h1 (let_neg.mpr q))
  obtain ⟨k2, hk2, e2⟩ := sp_dg_r h2
  obtain ⟨k3, hk3, e3⟩ := sp_dg_r h3
  intro k hk
  have hk : k < D.1 + 1 := hk
  show _ = nI (up_n D.2.1 D.1 (sp_let (f i)).toNatClampNeg k) ∧ _ = nI (up_n D.2.2.1 D.1 (f (i + 1) - 48).toNatClampNeg k) ∧ _ = nI (up_n D.2.2.2 D.1 (f (i + 2) - 48).toNatClampNeg k)
  rw [e1, e2, e3, ni_cl (by omega), ni_cl (by omega), ni_cl (by omega)]
  by_cases q : k = D.1
  · subst q
    rw [pk_us, pk_us, pk_us, up_n_s, up_n_s, up_n_s]
    exact ⟨rfl, rfl, rfl⟩
  · rw [pk_un q, pk_un q, pk_un q]
    have := R k (by omega)
    unfold up_n
    rw [if_neg q, if_neg q, if_neg q]
    exact this
end FT
def rdQ (h : mh_H) (x : mxT) (sl : Nat → Int32) (tu : Int32) (f : Nat → Int32) (m n : Nat) (D : sp_D) (i : Nat) : Option Value → mh_H → Prop := mx_Ri (fun v' h' => v' = sp_ft f m n D.1 i ∧ ∃ nd ns nf nr, h' = hM (nwH h ns nf nr) (xN x nd) sl tu ∧ (sp_ft f m n D.1 i = -9 → nd = nI (sp_rd f m n D i).1 ∧ dayR (sp_rd f m n D i) ns nf nr))
theorem rdQ_n {h : mh_H} {x : mxT} {sl : Nat → Int32} {tu : Int32} {f : Nat → Int32} {m n : Nat} {D : sp_D} {i : Nat} {nd : Int32} {ns nf nr : Nat → Int32} {v : Int32} {k : Nat} (hk : k < 100) (hv : v = nI k) (e : sp_ft f m n D.1 i = nI k) : rdQ h x sl tu f m n D i (some (.int v)) (hM (nwH h ns nf nr) (xN x nd) sl tu) := ⟨v, rfl, hv.trans e.symm, nd, ns, nf, nr, rfl, fun q => absurd (e.symm.trans q) (ni_ne9 hk)⟩
set_option maxHeartbeats 4000000 in
set_option maxRecDepth 100000 in
theorem c_X5_byteAt (dom : List Nat) (h : mh_H) (x : mxT) (sl : Nat → Int32) (tu : Int32) (z f g : Nat → Int32) (t m i : Nat) (ht : t < 4) (hm : m ≤ 60) (hi : i < 100) (h3 : h 3 = mh_ia 0 4 z) (hz : z t = nI m) (h4 : h 4 = mh_ia 1 240 f) (hf : ∀ k, k < m → f (60 * t + k) = g k) : Mt mX5_byteAt dom 0 [.ref 0, .int (nI t), .int (nI i)] (hM h x sl tu) (mx_Ri (fun v' h' => v' = bA g m i ∧ h' = (hM h x sl tu))) := by
  refine Mt.of (L := [some (.ref 0), some (.int (nI t)), some (.int (nI i))]) rfl (Nat.le_of_ble_eq_true rfl) rfl ?_
  refine ax_iload_n (pc := 0) dX5_byteAt_0 rfl ?_
  refine ax_aload_n (pc := 1) dX5_byteAt_1 rfl ?_
  refine ax_getf (pc := 2) fX5_16 dX5_byteAt_2 (by exact hM_0) rfl ?_
  refine ax_iload_n (pc := 5) dX5_byteAt_5 rfl ?_
  refine bx_iaload dX5_byteAt_6 ((hM_n (by decide)).trans h3) ht (by decide) hz ?_
  refine ax_icmpge (pc := 7) (tgt := 24) dX5_byteAt_7 (by decide) (fun c7a => ?_) (fun c7a => ?_)
  · rw [nI_leI (by omega) (by omega)] at c7a
    refine ax_iconst (pc := 24) (v := -1) dX5_byteAt_24 (by decide) ?_
    refine ax_iret (pc := 25) dX5_byteAt_25 rfl ?_
    exact ⟨_, rfl, by first | exact (if_pos (by omega)).symm | exact (if_neg (by omega)).symm, rfl⟩
  · rw [nI_leI (by omega) (by omega)] at c7a
    refine ax_aload_n (pc := 10) dX5_byteAt_10 rfl ?_
    refine ax_getf (pc := 11) fX5_19 dX5_byteAt_11 (by exact hM_0) rfl ?_
    refine ax_bipush (pc := 14) (v := nI 60) dX5_byteAt_14 (by decide) ?_
    refine ax_iload_n (pc := 16) dX5_byteAt_16 rfl ?_
    refine bx_imul dX5_byteAt_17  ?_
    refine ax_iload_n (pc := 18) dX5_byteAt_18 rfl ?_
    refine bx_iadd dX5_byteAt_19  ?_
    refine bx_baload dX5_byteAt_20 ((hM_n (by decide)).trans h4) (by omega) (by decide) (hf i (by omega)) ?_
    refine ax_goto (pc := 21) (tgt := 25) dX5_byteAt_21 (by decide) ?_
    refine ax_iret (pc := 25) dX5_byteAt_25 rfl ?_
    exact ⟨_, rfl, by first | exact (if_pos (by omega)).symm | exact (if_neg (by omega)).symm, rfl⟩
set_option maxHeartbeats 4000000 in
set_option maxRecDepth 100000 in
theorem l_X5_reads (dom : List Nat) (h : mh_H) (x : mxT) (sl : Nat → Int32) (tu : Int32) (z f g : Nat → Int32) (t m : Nat) (ht : t < 4) (hm : m ≤ 60) (h3 : h 3 = mh_ia 0 4 z) (hz : z t = nI m) (h4 : h 4 = mh_ia 1 240 f) (hf : ∀ k, k < m → f (60 * t + k) = g k) : ∀ (nn i : Nat) (D : sp_D) (ns nf nr : Nat → Int32), m ≤ i + nn → i ≤ 62 → D.1 ≤ 9 → dayR D ns nf nr → At mX5_reads dom 2 7 [some (.ref 0), some (.int (nI t)), some (.int (nI i))] [] (hM (nwH h ns nf nr) (xN x (nI D.1)) sl tu) (rdQ h x sl tu g m nn D i) := by
  intro nn
  induction nn with
  | zero =>
    intro i D ns nf nr hi hi2 h9 R
    have hmi : m ≤ i := by omega
    refine ax_iload_n (pc := 7) dX5_reads_7 rfl ?_
    refine ax_aload_n (pc := 8) dX5_reads_8 rfl ?_
    refine ax_getf (pc := 9) fX5_16 dX5_reads_9 (by exact hM_0) rfl ?_
    refine ax_iload_n (pc := 12) dX5_reads_12 rfl ?_
    refine bx_iaload dX5_reads_13 ((hM_n (by decide)).trans ((nwH_n (by decide)).trans h3)) ht (by decide) hz ?_
    refine ax_icmpge (pc := 14) (tgt := 181) dX5_reads_14 (by decide) (fun _ => ?_) (fun q => absurd (nI_le hmi (by omega)) q)
    refine ax_aload_n (pc := 181) dX5_reads_181 rfl ?_
    refine ax_getf (pc := 182) fX5_80 dX5_reads_182 (by exact hM_0) rfl ?_
    refine ax_iconst (pc := 185) (v := nI 2) dX5_reads_185 (by decide) ?_
    refine ax_icmpge (pc := 186) (tgt := 198) dX5_reads_186 (by decide) (fun c186 => ?_) (fun c186 => ?_)
    · refine ax_bipush (pc := 198) (v := -9) dX5_reads_198 (by decide) ?_
      refine ax_iret (pc := 200) dX5_reads_200 rfl ?_
      rw [nI_leI (by decide) (by omega)] at c186
      first | exact ⟨_, rfl, by rw [sp_ft_e hmi, if_neg (by omega)], _, _, _, _, rfl, fun _ => by rw [sp_rd_e hmi]; exact ⟨rfl, R⟩⟩ | exact rdQ_n (k := m) (by omega) rfl (by rw [sp_ft_e hmi, if_pos (by omega)])
    · refine ax_aload_n (pc := 189) dX5_reads_189 rfl ?_
      refine ax_getf (pc := 190) fX5_16 dX5_reads_190 (by exact hM_0) rfl ?_
      refine ax_iload_n (pc := 193) dX5_reads_193 rfl ?_
      refine bx_iaload dX5_reads_194 ((hM_n (by decide)).trans ((nwH_n (by decide)).trans h3)) ht (by decide) hz ?_
      refine ax_goto (pc := 195) (tgt := 200) dX5_reads_195 (by decide) ?_
      refine ax_iret (pc := 200) dX5_reads_200 rfl ?_
      rw [nI_leI (by decide) (by omega)] at c186
      first | exact ⟨_, rfl, by rw [sp_ft_e hmi, if_neg (by omega)], _, _, _, _, rfl, fun _ => by rw [sp_rd_e hmi]; exact ⟨rfl, R⟩⟩ | exact rdQ_n (k := m) (by omega) rfl (by rw [sp_ft_e hmi, if_pos (by omega)])
  | succ nn ih =>
    intro i D ns nf nr hi hi2 h9 R
    by_cases hmi : m ≤ i
    · skip
      refine ax_iload_n (pc := 7) dX5_reads_7 rfl ?_
      refine ax_aload_n (pc := 8) dX5_reads_8 rfl ?_
      refine ax_getf (pc := 9) fX5_16 dX5_reads_9 (by exact hM_0) rfl ?_
      refine ax_iload_n (pc := 12) dX5_reads_12 rfl ?_
      refine bx_iaload dX5_reads_13 ((hM_n (by decide)).trans ((nwH_n (by decide)).trans h3)) ht (by decide) hz ?_
      refine ax_icmpge (pc := 14) (tgt := 181) dX5_reads_14 (by decide) (fun _ => ?_) (fun q => absurd (nI_le hmi (by omega)) q)
      refine ax_aload_n (pc := 181) dX5_reads_181 rfl ?_
      refine ax_getf (pc := 182) fX5_80 dX5_reads_182 (by exact hM_0) rfl ?_
      refine ax_iconst (pc := 185) (v := nI 2) dX5_reads_185 (by decide) ?_
      refine ax_icmpge (pc := 186) (tgt := 198) dX5_reads_186 (by decide) (fun c186 => ?_) (fun c186 => ?_)
      · refine ax_bipush (pc := 198) (v := -9) dX5_reads_198 (by decide) ?_
        refine ax_iret (pc := 200) dX5_reads_200 rfl ?_
        rw [nI_leI (by decide) (by omega)] at c186
        first | exact ⟨_, rfl, by rw [sp_ft_e hmi, if_neg (by omega)], _, _, _, _, rfl, fun _ => by rw [sp_rd_e hmi]; exact ⟨rfl, R⟩⟩ | exact rdQ_n (k := m) (by omega) rfl (by rw [sp_ft_e hmi, if_pos (by omega)])
      · refine ax_aload_n (pc := 189) dX5_reads_189 rfl ?_
        refine ax_getf (pc := 190) fX5_16 dX5_reads_190 (by exact hM_0) rfl ?_
        refine ax_iload_n (pc := 193) dX5_reads_193 rfl ?_
        refine bx_iaload dX5_reads_194 ((hM_n (by decide)).trans ((nwH_n (by decide)).trans h3)) ht (by decide) hz ?_
        refine ax_goto (pc := 195) (tgt := 200) dX5_reads_195 (by decide) ?_
        refine ax_iret (pc := 200) dX5_reads_200 rfl ?_
        rw [nI_leI (by decide) (by omega)] at c186
        first | exact ⟨_, rfl, by rw [sp_ft_e hmi, if_neg (by omega)], _, _, _, _, rfl, fun _ => by rw [sp_rd_e hmi]; exact ⟨rfl, R⟩⟩ | exact rdQ_n (k := m) (by omega) rfl (by rw [sp_ft_e hmi, if_pos (by omega)])
    · have hlt : i < m := by omega
      refine ax_iload_n (pc := 7) dX5_reads_7 rfl ?_
      refine ax_aload_n (pc := 8) dX5_reads_8 rfl ?_
      refine ax_getf (pc := 9) fX5_16 dX5_reads_9 (by exact hM_0) rfl ?_
      refine ax_iload_n (pc := 12) dX5_reads_12 rfl ?_
      refine bx_iaload dX5_reads_13 ((hM_n (by decide)).trans ((nwH_n (by decide)).trans h3)) ht (by decide) hz ?_
      refine ax_icmpge (pc := 14) (tgt := 181) dX5_reads_14 (by decide) (fun q => absurd q (nI_ge (by omega) (by omega))) (fun _ => ?_)
      refine ax_aload_n (pc := 17) dX5_reads_17 rfl ?_
      refine ax_iload_n (pc := 18) dX5_reads_18 rfl ?_
      refine ax_iload_n (pc := 19) dX5_reads_19 rfl ?_
      refine ax_eVi2 (pc := 20) vX5_83 dX5_reads_20 (by decide) (by exact hM_0) (Nat.le_of_ble_eq_true rfl) (c_X5_byteAt _ _ _ sl tu z f g t m i ht hm (by omega) ((nwH_n (by decide)).trans h3) hz ((nwH_n (by decide)).trans h4) hf) ?_
      refine At.ti (if_pos hlt) ?_
      refine ax_bipush (pc := 23) (v := 32) dX5_reads_23 (by decide) ?_
      refine ax_icmpne (pc := 25) (tgt := 34) dX5_reads_25 (by decide) (fun c25 => ?_) (fun c25 => ?_)
      · refine ax_aload_n (pc := 34) dX5_reads_34 rfl ?_
        refine ax_iload_n (pc := 35) dX5_reads_35 rfl ?_
        refine ax_iload_n (pc := 36) dX5_reads_36 rfl ?_
        refine ax_eVi2 (pc := 37) vX5_83 dX5_reads_37 (by decide) (by exact hM_0) (Nat.le_of_ble_eq_true rfl) (c_X5_byteAt _ _ _ sl tu z f g t m i ht hm (by omega) ((nwH_n (by decide)).trans h3) hz ((nwH_n (by decide)).trans h4) hf) ?_
        refine At.ti (if_pos hlt) ?_
        refine ax_eSi1 (pc := 40) sX5_87 dX5_reads_40 (by decide) (Nat.le_of_ble_eq_true rfl) (c_X5_kindOf _ _ _) ?_
        refine ax_iflt (pc := 43) (tgt := 55) dX5_reads_43 (by decide) (fun c43 => ?_) (fun c43 => ?_)
        · refine ax_iload_n (pc := 55) dX5_reads_55 rfl ?_
          refine ax_iret (pc := 56) dX5_reads_56 rfl ?_
          first | exact rdQ_n (k := i) (by omega) rfl (ft_a hlt hm c25 (Or.inl c43)) | exact rdQ_n (k := i) (by omega) rfl (ft_a hlt hm c25 (Or.inr ((nI_eq (by omega) (by decide)).mp c52)))
        · refine ax_aload_n (pc := 46) dX5_reads_46 rfl ?_
          refine ax_getf (pc := 47) fX5_80 dX5_reads_47 (by exact hM_0) rfl ?_
          refine At.ti (x' := nI D.1) rfl ?_
          refine ax_bipush (pc := 50) (v := nI 9) dX5_reads_50 (by decide) ?_
          refine ax_icmpne (pc := 52) (tgt := 57) dX5_reads_52 (by decide) (fun c52 => ?_) (fun c52 => ?_)
          · rw [nI_eq (by omega) (by decide)] at c52
            refine ax_aload_n (pc := 57) dX5_reads_57 rfl ?_
            refine ax_iload_n (pc := 58) dX5_reads_58 rfl ?_
            refine ax_iload_n (pc := 59) dX5_reads_59 rfl ?_
            refine ax_iconst (pc := 60) (v := nI 1) dX5_reads_60 (by decide) ?_
            refine bx_iadd dX5_reads_61  ?_
            refine ax_eVi2 (pc := 62) vX5_83 dX5_reads_62 (by decide) (by exact hM_0) (Nat.le_of_ble_eq_true rfl) (c_X5_byteAt _ _ _ sl tu z f g t m (i + 1) ht hm (by omega) ((nwH_n (by decide)).trans h3) hz ((nwH_n (by decide)).trans h4) hf) ?_
            refine ax_i2l (pc := 65) dX5_reads_65 ?_
            refine ax_ldc2 (pc := 66) dX5_reads_66 tw_763 ?_
            refine ax_ldc2 (pc := 69) dX5_reads_69 tw_764 ?_
            refine ax_eSi3 (pc := 72) sX5_63 dX5_reads_72 (by decide) (Nat.le_of_ble_eq_true rfl) (c_X5_in _ _ (bA g m (i + 1)) 48 57 _ _ (by decide) (by decide)) ?_
            refine ax_ifneB (pc := 75) (tgt := 82) dX5_reads_75 (by decide) (fun c75 => ?_) (fun c75 => ?_)
            · refine ax_aload_n (pc := 82) dX5_reads_82 rfl ?_
              refine ax_iload_n (pc := 83) dX5_reads_83 rfl ?_
              refine ax_iload_n (pc := 84) dX5_reads_84 rfl ?_
              refine ax_iconst (pc := 85) (v := nI 2) dX5_reads_85 (by decide) ?_
              refine bx_iadd dX5_reads_86  ?_
              refine ax_eVi2 (pc := 87) vX5_83 dX5_reads_87 (by decide) (by exact hM_0) (Nat.le_of_ble_eq_true rfl) (c_X5_byteAt _ _ _ sl tu z f g t m (i + 2) ht hm (by omega) ((nwH_n (by decide)).trans h3) hz ((nwH_n (by decide)).trans h4) hf) ?_
              refine ax_i2l (pc := 90) dX5_reads_90 ?_
              refine ax_ldc2 (pc := 91) dX5_reads_91 tw_763 ?_
              refine ax_ldc2 (pc := 94) dX5_reads_94 tw_764 ?_
              refine ax_eSi3 (pc := 97) sX5_63 dX5_reads_97 (by decide) (Nat.le_of_ble_eq_true rfl) (c_X5_in _ _ (bA g m (i + 2)) 48 57 _ _ (by decide) (by decide)) ?_
              refine ax_ifneB (pc := 100) (tgt := 107) dX5_reads_100 (by decide) (fun c100 => ?_) (fun c100 => ?_)
              · have eft := ft_d (n := nn) hlt c25 c43 c52 c75 c100
                refine ax_aload_n (pc := 107) dX5_reads_107 rfl ?_
                refine ax_getf (pc := 108) fX5_32 dX5_reads_108 (by exact hM_0) rfl ?_
                refine ax_aload_n (pc := 111) dX5_reads_111 rfl ?_
                refine ax_getf (pc := 112) fX5_80 dX5_reads_112 (by exact hM_0) rfl ?_
                refine At.ti (x' := nI D.1) rfl ?_
                refine ax_aload_n (pc := 115) dX5_reads_115 rfl ?_
                refine ax_iload_n (pc := 116) dX5_reads_116 rfl ?_
                refine ax_iload_n (pc := 117) dX5_reads_117 rfl ?_
                refine ax_eVi2 (pc := 118) vX5_83 dX5_reads_118 (by decide) (by exact hM_0) (Nat.le_of_ble_eq_true rfl) (c_X5_byteAt _ _ _ sl tu z f g t m i ht hm (by omega) ((nwH_n (by decide)).trans h3) hz ((nwH_n (by decide)).trans h4) hf) ?_
                have b1 := bA_ok c75
                have b2 := bA_ok c100
                refine At.ti (if_pos hlt) ?_
                refine ax_eSi1 (pc := 121) sX5_87 dX5_reads_121 (by decide) (Nat.le_of_ble_eq_true rfl) (c_X5_kindOf _ _ _) ?_
                refine bx_iastore dX5_reads_124 nwH_a8 (by decide) (by omega) (by decide) rfl ?_
                refine At.hp (congrArg (fun q => hM q _ _ _) nwH_8) ?_
                refine ax_aload_n (pc := 125) dX5_reads_125 rfl ?_
                refine ax_getf (pc := 126) fX5_35 dX5_reads_126 (by exact hM_0) rfl ?_
                refine ax_aload_n (pc := 129) dX5_reads_129 rfl ?_
                refine ax_getf (pc := 130) fX5_80 dX5_reads_130 (by exact hM_0) rfl ?_
                refine At.ti (x' := nI D.1) rfl ?_
                refine ax_aload_n (pc := 133) dX5_reads_133 rfl ?_
                refine ax_iload_n (pc := 134) dX5_reads_134 rfl ?_
                refine ax_iload_n (pc := 135) dX5_reads_135 rfl ?_
                refine ax_iconst (pc := 136) (v := nI 1) dX5_reads_136 (by decide) ?_
                refine bx_iadd dX5_reads_137  ?_
                refine ax_eVi2 (pc := 138) vX5_83 dX5_reads_138 (by decide) (by exact hM_0) (Nat.le_of_ble_eq_true rfl) (c_X5_byteAt _ _ _ sl tu z f g t m (i + 1) ht hm (by omega) ((nwH_n (by decide)).trans h3) hz ((nwH_n (by decide)).trans h4) hf) ?_
                refine At.ti (if_pos b1) ?_
                refine ax_bipush (pc := 141) (v := 48) dX5_reads_141 (by decide) ?_
                refine ax_isub (pc := 143) dX5_reads_143 ?_
                refine bx_iastore dX5_reads_144 nwH_a9 (by decide) (by omega) (by decide) rfl ?_
                refine At.hp (congrArg (fun q => hM q _ _ _) nwH_9) ?_
                refine ax_aload_n (pc := 145) dX5_reads_145 rfl ?_
                refine ax_getf (pc := 146) fX5_38 dX5_reads_146 (by exact hM_0) rfl ?_
                refine ax_aload_n (pc := 149) dX5_reads_149 rfl ?_
                refine ax_getf (pc := 150) fX5_80 dX5_reads_150 (by exact hM_0) rfl ?_
                refine At.ti (x' := nI D.1) rfl ?_
                refine ax_aload_n (pc := 153) dX5_reads_153 rfl ?_
                refine ax_iload_n (pc := 154) dX5_reads_154 rfl ?_
                refine ax_iload_n (pc := 155) dX5_reads_155 rfl ?_
                refine ax_iconst (pc := 156) (v := nI 2) dX5_reads_156 (by decide) ?_
                refine bx_iadd dX5_reads_157  ?_
                refine ax_eVi2 (pc := 158) vX5_83 dX5_reads_158 (by decide) (by exact hM_0) (Nat.le_of_ble_eq_true rfl) (c_X5_byteAt _ _ _ sl tu z f g t m (i + 2) ht hm (by omega) ((nwH_n (by decide)).trans h3) hz ((nwH_n (by decide)).trans h4) hf) ?_
                refine At.ti (if_pos b2) ?_
                refine ax_bipush (pc := 161) (v := 48) dX5_reads_161 (by decide) ?_
                refine ax_isub (pc := 163) dX5_reads_163 ?_
                refine bx_iastore dX5_reads_164 nwH_a10 (by decide) (by omega) (by decide) rfl ?_
                refine At.hp (congrArg (fun q => hM q _ _ _) nwH_10) ?_
                refine ax_aload_n (pc := 165) dX5_reads_165 rfl ?_
                refine ax_dup (pc := 166) dX5_reads_166 rfl ?_
                refine ax_getf (pc := 167) fX5_80 dX5_reads_167 (by exact hM_0) rfl ?_
                refine At.ti (x' := nI D.1) rfl ?_
                refine ax_iconst (pc := 170) (v := nI 1) dX5_reads_170 (by decide) ?_
                refine bx_iadd dX5_reads_171  ?_
                refine bx_pnewDays gX5_80 dX5_reads_172 ?_
                refine ax_inc2p3 (pc := 175) dX5_reads_175 rfl (by decide) ?_
                refine ax_goto (pc := 178) (tgt := 7) dX5_reads_178 (by decide) ?_
                first
                  | (have K := ih (i + 1) D ns nf nr (by omega) (by omega) h9 R; unfold rdQ at K ⊢; rw [ft_bl hlt c25, rd_b hlt c25, nI_1]; exact K)
                  | (rw [show bA g m (i + 1) = g (i + 1) from if_pos b1] at c75; rw [show bA g m (i + 2) = g (i + 2) from if_pos b2] at c100; have K := ih (i + 3) (sp_it g D i) _ _ _ (by omega) (by omega) (by show D.1 + 1 ≤ 9; omega) (it_R c43 c75 c100 R); unfold rdQ at K ⊢; rw [eft, rd_i hlt c25, show nI i + 3 = nI (i + 3) from nI_add i 3]; exact K)
              · refine ax_iload_n (pc := 103) dX5_reads_103 rfl ?_
                refine ax_iconst (pc := 104) (v := nI 2) dX5_reads_104 (by decide) ?_
                refine bx_iadd dX5_reads_105  ?_
                refine ax_iret (pc := 106) dX5_reads_106 rfl ?_
                exact rdQ_n (k := i + 2) (by omega) rfl (ft_c hlt hm c25 c43 c52 c75 c100)
            · refine ax_iload_n (pc := 78) dX5_reads_78 rfl ?_
              refine ax_iconst (pc := 79) (v := nI 1) dX5_reads_79 (by decide) ?_
              refine bx_iadd dX5_reads_80  ?_
              refine ax_iret (pc := 81) dX5_reads_81 rfl ?_
              exact rdQ_n (k := i + 1) (by omega) rfl (ft_b hlt hm c25 c43 c52 c75)
          · refine ax_iload_n (pc := 55) dX5_reads_55 rfl ?_
            refine ax_iret (pc := 56) dX5_reads_56 rfl ?_
            first | exact rdQ_n (k := i) (by omega) rfl (ft_a hlt hm c25 (Or.inl c43)) | exact rdQ_n (k := i) (by omega) rfl (ft_a hlt hm c25 (Or.inr ((nI_eq (by omega) (by decide)).mp c52)))
      · refine ax_inc2p1 (pc := 28) dX5_reads_28 rfl (by decide) ?_
        refine ax_goto (pc := 31) (tgt := 7) dX5_reads_31 (by decide) ?_
        first
          | (have K := ih (i + 1) D ns nf nr (by omega) (by omega) h9 R; unfold rdQ at K ⊢; rw [ft_bl hlt c25, rd_b hlt c25, nI_1]; exact K)
          | (rw [show bA g m (i + 1) = g (i + 1) from if_pos b1] at c75; rw [show bA g m (i + 2) = g (i + 2) from if_pos b2] at c100; have K := ih (i + 3) (sp_it g D i) _ _ _ (by omega) (by omega) (by show D.1 + 1 ≤ 9; omega) (it_R c43 c75 c100 R); unfold rdQ at K ⊢; rw [eft, rd_i hlt c25, show nI i + 3 = nI (i + 3) from nI_add i 3]; exact K)
set_option maxHeartbeats 4000000 in
set_option maxRecDepth 100000 in
theorem c_X5_reads (dom : List Nat) (h : mh_H) (x : mxT) (sl : Nat → Int32) (tu : Int32) (z f g : Nat → Int32) (t m : Nat) (ht : t < 4) (hm : m ≤ 60) (h3 : h 3 = mh_ia 0 4 z) (hz : z t = nI m) (h4 : h 4 = mh_ia 1 240 f) (hf : ∀ k, k < m → f (60 * t + k) = g k) (D : sp_D) (hw : mNw h) : Mt mX5_reads dom 2 [.ref 0, .int (nI t)] (hM h x sl tu) (rdQ h x sl tu g m m (0, D.2) 0) := by
  refine Mt.of (L := [some (.ref 0), some (.int (nI t)), none]) rfl (Nat.le_of_ble_eq_true rfl) rfl ?_
  refine ax_aload_n (pc := 0) dX5_reads_0 rfl ?_
  refine ax_iconst (pc := 1) (v := nI 0) dX5_reads_1 (by decide) ?_
  refine bx_pnewDays gX5_80 dX5_reads_2 ?_
  refine ax_iconst (pc := 5) (v := nI 0) dX5_reads_5 (by decide) ?_
  refine ax_istore2 (pc := 6) dX5_reads_6 rfl (by decide) ?_
  obtain ⟨ns, nf, nr, w1, w2, w3⟩ := hw
  have K := l_X5_reads dom h x sl tu z f g t m ht hm h3 hz h4 hf m 0 (0, D.2) ns nf nr (by omega) (by omega) (Nat.zero_le _) (fun k hk => absurd hk (Nat.not_lt_zero k))
  rw [nwH_id w1 w2 w3] at K
  exact K
