/-- an item more -/
def sp_it (f : Nat → Int32) (D : sp_D) (i : Nat) : sp_D := (D.1 + 1, up_n D.2.1 D.1 (sp_let (f i)).toNatClampNeg, up_n D.2.2.1 D.1 (f (i + 1) - 48).toNatClampNeg, up_n D.2.2.2 D.1 (f (i + 2) - 48).toNatClampNeg)
def sp_rd (f : Nat → Int32) (m : Nat) : Nat → sp_D → Nat → sp_D
  | 0, D, _ => D
  | n + 1, D, i => if m ≤ i then D else if f i = 32 then sp_rd f m n D (i + 1) else sp_rd f m n (sp_it f D i) (i + 3)
theorem sp_rd_e {f : Nat → Int32} {m n i : Nat} {D : sp_D} (h : m ≤ i) : sp_rd f m n D i = D := by
  cases n with
  | zero => rfl
  | succ n => rw [sp_rd, if_pos h]
theorem sp_let_r (c : Int32) (h : ¬ sp_let c = -9) : ∃ k, k < 6 ∧ sp_let c = nI k := by
  unfold sp_let at h ⊢
  repeat' split
  all_goals first | exact ⟨0, by decide, rfl⟩ | exact ⟨1, by decide, rfl⟩ | exact ⟨2, by decide, rfl⟩ | exact ⟨3, by decide, rfl⟩ | exact ⟨4, by decide, rfl⟩ | exact ⟨5, by decide, rfl⟩ | skip
  simp_all
theorem sp_dg_r {x : Int32} (h : 48 ≤ x ∧ x ≤ 57) : ∃ k, k < 10 ∧ x - 48 = nI k := by
  obtain ⟨j, hj, rfl⟩ := nI_of2 (n := 57) (M := 57) rfl (Int32.not_lt.mpr (Int32.le_trans (by decide) h.1)) h.2
  have h1 := h.1
  rw [n_48, nI_leI (by decide) (by omega)] at h1
  exact ⟨j - 48, by omega, by rw [n_48, nI_s h1]⟩
theorem sp_fi_ok {f : Nat → Int32} {m i : Nat} (h : sp_fi f m i = -9) (hm : m ≤ 60) (hi : i < m) : ¬ sp_let (f i) = -9 ∧ i + 2 < m ∧ (48 ≤ f (i + 1) ∧ f (i + 1) ≤ 57) ∧ (48 ≤ f (i + 2) ∧ f (i + 2) ≤ 57) := by
  unfold sp_fi at h
  split at h
  · exact absurd h (ni_ne9 (by omega))
  · rename_i h0
    rw [sp_fd] at h
    split at h
    · exact absurd h (ni_ne9 (by omega))
    · split at h
      · exact absurd h (ni_ne9 (by omega))
      · rename_i h1 h2
        rw [sp_fd] at h
        split at h
        · exact absurd h (ni_ne9 (by omega))
        · split at h
          · exact absurd h (ni_ne9 (by omega))
          · rename_i h3 h4
            exact ⟨h0, by omega, Decidable.not_not.mp h2, Decidable.not_not.mp h4⟩
/-- what a text without fault says at a place that is no blank -/
theorem sp_ft_ok {f : Nat → Int32} {m n c i : Nat} (h : sp_ft f m (n + 1) c i = -9) (hm : m ≤ 60) (hi : i < m) (hb : ¬ f i = 32) : c ≠ 9 ∧ sp_fi f m i = -9 ∧ sp_ft f m n (c + 1) (i + 3) = -9 := by
  rw [sp_ft, if_neg (by omega), if_neg hb] at h
  split at h
  · exact absurd h (ni_ne9 (by omega))
  · split at h
    · rename_i h1 h2
      exact ⟨h1, h2, h⟩
    · rename_i h1 h2
      exact absurd h h2
theorem it_k {f : Nat → Int32} {D : sp_D} {i : Nat} (h : ¬ sp_let (f i) = -9) : upd (fun j => nI (D.2.1 j)) D.1 (sp_let (f i)) = fun j => nI ((sp_it f D i).2.1 j) := by
  obtain ⟨k, hk, e⟩ := sp_let_r (f i) h
  show _ = fun j => nI (up_n D.2.1 D.1 (sp_let (f i)).toNatClampNeg j)
  rw [e, ni_cl (by omega), up_nI]
theorem it_f {f : Nat → Int32} {D : sp_D} {i : Nat} (h : 48 ≤ f (i + 1) ∧ f (i + 1) ≤ 57) : upd (fun j => nI (D.2.2.1 j)) D.1 (f (i + 1) - 48) = fun j => nI ((sp_it f D i).2.2.1 j) := by
  obtain ⟨k, hk, e⟩ := sp_dg_r h
  show _ = fun j => nI (up_n D.2.2.1 D.1 (f (i + 1) - 48).toNatClampNeg j)
  rw [e, ni_cl (by omega), up_nI]
theorem it_r {f : Nat → Int32} {D : sp_D} {i : Nat} (h : 48 ≤ f (i + 2) ∧ f (i + 2) ≤ 57) : upd (fun j => nI (D.2.2.2 j)) D.1 (f (i + 2) - 48) = fun j => nI ((sp_it f D i).2.2.2 j) := by
  obtain ⟨k, hk, e⟩ := sp_dg_r h
  show _ = fun j => nI (up_n D.2.2.2 D.1 (f (i + 2) - 48).toNatClampNeg j)
  rw [e, ni_cl (by omega), up_nI]
/-- the days' cells (3; 11, 12, 13) hold D, their fished is x -/
def rdH (h : mh_H) (x : Int32) (D : sp_D) : mh_H := mh_up (mh_up (mh_up (mh_up h 11 (mh_ia 0 9 (fun j => nI (D.2.1 j)))) 12 (mh_ia 0 9 (fun j => nI (D.2.2.1 j)))) 13 (mh_ia 0 9 (fun j => nI (D.2.2.2 j)))) 3 (mh_ob 0 [.ref 11, .ref 12, .ref 13, .int (nI D.1), .int x])
theorem rdH_n {h : mh_H} {x : Int32} {D : sp_D} {k : Nat} (hk : k ≠ 3 ∧ k ≠ 11 ∧ k ≠ 12 ∧ k ≠ 13) : rdH h x D k = h k := by
  unfold rdH
  rw [mh_up_n hk.1, mh_up_n hk.2.2.2, mh_up_n hk.2.2.1, mh_up_n hk.2.1]
theorem rdH_A {h : mh_H} {x : Int32} {D : sp_D} : dyA D (rdH h x D) := ⟨rfl, rfl, rfl⟩
theorem rdH_it {h : mh_H} {x : Int32} {D : sp_D} {f : Nat → Int32} {i : Nat} (h1 : ¬ sp_let (f i) = -9) (h2 : 48 ≤ f (i + 1) ∧ f (i + 1) ≤ 57) (h3 : 48 ≤ f (i + 2) ∧ f (i + 2) ≤ 57) : mh_up (mh_up (mh_up (mh_up (rdH h x D) 11 (mh_ia 0 9 (upd (fun j => nI (D.2.1 j)) D.1 (sp_let (f i))))) 12 (mh_ia 0 9 (upd (fun j => nI (D.2.2.1 j)) D.1 (f (i + 1) - 48)))) 13 (mh_ia 0 9 (upd (fun j => nI (D.2.2.2 j)) D.1 (f (i + 2) - 48)))) 3 (mh_ob 0 [.ref 11, .ref 12, .ref 13, .int (nI (D.1 + 1)), .int x]) = rdH h x (sp_it f D i) := by
  rw [it_k h1, it_f h2, it_r h3]
  unfold rdH
  rw [mh_r4 (k := 11) (by decide) (by decide) (by decide), mh_r3 (k := 12) (by decide) (by decide), mh_r2 (k := 13) (by decide), mh_up_uu]
  rfl
set_option maxHeartbeats 4000000 in
set_option maxRecDepth 100000 in
theorem l_X0_read (dom : List Nat) (h : mh_H) (a p m : Nat) (f : Nat → Int32) (ha : h a = mh_ob 2 [.ref p, .int (nI m)]) (hp : h p = mh_ia 0 60 f) (hm : m ≤ 60) (hna : a ≠ 3 ∧ a ≠ 11 ∧ a ≠ 12 ∧ a ≠ 13) (hnp : p ≠ 3 ∧ p ≠ 11 ∧ p ≠ 12 ∧ p ≠ 13) (x : Int32) : ∀ (nn : Nat) (D : sp_D) (i : Nat), m ≤ i + nn → i ≤ 62 → D.1 ≤ 9 → sp_ft f m nn D.1 i = -9 → At mX0_read dom 1 7 [some (.ref 3), some (.ref a), some (.int (nI i))] [] (rdH h x D) (mx_Rv (fun h' => h' = rdH h x (sp_rd f m nn D i))) := by
  intro nn
  induction nn with
  | zero =>
    intro D i hi hi2 hc hft
    refine ax_iload_n (pc := 7) dX0_read_7 rfl ?_
    refine ax_aload_n (pc := 8) dX0_read_8 rfl ?_
    refine ax_getf (pc := 9) fX0_28 dX0_read_9 (by first | exact (rdH_n hna).trans ha | exact (rdH_n hnp).trans hp | rfl | exact (mh_up_n hna.2.1).trans ((rdH_n hna).trans ha) | exact (mh_up_n hnp.2.1).trans ((rdH_n hnp).trans hp) | exact (mh_up_n hna.2.2.1).trans ((mh_up_n hna.2.1).trans ((rdH_n hna).trans ha)) | exact (mh_up_n hnp.2.2.1).trans ((mh_up_n hnp.2.1).trans ((rdH_n hnp).trans hp))) rfl ?_
    refine ax_icmpge (pc := 12) (tgt := 125) dX0_read_12 (by decide) (fun _ => ?_) (fun q => absurd (nI_le (by omega) (by omega)) q)
    refine ax_vret (pc := 125) dX0_read_125 rfl ?_
    exact ⟨rfl, by rw [sp_rd_e (by omega)]⟩
  | succ nn ih =>
    intro D i hi hi2 hc hft
    by_cases hmi : m ≤ i
    · refine ax_iload_n (pc := 7) dX0_read_7 rfl ?_
      refine ax_aload_n (pc := 8) dX0_read_8 rfl ?_
      refine ax_getf (pc := 9) fX0_28 dX0_read_9 (by first | exact (rdH_n hna).trans ha | exact (rdH_n hnp).trans hp | rfl | exact (mh_up_n hna.2.1).trans ((rdH_n hna).trans ha) | exact (mh_up_n hnp.2.1).trans ((rdH_n hnp).trans hp) | exact (mh_up_n hna.2.2.1).trans ((mh_up_n hna.2.1).trans ((rdH_n hna).trans ha)) | exact (mh_up_n hnp.2.2.1).trans ((mh_up_n hnp.2.1).trans ((rdH_n hnp).trans hp))) rfl ?_
      refine ax_icmpge (pc := 12) (tgt := 125) dX0_read_12 (by decide) (fun _ => ?_) (fun q => absurd (nI_le (by omega) (by omega)) q)
      refine ax_vret (pc := 125) dX0_read_125 rfl ?_
      exact ⟨rfl, by rw [sp_rd_e (by omega)]⟩
    · refine ax_iload_n (pc := 7) dX0_read_7 rfl ?_
      refine ax_aload_n (pc := 8) dX0_read_8 rfl ?_
      refine ax_getf (pc := 9) fX0_28 dX0_read_9 (by first | exact (rdH_n hna).trans ha | exact (rdH_n hnp).trans hp | rfl | exact (mh_up_n hna.2.1).trans ((rdH_n hna).trans ha) | exact (mh_up_n hnp.2.1).trans ((rdH_n hnp).trans hp) | exact (mh_up_n hna.2.2.1).trans ((mh_up_n hna.2.1).trans ((rdH_n hna).trans ha)) | exact (mh_up_n hnp.2.2.1).trans ((mh_up_n hnp.2.1).trans ((rdH_n hnp).trans hp))) rfl ?_
      refine ax_icmpge (pc := 12) (tgt := 125) dX0_read_12 (by decide) (fun q => absurd q (nI_ge (by omega) (by omega))) (fun _ => ?_)
      refine ax_aload_n (pc := 15) dX0_read_15 rfl ?_
      refine ax_getf (pc := 16) fX0_31 dX0_read_16 (by first | exact (rdH_n hna).trans ha | exact (rdH_n hnp).trans hp | rfl | exact (mh_up_n hna.2.1).trans ((rdH_n hna).trans ha) | exact (mh_up_n hnp.2.1).trans ((rdH_n hnp).trans hp) | exact (mh_up_n hna.2.2.1).trans ((mh_up_n hna.2.1).trans ((rdH_n hna).trans ha)) | exact (mh_up_n hnp.2.2.1).trans ((mh_up_n hnp.2.1).trans ((rdH_n hnp).trans hp))) rfl ?_
      refine ax_iload_n (pc := 19) dX0_read_19 rfl ?_
      refine ax_iald (pc := 20) dX0_read_20 (by first | exact (rdH_n hna).trans ha | exact (rdH_n hnp).trans hp | rfl | exact (mh_up_n hna.2.1).trans ((rdH_n hna).trans ha) | exact (mh_up_n hnp.2.1).trans ((rdH_n hnp).trans hp) | exact (mh_up_n hna.2.2.1).trans ((mh_up_n hna.2.1).trans ((rdH_n hna).trans ha)) | exact (mh_up_n hnp.2.2.1).trans ((mh_up_n hnp.2.1).trans ((rdH_n hnp).trans hp))) (ni_in9 (by omega) (by decide)) ?_
      rw [ni_cl (by omega)]
      refine ax_bipush (pc := 21) (v := 32) dX0_read_21 (by decide) ?_
      refine ax_icmpne (pc := 23) (tgt := 32) dX0_read_23 (by decide) (fun c23 => ?_) (fun c23 => ?_)
      · obtain ⟨hc9, hfi, hft2⟩ := sp_ft_ok hft hm (by omega) c23
        obtain ⟨o1, o2, o3, o4_⟩ := sp_fi_ok hfi hm (by omega)
        refine ax_aload_n (pc := 32) dX0_read_32 rfl ?_
        refine ax_getf (pc := 33) fX0_21 dX0_read_33 (by first | exact (rdH_n hna).trans ha | exact (rdH_n hnp).trans hp | rfl | exact (mh_up_n hna.2.1).trans ((rdH_n hna).trans ha) | exact (mh_up_n hnp.2.1).trans ((rdH_n hnp).trans hp) | exact (mh_up_n hna.2.2.1).trans ((mh_up_n hna.2.1).trans ((rdH_n hna).trans ha)) | exact (mh_up_n hnp.2.2.1).trans ((mh_up_n hnp.2.1).trans ((rdH_n hnp).trans hp))) rfl ?_
        refine ax_bipush (pc := 36) (v := 9) dX0_read_36 (by decide) ?_
        refine ax_icmpge (pc := 38) (tgt := 119) dX0_read_38 (by decide) (fun q => absurd q (by rw [n_9, nI_leI (by decide) (by omega)]; omega)) (fun _ => ?_)
        refine ax_iload_n (pc := 41) dX0_read_41 rfl ?_
        refine ax_iconst (pc := 42) (v := 2) dX0_read_42 (by decide) ?_
        refine ax_iadd (pc := 43) dX0_read_43 ?_
        refine ax_aload_n (pc := 44) dX0_read_44 rfl ?_
        refine ax_getf (pc := 45) fX0_28 dX0_read_45 (by first | exact (rdH_n hna).trans ha | exact (rdH_n hnp).trans hp | rfl | exact (mh_up_n hna.2.1).trans ((rdH_n hna).trans ha) | exact (mh_up_n hnp.2.1).trans ((rdH_n hnp).trans hp) | exact (mh_up_n hna.2.2.1).trans ((mh_up_n hna.2.1).trans ((rdH_n hna).trans ha)) | exact (mh_up_n hnp.2.2.1).trans ((mh_up_n hnp.2.1).trans ((rdH_n hnp).trans hp))) rfl ?_
        refine ax_icmpge (pc := 48) (tgt := 119) dX0_read_48 (by decide) (fun q => absurd q (by rw [n_2, nI_add, nI_leI (by omega) (by omega)]; omega)) (fun _ => ?_)
        refine ax_aload_n (pc := 51) dX0_read_51 rfl ?_
        refine ax_getf (pc := 52) fX0_9 dX0_read_52 (by first | exact (rdH_n hna).trans ha | exact (rdH_n hnp).trans hp | rfl | exact (mh_up_n hna.2.1).trans ((rdH_n hna).trans ha) | exact (mh_up_n hnp.2.1).trans ((rdH_n hnp).trans hp) | exact (mh_up_n hna.2.2.1).trans ((mh_up_n hna.2.1).trans ((rdH_n hna).trans ha)) | exact (mh_up_n hnp.2.2.1).trans ((mh_up_n hnp.2.1).trans ((rdH_n hnp).trans hp))) rfl ?_
        refine ax_aload_n (pc := 55) dX0_read_55 rfl ?_
        refine ax_getf (pc := 56) fX0_21 dX0_read_56 (by first | exact (rdH_n hna).trans ha | exact (rdH_n hnp).trans hp | rfl | exact (mh_up_n hna.2.1).trans ((rdH_n hna).trans ha) | exact (mh_up_n hnp.2.1).trans ((rdH_n hnp).trans hp) | exact (mh_up_n hna.2.2.1).trans ((mh_up_n hna.2.1).trans ((rdH_n hna).trans ha)) | exact (mh_up_n hnp.2.2.1).trans ((mh_up_n hnp.2.1).trans ((rdH_n hnp).trans hp))) rfl ?_
        refine ax_aload_n (pc := 59) dX0_read_59 rfl ?_
        refine ax_getf (pc := 60) fX0_31 dX0_read_60 (by first | exact (rdH_n hna).trans ha | exact (rdH_n hnp).trans hp | rfl | exact (mh_up_n hna.2.1).trans ((rdH_n hna).trans ha) | exact (mh_up_n hnp.2.1).trans ((rdH_n hnp).trans hp) | exact (mh_up_n hna.2.2.1).trans ((mh_up_n hna.2.1).trans ((rdH_n hna).trans ha)) | exact (mh_up_n hnp.2.2.1).trans ((mh_up_n hnp.2.1).trans ((rdH_n hnp).trans hp))) rfl ?_
        refine ax_iload_n (pc := 63) dX0_read_63 rfl ?_
        refine ax_iald (pc := 64) dX0_read_64 (by first | exact (rdH_n hna).trans ha | exact (rdH_n hnp).trans hp | rfl | exact (mh_up_n hna.2.1).trans ((rdH_n hna).trans ha) | exact (mh_up_n hnp.2.1).trans ((rdH_n hnp).trans hp) | exact (mh_up_n hna.2.2.1).trans ((mh_up_n hna.2.1).trans ((rdH_n hna).trans ha)) | exact (mh_up_n hnp.2.2.1).trans ((mh_up_n hnp.2.1).trans ((rdH_n hnp).trans hp))) (ni_in9 (by omega) (by decide)) ?_
        rw [ni_cl (by omega)]
        refine ax_eNi1 (pc := 65) nX0_34 dX0_read_65 (by decide) (Nat.le_of_ble_eq_true rfl) (c_X4_kindByLetter _ _ _) ?_
        refine ax_iast (pc := 68) dX0_read_68 (by first | exact (rdH_n hna).trans ha | exact (rdH_n hnp).trans hp | rfl | exact (mh_up_n hna.2.1).trans ((rdH_n hna).trans ha) | exact (mh_up_n hnp.2.1).trans ((rdH_n hnp).trans hp) | exact (mh_up_n hna.2.2.1).trans ((mh_up_n hna.2.1).trans ((rdH_n hna).trans ha)) | exact (mh_up_n hnp.2.2.1).trans ((mh_up_n hnp.2.1).trans ((rdH_n hnp).trans hp))) (ni_in9 (by omega) (by decide)) ?_
        rw [ni_cl (by omega)]
        refine ax_aload_n (pc := 69) dX0_read_69 rfl ?_
        refine ax_getf (pc := 70) fX0_15 dX0_read_70 (by first | exact (rdH_n hna).trans ha | exact (rdH_n hnp).trans hp | rfl | exact (mh_up_n hna.2.1).trans ((rdH_n hna).trans ha) | exact (mh_up_n hnp.2.1).trans ((rdH_n hnp).trans hp) | exact (mh_up_n hna.2.2.1).trans ((mh_up_n hna.2.1).trans ((rdH_n hna).trans ha)) | exact (mh_up_n hnp.2.2.1).trans ((mh_up_n hnp.2.1).trans ((rdH_n hnp).trans hp))) rfl ?_
        refine ax_aload_n (pc := 73) dX0_read_73 rfl ?_
        refine ax_getf (pc := 74) fX0_21 dX0_read_74 (by first | exact (rdH_n hna).trans ha | exact (rdH_n hnp).trans hp | rfl | exact (mh_up_n hna.2.1).trans ((rdH_n hna).trans ha) | exact (mh_up_n hnp.2.1).trans ((rdH_n hnp).trans hp) | exact (mh_up_n hna.2.2.1).trans ((mh_up_n hna.2.1).trans ((rdH_n hna).trans ha)) | exact (mh_up_n hnp.2.2.1).trans ((mh_up_n hnp.2.1).trans ((rdH_n hnp).trans hp))) rfl ?_
        refine ax_aload_n (pc := 77) dX0_read_77 rfl ?_
        refine ax_getf (pc := 78) fX0_31 dX0_read_78 (by first | exact (rdH_n hna).trans ha | exact (rdH_n hnp).trans hp | rfl | exact (mh_up_n hna.2.1).trans ((rdH_n hna).trans ha) | exact (mh_up_n hnp.2.1).trans ((rdH_n hnp).trans hp) | exact (mh_up_n hna.2.2.1).trans ((mh_up_n hna.2.1).trans ((rdH_n hna).trans ha)) | exact (mh_up_n hnp.2.2.1).trans ((mh_up_n hnp.2.1).trans ((rdH_n hnp).trans hp))) rfl ?_
        refine ax_iload_n (pc := 81) dX0_read_81 rfl ?_
        refine ax_iconst (pc := 82) (v := 1) dX0_read_82 (by decide) ?_
        refine ax_iadd (pc := 83) dX0_read_83 ?_
        refine ax_iald (pc := 84) dX0_read_84 (by first | exact (rdH_n hna).trans ha | exact (rdH_n hnp).trans hp | rfl | exact (mh_up_n hna.2.1).trans ((rdH_n hna).trans ha) | exact (mh_up_n hnp.2.1).trans ((rdH_n hnp).trans hp) | exact (mh_up_n hna.2.2.1).trans ((mh_up_n hna.2.1).trans ((rdH_n hna).trans ha)) | exact (mh_up_n hnp.2.2.1).trans ((mh_up_n hnp.2.1).trans ((rdH_n hnp).trans hp))) (by rw [nI_1]; exact ni_in9 (by omega) (by decide)) ?_
        rw [nI_1, ni_cl (by omega)]
        refine ax_bipush (pc := 85) (v := 48) dX0_read_85 (by decide) ?_
        refine ax_isub (pc := 87) dX0_read_87 ?_
        refine ax_iast (pc := 88) dX0_read_88 (by first | exact (rdH_n hna).trans ha | exact (rdH_n hnp).trans hp | rfl | exact (mh_up_n hna.2.1).trans ((rdH_n hna).trans ha) | exact (mh_up_n hnp.2.1).trans ((rdH_n hnp).trans hp) | exact (mh_up_n hna.2.2.1).trans ((mh_up_n hna.2.1).trans ((rdH_n hna).trans ha)) | exact (mh_up_n hnp.2.2.1).trans ((mh_up_n hnp.2.1).trans ((rdH_n hnp).trans hp))) (ni_in9 (by omega) (by decide)) ?_
        rw [ni_cl (by omega)]
        refine ax_aload_n (pc := 89) dX0_read_89 rfl ?_
        refine ax_getf (pc := 90) fX0_18 dX0_read_90 (by first | exact (rdH_n hna).trans ha | exact (rdH_n hnp).trans hp | rfl | exact (mh_up_n hna.2.1).trans ((rdH_n hna).trans ha) | exact (mh_up_n hnp.2.1).trans ((rdH_n hnp).trans hp) | exact (mh_up_n hna.2.2.1).trans ((mh_up_n hna.2.1).trans ((rdH_n hna).trans ha)) | exact (mh_up_n hnp.2.2.1).trans ((mh_up_n hnp.2.1).trans ((rdH_n hnp).trans hp))) rfl ?_
        refine ax_aload_n (pc := 93) dX0_read_93 rfl ?_
        refine ax_getf (pc := 94) fX0_21 dX0_read_94 (by first | exact (rdH_n hna).trans ha | exact (rdH_n hnp).trans hp | rfl | exact (mh_up_n hna.2.1).trans ((rdH_n hna).trans ha) | exact (mh_up_n hnp.2.1).trans ((rdH_n hnp).trans hp) | exact (mh_up_n hna.2.2.1).trans ((mh_up_n hna.2.1).trans ((rdH_n hna).trans ha)) | exact (mh_up_n hnp.2.2.1).trans ((mh_up_n hnp.2.1).trans ((rdH_n hnp).trans hp))) rfl ?_
        refine ax_aload_n (pc := 97) dX0_read_97 rfl ?_
        refine ax_getf (pc := 98) fX0_31 dX0_read_98 (by first | exact (rdH_n hna).trans ha | exact (rdH_n hnp).trans hp | rfl | exact (mh_up_n hna.2.1).trans ((rdH_n hna).trans ha) | exact (mh_up_n hnp.2.1).trans ((rdH_n hnp).trans hp) | exact (mh_up_n hna.2.2.1).trans ((mh_up_n hna.2.1).trans ((rdH_n hna).trans ha)) | exact (mh_up_n hnp.2.2.1).trans ((mh_up_n hnp.2.1).trans ((rdH_n hnp).trans hp))) rfl ?_
        refine ax_iload_n (pc := 101) dX0_read_101 rfl ?_
        refine ax_iconst (pc := 102) (v := 2) dX0_read_102 (by decide) ?_
        refine ax_iadd (pc := 103) dX0_read_103 ?_
        refine ax_iald (pc := 104) dX0_read_104 (by first | exact (rdH_n hna).trans ha | exact (rdH_n hnp).trans hp | rfl | exact (mh_up_n hna.2.1).trans ((rdH_n hna).trans ha) | exact (mh_up_n hnp.2.1).trans ((rdH_n hnp).trans hp) | exact (mh_up_n hna.2.2.1).trans ((mh_up_n hna.2.1).trans ((rdH_n hna).trans ha)) | exact (mh_up_n hnp.2.2.1).trans ((mh_up_n hnp.2.1).trans ((rdH_n hnp).trans hp))) (by rw [n_2, nI_add]; exact ni_in9 (by omega) (by decide)) ?_
        rw [n_2, nI_add, ni_cl (by omega)]
        refine ax_bipush (pc := 105) (v := 48) dX0_read_105 (by decide) ?_
        refine ax_isub (pc := 107) dX0_read_107 ?_
        refine ax_iast (pc := 108) dX0_read_108 (by first | exact (rdH_n hna).trans ha | exact (rdH_n hnp).trans hp | rfl | exact (mh_up_n hna.2.1).trans ((rdH_n hna).trans ha) | exact (mh_up_n hnp.2.1).trans ((rdH_n hnp).trans hp) | exact (mh_up_n hna.2.2.1).trans ((mh_up_n hna.2.1).trans ((rdH_n hna).trans ha)) | exact (mh_up_n hnp.2.2.1).trans ((mh_up_n hnp.2.1).trans ((rdH_n hnp).trans hp))) (ni_in9 (by omega) (by decide)) ?_
        rw [ni_cl (by omega)]
        refine ax_aload_n (pc := 109) dX0_read_109 rfl ?_
        refine ax_dup (pc := 110) dX0_read_110 rfl ?_
        refine ax_getf (pc := 111) fX0_21 dX0_read_111 (by first | exact (rdH_n hna).trans ha | exact (rdH_n hnp).trans hp | rfl | exact (mh_up_n hna.2.1).trans ((rdH_n hna).trans ha) | exact (mh_up_n hnp.2.1).trans ((rdH_n hnp).trans hp) | exact (mh_up_n hna.2.2.1).trans ((mh_up_n hna.2.1).trans ((rdH_n hna).trans ha)) | exact (mh_up_n hnp.2.2.1).trans ((mh_up_n hnp.2.1).trans ((rdH_n hnp).trans hp))) rfl ?_
        refine ax_iconst (pc := 114) (v := 1) dX0_read_114 (by decide) ?_
        refine ax_iadd (pc := 115) dX0_read_115 ?_
        rw [nI_1]
        refine ax_puti3 (pc := 116) gX0_21 dX0_read_116 (by first | exact (rdH_n hna).trans ha | exact (rdH_n hnp).trans hp | rfl | exact (mh_up_n hna.2.1).trans ((rdH_n hna).trans ha) | exact (mh_up_n hnp.2.1).trans ((rdH_n hnp).trans hp) | exact (mh_up_n hna.2.2.1).trans ((mh_up_n hna.2.1).trans ((rdH_n hna).trans ha)) | exact (mh_up_n hnp.2.2.1).trans ((mh_up_n hnp.2.1).trans ((rdH_n hnp).trans hp))) ?_
        refine At.hp (rdH_it o1 o3 o4_) ?_
        refine ax_inc2p3 (pc := 119) dX0_read_119 rfl (by decide) ?_
        refine ax_goto (pc := 122) (tgt := 7) dX0_read_122 (by decide) ?_
        rw [n_3, nI_add, sp_rd, if_neg (by omega), if_neg c23]
        exact ih (sp_it f D i) (i + 3) (by omega) (by omega) (by show D.1 + 1 ≤ 9; omega) hft2
      · refine ax_inc2p1 (pc := 26) dX0_read_26 rfl (by decide) ?_
        refine ax_goto (pc := 29) (tgt := 7) dX0_read_29 (by decide) ?_
        rw [sp_ft, if_neg (by omega), if_pos c23] at hft
        rw [nI_1, sp_rd, if_neg (by omega), if_pos c23]
        exact ih D (i + 1) (by omega) (by omega) hc hft
set_option maxHeartbeats 4000000 in
set_option maxRecDepth 100000 in
theorem c_X0_read (dom : List Nat) (h : mh_H) (a p m : Nat) (f : Nat → Int32) (ha : h a = mh_ob 2 [.ref p, .int (nI m)]) (hp : h p = mh_ia 0 60 f) (hm : m ≤ 60) (hna : a ≠ 3 ∧ a ≠ 11 ∧ a ≠ 12 ∧ a ≠ 13) (hnp : p ≠ 3 ∧ p ≠ 11 ∧ p ≠ 12 ∧ p ≠ 13) (D : sp_D) (fi : Nat) (hD : dyP D fi 3 11 12 13 h) (hft : sp_ft f m m 0 0 = -9) : Mt mX0_read dom 1 [.ref 3, .ref a] h (mx_Rv (fun h' => h' = rdH h (nI fi) (sp_rd f m m (0, D.2.1, D.2.2.1, D.2.2.2) 0))) := by
  refine Mt.of (L := [some (.ref 3), some (.ref a), none]) rfl (Nat.le_of_ble_eq_true rfl) rfl ?_
  refine ax_aload_n (pc := 0) dX0_read_0 rfl ?_
  refine ax_iconst (pc := 1) (v := 0) dX0_read_1 (by decide) ?_
  refine ax_puti3 (pc := 2) gX0_21 dX0_read_2 (by first | exact hD.1) ?_
  refine ax_iconst (pc := 5) (v := 0) dX0_read_5 (by decide) ?_
  refine ax_istore2 (pc := 6) dX0_read_6 rfl (by decide) ?_
  refine At.hp (h' := rdH h (nI fi) (0, D.2.1, D.2.2.1, D.2.2.2)) (by unfold rdH; rw [mh_up_id hD.2.1, mh_up_id hD.2.2.1, mh_up_id hD.2.2.2]; rfl) ?_
  exact l_X0_read dom h a p m f ha hp hm hna hnp (nI fi) m (0, D.2.1, D.2.2.1, D.2.2.2) 0 (by omega) (by omega) (Nat.zero_le _) hft
def kcH (h : mh_H) : Nat → mh_H
  | 0 => h
  | j + 1 => mh_up (kcH h j) (60 + j) (mh_ob 1 [.ref (64 + j), .ref (68 + j), .int (-1)])
theorem kcH_n {h : mh_H} {j k : Nat} (hk : ∀ i, i < j → k ≠ 60 + i) : kcH h j k = h k := by
  induction j with
  | zero => rfl
  | succ j ih =>
    rw [kcH, mh_up_n (hk j (by omega))]
    exact ih (fun i hi => hk i (by omega))
theorem kcH_s {h : mh_H} {j k : Nat} (hk : k < j) : kcH h j (60 + k) = mh_ob 1 [.ref (64 + k), .ref (68 + k), .int (-1)] := by
  induction j with
  | zero => omega
  | succ j ih =>
    rw [kcH]
    by_cases h1 : k = j
    · subst h1; exact mh_up_s
    · rw [mh_up_n (by omega)]; exact ih (by omega)
def sp_leat (s : sg) (r : Int32) : Int32 × sg := if ¬ (0 ≤ r ∧ r ≤ 3) then (-1, s) else if s_tz s r.toNatClampNeg < 0 then (-3, u_fnd s 1) else if ¬ sp_ft (s_tc s r.toNatClampNeg) (s_tz s r.toNatClampNeg).toNatClampNeg (s_tz s r.toNatClampNeg).toNatClampNeg 0 0 = -9 then (-4, s) else (nI (sp_rd (s_tc s r.toNatClampNeg) (s_tz s r.toNatClampNeg).toNatClampNeg (s_tz s r.toNatClampNeg).toNatClampNeg (0, (s_D s).2.1, (s_D s).2.2.1, (s_D s).2.2.2) 0).1, u_leat s (sp_rd (s_tc s r.toNatClampNeg) (s_tz s r.toNatClampNeg).toNatClampNeg (s_tz s r.toNatClampNeg).toNatClampNeg (0, (s_D s).2.1, (s_D s).2.2.1, (s_D s).2.2.2) 0) [] (fun _ => none))
theorem rd_ok {f : Nat → Int32} {m : Nat} (hm : m ≤ 60) : ∀ (n : Nat) (D : sp_D) (i : Nat), m ≤ i + n → D.1 ≤ 9 → (∀ k, k < 9 → D.2.1 k < 6 ∧ D.2.2.1 k < 10 ∧ D.2.2.2 k < 10) → sp_ft f m n D.1 i = -9 → 2 ≤ (sp_rd f m n D i).1 ∧ (sp_rd f m n D i).1 ≤ 9 ∧ ∀ k, k < 9 → (sp_rd f m n D i).2.1 k < 6 ∧ (sp_rd f m n D i).2.2.1 k < 10 ∧ (sp_rd f m n D i).2.2.2 k < 10 := by
  have key : ∀ (n : Nat) (D : sp_D) (i : Nat), m ≤ i → D.1 ≤ 9 → (∀ k, k < 9 → D.2.1 k < 6 ∧ D.2.2.1 k < 10 ∧ D.2.2.2 k < 10) → sp_ft f m n D.1 i = -9 → 2 ≤ (sp_rd f m n D i).1 ∧ (sp_rd f m n D i).1 ≤ 9 ∧ ∀ k, k < 9 → (sp_rd f m n D i).2.1 k < 6 ∧ (sp_rd f m n D i).2.2.1 k < 10 ∧ (sp_rd f m n D i).2.2.2 k < 10 := by
    intro n D i hi h1 h2 h3
    rw [sp_ft_e hi] at h3
    rw [sp_rd_e hi]
    split at h3
    · exact absurd h3 (ni_ne9 (by omega))
    · exact ⟨by omega, h1, h2⟩
  intro n
  induction n with
  | zero => intro D i hi h1 h2 h3; exact key 0 D i (by omega) h1 h2 h3
  | succ n ih =>
    intro D i hi h1 h2 h3
    by_cases hmi : m ≤ i
    · exact key _ D i hmi h1 h2 h3
    · by_cases hb : f i = 32
      · rw [sp_ft, if_neg hmi, if_pos hb] at h3
        rw [sp_rd, if_neg hmi, if_pos hb]
        exact ih D (i + 1) (by omega) h1 h2 h3
      · obtain ⟨a1, a2, a3⟩ := sp_ft_ok h3 hm (by omega) hb
        obtain ⟨b1, b2, b3, b4⟩ := sp_fi_ok a2 hm (by omega)
        rw [sp_rd, if_neg hmi, if_neg hb]
        refine ih (sp_it f D i) (i + 3) (by omega) (by show D.1 + 1 ≤ 9; omega) (fun k hk => ⟨?_, ?_, ?_⟩) a3
        · obtain ⟨q, hq, e⟩ := sp_let_r (f i) b1
          exact up_n_lt (by rw [e, ni_cl (by omega)]; exact hq) (h2 k hk).1
        · obtain ⟨q, hq, e⟩ := sp_dg_r b3
          exact up_n_lt (by rw [e, ni_cl (by omega)]; exact hq) (h2 k hk).2.1
        · obtain ⟨q, hq, e⟩ := sp_dg_r b4
          exact up_n_lt (by rw [e, ni_cl (by omega)]; exact hq) (h2 k hk).2.2
theorem CP_leat {s : sg} {h h' : mh_H} {D : sp_D} (h0 : D.1 ≠ 0) (c : CP s h) (he : ∀ k, ¬ (k = 3 ∨ k = 4 ∨ k = 5 ∨ k = 11 ∨ k = 12 ∨ k = 13 ∨ k = 60 ∨ k = 61 ∨ k = 62) → h' k = h k) (h3 : dyP D 0 3 11 12 13 h') (h4 : h' 4 = wc (0, 2, 0, false, 0)) (h5 : h' 5 = mh_ob 1 [.ref 17, .ref 18, .int 0]) (h6 : ∀ k, k < 3 → h' (60 + k) = mh_ob 1 [.ref (64 + k), .ref (68 + k), .int (-1)]) : CP (u_leat s D [] (fun _ => none)) h' := by
  obtain ⟨c1, c2, c3, c4, c5, c6, c7, c8, c9⟩ := c
  have e0 : rp D [] = ((0, 2, 0, false, 0), 0) := by
    show rp_0 D = _
    unfold rp_0
    rw [if_neg h0]
  refine ⟨gS_k (fun k hk => he k (by omega)) c1, gC_k (fun k hk => he k (by omega)) c2, gR_k (fun k hk => he k (by omega)) c3, gT_k (fun k hk => he k (by omega)) c4, ?_, ?_, ?_, fun k hk => ?_, gX_k (fun k hk => he k (by omega)) c9⟩
  · show dyP D (rp D []).2 3 11 12 13 h'
    rw [e0]; exact h3
  · show h' 4 = wc (rp D []).1
    rw [e0]; exact h4
  · obtain ⟨f, g, e1, e2, e3, e4⟩ := c7
    exact ⟨f, g, h5, (he 17 (by decide)).trans e2, (he 18 (by decide)).trans e3, fun j d hd => by cases hd⟩
  · obtain ⟨f, g, q1, q2, q3, q4⟩ := c8 k hk
    exact ⟨f, g, h6 k hk, (he _ (by omega)).trans q2, (he _ (by omega)).trans q3, fun ds hds => by cases hds⟩
set_option maxHeartbeats 4000000 in
set_option maxRecDepth 100000 in
theorem l_X4_leat (dom : List Nat) (h : mh_H) (t : Int32) (ask fin : Int32) (up lo : Int64) (D : sp_D) (x : Int32) (h0 : h 0 = o4 ask up lo fin) (h6 : h 6 = mh_ra 3 3 (fun k => some (60 + k))) (h3 : h 3 = mh_ob 0 [.ref 11, .ref 12, .ref 13, .int (nI D.1), .int x]) (hk : ∀ k, k < 3 → ∃ z, h (60 + k) = mh_ob 1 [.ref (64 + k), .ref (68 + k), z]) : ∀ (nn j : Nat), j + nn = 3 → At mX4_leat dom 5 71 [some (.ref 0), some (.int t), some (.int (nI j))] [] (kcH h j) (mx_Ri (fun v' h' => v' = nI D.1 ∧ h' = kcH h 3)) := by
  intro nn
  induction nn with
  | zero =>
    intro j hj
    have hj : j = 3 := by omega
    subst hj
    refine ax_iload_n (pc := 71) dX4_leat_71 rfl ?_
    refine ax_iconst (pc := 72) (v := 3) dX4_leat_72 (by decide) ?_
    refine ax_icmpge (pc := 73) (tgt := 92) dX4_leat_73 (by decide) (fun _ => ?_) (fun q => absurd (by decide) q)
    refine ax_aload_n (pc := 92) dX4_leat_92 rfl ?_
    refine ax_getf (pc := 93) fX4_21 dX4_leat_93 (by first | exact h0 | exact h3) rfl ?_
    refine ax_getf (pc := 96) fX4_129 dX4_leat_96 (by first | exact h0 | exact h3) rfl ?_
    refine ax_iret (pc := 99) dX4_leat_99 rfl ?_
    exact ⟨_, rfl, rfl, rfl⟩
  | succ nn ih =>
    intro j hj
    have hlt : j < 3 := by omega
    obtain ⟨z, hz⟩ := hk j hlt
    refine ax_iload_n (pc := 71) dX4_leat_71 rfl ?_
    refine ax_iconst (pc := 72) (v := 3) dX4_leat_72 (by decide) ?_
    refine ax_icmpge (pc := 73) (tgt := 92) dX4_leat_73 (by decide) (fun q => absurd q (by rw [n_3, nI_leI (by decide) (by omega)]; omega)) (fun _ => ?_)
    refine ax_aload_n (pc := 76) dX4_leat_76 rfl ?_
    refine ax_getf (pc := 77) fX4_39 dX4_leat_77 (by first | exact (kcH_n (fun i hi => by omega)).trans h0 | exact (kcH_n (fun i hi => by omega)).trans h6 | exact (kcH_n (fun i hi => by omega)).trans hz) rfl ?_
    refine ax_iload_n (pc := 80) dX4_leat_80 rfl ?_
    refine ax_aald (pc := 81) dX4_leat_81 (by first | exact (kcH_n (fun i hi => by omega)).trans h0 | exact (kcH_n (fun i hi => by omega)).trans h6 | exact (kcH_n (fun i hi => by omega)).trans hz) (by decide) (ni_in9 hlt (by decide)) (by rw [ni_cl (by omega)]) ?_
    refine ax_iconst (pc := 82) (v := -1) dX4_leat_82 (by decide) ?_
    refine ax_puti2 (pc := 83) gX4_72 dX4_leat_83 (by first | exact (kcH_n (fun i hi => by omega)).trans h0 | exact (kcH_n (fun i hi => by omega)).trans h6 | exact (kcH_n (fun i hi => by omega)).trans hz) ?_
    refine ax_inc2p1 (pc := 86) dX4_leat_86 rfl (by decide) ?_
    refine ax_goto (pc := 89) (tgt := 71) dX4_leat_89 (by decide) ?_
    rw [nI_1]
    exact ih (j + 1) (by omega)
set_option maxHeartbeats 4000000 in
set_option maxRecDepth 100000 in
theorem c_X4_leat (dom : List Nat) (h : mh_H) (s : sg) (r : Int32) (hc : CP s h) (hv : IV s) : Mt mX4_leat dom 5 [.ref 0, .int r] h (mx_Ri (fun v' h' => v' = (sp_leat s r).1 ∧ CP (sp_leat s r).2 h')) := by
  refine Mt.of (L := [some (.ref 0), some (.int r), none]) rfl (Nat.le_of_ble_eq_true rfl) rfl ?_
  obtain ⟨c1, c2, c3, c4, c5, c6, c7, c8, c9⟩ := id hc
  obtain ⟨f, g, e1, e2, e3, e4⟩ := id c7
  have hl40 := hv.2.2.2.1.1
  have c4b := c4
  refine ax_iload_n (pc := 0) dX4_leat_0 rfl ?_
  refine ax_eSi1 (pc := 1) sX4_115 dX4_leat_1 (by decide) (Nat.le_of_ble_eq_true rfl) (c_X4_isText _ _ _) ?_
  refine ax_ifneB (pc := 4) (tgt := 9) dX4_leat_4 (by decide) (fun c4a => ?_) (fun c4a => ?_)
  · obtain ⟨j, hj, rfl⟩ := ix_3 c4a
    refine ax_aload_n (pc := 9) dX4_leat_9 rfl ?_
    refine ax_getf (pc := 10) fX4_15 dX4_leat_10 (by first | exact c1.1 | exact c2.2.1 | exact c5.1 | exact (c4b j hj).1 | exact e1 | exact (rdH_n (by decide)).trans c1.1 | exact (rdH_n (by decide)).trans e1) rfl ?_
    refine ax_iload_n (pc := 13) dX4_leat_13 rfl ?_
    refine ax_aald (pc := 14) dX4_leat_14 (by first | exact c1.1 | exact c2.2.1 | exact c5.1 | exact (c4b j hj).1 | exact e1 | exact (rdH_n (by decide)).trans c1.1 | exact (rdH_n (by decide)).trans e1) (by decide) (ni_in9 hj (by decide)) (by rw [ni_cl (by omega)]) ?_
    refine ax_eVi0 (pc := 15) vX4_94 dX4_leat_15 (by decide) (by first | exact c1.1 | exact c2.2.1 | exact c5.1 | exact (c4b j hj).1 | exact e1 | exact (rdH_n (by decide)).trans c1.1 | exact (rdH_n (by decide)).trans e1) (Nat.le_of_ble_eq_true rfl) (c_X2_isThere _ _ _ _ _ (c4b j hj).1) ?_
    refine ax_ifneB (pc := 18) (tgt := 27) dX4_leat_18 (by decide) (fun c18 => ?_) (fun c18 => ?_)
    · obtain ⟨m, hm, e⟩ := z_m (hv.2.1 j hj) (Int32.not_lt.mpr c18)
      have em : (s_tz s j).toNatClampNeg = m := by rw [e, ni_cl (by omega)]
      refine ax_aload_n (pc := 27) dX4_leat_27 rfl ?_
      refine ax_getf (pc := 28) fX4_15 dX4_leat_28 (by first | exact c1.1 | exact c2.2.1 | exact c5.1 | exact (c4b j hj).1 | exact e1 | exact (rdH_n (by decide)).trans c1.1 | exact (rdH_n (by decide)).trans e1) rfl ?_
      refine ax_iload_n (pc := 31) dX4_leat_31 rfl ?_
      refine ax_aald (pc := 32) dX4_leat_32 (by first | exact c1.1 | exact c2.2.1 | exact c5.1 | exact (c4b j hj).1 | exact e1 | exact (rdH_n (by decide)).trans c1.1 | exact (rdH_n (by decide)).trans e1) (by decide) (ni_in9 hj (by decide)) (by rw [ni_cl (by omega)]) ?_
      refine ax_eSi1 (pc := 33) sX4_118 dX4_leat_33 (by decide) (Nat.le_of_ble_eq_true rfl) (c_X4_faultOf _ _ (40 + j) (50 + j) m _ ((c4b j hj).1.trans (by rw [e])) (c4b j hj).2 (by omega)) ?_
      refine ax_bipush (pc := 36) (v := -9) dX4_leat_36 (by decide) ?_
      refine ax_icmpeq (pc := 38) (tgt := 44) dX4_leat_38 (by decide) (fun c38 => ?_) (fun c38 => ?_)
      · have hDD : sp_D0 (sp_rd (s_tc s j) m m (0, (s_D s).2.1, (s_D s).2.2.1, (s_D s).2.2.2) 0) := rd_ok hm m (0, (s_D s).2.1, (s_D s).2.2.1, (s_D s).2.2.2) 0 (by omega) (Nat.zero_le _) hv.2.2.1.2.2 c38
        refine ax_aload_n (pc := 44) dX4_leat_44 rfl ?_
        refine ax_getf (pc := 45) fX4_21 dX4_leat_45 (by first | exact c1.1 | exact c2.2.1 | exact c5.1 | exact (c4b j hj).1 | exact e1 | exact (rdH_n (by decide)).trans c1.1 | exact (rdH_n (by decide)).trans e1) rfl ?_
        refine ax_aload_n (pc := 48) dX4_leat_48 rfl ?_
        refine ax_getf (pc := 49) fX4_15 dX4_leat_49 (by first | exact c1.1 | exact c2.2.1 | exact c5.1 | exact (c4b j hj).1 | exact e1 | exact (rdH_n (by decide)).trans c1.1 | exact (rdH_n (by decide)).trans e1) rfl ?_
        refine ax_iload_n (pc := 52) dX4_leat_52 rfl ?_
        refine ax_aald (pc := 53) dX4_leat_53 (by first | exact c1.1 | exact c2.2.1 | exact c5.1 | exact (c4b j hj).1 | exact e1 | exact (rdH_n (by decide)).trans c1.1 | exact (rdH_n (by decide)).trans e1) (by decide) (ni_in9 hj (by decide)) (by rw [ni_cl (by omega)]) ?_
        refine ax_eVv1 (pc := 54) vX4_122 dX4_leat_54 (by decide) (by first | exact c1.1 | exact c2.2.1 | exact c5.1 | exact (c4b j hj).1 | exact e1 | exact (rdH_n (by decide)).trans c1.1 | exact (rdH_n (by decide)).trans e1) (Nat.le_of_ble_eq_true rfl) (c_X0_read _ _ (40 + j) (50 + j) m _ ((c4b j hj).1.trans (by rw [e])) (c4b j hj).2 (by omega) (by omega) (by omega) (s_D s) (s_fi s) c5 c38) ?_
        refine ax_aload_n (pc := 57) dX4_leat_57 rfl ?_
        refine ax_getf (pc := 58) fX4_35 dX4_leat_58 (by first | exact c1.1 | exact c2.2.1 | exact c5.1 | exact (c4b j hj).1 | exact e1 | exact (rdH_n (by decide)).trans c1.1 | exact (rdH_n (by decide)).trans e1) rfl ?_
        refine ax_iconst (pc := 61) (v := 0) dX4_leat_61 (by decide) ?_
        refine ax_puti2 (pc := 62) gX4_72 dX4_leat_62 (by first | exact c1.1 | exact c2.2.1 | exact c5.1 | exact (c4b j hj).1 | exact e1 | exact (rdH_n (by decide)).trans c1.1 | exact (rdH_n (by decide)).trans e1) ?_
        refine ax_aload_n (pc := 65) dX4_leat_65 rfl ?_
        refine ax_eVv0 (pc := 66) vX4_126 dX4_leat_66 (by decide) (by first | exact c1.1 | exact c2.2.1 | exact c5.1 | exact (c4b j hj).1 | exact e1 | exact (rdH_n (by decide)).trans c1.1 | exact (rdH_n (by decide)).trans e1) (Nat.le_of_ble_eq_true rfl) (c_X4_doAgain _ _ (sp_rd (s_tc s j) m m (0, (s_D s).2.1, (s_D s).2.2.1, (s_D s).2.2.2) 0) [] f g (s_ask s) (s_fin s) (s_up s) (s_lo s) (by exact c1.1) (by exact ⟨rfl, rfl, rfl⟩) rfl (by exact e2) (by exact e3) (fun j d hd => by cases hd) hDD (Nat.zero_le _) (fun d hd => by cases hd) (nI (s_fi s)) rfl (by exact wc_V c6)) ?_
        refine ax_iconst (pc := 69) (v := 0) dX4_leat_69 (by decide) ?_
        refine ax_istore2 (pc := 70) dX4_leat_70 rfl (by decide) ?_
        refine At.mono ?_ (l_X4_leat dom _ (nI j) (s_ask s) (s_fin s) (s_up s) (s_lo s) (sp_rd (s_tc s j) m m (0, (s_D s).2.1, (s_D s).2.2.1, (s_D s).2.2.2) 0) 0 (by exact c1.1) (by exact c2.2.2.1) ?_ ?_ 3 0 (by omega))
        · rintro r h1 ⟨v, rfl, rfl, rfl⟩
          refine fin_i (by unfold sp_leat; rw [if_neg (not_not_intro c4a), ni_cl (by omega), if_neg (Int32.not_lt.mpr c18), em, if_neg (not_not_intro c38)]) ?_
          have e0 : rp (sp_rd (s_tc s j) m m (0, (s_D s).2.1, (s_D s).2.2.1, (s_D s).2.2.2) 0) [] = ((0, 2, 0, false, 0), 0) := by
            show rp_0 _ = _
            unfold rp_0
            rw [if_neg (by have := hDD.1; omega)]
          rw [e0]
          refine CP_leat (by have := hDD.1; omega) hc (fun k hk => (kcH_n (fun i hi => by omega)).trans ((wdH_n (by omega)).trans ((mh_up_n (by omega)).trans (rdH_n (by omega))))) ⟨(kcH_n (fun i hi => by omega)).trans rfl, (kcH_n (fun i hi => by omega)).trans rfl, (kcH_n (fun i hi => by omega)).trans rfl, (kcH_n (fun i hi => by omega)).trans rfl⟩ ((kcH_n (fun i hi => by omega)).trans rfl) ((kcH_n (fun i hi => by omega)).trans rfl) (fun k hk => kcH_s hk)
        · have e0 : rp (sp_rd (s_tc s j) m m (0, (s_D s).2.1, (s_D s).2.2.1, (s_D s).2.2.2) 0) [] = ((0, 2, 0, false, 0), 0) := by
            show rp_0 _ = _
            unfold rp_0
            rw [if_neg (by have := hDD.1; omega)]
          rw [e0]
          rfl
        · intro k hk
          obtain ⟨kf, kg, k1, k2, k3, k4⟩ := c8 k hk
          exact ⟨_, (wdH_n (by omega)).trans ((mh_up_n (by omega)).trans ((rdH_n (by omega)).trans k1))⟩
      · refine ax_bipush (pc := 41) (v := -4) dX4_leat_41 (by decide) ?_
        refine ax_iret (pc := 43) dX4_leat_43 rfl ?_
        exact fin_i (by unfold sp_leat; rw [if_neg (not_not_intro c4a), ni_cl (by omega), if_neg (Int32.not_lt.mpr c18), em, if_pos c38]) hc
    · refine ax_aload_n (pc := 21) dX4_leat_21 rfl ?_
      refine ax_iconst (pc := 22) (v := 1) dX4_leat_22 (by decide) ?_
      refine ax_cVi1 (pc := 23) vX4_79 dX4_leat_23 (by decide) (by first | exact c1.1 | exact c2.2.1 | exact c5.1 | exact (c4b j hj).1 | exact e1 | exact (rdH_n (by decide)).trans c1.1 | exact (rdH_n (by decide)).trans e1) (Nat.le_of_ble_eq_true rfl) (c_X4_found _ _ s 1 (by decide) hc) (fun v1 h1 hq => ?_)
      obtain ⟨rfl, hq⟩ := hq
      refine ax_iret (pc := 26) dX4_leat_26 rfl ?_
      exact fin_i (by unfold sp_leat; rw [if_neg (not_not_intro c4a), ni_cl (by omega), if_pos (Int32.not_le.mp c18)]) hq
  · refine ax_iconst (pc := 7) (v := -1) dX4_leat_7 (by decide) ?_
    refine ax_iret (pc := 8) dX4_leat_8 rfl ?_
    exact fin_i (by unfold sp_leat; exact if_pos c4a) hc
