theorem rz_le {s : sg} (hv : IV s) {r : Nat} (hr : r < 6) : (s_rz s r).toNatClampNeg ≤ 40 := by
  rcases hv.1 r hr with e | ⟨m', h1, e⟩
  · rw [e]; decide
  · rw [e, ni_cl (by omega)]; exact h1
theorem tz_le {s : sg} (hv : IV s) {r : Nat} (hr : r < 4) : (s_tz s r).toNatClampNeg ≤ 60 := by
  rcases hv.2.1 r hr with e | ⟨m', h1, e⟩
  · rw [e]; decide
  · rw [e, ni_cl (by omega)]; exact h1
theorem mf_upd {s : sg} {f : Nat → Int32} (hv : IV s) {j k : Nat} {v : Int32} (hj : j < 6) (hk : k < (s_rz s j).toNatClampNeg) (hf : ∀ r, r < 6 → ∀ i, i < (s_rz s r).toNatClampNeg → f (40 * r + i) = s_rc s r i) : ∀ r, r < 6 → ∀ i, i < (s_rz s r).toNatClampNeg → upd f (40 * j + k) v (40 * r + i) = va_fn (s_rc s) j (upd (s_rc s j) k v) r i := by
  intro r hr i hi
  have h1 := rz_le hv hr
  have h2 := rz_le hv hj
  by_cases h : r = j
  · subst h
    rw [va_fn_s]
    by_cases h3 : i = k
    · subst h3
      rw [pk_us, pk_us]
    · rw [pk_un h3, pk_un (by omega)]
      exact hf r hr i hi
  · rw [va_fn_n h, pk_un (by omega)]
    exact hf r hr i hi
theorem mg_upd {s : sg} {f : Nat → Int32} (hv : IV s) {j k : Nat} {v : Int32} (hj : j < 4) (hk : k < (s_tz s j).toNatClampNeg) (hf : ∀ r, r < 4 → ∀ i, i < (s_tz s r).toNatClampNeg → f (60 * r + i) = s_tc s r i) : ∀ r, r < 4 → ∀ i, i < (s_tz s r).toNatClampNeg → upd f (60 * j + k) v (60 * r + i) = va_fn (s_tc s) j (upd (s_tc s j) k v) r i := by
  intro r hr i hi
  have h1 := tz_le hv hr
  have h2 := tz_le hv hj
  by_cases h : r = j
  · subst h
    rw [va_fn_s]
    by_cases h3 : i = k
    · subst h3
      rw [pk_us, pk_us]
    · rw [pk_un h3, pk_un (by omega)]
      exact hf r hr i hi
  · rw [va_fn_n h, pk_un (by omega)]
    exact hf r hr i hi
set_option maxHeartbeats 4000000 in
set_option maxRecDepth 100000 in
theorem c_X5_row (dom : List Nat) (h : mh_H) (s : sg) (nd : Int32) (sl : Nat → Int32) (tu : Int32) (r n : Int32) (hm : MB s h sl) (hv : IV s) : Mt mX5_row dom 1 [.ref 0, .int r, .int n] (hM h (xs s nd) sl tu) (mx_Ri (fun v' h' => v' = (sp_row s r n).1 ∧ MP (sp_row s r n).2 h')) := by
  refine Mt.of (L := [some (.ref 0), some (.int r), some (.int n)]) rfl (Nat.le_of_ble_eq_true rfl) rfl ?_
  obtain ⟨⟨m1, f2, m2, mf⟩, ⟨m3, f4, m4, mg⟩, ⟨so, fl, dr, md⟩, mn, msl, mk, mc, ⟨wo, mw⟩⟩ := id hm
  refine ax_iload_n (pc := 0) dX5_row_0 rfl ?_
  refine ax_i2l (pc := 1) dX5_row_1 ?_
  refine ax_lconst (pc := 2) (v := 0) dX5_row_2 (by decide) ?_
  refine ax_ldc2 (pc := 3) dX5_row_3 tw_707 ?_
  refine ax_eSi3 (pc := 6) sX5_63 dX5_row_6 (by decide) (Nat.le_of_ble_eq_true rfl) (c_X5_in _ _ r 0 5 _ _ (by decide) (by decide)) ?_
  refine ax_ifeqB (pc := 9) (tgt := 18) dX5_row_9 (by decide) (fun c9a => ?_) (fun c9a => ?_)
  · refine ax_iconst (pc := 18) (v := -1) dX5_row_18 (by decide) ?_
    refine ax_iret (pc := 19) dX5_row_19 rfl ?_
    exact fin_m (by unfold sp_row; first | exact if_pos (Or.inl c9a) | exact if_pos (Or.inr (Int32.not_le.mp c15))) hm.mp
  · refine ax_iload_n (pc := 12) dX5_row_12 rfl ?_
    refine ax_bipush (pc := 13) (v := 40) dX5_row_13 (by decide) ?_
    refine ax_icmple (pc := 15) (tgt := 20) dX5_row_15 (by decide) (fun c15 => ?_) (fun c15 => ?_)
    · refine ax_iload_n (pc := 20) dX5_row_20 rfl ?_
      refine ax_ifge (pc := 21) (tgt := 30) dX5_row_21 (by decide) (fun c21 => ?_) (fun c21 => ?_)
      · obtain ⟨j, hj, rfl⟩ := ix_5 c9a
        obtain ⟨k, hk, rfl⟩ := nI_of2 (n := 40) (M := 40) rfl (Int32.not_lt.mpr c21) c15
        refine ax_aload_n (pc := 30) dX5_row_30 rfl ?_
        refine ax_iload_n (pc := 31) dX5_row_31 rfl ?_
        refine ax_iload_n (pc := 32) dX5_row_32 rfl ?_
        refine ax_eVv2 (pc := 33) vX5_71 dX5_row_33 (by decide) (by exact hM_0) (Nat.le_of_ble_eq_true rfl) (c_X5_begins _ h (xs s nd) sl tu (s_rz s) f2 j (nI k) hj m1 m2) ?_
        refine ax_iload_n (pc := 36) dX5_row_36 rfl ?_
        refine ax_iret (pc := 37) dX5_row_37 rfl ?_
        refine fin_m (by unfold sp_row; rw [if_neg (by rintro (q | q); exact q c9a; exact absurd c15 (Int32.not_le.mpr q)), if_neg (Int32.not_lt.mpr c21), ni_cl (by omega), ni_cl (by omega)]) ?_
        exact MB.mp (s := u_rows s _ _) (MB.begins hm hv hj hk m2 mf (fun i hi => if_pos hi))
      · refine ax_aload_n (pc := 24) dX5_row_24 rfl ?_
        refine ax_iconst (pc := 25) (v := nI 5) dX5_row_25 (by decide) ?_
        refine ax_cVi1 (pc := 26) vX5_67 dX5_row_26 (by decide) (by exact hM_0) (Nat.le_of_ble_eq_true rfl) (c_X5_finds _ h s nd sl tu 5 (by decide) hm) (fun v1 h1 hq => ?_)
        obtain ⟨rfl, hq⟩ := hq
        refine ax_iret (pc := 29) dX5_row_29 rfl ?_
        exact fin_m (by unfold sp_row; rw [if_neg (by rintro (q | q); exact q c9a; exact absurd c15 (Int32.not_le.mpr q)), if_pos (Int32.not_le.mp c21)]) hq
    · refine ax_iconst (pc := 18) (v := -1) dX5_row_18 (by decide) ?_
      refine ax_iret (pc := 19) dX5_row_19 rfl ?_
      exact fin_m (by unfold sp_row; first | exact if_pos (Or.inl c9a) | exact if_pos (Or.inr (Int32.not_le.mp c15))) hm.mp
set_option maxHeartbeats 4000000 in
set_option maxRecDepth 100000 in
theorem c_X5_lay (dom : List Nat) (h : mh_H) (s : sg) (nd : Int32) (sl : Nat → Int32) (tu : Int32) (r i v : Int32) (hm : MB s h sl) (hv : IV s) : Mt mX5_lay dom 1 [.ref 0, .int r, .int i, .int v] (hM h (xs s nd) sl tu) (mx_Ri (fun v' h' => v' = (sp_lay s r i v).1 ∧ MP (sp_lay s r i v).2 h')) := by
  refine Mt.of (L := [some (.ref 0), some (.int r), some (.int i), some (.int v)]) rfl (Nat.le_of_ble_eq_true rfl) rfl ?_
  obtain ⟨⟨m1, f2, m2, mf⟩, ⟨m3, f4, m4, mg⟩, ⟨so, fl, dr, md⟩, mn, msl, mk, mc, ⟨wo, mw⟩⟩ := id hm
  refine ax_iload_n (pc := 0) dX5_lay_0 rfl ?_
  refine ax_i2l (pc := 1) dX5_lay_1 ?_
  refine ax_lconst (pc := 2) (v := 0) dX5_lay_2 (by decide) ?_
  refine ax_ldc2 (pc := 3) dX5_lay_3 tw_707 ?_
  refine ax_eSi3 (pc := 6) sX5_63 dX5_lay_6 (by decide) (Nat.le_of_ble_eq_true rfl) (c_X5_in _ _ r 0 5 _ _ (by decide) (by decide)) ?_
  refine ax_ifneB (pc := 9) (tgt := 14) dX5_lay_9 (by decide) (fun c9a => ?_) (fun c9a => ?_)
  · obtain ⟨j, hj, rfl⟩ := ix_5 c9a
    refine ax_aload_n (pc := 14) dX5_lay_14 rfl ?_
    refine ax_getf (pc := 15) fX5_7 dX5_lay_15 (by exact hM_0) rfl ?_
    refine ax_iload_n (pc := 18) dX5_lay_18 rfl ?_
    refine bx_iaload dX5_lay_19 ((hM_n (by decide)).trans m1) hj (by decide) rfl ?_
    refine ax_ifge (pc := 20) (tgt := 29) dX5_lay_20 (by decide) (fun c20 => ?_) (fun c20 => ?_)
    · refine ax_iload_n (pc := 29) dX5_lay_29 rfl ?_
      refine ax_i2l (pc := 30) dX5_lay_30 ?_
      refine ax_lconst (pc := 31) (v := 0) dX5_lay_31 (by decide) ?_
      refine ax_aload_n (pc := 32) dX5_lay_32 rfl ?_
      refine ax_getf (pc := 33) fX5_7 dX5_lay_33 (by exact hM_0) rfl ?_
      refine ax_iload_n (pc := 36) dX5_lay_36 rfl ?_
      refine bx_iaload dX5_lay_37 ((hM_n (by decide)).trans m1) hj (by decide) rfl ?_
      refine ax_iconst (pc := 38) (v := 1) dX5_lay_38 (by decide) ?_
      refine ax_isub (pc := 39) dX5_lay_39 ?_
      refine ax_i2l (pc := 40) dX5_lay_40 ?_
      refine ax_eSi3 (pc := 41) sX5_63 dX5_lay_41 (by decide) (Nat.le_of_ble_eq_true rfl) (c_X5_in _ _ i 0 (s_rz s j - 1) _ _ (by decide) rfl) ?_
      refine ax_ifneB (pc := 44) (tgt := 53) dX5_lay_44 (by decide) (fun c44 => ?_) (fun c44 => ?_)
      · obtain ⟨m, k, hm2, ez, hk, rfl⟩ := pl_in (hv.1 j hj) (by decide) (Int32.not_lt.mpr c20) c44
        have hk2 : k < (s_rz s j).toNatClampNeg := by rw [ez, ni_cl (by omega)]; exact hk
        refine ax_aload_n (pc := 53) dX5_lay_53 rfl ?_
        refine ax_aload_n (pc := 54) dX5_lay_54 rfl ?_
        refine ax_getf (pc := 55) fX5_13 dX5_lay_55 (by exact hM_0) rfl ?_
        refine ax_bipush (pc := 58) (v := nI 40) dX5_lay_58 (by decide) ?_
        refine ax_iload_n (pc := 60) dX5_lay_60 rfl ?_
        refine bx_imul dX5_lay_61  ?_
        refine ax_iload_n (pc := 62) dX5_lay_62 rfl ?_
        refine bx_iadd dX5_lay_63  ?_
        refine bx_iaload dX5_lay_64 ((hM_n (by decide)).trans m2) (by omega) (by decide) (mf j hj k hk2) ?_
        refine bx_ptold gX5_75 dX5_lay_65 ?_
        refine ax_aload_n (pc := 68) dX5_lay_68 rfl ?_
        refine ax_getf (pc := 69) fX5_13 dX5_lay_69 (by exact hM_0) rfl ?_
        refine ax_bipush (pc := 72) (v := nI 40) dX5_lay_72 (by decide) ?_
        refine ax_iload_n (pc := 74) dX5_lay_74 rfl ?_
        refine bx_imul dX5_lay_75  ?_
        refine ax_iload_n (pc := 76) dX5_lay_76 rfl ?_
        refine bx_iadd dX5_lay_77  ?_
        refine ax_iload_n (pc := 78) dX5_lay_78 rfl ?_
        refine bx_iastore dX5_lay_79 m2 (by decide) (by omega) (by decide) rfl ?_
        refine ax_iconst (pc := 80) (v := 1) dX5_lay_80 (by decide) ?_
        refine ax_iret (pc := 81) dX5_lay_81 rfl ?_
        exact fin_m (by unfold sp_lay; rw [if_neg (not_not_intro c9a), ni_cl (by omega), if_neg (Int32.not_lt.mpr c20), if_neg (not_not_intro c44), ni_cl (by omega)]) (MB.mp (s := u_rows (u_ask s (s_rc s j k)) _ _) (MB.rows (s := u_ask s (s_rc s j k)) hm.ask (fun q h1 h2 => mh_up_n h2) ((mh_up_n (by decide)).trans m1) mh_up_s (mf_upd hv hj hk2 mf)))
      · refine ax_aload_n (pc := 47) dX5_lay_47 rfl ?_
        refine ax_iconst (pc := 48) (v := nI 2) dX5_lay_48 (by decide) ?_
        refine ax_cVi1 (pc := 49) vX5_67 dX5_lay_49 (by decide) (by exact hM_0) (Nat.le_of_ble_eq_true rfl) (c_X5_finds _ h s nd sl tu 2 (by decide) hm) (fun v1 h1 hq => ?_)
        obtain ⟨rfl, hq⟩ := hq
        refine ax_iret (pc := 52) dX5_lay_52 rfl ?_
        exact fin_m (by unfold sp_lay; rw [if_neg (not_not_intro c9a), ni_cl (by omega), if_neg (Int32.not_lt.mpr c20), if_pos c44]) hq
    · refine ax_aload_n (pc := 23) dX5_lay_23 rfl ?_
      refine ax_iconst (pc := 24) (v := nI 1) dX5_lay_24 (by decide) ?_
      refine ax_cVi1 (pc := 25) vX5_67 dX5_lay_25 (by decide) (by exact hM_0) (Nat.le_of_ble_eq_true rfl) (c_X5_finds _ h s nd sl tu 1 (by decide) hm) (fun v1 h1 hq => ?_)
      obtain ⟨rfl, hq⟩ := hq
      refine ax_iret (pc := 28) dX5_lay_28 rfl ?_
      exact fin_m (by unfold sp_lay; rw [if_neg (not_not_intro c9a), ni_cl (by omega), if_pos (Int32.not_le.mp c20)]) hq
  · refine ax_iconst (pc := 12) (v := -1) dX5_lay_12 (by decide) ?_
    refine ax_iret (pc := 13) dX5_lay_13 rfl ?_
    exact fin_m (by unfold sp_lay; exact if_pos c9a) hm.mp
set_option maxHeartbeats 4000000 in
set_option maxRecDepth 100000 in
theorem c_X5_at (dom : List Nat) (h : mh_H) (s : sg) (nd : Int32) (sl : Nat → Int32) (tu : Int32) (r i : Int32) (hm : MB s h sl) (hv : IV s) : Mt mX5_at dom 1 [.ref 0, .int r, .int i] (hM h (xs s nd) sl tu) (mx_Ri (fun v' h' => v' = (sp_at s r i).1 ∧ MP (sp_at s r i).2 h')) := by
  refine Mt.of (L := [some (.ref 0), some (.int r), some (.int i)]) rfl (Nat.le_of_ble_eq_true rfl) rfl ?_
  obtain ⟨⟨m1, f2, m2, mf⟩, ⟨m3, f4, m4, mg⟩, ⟨so, fl, dr, md⟩, mn, msl, mk, mc, ⟨wo, mw⟩⟩ := id hm
  refine ax_iload_n (pc := 0) dX5_at_0 rfl ?_
  refine ax_i2l (pc := 1) dX5_at_1 ?_
  refine ax_lconst (pc := 2) (v := 0) dX5_at_2 (by decide) ?_
  refine ax_ldc2 (pc := 3) dX5_at_3 tw_707 ?_
  refine ax_eSi3 (pc := 6) sX5_63 dX5_at_6 (by decide) (Nat.le_of_ble_eq_true rfl) (c_X5_in _ _ r 0 5 _ _ (by decide) (by decide)) ?_
  refine ax_ifneB (pc := 9) (tgt := 14) dX5_at_9 (by decide) (fun c9a => ?_) (fun c9a => ?_)
  · obtain ⟨j, hj, rfl⟩ := ix_5 c9a
    refine ax_aload_n (pc := 14) dX5_at_14 rfl ?_
    refine ax_getf (pc := 15) fX5_7 dX5_at_15 (by exact hM_0) rfl ?_
    refine ax_iload_n (pc := 18) dX5_at_18 rfl ?_
    refine bx_iaload dX5_at_19 ((hM_n (by decide)).trans m1) hj (by decide) rfl ?_
    refine ax_ifge (pc := 20) (tgt := 29) dX5_at_20 (by decide) (fun c20 => ?_) (fun c20 => ?_)
    · refine ax_iload_n (pc := 29) dX5_at_29 rfl ?_
      refine ax_i2l (pc := 30) dX5_at_30 ?_
      refine ax_lconst (pc := 31) (v := 0) dX5_at_31 (by decide) ?_
      refine ax_aload_n (pc := 32) dX5_at_32 rfl ?_
      refine ax_getf (pc := 33) fX5_7 dX5_at_33 (by exact hM_0) rfl ?_
      refine ax_iload_n (pc := 36) dX5_at_36 rfl ?_
      refine bx_iaload dX5_at_37 ((hM_n (by decide)).trans m1) hj (by decide) rfl ?_
      refine ax_iconst (pc := 38) (v := 1) dX5_at_38 (by decide) ?_
      refine ax_isub (pc := 39) dX5_at_39 ?_
      refine ax_i2l (pc := 40) dX5_at_40 ?_
      refine ax_eSi3 (pc := 41) sX5_63 dX5_at_41 (by decide) (Nat.le_of_ble_eq_true rfl) (c_X5_in _ _ i 0 (s_rz s j - 1) _ _ (by decide) rfl) ?_
      refine ax_ifneB (pc := 44) (tgt := 53) dX5_at_44 (by decide) (fun c44 => ?_) (fun c44 => ?_)
      · obtain ⟨m, k, hm2, ez, hk, rfl⟩ := pl_in (hv.1 j hj) (by decide) (Int32.not_lt.mpr c20) c44
        have hk2 : k < (s_rz s j).toNatClampNeg := by rw [ez, ni_cl (by omega)]; exact hk
        refine ax_aload_n (pc := 53) dX5_at_53 rfl ?_
        refine ax_aload_n (pc := 54) dX5_at_54 rfl ?_
        refine ax_getf (pc := 55) fX5_13 dX5_at_55 (by exact hM_0) rfl ?_
        refine ax_bipush (pc := 58) (v := nI 40) dX5_at_58 (by decide) ?_
        refine ax_iload_n (pc := 60) dX5_at_60 rfl ?_
        refine bx_imul dX5_at_61  ?_
        refine ax_iload_n (pc := 62) dX5_at_62 rfl ?_
        refine bx_iadd dX5_at_63  ?_
        refine bx_iaload dX5_at_64 ((hM_n (by decide)).trans m2) (by omega) (by decide) (mf j hj k hk2) ?_
        refine bx_ptold gX5_75 dX5_at_65 ?_
        refine ax_iconst (pc := 68) (v := 1) dX5_at_68 (by decide) ?_
        refine ax_iret (pc := 69) dX5_at_69 rfl ?_
        exact fin_m (by unfold sp_at; rw [if_neg (not_not_intro c9a), ni_cl (by omega), if_neg (Int32.not_lt.mpr c20), if_neg (not_not_intro c44), ni_cl (by omega)]) (MB.mp (s := u_ask s (s_rc s j k)) hm.ask)
      · refine ax_aload_n (pc := 47) dX5_at_47 rfl ?_
        refine ax_iconst (pc := 48) (v := nI 2) dX5_at_48 (by decide) ?_
        refine ax_cVi1 (pc := 49) vX5_67 dX5_at_49 (by decide) (by exact hM_0) (Nat.le_of_ble_eq_true rfl) (c_X5_finds _ h s nd sl tu 2 (by decide) hm) (fun v1 h1 hq => ?_)
        obtain ⟨rfl, hq⟩ := hq
        refine ax_iret (pc := 52) dX5_at_52 rfl ?_
        exact fin_m (by unfold sp_at; rw [if_neg (not_not_intro c9a), ni_cl (by omega), if_neg (Int32.not_lt.mpr c20), if_pos c44]) hq
    · refine ax_aload_n (pc := 23) dX5_at_23 rfl ?_
      refine ax_iconst (pc := 24) (v := nI 1) dX5_at_24 (by decide) ?_
      refine ax_cVi1 (pc := 25) vX5_67 dX5_at_25 (by decide) (by exact hM_0) (Nat.le_of_ble_eq_true rfl) (c_X5_finds _ h s nd sl tu 1 (by decide) hm) (fun v1 h1 hq => ?_)
      obtain ⟨rfl, hq⟩ := hq
      refine ax_iret (pc := 28) dX5_at_28 rfl ?_
      exact fin_m (by unfold sp_at; rw [if_neg (not_not_intro c9a), ni_cl (by omega), if_pos (Int32.not_le.mp c20)]) hq
  · refine ax_iconst (pc := 12) (v := -1) dX5_at_12 (by decide) ?_
    refine ax_iret (pc := 13) dX5_at_13 rfl ?_
    exact fin_m (by unfold sp_at; exact if_pos c9a) hm.mp
set_option maxHeartbeats 4000000 in
set_option maxRecDepth 100000 in
theorem c_X5_tear (dom : List Nat) (h : mh_H) (s : sg) (nd : Int32) (sl : Nat → Int32) (tu : Int32) (r : Int32) (hm : MB s h sl) (hv : IV s) : Mt mX5_tear dom 1 [.ref 0, .int r] (hM h (xs s nd) sl tu) (mx_Ri (fun v' h' => v' = (sp_tear s r).1 ∧ MP (sp_tear s r).2 h')) := by
  refine Mt.of (L := [some (.ref 0), some (.int r)]) rfl (Nat.le_of_ble_eq_true rfl) rfl ?_
  obtain ⟨⟨m1, f2, m2, mf⟩, ⟨m3, f4, m4, mg⟩, ⟨so, fl, dr, md⟩, mn, msl, mk, mc, ⟨wo, mw⟩⟩ := id hm
  refine ax_iload_n (pc := 0) dX5_tear_0 rfl ?_
  refine ax_i2l (pc := 1) dX5_tear_1 ?_
  refine ax_lconst (pc := 2) (v := 0) dX5_tear_2 (by decide) ?_
  refine ax_ldc2 (pc := 3) dX5_tear_3 tw_707 ?_
  refine ax_eSi3 (pc := 6) sX5_63 dX5_tear_6 (by decide) (Nat.le_of_ble_eq_true rfl) (c_X5_in _ _ r 0 5 _ _ (by decide) (by decide)) ?_
  refine ax_ifneB (pc := 9) (tgt := 14) dX5_tear_9 (by decide) (fun c9a => ?_) (fun c9a => ?_)
  · obtain ⟨j, hj, rfl⟩ := ix_5 c9a
    refine ax_aload_n (pc := 14) dX5_tear_14 rfl ?_
    refine ax_getf (pc := 15) fX5_7 dX5_tear_15 (by exact hM_0) rfl ?_
    refine ax_iload_n (pc := 18) dX5_tear_18 rfl ?_
    refine bx_iaload dX5_tear_19 ((hM_n (by decide)).trans m1) hj (by decide) rfl ?_
    refine ax_ifge (pc := 20) (tgt := 29) dX5_tear_20 (by decide) (fun c20 => ?_) (fun c20 => ?_)
    · refine ax_aload_n (pc := 29) dX5_tear_29 rfl ?_
      refine ax_getf (pc := 30) fX5_7 dX5_tear_30 (by exact hM_0) rfl ?_
      refine ax_iload_n (pc := 33) dX5_tear_33 rfl ?_
      refine ax_iconst (pc := 34) (v := -1) dX5_tear_34 (by decide) ?_
      refine bx_iastore dX5_tear_35 m1 (by decide) hj (by decide) rfl ?_
      refine ax_iconst (pc := 36) (v := 1) dX5_tear_36 (by decide) ?_
      refine ax_iret (pc := 37) dX5_tear_37 rfl ?_
      refine fin_m (by unfold sp_tear; rw [if_neg (not_not_intro c9a), ni_cl (by omega), if_neg (Int32.not_lt.mpr c20)]) ?_
      refine MB.mp (s := u_rows s _ _) (MB.rows hm (fun q h1 h2 => mh_up_n h1) mh_up_s ((mh_up_n (by decide)).trans m2) ?_)
      intro r hr i hi
      by_cases e : r = j
      · subst e; rw [va_fn_s] at hi; exact absurd hi (Nat.not_lt_zero i)
      · rw [va_fn_n e] at hi; exact mf r hr i hi
    · refine ax_aload_n (pc := 23) dX5_tear_23 rfl ?_
      refine ax_iconst (pc := 24) (v := nI 1) dX5_tear_24 (by decide) ?_
      refine ax_cVi1 (pc := 25) vX5_67 dX5_tear_25 (by decide) (by exact hM_0) (Nat.le_of_ble_eq_true rfl) (c_X5_finds _ h s nd sl tu 1 (by decide) hm) (fun v1 h1 hq => ?_)
      obtain ⟨rfl, hq⟩ := hq
      refine ax_iret (pc := 28) dX5_tear_28 rfl ?_
      exact fin_m (by unfold sp_tear; rw [if_neg (not_not_intro c9a), ni_cl (by omega), if_pos (Int32.not_le.mp c20)]) hq
  · refine ax_iconst (pc := 12) (v := -1) dX5_tear_12 (by decide) ?_
    refine ax_iret (pc := 13) dX5_tear_13 rfl ?_
    exact fin_m (by unfold sp_tear; exact if_pos c9a) hm.mp
set_option maxHeartbeats 4000000 in
set_option maxRecDepth 100000 in
theorem l_X5_mean (dom : List Nat) (h : mh_H) (x : mxT) (sl : Nat → Int32) (tu : Int32) (z f c : Nat → Int32) (r m : Nat) (hr : r < 6) (hm : m ≤ 40) (h1 : h 1 = mh_ia 0 6 z) (hz : z r = nI m) (h2 : h 2 = mh_ia 0 240 f) (hf : ∀ i, i < m → f (40 * r + i) = c i) (Q : Option Value → mh_H → Prop) (KK : At mX5_mean dom 1 82 [some (.ref 0), some (.int (nI r)), some (.long (sl_sum c m)), none, some (.int (nI m))] [] (hM h x sl tu) Q) : ∀ (nn j : Nat), j + nn = m → At mX5_mean dom 1 49 [some (.ref 0), some (.int (nI r)), some (.long (sl_sum c j)), none, some (.int (nI j))] [] (hM h x sl tu) Q := by
  intro nn
  induction nn with
  | zero =>
    intro j hj
    have hj : j = m := by omega
    subst hj
    refine ax_iload (pc := 49) dX5_mean_49 rfl ?_
    refine ax_aload_n (pc := 51) dX5_mean_51 rfl ?_
    refine ax_getf (pc := 52) fX5_7 dX5_mean_52 (by exact hM_0) rfl ?_
    refine ax_iload_n (pc := 55) dX5_mean_55 rfl ?_
    refine bx_iaload dX5_mean_56 ((hM_n (by decide)).trans h1) hr (by decide) hz ?_
    refine ax_icmpge (pc := 57) (tgt := 82) dX5_mean_57 (by decide) (fun _ => ?_) (fun q => absurd (nI_le (Nat.le_refl _) (by omega)) q)
    exact KK
  | succ nn ih =>
    intro j hj
    have hlt : j < m := by omega
    refine ax_iload (pc := 49) dX5_mean_49 rfl ?_
    refine ax_aload_n (pc := 51) dX5_mean_51 rfl ?_
    refine ax_getf (pc := 52) fX5_7 dX5_mean_52 (by exact hM_0) rfl ?_
    refine ax_iload_n (pc := 55) dX5_mean_55 rfl ?_
    refine bx_iaload dX5_mean_56 ((hM_n (by decide)).trans h1) hr (by decide) hz ?_
    refine ax_icmpge (pc := 57) (tgt := 82) dX5_mean_57 (by decide) (fun q => absurd q (nI_ge hlt (by omega))) (fun _ => ?_)
    refine ax_lload_n (pc := 60) dX5_mean_60 rfl ?_
    refine ax_aload_n (pc := 61) dX5_mean_61 rfl ?_
    refine ax_getf (pc := 62) fX5_13 dX5_mean_62 (by exact hM_0) rfl ?_
    refine ax_bipush (pc := 65) (v := nI 40) dX5_mean_65 (by decide) ?_
    refine ax_iload_n (pc := 67) dX5_mean_67 rfl ?_
    refine bx_imul dX5_mean_68  ?_
    refine ax_iload (pc := 69) dX5_mean_69 rfl ?_
    refine bx_iadd dX5_mean_71  ?_
    refine bx_iaload dX5_mean_72 ((hM_n (by decide)).trans h2) (by omega) (by decide) (hf j hlt) ?_
    refine ax_i2l (pc := 73) dX5_mean_73 ?_
    refine ax_ladd (pc := 74) dX5_mean_74 ?_
    refine ax_lstore2 (pc := 75) dX5_mean_75 rfl (by decide) ?_
    refine ax_inc4p1 (pc := 76) dX5_mean_76 rfl (by decide) ?_
    refine ax_goto (pc := 79) (tgt := 49) dX5_mean_79 (by decide) ?_
    rw [nI_1]
    exact ih (j + 1) (by omega)
set_option maxHeartbeats 4000000 in
set_option maxRecDepth 100000 in
theorem c_X5_mean (dom : List Nat) (h : mh_H) (s : sg) (nd : Int32) (sl : Nat → Int32) (tu : Int32) (r : Int32) (hm : MB s h sl) (hv : IV s) : Mt mX5_mean dom 1 [.ref 0, .int r] (hM h (xs s nd) sl tu) (mx_Ri (fun v' h' => v' = (sp_mean s r).1 ∧ MP (sp_mean s r).2 h')) := by
  refine Mt.of (L := [some (.ref 0), some (.int r), none, none, none]) rfl (Nat.le_of_ble_eq_true rfl) rfl ?_
  obtain ⟨⟨m1, f2, m2, mf⟩, ⟨m3, f4, m4, mg⟩, ⟨so, fl, dr, md⟩, mn, msl, mk, mc, ⟨wo, mw⟩⟩ := id hm
  refine ax_iload_n (pc := 0) dX5_mean_0 rfl ?_
  refine ax_i2l (pc := 1) dX5_mean_1 ?_
  refine ax_lconst (pc := 2) (v := 0) dX5_mean_2 (by decide) ?_
  refine ax_ldc2 (pc := 3) dX5_mean_3 tw_707 ?_
  refine ax_eSi3 (pc := 6) sX5_63 dX5_mean_6 (by decide) (Nat.le_of_ble_eq_true rfl) (c_X5_in _ _ r 0 5 _ _ (by decide) (by decide)) ?_
  refine ax_ifneB (pc := 9) (tgt := 14) dX5_mean_9 (by decide) (fun c9a => ?_) (fun c9a => ?_)
  · obtain ⟨j, hj, rfl⟩ := ix_5 c9a
    refine ax_aload_n (pc := 14) dX5_mean_14 rfl ?_
    refine ax_getf (pc := 15) fX5_7 dX5_mean_15 (by exact hM_0) rfl ?_
    refine ax_iload_n (pc := 18) dX5_mean_18 rfl ?_
    refine bx_iaload dX5_mean_19 ((hM_n (by decide)).trans m1) hj (by decide) rfl ?_
    refine ax_ifge (pc := 20) (tgt := 29) dX5_mean_20 (by decide) (fun c20 => ?_) (fun c20 => ?_)
    · refine ax_aload_n (pc := 29) dX5_mean_29 rfl ?_
      refine ax_getf (pc := 30) fX5_7 dX5_mean_30 (by exact hM_0) rfl ?_
      refine ax_iload_n (pc := 33) dX5_mean_33 rfl ?_
      refine bx_iaload dX5_mean_34 ((hM_n (by decide)).trans m1) hj (by decide) rfl ?_
      refine ax_ifne (pc := 35) (tgt := 44) dX5_mean_35 (by decide) (fun c35 => ?_) (fun c35 => ?_)
      · obtain ⟨m, hm2, ez⟩ := (hv.1 j hj).resolve_left (fun q => by rw [q] at c20; exact absurd c20 (by decide))
        refine ax_lconst (pc := 44) (v := 0) dX5_mean_44 (by decide) ?_
        refine ax_lstore2 (pc := 45) dX5_mean_45 rfl (by decide) ?_
        refine ax_iconst (pc := 46) (v := nI 0) dX5_mean_46 (by decide) ?_
        refine ax_istore4 (pc := 47) dX5_mean_47 rfl (by decide) ?_
        refine l_X5_mean dom h (xs s nd) sl tu (s_rz s) f2 (s_rc s j) j m hj hm2 m1 ez m2 (fun i hi => mf j hj i (by rw [ez, ni_cl (by omega)]; exact hi)) _ ?_ m 0 (by omega)
        refine ax_aload_n (pc := 82) dX5_mean_82 rfl ?_
        refine ax_lload_n (pc := 83) dX5_mean_83 rfl ?_
        refine ax_aload_n (pc := 84) dX5_mean_84 rfl ?_
        refine ax_getf (pc := 85) fX5_7 dX5_mean_85 (by exact hM_0) rfl ?_
        refine ax_iload_n (pc := 88) dX5_mean_88 rfl ?_
        refine bx_iaload dX5_mean_89 ((hM_n (by decide)).trans m1) hj (by decide) rfl ?_
        refine ax_i2l (pc := 90) dX5_mean_90 ?_
        refine ax_ldiv (pc := 91) dX5_mean_91 (by rw [ez, nI_l (by omega)]; exact lN_ne (by omega) (fun q => c35 (by rw [ez, q]; rfl))) ?_
        refine ax_l2i (pc := 92) dX5_mean_92 ?_
        refine bx_ptold gX5_75 dX5_mean_93 ?_
        refine ax_iconst (pc := 96) (v := 1) dX5_mean_96 (by decide) ?_
        refine ax_iret (pc := 97) dX5_mean_97 rfl ?_
        exact fin_m (s' := u_ask s (sl_sum (s_rc s j) m / (s_rz s j).toInt64).toInt32) (by unfold sp_mean; rw [if_neg (not_not_intro c9a), ni_cl (by omega), if_neg (Int32.not_lt.mpr c20), if_neg c35, show (s_rz s j).toNatClampNeg = m by rw [ez, ni_cl (by omega)]]) (MB.mp (s := u_ask s _) hm.ask)
      · refine ax_aload_n (pc := 38) dX5_mean_38 rfl ?_
        refine ax_iconst (pc := 39) (v := nI 4) dX5_mean_39 (by decide) ?_
        refine ax_cVi1 (pc := 40) vX5_67 dX5_mean_40 (by decide) (by exact hM_0) (Nat.le_of_ble_eq_true rfl) (c_X5_finds _ h s nd sl tu 4 (by decide) hm) (fun v1 h1 hq => ?_)
        obtain ⟨rfl, hq⟩ := hq
        refine ax_iret (pc := 43) dX5_mean_43 rfl ?_
        exact fin_m (by unfold sp_mean; rw [if_neg (not_not_intro c9a), ni_cl (by omega), if_neg (Int32.not_lt.mpr c20), if_pos c35]) hq
    · refine ax_aload_n (pc := 23) dX5_mean_23 rfl ?_
      refine ax_iconst (pc := 24) (v := nI 1) dX5_mean_24 (by decide) ?_
      refine ax_cVi1 (pc := 25) vX5_67 dX5_mean_25 (by decide) (by exact hM_0) (Nat.le_of_ble_eq_true rfl) (c_X5_finds _ h s nd sl tu 1 (by decide) hm) (fun v1 h1 hq => ?_)
      obtain ⟨rfl, hq⟩ := hq
      refine ax_iret (pc := 28) dX5_mean_28 rfl ?_
      exact fin_m (by unfold sp_mean; rw [if_neg (not_not_intro c9a), ni_cl (by omega), if_pos (Int32.not_le.mp c20)]) hq
  · refine ax_iconst (pc := 12) (v := -1) dX5_mean_12 (by decide) ?_
    refine ax_iret (pc := 13) dX5_mean_13 rfl ?_
    exact fin_m (by unfold sp_mean; exact if_pos c9a) hm.mp
def bT (f : Nat → Int32) (r n : Nat) : Nat → Int32 := fun i => if 60 * r ≤ i ∧ i < 60 * r + n then 32 else f i
theorem bT_0 {f : Nat → Int32} {r : Nat} : bT f r 0 = f := by
  funext i
  exact if_neg (by omega)
theorem bT_s {f : Nat → Int32} {r n : Nat} : upd (bT f r n) (60 * r + n) (vp_nar .byte (nI 32)) = bT f r (n + 1) := by
  rw [show vp_nar .byte (nI 32) = 32 by rw [vp_nar_byte]; decide]
  funext i
  unfold upd bT
  by_cases h : i = 60 * r + n
  · rw [if_pos h, if_pos (by omega)]
  · rw [if_neg h]
    by_cases h2 : 60 * r ≤ i ∧ i < 60 * r + n
    · rw [if_pos h2, if_pos (by omega)]
    · rw [if_neg h2, if_neg (by omega)]
theorem MB.text {s : sg} {h : mh_H} {sl f : Nat → Int32} {r m : Nat} (hm : MB s h sl) (hv : IV s) (hr : r < 4) (hq : m ≤ 60) (h2 : h 4 = mh_ia 1 240 f) (hf : ∀ r, r < 4 → ∀ i, i < (s_tz s r).toNatClampNeg → f (60 * r + i) = s_tc s r i) : MB (u_texts s (va_fn (s_tz s) r (nI m)) (va_fn (s_tc s) r (sl_fil (s_tc s r) m 32))) (mh_up (mh_up h 3 (mh_ia 0 4 (upd (s_tz s) r (nI m)))) 4 (mh_ia 1 240 (bT f r m))) sl := by
  refine MB.texts hm (fun k h1 h2 => (mh_up_n h2).trans (mh_up_n h1)) ((mh_up_n (by decide)).trans mh_up_s) mh_up_s ?_
  intro r' hr' i hi
  by_cases h : r' = r
  · subst h
    rw [va_fn_s] at hi
    rw [ni_cl (by omega)] at hi
    rw [va_fn_s]
    exact (if_pos (by omega)).trans (if_pos hi).symm
  · rw [va_fn_n h] at hi
    rw [va_fn_n h]
    have := tz_le hv hr'
    refine Eq.trans (if_neg ?_) (hf r' hr' i hi)
    omega
set_option maxHeartbeats 4000000 in
set_option maxRecDepth 100000 in
theorem l_X5_text (dom : List Nat) (h : mh_H) (x : mxT) (sl : Nat → Int32) (tu : Int32) (f : Nat → Int32) (r m : Nat) (hr : r < 4) (hm : m ≤ 60) : ∀ (nn j : Nat), j + nn = m → At mX5_text dom 1 39 [some (.ref 0), some (.int (nI r)), some (.int (nI m)), some (.int (nI j))] [] (hM (mh_up h 4 (mh_ia 1 240 (bT f r j))) x sl tu) (mx_Ri (fun v' h' => v' = nI m ∧ h' = hM (mh_up h 4 (mh_ia 1 240 (bT f r m))) x sl tu)) := by
  intro nn
  induction nn with
  | zero =>
    intro j hj
    have hj : j = m := by omega
    subst hj
    refine ax_iload_n (pc := 39) dX5_text_39 rfl ?_
    refine ax_iload_n (pc := 40) dX5_text_40 rfl ?_
    refine ax_icmpge (pc := 41) (tgt := 63) dX5_text_41 (by decide) (fun _ => ?_) (fun q => absurd (nI_le (Nat.le_refl _) (by omega)) q)
    refine ax_iload_n (pc := 63) dX5_text_63 rfl ?_
    refine ax_iret (pc := 64) dX5_text_64 rfl ?_
    exact ⟨_, rfl, rfl, rfl⟩
  | succ nn ih =>
    intro j hj
    have hlt : j < m := by omega
    refine ax_iload_n (pc := 39) dX5_text_39 rfl ?_
    refine ax_iload_n (pc := 40) dX5_text_40 rfl ?_
    refine ax_icmpge (pc := 41) (tgt := 63) dX5_text_41 (by decide) (fun q => absurd q (nI_ge hlt (by omega))) (fun _ => ?_)
    refine ax_aload_n (pc := 44) dX5_text_44 rfl ?_
    refine ax_getf (pc := 45) fX5_19 dX5_text_45 (by exact hM_0) rfl ?_
    refine ax_bipush (pc := 48) (v := nI 60) dX5_text_48 (by decide) ?_
    refine ax_iload_n (pc := 50) dX5_text_50 rfl ?_
    refine bx_imul dX5_text_51  ?_
    refine ax_iload_n (pc := 52) dX5_text_52 rfl ?_
    refine bx_iadd dX5_text_53  ?_
    refine ax_bipush (pc := 54) (v := nI 32) dX5_text_54 (by decide) ?_
    refine bx_bastoreu dX5_text_56 (by decide) (by omega) (by decide) bT_s ?_
    refine ax_inc3p1 (pc := 57) dX5_text_57 rfl (by decide) ?_
    refine ax_goto (pc := 60) (tgt := 39) dX5_text_60 (by decide) ?_
    rw [nI_1]
    exact ih (j + 1) (by omega)
set_option maxHeartbeats 4000000 in
set_option maxRecDepth 100000 in
theorem c_X5_text (dom : List Nat) (h : mh_H) (s : sg) (nd : Int32) (sl : Nat → Int32) (tu : Int32) (r n : Int32) (hm : MB s h sl) (hv : IV s) : Mt mX5_text dom 1 [.ref 0, .int r, .int n] (hM h (xs s nd) sl tu) (mx_Ri (fun v' h' => v' = (sp_text s r n).1 ∧ MP (sp_text s r n).2 h')) := by
  refine Mt.of (L := [some (.ref 0), some (.int r), some (.int n), none]) rfl (Nat.le_of_ble_eq_true rfl) rfl ?_
  obtain ⟨⟨m1, f2, m2, mf⟩, ⟨m3, f4, m4, mg⟩, ⟨so, fl, dr, md⟩, mn, msl, mk, mc, ⟨wo, mw⟩⟩ := id hm
  refine ax_iload_n (pc := 0) dX5_text_0 rfl ?_
  refine ax_i2l (pc := 1) dX5_text_1 ?_
  refine ax_lconst (pc := 2) (v := 0) dX5_text_2 (by decide) ?_
  refine ax_ldc2 (pc := 3) dX5_text_3 tw_743 ?_
  refine ax_eSi3 (pc := 6) sX5_63 dX5_text_6 (by decide) (Nat.le_of_ble_eq_true rfl) (c_X5_in _ _ r 0 3 _ _ (by decide) (by decide)) ?_
  refine ax_ifeqB (pc := 9) (tgt := 18) dX5_text_9 (by decide) (fun c9a => ?_) (fun c9a => ?_)
  · refine ax_iconst (pc := 18) (v := -1) dX5_text_18 (by decide) ?_
    refine ax_iret (pc := 19) dX5_text_19 rfl ?_
    exact fin_m (by unfold sp_text; first | exact if_pos (Or.inl c9a) | exact if_pos (Or.inr (Int32.not_le.mp c15))) hm.mp
  · refine ax_iload_n (pc := 12) dX5_text_12 rfl ?_
    refine ax_bipush (pc := 13) (v := 60) dX5_text_13 (by decide) ?_
    refine ax_icmple (pc := 15) (tgt := 20) dX5_text_15 (by decide) (fun c15 => ?_) (fun c15 => ?_)
    · refine ax_iload_n (pc := 20) dX5_text_20 rfl ?_
      refine ax_ifge (pc := 21) (tgt := 30) dX5_text_21 (by decide) (fun c21 => ?_) (fun c21 => ?_)
      · obtain ⟨j, hj, rfl⟩ := ix_3 c9a
        obtain ⟨k, hk, rfl⟩ := nI_of2 (n := 60) (M := 60) rfl (Int32.not_lt.mpr c21) c15
        refine ax_aload_n (pc := 30) dX5_text_30 rfl ?_
        refine ax_getf (pc := 31) fX5_16 dX5_text_31 (by exact hM_0) rfl ?_
        refine ax_iload_n (pc := 34) dX5_text_34 rfl ?_
        refine ax_iload_n (pc := 35) dX5_text_35 rfl ?_
        refine bx_iastore dX5_text_36 m3 (by decide) hj (by decide) rfl ?_
        refine ax_iconst (pc := 37) (v := nI 0) dX5_text_37 (by decide) ?_
        refine ax_istore3 (pc := 38) dX5_text_38 rfl (by decide) ?_
        refine At.hp (hM_ex (a := 4) (e := mh_ia 1 240 (bT f4 j 0)) ((mh_up_n (by decide)).trans (by rw [bT_0]; exact m4))) ?_
        refine At.mono ?_ (l_X5_text dom _ (xs s nd) sl tu f4 j k hj hk k 0 (by omega))
        rintro r h1 ⟨v, rfl, rfl, rfl⟩
        refine fin_m (by unfold sp_text; rw [if_neg (by rintro (q | q); exact q c9a; exact absurd c15 (Int32.not_le.mpr q)), if_neg (Int32.not_lt.mpr c21), ni_cl (by omega), ni_cl (by omega)]) ?_
        exact MB.mp (s := u_texts s _ _) (MB.text hm hv hj hk m4 mg)
      · refine ax_aload_n (pc := 24) dX5_text_24 rfl ?_
        refine ax_iconst (pc := 25) (v := nI 5) dX5_text_25 (by decide) ?_
        refine ax_cVi1 (pc := 26) vX5_67 dX5_text_26 (by decide) (by exact hM_0) (Nat.le_of_ble_eq_true rfl) (c_X5_finds _ h s nd sl tu 5 (by decide) hm) (fun v1 h1 hq => ?_)
        obtain ⟨rfl, hq⟩ := hq
        refine ax_iret (pc := 29) dX5_text_29 rfl ?_
        exact fin_m (by unfold sp_text; rw [if_neg (by rintro (q | q); exact q c9a; exact absurd c15 (Int32.not_le.mpr q)), if_pos (Int32.not_le.mp c21)]) hq
    · refine ax_iconst (pc := 18) (v := -1) dX5_text_18 (by decide) ?_
      refine ax_iret (pc := 19) dX5_text_19 rfl ?_
      exact fin_m (by unfold sp_text; first | exact if_pos (Or.inl c9a) | exact if_pos (Or.inr (Int32.not_le.mp c15))) hm.mp
set_option maxHeartbeats 4000000 in
set_option maxRecDepth 100000 in
theorem c_X5_put (dom : List Nat) (h : mh_H) (s : sg) (nd : Int32) (sl : Nat → Int32) (tu : Int32) (r i v : Int32) (hm : MB s h sl) (hv : IV s) : Mt mX5_put dom 1 [.ref 0, .int r, .int i, .int v] (hM h (xs s nd) sl tu) (mx_Ri (fun v' h' => v' = (sp_put s r i v).1 ∧ MP (sp_put s r i v).2 h')) := by
  refine Mt.of (L := [some (.ref 0), some (.int r), some (.int i), some (.int v), none]) rfl (Nat.le_of_ble_eq_true rfl) rfl ?_
  obtain ⟨⟨m1, f2, m2, mf⟩, ⟨m3, f4, m4, mg⟩, ⟨so, fl, dr, md⟩, mn, msl, mk, mc, ⟨wo, mw⟩⟩ := id hm
  refine ax_iload_n (pc := 0) dX5_put_0 rfl ?_
  refine ax_i2l (pc := 1) dX5_put_1 ?_
  refine ax_lconst (pc := 2) (v := 0) dX5_put_2 (by decide) ?_
  refine ax_ldc2 (pc := 3) dX5_put_3 tw_743 ?_
  refine ax_eSi3 (pc := 6) sX5_63 dX5_put_6 (by decide) (Nat.le_of_ble_eq_true rfl) (c_X5_in _ _ r 0 3 _ _ (by decide) (by decide)) ?_
  refine ax_ifneB (pc := 9) (tgt := 14) dX5_put_9 (by decide) (fun c9a => ?_) (fun c9a => ?_)
  · obtain ⟨j, hj, rfl⟩ := ix_3 c9a
    refine ax_aload_n (pc := 14) dX5_put_14 rfl ?_
    refine ax_getf (pc := 15) fX5_16 dX5_put_15 (by exact hM_0) rfl ?_
    refine ax_iload_n (pc := 18) dX5_put_18 rfl ?_
    refine bx_iaload dX5_put_19 ((hM_n (by decide)).trans m3) hj (by decide) rfl ?_
    refine ax_ifge (pc := 20) (tgt := 29) dX5_put_20 (by decide) (fun c20 => ?_) (fun c20 => ?_)
    · refine ax_iload_n (pc := 29) dX5_put_29 rfl ?_
      refine ax_i2l (pc := 30) dX5_put_30 ?_
      refine ax_lconst (pc := 31) (v := 0) dX5_put_31 (by decide) ?_
      refine ax_aload_n (pc := 32) dX5_put_32 rfl ?_
      refine ax_getf (pc := 33) fX5_16 dX5_put_33 (by exact hM_0) rfl ?_
      refine ax_iload_n (pc := 36) dX5_put_36 rfl ?_
      refine bx_iaload dX5_put_37 ((hM_n (by decide)).trans m3) hj (by decide) rfl ?_
      refine ax_iconst (pc := 38) (v := 1) dX5_put_38 (by decide) ?_
      refine ax_isub (pc := 39) dX5_put_39 ?_
      refine ax_i2l (pc := 40) dX5_put_40 ?_
      refine ax_eSi3 (pc := 41) sX5_63 dX5_put_41 (by decide) (Nat.le_of_ble_eq_true rfl) (c_X5_in _ _ i 0 (s_tz s j - 1) _ _ (by decide) rfl) ?_
      refine ax_ifneB (pc := 44) (tgt := 53) dX5_put_44 (by decide) (fun c44 => ?_) (fun c44 => ?_)
      · obtain ⟨m, k, hm2, ez, hk, rfl⟩ := pl_in (hv.2.1 j hj) (by decide) (Int32.not_lt.mpr c20) c44
        have hk2 : k < (s_tz s j).toNatClampNeg := by rw [ez, ni_cl (by omega)]; exact hk
        refine ax_aload_n (pc := 53) dX5_put_53 rfl ?_
        refine ax_getf (pc := 54) fX5_19 dX5_put_54 (by exact hM_0) rfl ?_
        refine ax_bipush (pc := 57) (v := nI 60) dX5_put_57 (by decide) ?_
        refine ax_iload_n (pc := 59) dX5_put_59 rfl ?_
        refine bx_imul dX5_put_60  ?_
        refine ax_iload_n (pc := 61) dX5_put_61 rfl ?_
        refine bx_iadd dX5_put_62  ?_
        refine bx_baload dX5_put_63 ((hM_n (by decide)).trans m4) (by omega) (by decide) (mg j hj k hk2) ?_
        refine ax_istore4 (pc := 64) dX5_put_64 rfl (by decide) ?_
        refine ax_aload_n (pc := 66) dX5_put_66 rfl ?_
        refine ax_getf (pc := 67) fX5_19 dX5_put_67 (by exact hM_0) rfl ?_
        refine ax_bipush (pc := 70) (v := nI 60) dX5_put_70 (by decide) ?_
        refine ax_iload_n (pc := 72) dX5_put_72 rfl ?_
        refine bx_imul dX5_put_73  ?_
        refine ax_iload_n (pc := 74) dX5_put_74 rfl ?_
        refine bx_iadd dX5_put_75  ?_
        refine ax_iload_n (pc := 76) dX5_put_76 rfl ?_
        refine ax_i2b (pc := 77) dX5_put_77 ?_
        refine bx_bastore dX5_put_78 m4 (by decide) (by omega) (by decide) (by rw [pk_vb]) ?_
        refine ax_iload (pc := 79) dX5_put_79 rfl ?_
        refine ax_sipush (pc := 81) (v := 1000) dX5_put_81 (by decide) ?_
        refine ax_iadd (pc := 84) dX5_put_84 ?_
        refine ax_iret (pc := 85) dX5_put_85 rfl ?_
        exact fin_m (by unfold sp_put; rw [if_neg (not_not_intro c9a), ni_cl (by omega), if_neg (Int32.not_lt.mpr c20), if_neg (not_not_intro c44), ni_cl (by omega)]) (MB.mp (s := u_texts s (s_tz s) (va_fn (s_tc s) j (upd (s_tc s j) k v.toInt8.toInt32))) (MB.texts hm (fun q h1 h2 => mh_up_n h2) ((mh_up_n (by decide)).trans m3) mh_up_s (mg_upd hv hj hk2 mg)))
      · refine ax_aload_n (pc := 47) dX5_put_47 rfl ?_
        refine ax_iconst (pc := 48) (v := nI 2) dX5_put_48 (by decide) ?_
        refine ax_cVi1 (pc := 49) vX5_67 dX5_put_49 (by decide) (by exact hM_0) (Nat.le_of_ble_eq_true rfl) (c_X5_finds _ h s nd sl tu 2 (by decide) hm) (fun v1 h1 hq => ?_)
        obtain ⟨rfl, hq⟩ := hq
        refine ax_iret (pc := 52) dX5_put_52 rfl ?_
        exact fin_m (by unfold sp_put; rw [if_neg (not_not_intro c9a), ni_cl (by omega), if_neg (Int32.not_lt.mpr c20), if_pos c44]) hq
    · refine ax_aload_n (pc := 23) dX5_put_23 rfl ?_
      refine ax_iconst (pc := 24) (v := nI 1) dX5_put_24 (by decide) ?_
      refine ax_cVi1 (pc := 25) vX5_67 dX5_put_25 (by decide) (by exact hM_0) (Nat.le_of_ble_eq_true rfl) (c_X5_finds _ h s nd sl tu 1 (by decide) hm) (fun v1 h1 hq => ?_)
      obtain ⟨rfl, hq⟩ := hq
      refine ax_iret (pc := 28) dX5_put_28 rfl ?_
      exact fin_m (by unfold sp_put; rw [if_neg (not_not_intro c9a), ni_cl (by omega), if_pos (Int32.not_le.mp c20)]) hq
  · refine ax_iconst (pc := 12) (v := -1) dX5_put_12 (by decide) ?_
    refine ax_iret (pc := 13) dX5_put_13 rfl ?_
    exact fin_m (by unfold sp_put; exact if_pos c9a) hm.mp
