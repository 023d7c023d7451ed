/-- a sum of two longs that were ints -/
theorem l2_add (a b : Int32) : (a.toInt64 + b.toInt64).toInt = a.toInt + b.toInt := by
  have h1 := Int32.le_toInt a
  have h2 := Int32.toInt_lt a
  have h3 := Int32.le_toInt b
  have h4 := Int32.toInt_lt b
  rw [Int64.toInt_add, Int32.toInt_toInt64, Int32.toInt_toInt64]
  exact Int.bmod_eq_of_le (by omega) (by omega)
theorem cp_c {i n : Int32} {m : Nat} (hn : 0 ≤ n) (hm : m ≤ 60) : i.toInt64 + n.toInt64 ≤ (nI m).toInt64 ↔ i ≤ nI m - n := by
  obtain ⟨k, hk, rfl⟩ := nI_of (Int32.not_lt.mpr hn)
  rw [Int64.le_iff_toInt_le, l2_add, Int32.toInt_toInt64, Int32.le_iff_toInt_le, nI_toInt hk, nI_toInt (by omega)]
  have h1 : (nI m - nI k).toInt = (m : Int) - k := by
    rw [Int32.toInt_sub, nI_toInt hk, nI_toInt (by omega)]
    exact Int.bmod_eq_of_le (by omega) (by omega)
  rw [h1]
  omega
/-- what a copy from behind has written -/
def cpB (f : Nat → Int32) (b c n j : Nat) : Nat → Int32 := fun i => if c + (n - j) ≤ i ∧ i < c + n then f (b + (i - c)) else f i
theorem cpB_0 {f : Nat → Int32} {b c n : Nat} : cpB f b c n 0 = f := by
  funext i
  exact if_neg (by omega)
theorem cpB_n {f : Nat → Int32} {b c n : Nat} : cpB f b c n n = cpS f b c n := by
  funext i
  unfold cpB cpS
  by_cases h : c ≤ i ∧ i < c + n
  · rw [if_pos h, if_pos (by omega)]
  · rw [if_neg h, if_neg (by omega)]
theorem cpB_s {f : Nat → Int32} {b c n j : Nat} (hj : j < n) : upd (cpB f b c n j) (c + (n - 1 - j)) (f (b + (n - 1 - j))) = cpB f b c n (j + 1) := by
  funext i
  unfold upd cpB
  by_cases h : i = c + (n - 1 - j)
  · rw [if_pos h, if_pos (by omega)]
    congr 1; omega
  · rw [if_neg h]
    by_cases h2 : c + (n - j) ≤ i ∧ i < c + n
    · rw [if_pos h2, if_pos (by omega)]
    · rw [if_neg h2, if_neg (by omega)]
theorem cpB_b {f : Nat → Int32} {b c n j : Nat} (hj : j < n) (hbc : b < c ∨ c + n ≤ b) : cpB f b c n j (b + (n - 1 - j)) = f (b + (n - 1 - j)) := if_neg (by omega)
theorem cpS_f {f : Nat → Int32} {b c n j : Nat} (hj : j < n) (hbc : c ≤ b ∨ b + n ≤ c) : cpS f b c j (b + j) = f (b + j) := if_neg (by omega)
theorem MB.copy {s : sg} {h : mh_H} {sl f : Nat → Int32} {r t a b n m1 m2 : Nat} (hm : MB s h sl) (hv : IV s) (hr : r < 6) (ht : t < 6) (e1 : s_rz s r = nI m1) (e2 : s_rz s t = nI m2) (l1 : a + n ≤ m1) (l2 : b + n ≤ m2) (q1 : m1 ≤ 40) (q2 : m2 ≤ 40) (hf : ∀ r, r < 6 → ∀ i, i < (s_rz s r).toNatClampNeg → f (40 * r + i) = s_rc s r i) : MB (u_rows s (s_rz s) (va_fn (s_rc s) t (va_cpy (s_rc s r) (s_rc s t) a b n))) (mh_up h 2 (mh_ia 0 240 (cpS f (40 * r + a) (40 * t + b) n))) sl := by
  refine MB.rows hm (fun k h1 h2 => mh_up_n h2) ((mh_up_n (by decide)).trans hm.1.1) mh_up_s ?_
  intro r' hr' i hi
  have h4 := rz_le hv hr'
  by_cases h : r' = t
  · subst h
    rw [va_fn_s]
    by_cases h2 : b ≤ i ∧ i < b + n
    · rw [pk_cpy_in h2.1 h2.2]
      refine (if_pos (by omega)).trans ?_
      rw [show 40 * r + a + (40 * r' + i - (40 * r' + b)) = 40 * r + (a + (i - b)) by omega]
      exact hf r hr _ (by rw [e1, ni_cl (by omega)]; omega)
    · rw [pk_cpy_out (by omega)]
      exact (if_neg (by omega)).trans (hf r' hr' i hi)
  · rw [va_fn_n h]
    exact (if_neg (by omega)).trans (hf r' hr' i hi)
set_option maxHeartbeats 4000000 in
set_option maxRecDepth 100000 in
theorem l_X5_copyf (dom : List Nat) (h : mh_H) (x : mxT) (sl : Nat → Int32) (tu : Int32) (f : Nat → Int32) (r t a b n : Nat) (hr : r < 6) (ht : t < 6) (ha : a + n ≤ 40) (hb : b + n ≤ 40) (hba : b ≤ a) : ∀ (nn j : Nat), j + nn = n → ∀ (l7 : Option Value), At mX5_copy dom 1 114 [some (.ref 0), some (.int (nI r)), some (.int (nI a)), some (.int (nI t)), some (.int (nI b)), some (.int (nI n)), some (.int (nI j)), l7] [] (hM (mh_up h 2 (mh_ia 0 240 (cpS f (40 * r + a) (40 * t + b) j))) x sl tu) (mx_Ri (fun v' h' => v' = 1 ∧ h' = hM (mh_up h 2 (mh_ia 0 240 (cpS f (40 * r + a) (40 * t + b) n))) x sl tu)) := by
  intro nn
  induction nn with
  | zero =>
    intro j hj l7
    have hj : j = n := by omega
    subst hj
    refine ax_iload (pc := 114) dX5_copy_114 rfl ?_
    refine ax_iload (pc := 116) dX5_copy_116 rfl ?_
    refine ax_icmpge (pc := 118) (tgt := 176) dX5_copy_118 (by decide) (fun _ => ?_) (fun q => absurd (nI_le (Nat.le_refl _) (by omega)) q)
    refine ax_iconst (pc := 176) (v := 1) dX5_copy_176 (by decide) ?_
    refine ax_iret (pc := 177) dX5_copy_177 rfl ?_
    exact ⟨_, rfl, rfl, rfl⟩
  | succ nn ih =>
    intro j hj l7
    have hlt : j < n := by omega
    refine ax_iload (pc := 114) dX5_copy_114 rfl ?_
    refine ax_iload (pc := 116) dX5_copy_116 rfl ?_
    refine ax_icmpge (pc := 118) (tgt := 176) dX5_copy_118 (by decide) (fun q => absurd q (nI_ge hlt (by omega))) (fun _ => ?_)
    refine ax_iload (pc := 121) dX5_copy_121 rfl ?_
    refine ax_iload_n (pc := 123) dX5_copy_123 rfl ?_
    refine ax_icmple (pc := 124) (tgt := 137) dX5_copy_124 (by decide) (fun _ => ?_) (fun q => absurd (nI_le hba (by omega)) q)
    refine ax_iload (pc := 137) dX5_copy_137 rfl ?_
    refine ax_istore7 (pc := 139) dX5_copy_139 rfl (by decide) ?_
    refine ax_aload_n (pc := 141) dX5_copy_141 rfl ?_
    refine ax_getf (pc := 142) fX5_13 dX5_copy_142 (by exact hM_0) rfl ?_
    refine ax_bipush (pc := 145) (v := nI 40) dX5_copy_145 (by decide) ?_
    refine ax_iload_n (pc := 147) dX5_copy_147 rfl ?_
    refine bx_imul dX5_copy_148  ?_
    refine ax_iload (pc := 149) dX5_copy_149 rfl ?_
    refine bx_iadd dX5_copy_151  ?_
    refine ax_iload (pc := 152) dX5_copy_152 rfl ?_
    refine bx_iadd dX5_copy_154  ?_
    refine ax_aload_n (pc := 155) dX5_copy_155 rfl ?_
    refine ax_getf (pc := 156) fX5_13 dX5_copy_156 (by exact hM_0) rfl ?_
    refine ax_bipush (pc := 159) (v := nI 40) dX5_copy_159 (by decide) ?_
    refine ax_iload_n (pc := 161) dX5_copy_161 rfl ?_
    refine bx_imul dX5_copy_162  ?_
    refine ax_iload_n (pc := 163) dX5_copy_163 rfl ?_
    refine bx_iadd dX5_copy_164  ?_
    refine ax_iload (pc := 165) dX5_copy_165 rfl ?_
    refine bx_iadd dX5_copy_167  ?_
    refine bx_iaload dX5_copy_168 ((hM_n (by decide)).trans mh_up_s) (by omega) (by decide) (cpS_f (f := f) (b := (40 * r + a)) (c := (40 * t + b)) (n := n) hlt (by omega)) ?_
    refine bx_iastoreu dX5_copy_169 (by decide) (by omega) (by decide) cpS_s ?_
    refine ax_inc6p1 (pc := 170) dX5_copy_170 rfl (by decide) ?_
    refine ax_goto (pc := 173) (tgt := 114) dX5_copy_173 (by decide) ?_
    rw [nI_1]
    exact ih (j + 1) (by omega) _
set_option maxHeartbeats 4000000 in
set_option maxRecDepth 100000 in
theorem l_X5_copyb (dom : List Nat) (h : mh_H) (x : mxT) (sl : Nat → Int32) (tu : Int32) (f : Nat → Int32) (r t a b n : Nat) (hr : r < 6) (ht : t < 6) (ha : a + n ≤ 40) (hb : b + n ≤ 40) (hba : ¬ b ≤ a) : ∀ (nn j : Nat), j + nn = n → ∀ (l7 : Option Value), At mX5_copy dom 1 114 [some (.ref 0), some (.int (nI r)), some (.int (nI a)), some (.int (nI t)), some (.int (nI b)), some (.int (nI n)), some (.int (nI j)), l7] [] (hM (mh_up h 2 (mh_ia 0 240 (cpB f (40 * r + a) (40 * t + b) n j))) x sl tu) (mx_Ri (fun v' h' => v' = 1 ∧ h' = hM (mh_up h 2 (mh_ia 0 240 (cpS f (40 * r + a) (40 * t + b) n))) x sl tu)) := by
  intro nn
  induction nn with
  | zero =>
    intro j hj l7
    have hj : j = n := by omega
    subst hj
    refine ax_iload (pc := 114) dX5_copy_114 rfl ?_
    refine ax_iload (pc := 116) dX5_copy_116 rfl ?_
    refine ax_icmpge (pc := 118) (tgt := 176) dX5_copy_118 (by decide) (fun _ => ?_) (fun q => absurd (nI_le (Nat.le_refl _) (by omega)) q)
    refine ax_iconst (pc := 176) (v := 1) dX5_copy_176 (by decide) ?_
    refine ax_iret (pc := 177) dX5_copy_177 rfl ?_
    exact ⟨_, rfl, rfl, by rw [cpB_n]⟩
  | succ nn ih =>
    intro j hj l7
    have hlt : j < n := by omega
    refine ax_iload (pc := 114) dX5_copy_114 rfl ?_
    refine ax_iload (pc := 116) dX5_copy_116 rfl ?_
    refine ax_icmpge (pc := 118) (tgt := 176) dX5_copy_118 (by decide) (fun q => absurd q (nI_ge hlt (by omega))) (fun _ => ?_)
    refine ax_iload (pc := 121) dX5_copy_121 rfl ?_
    refine ax_iload_n (pc := 123) dX5_copy_123 rfl ?_
    refine ax_icmple (pc := 124) (tgt := 137) dX5_copy_124 (by decide) (fun q => absurd q (by rw [nI_leI (by omega) (by omega)]; exact hba)) (fun _ => ?_)
    refine ax_iload (pc := 127) dX5_copy_127 rfl ?_
    refine ax_iconst (pc := 129) (v := nI 1) dX5_copy_129 (by decide) ?_
    refine bx_isub dX5_copy_130 (by omega) ?_
    refine ax_iload (pc := 131) dX5_copy_131 rfl ?_
    refine bx_isub dX5_copy_133 (by omega) ?_
    refine ax_goto (pc := 134) (tgt := 139) dX5_copy_134 (by decide) ?_
    refine ax_istore7 (pc := 139) dX5_copy_139 rfl (by decide) ?_
    refine ax_aload_n (pc := 141) dX5_copy_141 rfl ?_
    refine ax_getf (pc := 142) fX5_13 dX5_copy_142 (by exact hM_0) rfl ?_
    refine ax_bipush (pc := 145) (v := nI 40) dX5_copy_145 (by decide) ?_
    refine ax_iload_n (pc := 147) dX5_copy_147 rfl ?_
    refine bx_imul dX5_copy_148  ?_
    refine ax_iload (pc := 149) dX5_copy_149 rfl ?_
    refine bx_iadd dX5_copy_151  ?_
    refine ax_iload (pc := 152) dX5_copy_152 rfl ?_
    refine bx_iadd dX5_copy_154  ?_
    refine ax_aload_n (pc := 155) dX5_copy_155 rfl ?_
    refine ax_getf (pc := 156) fX5_13 dX5_copy_156 (by exact hM_0) rfl ?_
    refine ax_bipush (pc := 159) (v := nI 40) dX5_copy_159 (by decide) ?_
    refine ax_iload_n (pc := 161) dX5_copy_161 rfl ?_
    refine bx_imul dX5_copy_162  ?_
    refine ax_iload_n (pc := 163) dX5_copy_163 rfl ?_
    refine bx_iadd dX5_copy_164  ?_
    refine ax_iload (pc := 165) dX5_copy_165 rfl ?_
    refine bx_iadd dX5_copy_167  ?_
    refine bx_iaload dX5_copy_168 ((hM_n (by decide)).trans mh_up_s) (by omega) (by decide) (cpB_b (f := f) (b := (40 * r + a)) (c := (40 * t + b)) (n := n) hlt (by omega)) ?_
    refine bx_iastoreu dX5_copy_169 (by decide) (by omega) (by decide) (cpB_s hlt) ?_
    refine ax_inc6p1 (pc := 170) dX5_copy_170 rfl (by decide) ?_
    refine ax_goto (pc := 173) (tgt := 114) dX5_copy_173 (by decide) ?_
    rw [nI_1]
    exact ih (j + 1) (by omega) _
set_option maxHeartbeats 4000000 in
set_option maxRecDepth 100000 in
theorem c_X5_copy (dom : List Nat) (h : mh_H) (s : sg) (nd : Int32) (sl : Nat → Int32) (tu : Int32) (r i t j n : Int32) (hm : MB s h sl) (hv : IV s) : Mt mX5_copy dom 1 [.ref 0, .int r, .int i, .int t, .int j, .int n] (hM h (xs s nd) sl tu) (mx_Ri (fun v' h' => v' = (sp_copy s r i t j n).1 ∧ MP (sp_copy s r i t j n).2 h')) := by
  refine Mt.of (L := [some (.ref 0), some (.int r), some (.int i), some (.int t), some (.int j), some (.int n), none, none]) rfl (Nat.le_of_ble_eq_true rfl) rfl ?_
  obtain ⟨⟨m1, f2, m2, mf⟩, ⟨m3, f4, m4, mg⟩, ⟨so, fl, dr, md⟩, mn, msl, mk, mc, ⟨wo, mw⟩⟩ := id hm
  refine ax_iload_n (pc := 0) dX5_copy_0 rfl ?_
  refine ax_i2l (pc := 1) dX5_copy_1 ?_
  refine ax_lconst (pc := 2) (v := 0) dX5_copy_2 (by decide) ?_
  refine ax_ldc2 (pc := 3) dX5_copy_3 tw_707 ?_
  refine ax_eSi3 (pc := 6) sX5_63 dX5_copy_6 (by decide) (Nat.le_of_ble_eq_true rfl) (c_X5_in _ _ r 0 5 _ _ (by decide) (by decide)) ?_
  refine ax_ifeqB (pc := 9) (tgt := 24) dX5_copy_9 (by decide) (fun c9a => ?_) (fun c9a => ?_)
  · refine ax_iconst (pc := 24) (v := -1) dX5_copy_24 (by decide) ?_
    refine ax_iret (pc := 25) dX5_copy_25 rfl ?_
    exact fin_m (by unfold sp_copy; first | exact if_pos (Or.inl c9a) | exact if_pos (Or.inr c21)) hm.mp
  · refine ax_iload_n (pc := 12) dX5_copy_12 rfl ?_
    refine ax_i2l (pc := 13) dX5_copy_13 ?_
    refine ax_lconst (pc := 14) (v := 0) dX5_copy_14 (by decide) ?_
    refine ax_ldc2 (pc := 15) dX5_copy_15 tw_707 ?_
    refine ax_eSi3 (pc := 18) sX5_63 dX5_copy_18 (by decide) (Nat.le_of_ble_eq_true rfl) (c_X5_in _ _ t 0 5 _ _ (by decide) (by decide)) ?_
    refine ax_ifneB (pc := 21) (tgt := 26) dX5_copy_21 (by decide) (fun c21 => ?_) (fun c21 => ?_)
    · refine ax_iload (pc := 26) dX5_copy_26 rfl ?_
      refine ax_ifge (pc := 28) (tgt := 37) dX5_copy_28 (by decide) (fun c28 => ?_) (fun c28 => ?_)
      · obtain ⟨p, hp, rfl⟩ := ix_5 c9a
        obtain ⟨q, hq0, rfl⟩ := ix_5 c21
        refine ax_aload_n (pc := 37) dX5_copy_37 rfl ?_
        refine ax_getf (pc := 38) fX5_7 dX5_copy_38 (by exact hM_0) rfl ?_
        refine ax_iload_n (pc := 41) dX5_copy_41 rfl ?_
        refine bx_iaload dX5_copy_42 ((hM_n (by decide)).trans m1) hp (by decide) rfl ?_
        refine ax_iflt (pc := 43) (tgt := 55) dX5_copy_43 (by decide) (fun c43 => ?_) (fun c43 => ?_)
        · refine ax_aload_n (pc := 55) dX5_copy_55 rfl ?_
          refine ax_iconst (pc := 56) (v := nI 1) dX5_copy_56 (by decide) ?_
          refine ax_cVi1 (pc := 57) vX5_67 dX5_copy_57 (by decide) (by exact hM_0) (Nat.le_of_ble_eq_true rfl) (c_X5_finds _ h s nd sl tu 1 (by decide) hm) (fun v1 h1 hq => ?_)
          obtain ⟨rfl, hq⟩ := hq
          refine ax_iret (pc := 60) dX5_copy_60 rfl ?_
          exact fin_m (by unfold sp_copy; rw [if_neg (by rintro (q | q); exact q c9a; exact q c21), if_neg (Int32.not_lt.mpr c28), ni_cl (by omega), ni_cl (by omega)]; first | exact if_pos (Or.inl c43) | exact if_pos (Or.inr (Int32.not_le.mp c52))) hq
        · refine ax_aload_n (pc := 46) dX5_copy_46 rfl ?_
          refine ax_getf (pc := 47) fX5_7 dX5_copy_47 (by exact hM_0) rfl ?_
          refine ax_iload_n (pc := 50) dX5_copy_50 rfl ?_
          refine bx_iaload dX5_copy_51 ((hM_n (by decide)).trans m1) hq0 (by decide) rfl ?_
          refine ax_ifge (pc := 52) (tgt := 61) dX5_copy_52 (by decide) (fun c52 => ?_) (fun c52 => ?_)
          · obtain ⟨n1, hm1, e1⟩ := (hv.1 p hp).resolve_left (fun z => by rw [z] at c43; exact absurd c43 (by decide))
            obtain ⟨n2, hm2, e2⟩ := (hv.1 q hq0).resolve_left (fun z => by rw [z] at c52; exact absurd c52 (by decide))
            refine ax_iload_n (pc := 61) dX5_copy_61 rfl ?_
            refine ax_iflt (pc := 62) (tgt := 105) dX5_copy_62 (by decide) (fun c62 => ?_) (fun c62 => ?_)
            · refine ax_aload_n (pc := 105) dX5_copy_105 rfl ?_
              refine ax_iconst (pc := 106) (v := nI 2) dX5_copy_106 (by decide) ?_
              refine ax_cVi1 (pc := 107) vX5_67 dX5_copy_107 (by decide) (by exact hM_0) (Nat.le_of_ble_eq_true rfl) (c_X5_finds _ h s nd sl tu 2 (by decide) hm) (fun v1 h1 hq => ?_)
              obtain ⟨rfl, hq⟩ := hq
              refine ax_iret (pc := 110) dX5_copy_110 rfl ?_
              exact fin_m (by unfold sp_copy; rw [if_neg (by rintro (q | q); exact q c9a; exact q c21), if_neg (Int32.not_lt.mpr c28), ni_cl (by omega), ni_cl (by omega), if_neg (by rintro (z | z); exact c43 z; exact absurd c52 (Int32.not_le.mpr z)), e1, e2]; first | exact if_pos (Or.inl (fun z => absurd z.1 (Int32.not_le.mpr c62))) | exact if_pos (Or.inr (fun z => absurd z.1 (Int32.not_le.mpr c67))) | exact if_pos (Or.inl (fun z => absurd ((cp_c c28 (by omega)).mpr z.2) (Int64.not_le.mpr ((lg_cmp_gt _ _).mp c84)))) | exact if_pos (Or.inr (fun z => c102 ((lg_cmp_le _ _).mpr ((cp_c c28 (by omega)).mpr z.2))))) hq
            · refine ax_iload (pc := 65) dX5_copy_65 rfl ?_
              refine ax_iflt (pc := 67) (tgt := 105) dX5_copy_67 (by decide) (fun c67 => ?_) (fun c67 => ?_)
              · refine ax_aload_n (pc := 105) dX5_copy_105 rfl ?_
                refine ax_iconst (pc := 106) (v := nI 2) dX5_copy_106 (by decide) ?_
                refine ax_cVi1 (pc := 107) vX5_67 dX5_copy_107 (by decide) (by exact hM_0) (Nat.le_of_ble_eq_true rfl) (c_X5_finds _ h s nd sl tu 2 (by decide) hm) (fun v1 h1 hq => ?_)
                obtain ⟨rfl, hq⟩ := hq
                refine ax_iret (pc := 110) dX5_copy_110 rfl ?_
                exact fin_m (by unfold sp_copy; rw [if_neg (by rintro (q | q); exact q c9a; exact q c21), if_neg (Int32.not_lt.mpr c28), ni_cl (by omega), ni_cl (by omega), if_neg (by rintro (z | z); exact c43 z; exact absurd c52 (Int32.not_le.mpr z)), e1, e2]; first | exact if_pos (Or.inl (fun z => absurd z.1 (Int32.not_le.mpr c62))) | exact if_pos (Or.inr (fun z => absurd z.1 (Int32.not_le.mpr c67))) | exact if_pos (Or.inl (fun z => absurd ((cp_c c28 (by omega)).mpr z.2) (Int64.not_le.mpr ((lg_cmp_gt _ _).mp c84)))) | exact if_pos (Or.inr (fun z => c102 ((lg_cmp_le _ _).mpr ((cp_c c28 (by omega)).mpr z.2))))) hq
              · refine ax_iload_n (pc := 70) dX5_copy_70 rfl ?_
                refine ax_i2l (pc := 71) dX5_copy_71 ?_
                refine ax_iload (pc := 72) dX5_copy_72 rfl ?_
                refine ax_i2l (pc := 74) dX5_copy_74 ?_
                refine ax_ladd (pc := 75) dX5_copy_75 ?_
                refine ax_aload_n (pc := 76) dX5_copy_76 rfl ?_
                refine ax_getf (pc := 77) fX5_7 dX5_copy_77 (by exact hM_0) rfl ?_
                refine ax_iload_n (pc := 80) dX5_copy_80 rfl ?_
                refine bx_iaload dX5_copy_81 ((hM_n (by decide)).trans m1) hp (by decide) rfl ?_
                refine ax_i2l (pc := 82) dX5_copy_82 ?_
                refine ax_lcmp (pc := 83) dX5_copy_83 ?_
                rw [e1]
                refine ax_ifgt (pc := 84) (tgt := 105) dX5_copy_84 (by decide) (fun c84 => ?_) (fun c84 => ?_)
                · refine ax_aload_n (pc := 105) dX5_copy_105 rfl ?_
                  refine ax_iconst (pc := 106) (v := nI 2) dX5_copy_106 (by decide) ?_
                  refine ax_cVi1 (pc := 107) vX5_67 dX5_copy_107 (by decide) (by exact hM_0) (Nat.le_of_ble_eq_true rfl) (c_X5_finds _ h s nd sl tu 2 (by decide) hm) (fun v1 h1 hq => ?_)
                  obtain ⟨rfl, hq⟩ := hq
                  refine ax_iret (pc := 110) dX5_copy_110 rfl ?_
                  exact fin_m (by unfold sp_copy; rw [if_neg (by rintro (q | q); exact q c9a; exact q c21), if_neg (Int32.not_lt.mpr c28), ni_cl (by omega), ni_cl (by omega), if_neg (by rintro (z | z); exact c43 z; exact absurd c52 (Int32.not_le.mpr z)), e1, e2]; first | exact if_pos (Or.inl (fun z => absurd z.1 (Int32.not_le.mpr c62))) | exact if_pos (Or.inr (fun z => absurd z.1 (Int32.not_le.mpr c67))) | exact if_pos (Or.inl (fun z => absurd ((cp_c c28 (by omega)).mpr z.2) (Int64.not_le.mpr ((lg_cmp_gt _ _).mp c84)))) | exact if_pos (Or.inr (fun z => c102 ((lg_cmp_le _ _).mpr ((cp_c c28 (by omega)).mpr z.2))))) hq
                · refine ax_iload (pc := 87) dX5_copy_87 rfl ?_
                  refine ax_i2l (pc := 89) dX5_copy_89 ?_
                  refine ax_iload (pc := 90) dX5_copy_90 rfl ?_
                  refine ax_i2l (pc := 92) dX5_copy_92 ?_
                  refine ax_ladd (pc := 93) dX5_copy_93 ?_
                  refine ax_aload_n (pc := 94) dX5_copy_94 rfl ?_
                  refine ax_getf (pc := 95) fX5_7 dX5_copy_95 (by exact hM_0) rfl ?_
                  refine ax_iload_n (pc := 98) dX5_copy_98 rfl ?_
                  refine bx_iaload dX5_copy_99 ((hM_n (by decide)).trans m1) hq0 (by decide) rfl ?_
                  refine ax_i2l (pc := 100) dX5_copy_100 ?_
                  refine ax_lcmp (pc := 101) dX5_copy_101 ?_
                  rw [e2]
                  refine ax_ifle (pc := 102) (tgt := 111) dX5_copy_102 (by decide) (fun c102 => ?_) (fun c102 => ?_)
                  · have d1 := (cp_c c28 (by omega)).mp (Int64.not_lt.mp (fun z => c84 ((lg_cmp_gt _ _).mpr z)))
                    have d2 := (cp_c c28 (by omega)).mp ((lg_cmp_le _ _).mp c102)
                    obtain ⟨n, hn, rfl⟩ := nI_of (Int32.not_lt.mpr c28)
                    obtain ⟨a, ha, rfl⟩ := nI_of c62
                    obtain ⟨b, hb, rfl⟩ := nI_of c67
                    have l1 : a + n ≤ n1 := by have := (cp_c (i := nI a) c28 (show n1 ≤ 60 by omega)).mpr d1; rw [Int64.le_iff_toInt_le, l2_add, Int32.toInt_toInt64, nI_toInt ha, nI_toInt hn, nI_toInt (by omega)] at this; omega
                    have l2 : b + n ≤ n2 := by have := (cp_c (i := nI b) c28 (show n2 ≤ 60 by omega)).mpr d2; rw [Int64.le_iff_toInt_le, l2_add, Int32.toInt_toInt64, nI_toInt hb, nI_toInt hn, nI_toInt (by omega)] at this; omega
                    refine ax_iconst (pc := 111) (v := nI 0) dX5_copy_111 (by decide) ?_
                    refine ax_istore6 (pc := 112) dX5_copy_112 rfl (by decide) ?_
                    have eS : sp_copy s (nI p) (nI a) (nI q) (nI b) (nI n) = (1, u_rows s (s_rz s) (va_fn (s_rc s) q (va_cpy (s_rc s p) (s_rc s q) a b n))) := by
                      unfold sp_copy
                      rw [if_neg (by rintro (q | q); exact q c9a; exact q c21), if_neg (Int32.not_lt.mpr c28), ni_cl (by omega), ni_cl (by omega), if_neg (by rintro (z | z); exact c43 z; exact absurd c52 (Int32.not_le.mpr z)), if_neg (by rw [e1, e2]; rintro (z | z); exact z ⟨nI_pos' ha, d1⟩; exact z ⟨nI_pos' hb, d2⟩), ni_cl ha, ni_cl hb, ni_cl hn]
                    rw [eS]
                    by_cases hba : b ≤ a
                    · refine At.hp (hM_ex (a := 2) (e := mh_ia 0 240 (cpS f2 (40 * p + a) (40 * q + b) 0)) (by rw [cpS_0]; exact m2)) ?_
                      refine At.mono ?_ (l_X5_copyf dom h (xs s nd) sl tu f2 p q a b n hp hq0 (by omega) (by omega) hba n 0 (by omega) none)
                      rintro r h1 ⟨v, rfl, rfl, rfl⟩
                      exact ⟨_, rfl, rfl, MB.mp (s := u_rows s _ _) (MB.copy hm hv hp hq0 e1 e2 l1 l2 hm1 hm2 mf)⟩
                    · refine At.hp (hM_ex (a := 2) (e := mh_ia 0 240 (cpB f2 (40 * p + a) (40 * q + b) n 0)) (by rw [cpB_0]; exact m2)) ?_
                      refine At.mono ?_ (l_X5_copyb dom h (xs s nd) sl tu f2 p q a b n hp hq0 (by omega) (by omega) hba n 0 (by omega) none)
                      rintro r h1 ⟨v, rfl, rfl, rfl⟩
                      exact ⟨_, rfl, rfl, MB.mp (s := u_rows s _ _) (MB.copy hm hv hp hq0 e1 e2 l1 l2 hm1 hm2 mf)⟩
                  · refine ax_aload_n (pc := 105) dX5_copy_105 rfl ?_
                    refine ax_iconst (pc := 106) (v := nI 2) dX5_copy_106 (by decide) ?_
                    refine ax_cVi1 (pc := 107) vX5_67 dX5_copy_107 (by decide) (by exact hM_0) (Nat.le_of_ble_eq_true rfl) (c_X5_finds _ h s nd sl tu 2 (by decide) hm) (fun v1 h1 hq => ?_)
                    obtain ⟨rfl, hq⟩ := hq
                    refine ax_iret (pc := 110) dX5_copy_110 rfl ?_
                    exact fin_m (by unfold sp_copy; rw [if_neg (by rintro (q | q); exact q c9a; exact q c21), if_neg (Int32.not_lt.mpr c28), ni_cl (by omega), ni_cl (by omega), if_neg (by rintro (z | z); exact c43 z; exact absurd c52 (Int32.not_le.mpr z)), e1, e2]; first | exact if_pos (Or.inl (fun z => absurd z.1 (Int32.not_le.mpr c62))) | exact if_pos (Or.inr (fun z => absurd z.1 (Int32.not_le.mpr c67))) | exact if_pos (Or.inl (fun z => absurd ((cp_c c28 (by omega)).mpr z.2) (Int64.not_le.mpr ((lg_cmp_gt _ _).mp c84)))) | exact if_pos (Or.inr (fun z => c102 ((lg_cmp_le _ _).mpr ((cp_c c28 (by omega)).mpr z.2))))) hq
          · refine ax_aload_n (pc := 55) dX5_copy_55 rfl ?_
            refine ax_iconst (pc := 56) (v := nI 1) dX5_copy_56 (by decide) ?_
            refine ax_cVi1 (pc := 57) vX5_67 dX5_copy_57 (by decide) (by exact hM_0) (Nat.le_of_ble_eq_true rfl) (c_X5_finds _ h s nd sl tu 1 (by decide) hm) (fun v1 h1 hq => ?_)
            obtain ⟨rfl, hq⟩ := hq
            refine ax_iret (pc := 60) dX5_copy_60 rfl ?_
            exact fin_m (by unfold sp_copy; rw [if_neg (by rintro (q | q); exact q c9a; exact q c21), if_neg (Int32.not_lt.mpr c28), ni_cl (by omega), ni_cl (by omega)]; first | exact if_pos (Or.inl c43) | exact if_pos (Or.inr (Int32.not_le.mp c52))) hq
      · refine ax_aload_n (pc := 31) dX5_copy_31 rfl ?_
        refine ax_iconst (pc := 32) (v := nI 5) dX5_copy_32 (by decide) ?_
        refine ax_cVi1 (pc := 33) vX5_67 dX5_copy_33 (by decide) (by exact hM_0) (Nat.le_of_ble_eq_true rfl) (c_X5_finds _ h s nd sl tu 5 (by decide) hm) (fun v1 h1 hq => ?_)
        obtain ⟨rfl, hq⟩ := hq
        refine ax_iret (pc := 36) dX5_copy_36 rfl ?_
        exact fin_m (by unfold sp_copy; rw [if_neg (by rintro (q | q); exact q c9a; exact q c21), if_pos (Int32.not_le.mp c28)]) hq
    · refine ax_iconst (pc := 24) (v := -1) dX5_copy_24 (by decide) ?_
      refine ax_iret (pc := 25) dX5_copy_25 rfl ?_
      exact fin_m (by unfold sp_copy; first | exact if_pos (Or.inl c9a) | exact if_pos (Or.inr c21)) hm.mp
