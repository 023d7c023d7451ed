theorem vc_ext {cA : ClassId} {n : Nat} {f f' : Nat → Int32} (hf : ∀ j, j < n → f j = f' j) : vp_cell cA (n, .inl f) = vp_cell cA (n, .inl f') := by
  show arrV cA n (fun j => .int (f j)) = arrV cA n (fun j => .int (f' j))
  unfold arrV
  have : (fun j : Fin n => Value.int (f j.val)) = (fun j : Fin n => Value.int (f' j.val)) := funext fun j => by rw [hf j.val j.isLt]
  rw [this]
theorem At.ia {y : mt_I} {dom : List Nat} {d pc : Nat} {L : List (Option Value)} {st : List Value} {h : mh_H} {Q : Option Value → mh_H → Prop} {a t n : Nat} {f f' : Nat → Int32} (hf : ∀ j, j < n → f j = f' j) (K : At y dom d pc L st (mh_up h a (mh_ia t n f')) Q) : At y dom d pc L st (mh_up h a (mh_ia t n f)) Q := by
  intro ad D dA p l e s m args below meth c H locs ls hC hP hS hl
  refine K ad D dA p l e s m args below meth c H locs ls hC ?_ hS hl
  obtain ⟨p1, p2, p3⟩ := hP
  have hat : ∀ (g : mh_H) (i : Nat), (mh_w dom ad dA g)[i]? = (dom[i]?).map (fun k => (ad k, mh_e ad dA (g k))) := fun g i => by rw [mh_w, List.getElem?_map]
  have key : ∀ (i : Nat) (q : Nat × va_E), (mh_w dom ad dA (mh_up h a (mh_ia t n f')))[i]? = some q → ∃ k, dom[i]? = some k ∧ q = (ad k, mh_e ad dA (mh_up h a (mh_ia t n f') k)) := by
    intro i q hq
    rw [hat] at hq
    cases hd : dom[i]? with
    | none => rw [hd] at hq; cases hq
    | some k => rw [hd] at hq; exact ⟨k, rfl, (Option.some.inj hq).symm⟩
  refine ⟨fun i q hq => ?_, ⟨fun i j x z hx hz hxz => ?_, fun i q hq => ?_⟩, fun k hk => ?_⟩
  · obtain ⟨k, hd, rfl⟩ := key i q hq
    have h1 := p1 i (ad k, mh_e ad dA (mh_up h a (mh_ia t n f) k)) (by rw [hat, hd]; rfl)
    by_cases hka : k = a
    · subst hka
      rw [mh_up_s] at h1 ⊢
      exact Eq.trans h1 (congrArg some (vc_ext hf))
    · rw [mh_up_n hka] at h1 ⊢
      exact h1
  · obtain ⟨k, hd, rfl⟩ := key i x hx
    obtain ⟨k2, hd2, rfl⟩ := key j z hz
    exact p2.1 i j (ad k, mh_e ad dA (mh_up h a (mh_ia t n f) k)) (ad k2, mh_e ad dA (mh_up h a (mh_ia t n f) k2)) (by rw [hat, hd]; rfl) (by rw [hat, hd2]; rfl) hxz
  · obtain ⟨k, hd, rfl⟩ := key i q hq
    exact p2.2 i (ad k, mh_e ad dA (mh_up h a (mh_ia t n f) k)) (by rw [hat, hd]; rfl)
  · have h1 := p3 k hk
    by_cases hka : k = a
    · subst hka
      rw [mh_up_s] at h1
      cases h1
    · rw [mh_up_n hka] at h1 ⊢
      exact h1
def sl_fil (f : Nat → Int32) (m : Nat) (v : Int32) : Nat → Int32 := fun j => if j < m then v else f j
theorem sl_fil0 (f : Nat → Int32) (v : Int32) : sl_fil f 0 v = f := rfl
theorem sl_filS (f : Nat → Int32) (m : Nat) (v : Int32) : upd (sl_fil f m v) m v = sl_fil f (m + 1) v := by
  funext j
  unfold upd sl_fil
  by_cases h : j = m
  · rw [if_pos h, if_pos (by omega)]
  · by_cases h2 : j < m
    · rw [if_neg h, if_pos h2, if_pos (by omega)]
    · rw [if_neg h, if_neg h2, if_neg (by omega)]
/-- the first m of f, the others of g -/
def sl_cp (f g : Nat → Int32) (m : Nat) : Nat → Int32 := fun j => if j < m then f j else g j
theorem sl_cpS (f g : Nat → Int32) (m : Nat) : upd (sl_cp f g m) m (f m) = sl_cp f g (m + 1) := by
  funext j
  unfold upd sl_cp
  by_cases h : j = m
  · rw [if_pos h, if_pos (by omega), h]
  · by_cases h2 : j < m
    · rw [if_neg h, if_pos h2, if_pos (by omega)]
    · rw [if_neg h, if_neg h2, if_neg (by omega)]
def sl_sum (f : Nat → Int32) : Nat → Int64
  | 0 => 0
  | n + 1 => sl_sum f n + (f n).toInt64
def sl_mix (s : Int64) (f : Nat → Int32) : Nat → Int64
  | 0 => s
  | n + 1 => 31 * sl_mix s f n + (f n).toInt64
theorem ob_ia {h : mh_H} {a p c t n : Nat} {fs : List Value} {f : Nat → Int32} (ha : h a = mh_ob c fs) (hp : h p = mh_ia t n f) : p ≠ a := fun q => by rw [q, ha] at hp; cases hp
set_option maxHeartbeats 4000000 in
set_option maxRecDepth 100000 in
theorem c_X2_isThere (dom : List Nat) (h : mh_H) (a p : Nat) (sz : Int32) (ha : h a = mh_ob 2 [.ref p, .int sz]) : Mt mX2_isThere dom 0 [.ref a] h (mx_Ri (fun v' h' => v' = (if 0 ≤ sz then 1 else 0) ∧ h' = h)) := by
  refine Mt.of (L := [some (.ref a)]) rfl (Nat.le_of_ble_eq_true rfl) rfl ?_
  refine ax_aload_n (pc := 0) dX2_isThere_0 rfl ?_
  refine ax_getf (pc := 1) fX2_15 dX2_isThere_1 (by first | assumption | rfl) rfl ?_
  refine ax_iflt (pc := 4) (tgt := 11) dX2_isThere_4 (by decide) (fun c4 => ?_) (fun c4 => ?_)
  · refine ax_iconst (pc := 11) (v := 0) dX2_isThere_11 (by decide) ?_
    refine ax_zret (pc := 12) dX2_isThere_12 rfl (by first | rfl | exact bi_n) ?_
    exact ⟨_, rfl, by first | exact (if_pos (by simp only [Int32.lt_iff_toInt_lt, Int32.le_iff_toInt_le, z_0, z_1, z_2, z_3, z_4, z_5, z_6, z_8, z_9, z_12, z_20, z_32, z_40, z_60, z_m1] at *; omega)).symm | exact (if_neg (by simp only [Int32.lt_iff_toInt_lt, Int32.le_iff_toInt_le, z_0, z_1, z_2, z_3, z_4, z_5, z_6, z_8, z_9, z_12, z_20, z_32, z_40, z_60, z_m1] at *; omega)).symm, rfl⟩
  · refine ax_iconst (pc := 7) (v := 1) dX2_isThere_7 (by decide) ?_
    refine ax_goto (pc := 8) (tgt := 12) dX2_isThere_8 (by decide) ?_
    refine ax_zret (pc := 12) dX2_isThere_12 rfl (by first | rfl | exact bi_n) ?_
    exact ⟨_, rfl, by first | exact (if_pos (by simp only [Int32.lt_iff_toInt_lt, Int32.le_iff_toInt_le, z_0, z_1, z_2, z_3, z_4, z_5, z_6, z_8, z_9, z_12, z_20, z_32, z_40, z_60, z_m1] at *; omega)).symm | exact (if_neg (by simp only [Int32.lt_iff_toInt_lt, Int32.le_iff_toInt_le, z_0, z_1, z_2, z_3, z_4, z_5, z_6, z_8, z_9, z_12, z_20, z_32, z_40, z_60, z_m1] at *; omega)).symm, rfl⟩
set_option maxHeartbeats 4000000 in
set_option maxRecDepth 100000 in
theorem c_X2_hasFrom (dom : List Nat) (h : mh_H) (a p : Nat) (sz : Int32) (ha : h a = mh_ob 2 [.ref p, .int sz]) (i n : Int32) : Mt mX2_hasFrom dom 0 [.ref a, .int i, .int n] h (mx_Ri (fun v' h' => v' = (if 0 ≤ i ∧ i ≤ sz - n then 1 else 0) ∧ h' = h)) := by
  refine Mt.of (L := [some (.ref a), some (.int i), some (.int n)]) rfl (Nat.le_of_ble_eq_true rfl) rfl ?_
  refine ax_iconst (pc := 0) (v := 0) dX2_hasFrom_0 (by decide) ?_
  refine ax_iload_n (pc := 1) dX2_hasFrom_1 rfl ?_
  refine ax_icmpgt (pc := 2) (tgt := 19) dX2_hasFrom_2 (by decide) (fun c2 => ?_) (fun c2 => ?_)
  · refine ax_iconst (pc := 19) (v := 0) dX2_hasFrom_19 (by decide) ?_
    refine ax_zret (pc := 20) dX2_hasFrom_20 rfl (by first | rfl | exact bi_n) ?_
    exact ⟨_, rfl, by first | exact (if_pos (by simp only [Int32.lt_iff_toInt_lt, Int32.le_iff_toInt_le, z_0, z_1, z_2, z_3, z_4, z_5, z_6, z_8, z_9, z_12, z_20, z_32, z_40, z_60, z_m1] at *; omega)).symm | exact (if_neg (by simp only [Int32.lt_iff_toInt_lt, Int32.le_iff_toInt_le, z_0, z_1, z_2, z_3, z_4, z_5, z_6, z_8, z_9, z_12, z_20, z_32, z_40, z_60, z_m1] at *; omega)).symm, rfl⟩
  · refine ax_iload_n (pc := 5) dX2_hasFrom_5 rfl ?_
    refine ax_aload_n (pc := 6) dX2_hasFrom_6 rfl ?_
    refine ax_getf (pc := 7) fX2_15 dX2_hasFrom_7 (by first | assumption | rfl) rfl ?_
    refine ax_iload_n (pc := 10) dX2_hasFrom_10 rfl ?_
    refine ax_isub (pc := 11) dX2_hasFrom_11 ?_
    refine ax_icmpgt (pc := 12) (tgt := 19) dX2_hasFrom_12 (by decide) (fun c12 => ?_) (fun c12 => ?_)
    · refine ax_iconst (pc := 19) (v := 0) dX2_hasFrom_19 (by decide) ?_
      refine ax_zret (pc := 20) dX2_hasFrom_20 rfl (by first | rfl | exact bi_n) ?_
      exact ⟨_, rfl, by first | exact (if_pos (by simp only [Int32.lt_iff_toInt_lt, Int32.le_iff_toInt_le, z_0, z_1, z_2, z_3, z_4, z_5, z_6, z_8, z_9, z_12, z_20, z_32, z_40, z_60, z_m1] at *; omega)).symm | exact (if_neg (by simp only [Int32.lt_iff_toInt_lt, Int32.le_iff_toInt_le, z_0, z_1, z_2, z_3, z_4, z_5, z_6, z_8, z_9, z_12, z_20, z_32, z_40, z_60, z_m1] at *; omega)).symm, rfl⟩
    · refine ax_iconst (pc := 15) (v := 1) dX2_hasFrom_15 (by decide) ?_
      refine ax_goto (pc := 16) (tgt := 20) dX2_hasFrom_16 (by decide) ?_
      refine ax_zret (pc := 20) dX2_hasFrom_20 rfl (by first | rfl | exact bi_n) ?_
      exact ⟨_, rfl, by first | exact (if_pos (by simp only [Int32.lt_iff_toInt_lt, Int32.le_iff_toInt_le, z_0, z_1, z_2, z_3, z_4, z_5, z_6, z_8, z_9, z_12, z_20, z_32, z_40, z_60, z_m1] at *; omega)).symm | exact (if_neg (by simp only [Int32.lt_iff_toInt_lt, Int32.le_iff_toInt_le, z_0, z_1, z_2, z_3, z_4, z_5, z_6, z_8, z_9, z_12, z_20, z_32, z_40, z_60, z_m1] at *; omega)).symm, rfl⟩
set_option maxHeartbeats 4000000 in
set_option maxRecDepth 100000 in
theorem l_X2_make (dom : List Nat) (h : mh_H) (a p m : Nat) (v : Int32) (f : Nat → Int32) (ha : h a = mh_ob 2 [.ref p, .int (nI m)]) (hap : p ≠ a) (hm : m ≤ 60) : ∀ (nn j : Nat), j + nn = m → At mX2_make dom 0 7 [some (.ref a), some (.int (nI m)), some (.int v), some (.int (nI j))] [] (mh_up h p (mh_ia 0 60 (sl_fil f j v))) (mx_Rv (fun h' => h' = mh_up h p (mh_ia 0 60 (sl_fil f m v)))) := by
  intro nn
  induction nn with
  | zero =>
    intro j hj
    have hj : j = m := by omega
    subst hj
    refine ax_iload_n (pc := 7) dX2_make_7 rfl ?_
    refine ax_iload_n (pc := 8) dX2_make_8 rfl ?_
    refine ax_icmpge (pc := 9) (tgt := 31) dX2_make_9 (by decide) (fun _ => ?_) (fun q => absurd (nI_le (Nat.le_refl _) (by omega)) q)
    refine ax_vret (pc := 31) dX2_make_31 rfl ?_
    exact ⟨rfl, rfl⟩
  | succ nn ih =>
    intro j hj
    have hlt : j < m := by omega
    refine ax_iload_n (pc := 7) dX2_make_7 rfl ?_
    refine ax_iload_n (pc := 8) dX2_make_8 rfl ?_
    refine ax_icmpge (pc := 9) (tgt := 31) dX2_make_9 (by decide) (fun q => absurd q (nI_ge hlt (by omega))) (fun _ => ?_)
    refine ax_iload_n (pc := 12) dX2_make_12 rfl ?_
    refine ax_bipush (pc := 13) (v := 60) dX2_make_13 (by decide) ?_
    refine ax_icmpge (pc := 15) (tgt := 31) dX2_make_15 (by decide) (fun q => absurd q (by rw [n_60, nI_leI (by decide) (by omega)]; omega)) (fun _ => ?_)
    refine ax_aload_n (pc := 18) dX2_make_18 rfl ?_
    refine ax_getf (pc := 19) fX2_9 dX2_make_19 ((mh_up_n hap.symm).trans ha) rfl ?_
    refine ax_iload_n (pc := 22) dX2_make_22 rfl ?_
    refine ax_iload_n (pc := 23) dX2_make_23 rfl ?_
    refine ax_iastu (pc := 24) dX2_make_24 (ni_in9 (by omega) (by decide)) ?_
    refine ax_inc3p1 (pc := 25) dX2_make_25 rfl (by decide) ?_
    refine ax_goto (pc := 28) (tgt := 7) dX2_make_28 (by decide) ?_
    rw [nI_1, ni_cl (by omega), sl_filS]
    exact ih (j + 1) (by omega)
set_option maxHeartbeats 4000000 in
set_option maxRecDepth 100000 in
theorem c_X2_make (dom : List Nat) (h : mh_H) (a p m : Nat) (sz v : Int32) (f : Nat → Int32) (ha : h a = mh_ob 2 [.ref p, .int sz]) (hp : h p = mh_ia 0 60 f) (hm : m ≤ 60) : Mt mX2_make dom 0 [.ref a, .int (nI m), .int v] h (mx_Rv (fun h' => h' = mh_up (mh_up h a (mh_ob 2 [.ref p, .int (nI m)])) p (mh_ia 0 60 (sl_fil f m v)))) := by
  refine Mt.of (L := [some (.ref a), some (.int (nI m)), some (.int v), none]) rfl (Nat.le_of_ble_eq_true rfl) rfl ?_
  refine ax_aload_n (pc := 0) dX2_make_0 rfl ?_
  refine ax_iload_n (pc := 1) dX2_make_1 rfl ?_
  refine ax_puti1 (pc := 2) gX2_15 dX2_make_2 (by first | assumption | rfl) ?_
  refine ax_iconst (pc := 5) (v := 0) dX2_make_5 (by decide) ?_
  refine ax_istore3 (pc := 6) dX2_make_6 rfl (by decide) ?_
  have hap := ob_ia ha hp
  refine At.hp (mh_up_id (k := p) (e := mh_ia 0 60 (sl_fil f 0 v)) ((mh_up_n hap).trans hp)).symm ?_
  exact l_X2_make dom _ a p m v f mh_up_s hap hm m 0 (by omega)
set_option maxHeartbeats 4000000 in
set_option maxRecDepth 100000 in
theorem l_X2_sum (dom : List Nat) (h : mh_H) (a p m : Nat) (f : Nat → Int32) (ha : h a = mh_ob 2 [.ref p, .int (nI m)]) (hp : h p = mh_ia 0 60 f) (hm : m ≤ 60) : ∀ (nn j : Nat), j + nn = m → At mX2_sum dom 0 4 [some (.ref a), some (.long (sl_sum f j)), none, some (.int (nI j))] [] h (mx_Rl (fun v' h' => v' = sl_sum f m ∧ h' = h)) := by
  intro nn
  induction nn with
  | zero =>
    intro j hj
    have hj : j = m := by omega
    subst hj
    refine ax_iload_n (pc := 4) dX2_sum_4 rfl ?_
    refine ax_aload_n (pc := 5) dX2_sum_5 rfl ?_
    refine ax_getf (pc := 6) fX2_15 dX2_sum_6 (by first | assumption | rfl) rfl ?_
    refine ax_icmpge (pc := 9) (tgt := 28) dX2_sum_9 (by decide) (fun _ => ?_) (fun q => absurd (nI_le (Nat.le_refl _) (by omega)) q)
    refine ax_lload_n (pc := 28) dX2_sum_28 rfl ?_
    refine ax_lret (pc := 29) dX2_sum_29 rfl ?_
    exact ⟨_, rfl, rfl, rfl⟩
  | succ nn ih =>
    intro j hj
    have hlt : j < m := by omega
    refine ax_iload_n (pc := 4) dX2_sum_4 rfl ?_
    refine ax_aload_n (pc := 5) dX2_sum_5 rfl ?_
    refine ax_getf (pc := 6) fX2_15 dX2_sum_6 (by first | assumption | rfl) rfl ?_
    refine ax_icmpge (pc := 9) (tgt := 28) dX2_sum_9 (by decide) (fun q => absurd q (nI_ge hlt (by omega))) (fun _ => ?_)
    refine ax_lload_n (pc := 12) dX2_sum_12 rfl ?_
    refine ax_aload_n (pc := 13) dX2_sum_13 rfl ?_
    refine ax_getf (pc := 14) fX2_9 dX2_sum_14 (by first | assumption | rfl) rfl ?_
    refine ax_iload_n (pc := 17) dX2_sum_17 rfl ?_
    refine ax_iald (pc := 18) dX2_sum_18 (by first | assumption | rfl) (ni_in9 (by omega) (by decide)) ?_
    refine ax_i2l (pc := 19) dX2_sum_19 ?_
    refine ax_ladd (pc := 20) dX2_sum_20 ?_
    refine ax_lstore1 (pc := 21) dX2_sum_21 rfl (by decide) ?_
    refine ax_inc3p1 (pc := 22) dX2_sum_22 rfl (by decide) ?_
    refine ax_goto (pc := 25) (tgt := 4) dX2_sum_25 (by decide) ?_
    rw [nI_1, ni_cl (by omega)]
    exact ih (j + 1) (by omega)
set_option maxHeartbeats 4000000 in
set_option maxRecDepth 100000 in
theorem c_X2_sum (dom : List Nat) (h : mh_H) (a p m : Nat) (f : Nat → Int32) (ha : h a = mh_ob 2 [.ref p, .int (nI m)]) (hp : h p = mh_ia 0 60 f) (hm : m ≤ 60) : Mt mX2_sum dom 0 [.ref a] h (mx_Rl (fun v' h' => v' = sl_sum f m ∧ h' = h)) := by
  refine Mt.of (L := [some (.ref a), none, none, none]) rfl (Nat.le_of_ble_eq_true rfl) rfl ?_
  refine ax_lconst (pc := 0) (v := 0) dX2_sum_0 (by decide) ?_
  refine ax_lstore1 (pc := 1) dX2_sum_1 rfl (by decide) ?_
  refine ax_iconst (pc := 2) (v := 0) dX2_sum_2 (by decide) ?_
  refine ax_istore3 (pc := 3) dX2_sum_3 rfl (by decide) ?_
  exact l_X2_sum dom h a p m f ha hp hm m 0 (by omega)
set_option maxHeartbeats 4000000 in
set_option maxRecDepth 100000 in
theorem l_X2_mix (dom : List Nat) (h : mh_H) (a p m : Nat) (s s0 : Int64) (f : Nat → Int32) (ha : h a = mh_ob 2 [.ref p, .int (nI m)]) (hp : h p = mh_ia 0 60 f) (hm : m ≤ 60) : ∀ (nn j : Nat), j + nn = m → At mX2_mixedInto dom 0 15 [some (.ref a), some (.long s0), none, some (.long (sl_mix s f j)), none, some (.int (nI j))] [] h (mx_Rl (fun v' h' => v' = sl_mix s f m ∧ h' = h)) := by
  intro nn
  induction nn with
  | zero =>
    intro j hj
    have hj : j = m := by omega
    subst hj
    refine ax_iload (pc := 15) dX2_mixedInto_15 rfl ?_
    refine ax_aload_n (pc := 17) dX2_mixedInto_17 rfl ?_
    refine ax_getf (pc := 18) fX2_15 dX2_mixedInto_18 (by first | assumption | rfl) rfl ?_
    refine ax_icmpge (pc := 21) (tgt := 45) dX2_mixedInto_21 (by decide) (fun _ => ?_) (fun q => absurd (nI_le (Nat.le_refl _) (by omega)) q)
    refine ax_lload_n (pc := 45) dX2_mixedInto_45 rfl ?_
    refine ax_lret (pc := 46) dX2_mixedInto_46 rfl ?_
    exact ⟨_, rfl, rfl, rfl⟩
  | succ nn ih =>
    intro j hj
    have hlt : j < m := by omega
    refine ax_iload (pc := 15) dX2_mixedInto_15 rfl ?_
    refine ax_aload_n (pc := 17) dX2_mixedInto_17 rfl ?_
    refine ax_getf (pc := 18) fX2_15 dX2_mixedInto_18 (by first | assumption | rfl) rfl ?_
    refine ax_icmpge (pc := 21) (tgt := 45) dX2_mixedInto_21 (by decide) (fun q => absurd q (nI_ge hlt (by omega))) (fun _ => ?_)
    refine ax_ldc2 (pc := 24) dX2_mixedInto_24 tw_628 ?_
    refine ax_lload_n (pc := 27) dX2_mixedInto_27 rfl ?_
    refine ax_lmul (pc := 28) dX2_mixedInto_28 ?_
    refine ax_aload_n (pc := 29) dX2_mixedInto_29 rfl ?_
    refine ax_getf (pc := 30) fX2_9 dX2_mixedInto_30 (by first | assumption | rfl) rfl ?_
    refine ax_iload (pc := 33) dX2_mixedInto_33 rfl ?_
    refine ax_iald (pc := 35) dX2_mixedInto_35 (by first | assumption | rfl) (ni_in9 (by omega) (by decide)) ?_
    refine ax_i2l (pc := 36) dX2_mixedInto_36 ?_
    refine ax_ladd (pc := 37) dX2_mixedInto_37 ?_
    refine ax_lstore3 (pc := 38) dX2_mixedInto_38 rfl (by decide) ?_
    refine ax_inc5p1 (pc := 39) dX2_mixedInto_39 rfl (by decide) ?_
    refine ax_goto (pc := 42) (tgt := 15) dX2_mixedInto_42 (by decide) ?_
    rw [nI_1, ni_cl (by omega)]
    exact ih (j + 1) (by omega)
set_option maxHeartbeats 4000000 in
set_option maxRecDepth 100000 in
theorem c_X2_mixedInto (dom : List Nat) (h : mh_H) (a p m : Nat) (s : Int64) (f : Nat → Int32) (ha : h a = mh_ob 2 [.ref p, .int (nI m)]) (hp : h p = mh_ia 0 60 f) (hm : m ≤ 60) : Mt mX2_mixedInto dom 0 [.ref a, .long s] h (mx_Rl (fun v' h' => v' = sl_mix (31 * s + (nI m).toInt64) f m ∧ h' = h)) := by
  refine Mt.of (L := [some (.ref a), some (.long s), none, none, none, none]) rfl (Nat.le_of_ble_eq_true rfl) rfl ?_
  refine ax_ldc2 (pc := 0) dX2_mixedInto_0 tw_628 ?_
  refine ax_lload_n (pc := 3) dX2_mixedInto_3 rfl ?_
  refine ax_lmul (pc := 4) dX2_mixedInto_4 ?_
  refine ax_aload_n (pc := 5) dX2_mixedInto_5 rfl ?_
  refine ax_getf (pc := 6) fX2_15 dX2_mixedInto_6 (by first | assumption | rfl) rfl ?_
  refine ax_i2l (pc := 9) dX2_mixedInto_9 ?_
  refine ax_ladd (pc := 10) dX2_mixedInto_10 ?_
  refine ax_lstore3 (pc := 11) dX2_mixedInto_11 rfl (by decide) ?_
  refine ax_iconst (pc := 12) (v := 0) dX2_mixedInto_12 (by decide) ?_
  refine ax_istore5 (pc := 13) dX2_mixedInto_13 rfl (by decide) ?_
  exact l_X2_mix dom h a p m (31 * s + (nI m).toInt64) s f ha hp hm m 0 (by omega)
set_option maxHeartbeats 4000000 in
set_option maxRecDepth 100000 in
theorem c_X2_mixedInto0 (dom : List Nat) (h : mh_H) (a p : Nat) (s : Int64) (ha : h a = mh_ob 2 [.ref p, .int (-1)]) : Mt mX2_mixedInto dom 0 [.ref a, .long s] h (mx_Rl (fun v' h' => v' = (31 * s + (-1 : Int32).toInt64) ∧ h' = h)) := by
  refine Mt.of (L := [some (.ref a), some (.long s), none, none, none, none]) rfl (Nat.le_of_ble_eq_true rfl) rfl ?_
  refine ax_ldc2 (pc := 0) dX2_mixedInto_0 tw_628 ?_
  refine ax_lload_n (pc := 3) dX2_mixedInto_3 rfl ?_
  refine ax_lmul (pc := 4) dX2_mixedInto_4 ?_
  refine ax_aload_n (pc := 5) dX2_mixedInto_5 rfl ?_
  refine ax_getf (pc := 6) fX2_15 dX2_mixedInto_6 (by first | assumption | rfl) rfl ?_
  refine ax_i2l (pc := 9) dX2_mixedInto_9 ?_
  refine ax_ladd (pc := 10) dX2_mixedInto_10 ?_
  refine ax_lstore3 (pc := 11) dX2_mixedInto_11 rfl (by decide) ?_
  refine ax_iconst (pc := 12) (v := 0) dX2_mixedInto_12 (by decide) ?_
  refine ax_istore5 (pc := 13) dX2_mixedInto_13 rfl (by decide) ?_
  refine ax_iload (pc := 15) dX2_mixedInto_15 rfl ?_
  refine ax_aload_n (pc := 17) dX2_mixedInto_17 rfl ?_
  refine ax_getf (pc := 18) fX2_15 dX2_mixedInto_18 (by first | assumption | rfl) rfl ?_
  refine ax_icmpge (pc := 21) (tgt := 45) dX2_mixedInto_21 (by decide) (fun _ => ?_) (fun q => absurd (by decide : (-1 : Int32) ≤ 0) q)
  refine ax_lload_n (pc := 45) dX2_mixedInto_45 rfl ?_
  refine ax_lret (pc := 46) dX2_mixedInto_46 rfl ?_
  exact ⟨_, rfl, rfl, rfl⟩
set_option maxHeartbeats 4000000 in
set_option maxRecDepth 100000 in
theorem c_X1_isFull (dom : List Nat) (h : mh_H) (a p q n : Nat) (ha : h a = mh_ob 1 [.ref p, .ref q, .int (nI n)]) (hn : n ≤ 40) : Mt mX1_isFull dom 0 [.ref a] h (mx_Ri (fun v' h' => v' = (if n = 40 then 1 else 0) ∧ h' = h)) := by
  refine Mt.of (L := [some (.ref a)]) rfl (Nat.le_of_ble_eq_true rfl) rfl ?_
  refine ax_aload_n (pc := 0) dX1_isFull_0 rfl ?_
  refine ax_getf (pc := 1) fX1_18 dX1_isFull_1 (by first | assumption | rfl) rfl ?_
  refine ax_bipush (pc := 4) (v := 40) dX1_isFull_4 (by decide) ?_
  refine ax_icmplt (pc := 6) (tgt := 13) dX1_isFull_6 (by decide) (fun c6 => ?_) (fun c6 => ?_)
  · refine ax_iconst (pc := 13) (v := 0) dX1_isFull_13 (by decide) ?_
    refine ax_zret (pc := 14) dX1_isFull_14 rfl (by first | rfl | exact bi_n) ?_
    rw [n_40, nI_ltI (by omega) (by decide)] at c6
    exact ⟨_, rfl, by first | exact (if_pos (by omega)).symm | exact (if_neg (by omega)).symm, rfl⟩
  · refine ax_iconst (pc := 9) (v := 1) dX1_isFull_9 (by decide) ?_
    refine ax_goto (pc := 10) (tgt := 14) dX1_isFull_10 (by decide) ?_
    refine ax_zret (pc := 14) dX1_isFull_14 rfl (by first | rfl | exact bi_n) ?_
    rw [n_40, nI_ltI (by omega) (by decide)] at c6
    exact ⟨_, rfl, by first | exact (if_pos (by omega)).symm | exact (if_neg (by omega)).symm, rfl⟩
set_option maxHeartbeats 4000000 in
set_option maxRecDepth 100000 in
theorem c_X1_add (dom : List Nat) (h : mh_H) (a p q n : Nat) (f g : Nat → Int32) (ha : h a = mh_ob 1 [.ref p, .ref q, .int (nI n)]) (hp : h p = mh_ia 0 40 f) (hq : h q = mh_ia 0 40 g) (hpq : p ≠ q) (hn : n < 40) (u v : Int32) : Mt mX1_add dom 1 [.ref a, .int u, .int v] h (mx_Rv (fun h' => h' = mh_up (mh_up (mh_up h p (mh_ia 0 40 (upd f n u))) q (mh_ia 0 40 (upd g n v))) a (mh_ob 1 [.ref p, .ref q, .int (nI (n + 1))]))) := by
  refine Mt.of (L := [some (.ref a), some (.int u), some (.int v)]) rfl (Nat.le_of_ble_eq_true rfl) rfl ?_
  refine ax_aload_n (pc := 0) dX1_add_0 rfl ?_
  refine ax_eVi0 (pc := 1) vX1_22 dX1_add_1 (by decide) (by first | assumption | exact (mh_up_n (ob_ia ha hp).symm).trans ha | exact (mh_up_n hpq.symm).trans hq | exact (mh_up_n (ob_ia ha hq).symm).trans ((mh_up_n (ob_ia ha hp).symm).trans ha)) (Nat.le_of_ble_eq_true rfl) (c_X1_isFull _ _ a p q n ha (by omega)) ?_
  refine ax_ifneB (pc := 4) (tgt := 37) dX1_add_4 (by decide) (fun c4 => ?_) (fun c4 => ?_)
  · exact absurd c4 (by omega)
  · refine ax_aload_n (pc := 7) dX1_add_7 rfl ?_
    refine ax_getf (pc := 8) fX1_9 dX1_add_8 (by first | assumption | exact (mh_up_n (ob_ia ha hp).symm).trans ha | exact (mh_up_n hpq.symm).trans hq | exact (mh_up_n (ob_ia ha hq).symm).trans ((mh_up_n (ob_ia ha hp).symm).trans ha)) rfl ?_
    refine ax_aload_n (pc := 11) dX1_add_11 rfl ?_
    refine ax_getf (pc := 12) fX1_18 dX1_add_12 (by first | assumption | exact (mh_up_n (ob_ia ha hp).symm).trans ha | exact (mh_up_n hpq.symm).trans hq | exact (mh_up_n (ob_ia ha hq).symm).trans ((mh_up_n (ob_ia ha hp).symm).trans ha)) rfl ?_
    refine ax_iload_n (pc := 15) dX1_add_15 rfl ?_
    refine ax_iast (pc := 16) dX1_add_16 (by first | assumption | exact (mh_up_n (ob_ia ha hp).symm).trans ha | exact (mh_up_n hpq.symm).trans hq | exact (mh_up_n (ob_ia ha hq).symm).trans ((mh_up_n (ob_ia ha hp).symm).trans ha)) (ni_in9 hn (by decide)) ?_
    rw [ni_cl (by omega)]
    refine ax_aload_n (pc := 17) dX1_add_17 rfl ?_
    refine ax_getf (pc := 18) fX1_15 dX1_add_18 (by first | assumption | exact (mh_up_n (ob_ia ha hp).symm).trans ha | exact (mh_up_n hpq.symm).trans hq | exact (mh_up_n (ob_ia ha hq).symm).trans ((mh_up_n (ob_ia ha hp).symm).trans ha)) rfl ?_
    refine ax_aload_n (pc := 21) dX1_add_21 rfl ?_
    refine ax_getf (pc := 22) fX1_18 dX1_add_22 (by first | assumption | exact (mh_up_n (ob_ia ha hp).symm).trans ha | exact (mh_up_n hpq.symm).trans hq | exact (mh_up_n (ob_ia ha hq).symm).trans ((mh_up_n (ob_ia ha hp).symm).trans ha)) rfl ?_
    refine ax_iload_n (pc := 25) dX1_add_25 rfl ?_
    refine ax_iast (pc := 26) dX1_add_26 (by first | assumption | exact (mh_up_n (ob_ia ha hp).symm).trans ha | exact (mh_up_n hpq.symm).trans hq | exact (mh_up_n (ob_ia ha hq).symm).trans ((mh_up_n (ob_ia ha hp).symm).trans ha)) (ni_in9 hn (by decide)) ?_
    rw [ni_cl (by omega)]
    refine ax_aload_n (pc := 27) dX1_add_27 rfl ?_
    refine ax_dup (pc := 28) dX1_add_28 rfl ?_
    refine ax_getf (pc := 29) fX1_18 dX1_add_29 (by first | assumption | exact (mh_up_n (ob_ia ha hp).symm).trans ha | exact (mh_up_n hpq.symm).trans hq | exact (mh_up_n (ob_ia ha hq).symm).trans ((mh_up_n (ob_ia ha hp).symm).trans ha)) rfl ?_
    refine ax_iconst (pc := 32) (v := 1) dX1_add_32 (by decide) ?_
    refine ax_iadd (pc := 33) dX1_add_33 ?_
    rw [nI_1]
    refine ax_puti2 (pc := 34) gX1_18 dX1_add_34 (by first | assumption | exact (mh_up_n (ob_ia ha hp).symm).trans ha | exact (mh_up_n hpq.symm).trans hq | exact (mh_up_n (ob_ia ha hq).symm).trans ((mh_up_n (ob_ia ha hp).symm).trans ha)) ?_
    refine ax_vret (pc := 37) dX1_add_37 rfl ?_
    exact ⟨rfl, rfl⟩
set_option maxHeartbeats 4000000 in
set_option maxRecDepth 100000 in
theorem l_X1_copyOf (dom : List Nat) (h : mh_H) (a p q b p2 q2 n : Nat) (f g f2 g2 : Nat → Int32) (ha : h a = mh_ob 1 [.ref p, .ref q, .int (nI n)]) (hb : h b = mh_ob 1 [.ref p2, .ref q2, .int (nI n)]) (hp2 : h p2 = mh_ia 0 40 f2) (hq2 : h q2 = mh_ia 0 40 g2) (hpa : p ≠ a) (hqa : q ≠ a) (hpb : p ≠ b) (hqb : q ≠ b) (hpq : p ≠ q) (h1 : p2 ≠ p) (h2 : p2 ≠ q) (h3 : q2 ≠ p) (h4 : q2 ≠ q) (hn : n ≤ 40) : ∀ (nn j : Nat), j + nn = n → At mX1_copyOf dom 0 10 [some (.ref a), some (.ref b), some (.int (nI j))] [] (mh_up (mh_up h p (mh_ia 0 40 (sl_cp f2 f j))) q (mh_ia 0 40 (sl_cp g2 g j))) (mx_Rv (fun h' => h' = (mh_up (mh_up h p (mh_ia 0 40 (sl_cp f2 f n))) q (mh_ia 0 40 (sl_cp g2 g n))))) := by
  intro nn
  induction nn with
  | zero =>
    intro j hj
    have hj : j = n := by omega
    subst hj
    refine ax_iload_n (pc := 10) dX1_copyOf_10 rfl ?_
    refine ax_aload_n (pc := 11) dX1_copyOf_11 rfl ?_
    refine ax_getf (pc := 12) fX1_18 dX1_copyOf_12 (by first | exact (mh_up_n hqa.symm).trans ((mh_up_n hpa.symm).trans ha) | exact (mh_up_n hqb.symm).trans ((mh_up_n hpb.symm).trans hb) | exact (mh_up_n h2).trans ((mh_up_n h1).trans hp2) | exact (mh_up_n h4).trans ((mh_up_n h3).trans hq2)) rfl ?_
    refine ax_icmpge (pc := 15) (tgt := 48) dX1_copyOf_15 (by decide) (fun _ => ?_) (fun q => absurd (nI_le (Nat.le_refl _) (by omega)) q)
    refine ax_vret (pc := 48) dX1_copyOf_48 rfl ?_
    exact ⟨rfl, rfl⟩
  | succ nn ih =>
    intro j hj
    have hlt : j < n := by omega
    refine ax_iload_n (pc := 10) dX1_copyOf_10 rfl ?_
    refine ax_aload_n (pc := 11) dX1_copyOf_11 rfl ?_
    refine ax_getf (pc := 12) fX1_18 dX1_copyOf_12 (by first | exact (mh_up_n hqa.symm).trans ((mh_up_n hpa.symm).trans ha) | exact (mh_up_n hqb.symm).trans ((mh_up_n hpb.symm).trans hb) | exact (mh_up_n h2).trans ((mh_up_n h1).trans hp2) | exact (mh_up_n h4).trans ((mh_up_n h3).trans hq2)) rfl ?_
    refine ax_icmpge (pc := 15) (tgt := 48) dX1_copyOf_15 (by decide) (fun q => absurd q (nI_ge hlt (by omega))) (fun _ => ?_)
    refine ax_aload_n (pc := 18) dX1_copyOf_18 rfl ?_
    refine ax_getf (pc := 19) fX1_9 dX1_copyOf_19 (by first | exact (mh_up_n hqa.symm).trans ((mh_up_n hpa.symm).trans ha) | exact (mh_up_n hqb.symm).trans ((mh_up_n hpb.symm).trans hb) | exact (mh_up_n h2).trans ((mh_up_n h1).trans hp2) | exact (mh_up_n h4).trans ((mh_up_n h3).trans hq2)) rfl ?_
    refine ax_iload_n (pc := 22) dX1_copyOf_22 rfl ?_
    refine ax_aload_n (pc := 23) dX1_copyOf_23 rfl ?_
    refine ax_getf (pc := 24) fX1_9 dX1_copyOf_24 (by first | exact (mh_up_n hqa.symm).trans ((mh_up_n hpa.symm).trans ha) | exact (mh_up_n hqb.symm).trans ((mh_up_n hpb.symm).trans hb) | exact (mh_up_n h2).trans ((mh_up_n h1).trans hp2) | exact (mh_up_n h4).trans ((mh_up_n h3).trans hq2)) rfl ?_
    refine ax_iload_n (pc := 27) dX1_copyOf_27 rfl ?_
    refine ax_iald (pc := 28) dX1_copyOf_28 (by first | exact (mh_up_n hqa.symm).trans ((mh_up_n hpa.symm).trans ha) | exact (mh_up_n hqb.symm).trans ((mh_up_n hpb.symm).trans hb) | exact (mh_up_n h2).trans ((mh_up_n h1).trans hp2) | exact (mh_up_n h4).trans ((mh_up_n h3).trans hq2)) (ni_in9 (by omega) (by decide)) ?_
    refine At.hp (mh_up_cm hpq) ?_
    refine ax_iastu (pc := 29) dX1_copyOf_29 (ni_in9 (by omega) (by decide)) ?_
    rw [ni_cl (by omega), sl_cpS]
    refine At.hp (mh_up_cm hpq.symm) ?_
    refine ax_aload_n (pc := 30) dX1_copyOf_30 rfl ?_
    refine ax_getf (pc := 31) fX1_15 dX1_copyOf_31 (by first | exact (mh_up_n hqa.symm).trans ((mh_up_n hpa.symm).trans ha) | exact (mh_up_n hqb.symm).trans ((mh_up_n hpb.symm).trans hb) | exact (mh_up_n h2).trans ((mh_up_n h1).trans hp2) | exact (mh_up_n h4).trans ((mh_up_n h3).trans hq2)) rfl ?_
    refine ax_iload_n (pc := 34) dX1_copyOf_34 rfl ?_
    refine ax_aload_n (pc := 35) dX1_copyOf_35 rfl ?_
    refine ax_getf (pc := 36) fX1_15 dX1_copyOf_36 (by first | exact (mh_up_n hqa.symm).trans ((mh_up_n hpa.symm).trans ha) | exact (mh_up_n hqb.symm).trans ((mh_up_n hpb.symm).trans hb) | exact (mh_up_n h2).trans ((mh_up_n h1).trans hp2) | exact (mh_up_n h4).trans ((mh_up_n h3).trans hq2)) rfl ?_
    refine ax_iload_n (pc := 39) dX1_copyOf_39 rfl ?_
    refine ax_iald (pc := 40) dX1_copyOf_40 (by first | exact (mh_up_n hqa.symm).trans ((mh_up_n hpa.symm).trans ha) | exact (mh_up_n hqb.symm).trans ((mh_up_n hpb.symm).trans hb) | exact (mh_up_n h2).trans ((mh_up_n h1).trans hp2) | exact (mh_up_n h4).trans ((mh_up_n h3).trans hq2)) (ni_in9 (by omega) (by decide)) ?_
    refine ax_iastu (pc := 41) dX1_copyOf_41 (ni_in9 (by omega) (by decide)) ?_
    refine ax_inc2p1 (pc := 42) dX1_copyOf_42 rfl (by decide) ?_
    refine ax_goto (pc := 45) (tgt := 10) dX1_copyOf_45 (by decide) ?_
    rw [nI_1, ni_cl (by omega), sl_cpS]
    exact ih (j + 1) (by omega)
set_option maxHeartbeats 4000000 in
set_option maxRecDepth 100000 in
theorem c_X1_copyOf (dom : List Nat) (h : mh_H) (a p q b p2 q2 n : Nat) (c0 : Value) (f g f2 g2 : Nat → Int32) (ha : h a = mh_ob 1 [.ref p, .ref q, c0]) (hp : h p = mh_ia 0 40 f) (hq : h q = mh_ia 0 40 g) (hb : h b = mh_ob 1 [.ref p2, .ref q2, .int (nI n)]) (hp2 : h p2 = mh_ia 0 40 f2) (hq2 : h q2 = mh_ia 0 40 g2) (hab : b ≠ a) (hpq : p ≠ q) (h1 : p2 ≠ p) (h2 : p2 ≠ q) (h3 : q2 ≠ p) (h4 : q2 ≠ q) (hn : n ≤ 40) : Mt mX1_copyOf dom 0 [.ref a, .ref b] h (mx_Rv (fun h' => h' = mh_up (mh_up (mh_up h a (mh_ob 1 [.ref p, .ref q, .int (nI n)])) p (mh_ia 0 40 (sl_cp f2 f n))) q (mh_ia 0 40 (sl_cp g2 g n)))) := by
  refine Mt.of (L := [some (.ref a), some (.ref b), none]) rfl (Nat.le_of_ble_eq_true rfl) rfl ?_
  refine ax_aload_n (pc := 0) dX1_copyOf_0 rfl ?_
  refine ax_aload_n (pc := 1) dX1_copyOf_1 rfl ?_
  refine ax_getf (pc := 2) fX1_18 dX1_copyOf_2 (by first | assumption | rfl) rfl ?_
  refine ax_puti2 (pc := 5) gX1_18 dX1_copyOf_5 (by first | assumption | rfl) ?_
  refine ax_iconst (pc := 8) (v := 0) dX1_copyOf_8 (by decide) ?_
  refine ax_istore2 (pc := 9) dX1_copyOf_9 rfl (by decide) ?_
  refine At.hp (mh_up_id (k := p) (e := mh_ia 0 40 (sl_cp f2 f 0)) ((mh_up_n (ob_ia ha hp)).trans hp)).symm ?_
  refine At.hp (mh_up_id (k := q) (e := mh_ia 0 40 (sl_cp g2 g 0)) ((mh_up_n hpq.symm).trans ((mh_up_n (ob_ia ha hq)).trans hq))).symm ?_
  exact l_X1_copyOf dom _ a p q b p2 q2 n f g f2 g2 mh_up_s ((mh_up_n hab).trans hb) ((mh_up_n (ob_ia ha hp2)).trans hp2) ((mh_up_n (ob_ia ha hq2)).trans hq2) (ob_ia ha hp) (ob_ia ha hq) (ob_ia hb hp) (ob_ia hb hq) hpq h1 h2 h3 h4 hn n 0 (by omega)
