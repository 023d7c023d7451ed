theorem lc_0 {y : Nat} (h : y < 2 ^ 63) : lg_cmp (lN y) 0 = 0 ↔ y = 0 := (lg_cmp_eq _ _).trans (pk_lEQ h (b := 0) (by decide))
theorem lc_p {y : Nat} (h : y < 2 ^ 63) : lg_cmp (lN y) 0 ≤ 0 ↔ y = 0 := (lg_cmp_le _ _).trans ((pk_lLE h (b := 0) (by decide)).trans Nat.le_zero)
theorem lN_ne {y : Nat} (h : y < 2 ^ 63) (h0 : y ≠ 0) : ¬ lN y = 0 := fun q => h0 ((pk_lEQ h (by decide)).mp q)
def dryW (n : Nat) (w : sp_W) : sp_W := (sp_pass n (!w.2.2.2.1) w.1, w.2.1, w.2.2.1, !w.2.2.2.1, w.2.2.2.2)
def wdr (s : sg) (dry : Nat) : Nat → sp_W
  | 0 => s_t s
  | j + 1 => if dry.testBit j = true then dryW (s_D s).1 (wdr s dry j) else sp_st (s_D s) (s_fi s) (wdr s dry j)
theorem wdr_ok {s : sg} {dry : Nat} (hD : sp_D0 (s_D s)) (h : sp_W0 (s_D s).1 (s_w s)) (n : Nat) : sp_W0 (s_D s).1 (wdr s dry n) := by
  induction n with
  | zero => exact h
  | succ n ih =>
    unfold wdr
    split
    · exact ⟨sp_pass_lt (by have := hD.1; omega) ih.1, ih.2.1, ih.2.2⟩
    · exact sp_st_ok hD ih
theorem wdr_g {s : sg} {dry : Nat} (hD : sp_D0 (s_D s)) (h : sp_W0 (s_D s).1 (s_w s)) (n : Nat) : (wdr s dry n).2.2.2.2 ≤ 77 * n := by
  induction n with
  | zero => exact Nat.le_refl _
  | succ n ih =>
    have h1 := sp_wf_le (fi := s_fi s) hD (wdr_ok (dry := dry) hD h n)
    rw [wdr]
    split
    · show (wdr s dry n).2.2.2.2 ≤ _
      omega
    · show (wdr s dry n).2.2.2.2 + sp_wf (s_D s) (s_fi s) (wdr s dry n) ≤ _
      omega
def sp_wt (p dry : Nat) : Nat := p ^ sp_bc dry 10 * (12 - p) ^ (6 - sp_bc dry 10)
def sp_od (s : sg) (v p : Nat) : Nat → Nat
  | 0 => 0
  | d + 1 => sp_od s v p d + (if v ≤ (wdr s d 6).2.2.2.2 then sp_wt p d else 0)
def sp_md (s : sg) (p : Nat) : Nat → Nat
  | 0 => 0
  | d + 1 => sp_md s p d + sp_wt p d * (wdr s d 6).2.2.2.2
theorem sp_wt_le : ∀ p, p < 13 → ∀ d, d < 64 → sp_wt p d ≤ 2985984 := by decide +kernel
theorem sp_od_le {s : sg} {v p : Nat} (hp : p < 13) : ∀ n, n ≤ 64 → sp_od s v p n ≤ 2985984 * n
  | 0, _ => Nat.le_refl _
  | n + 1, h => by
    have h1 := sp_od_le (s := s) (v := v) hp n (by omega)
    have h2 := sp_wt_le p hp n (by omega)
    unfold sp_od
    split <;> omega
theorem sp_md_le {s : sg} {p : Nat} (hD : sp_D0 (s_D s)) (h : sp_W0 (s_D s).1 (s_w s)) (hp : p < 13) : ∀ n, n ≤ 64 → sp_md s p n ≤ 2985984 * 462 * n
  | 0, _ => Nat.le_refl _
  | n + 1, hn => by
    have h1 := sp_md_le hD h hp n (by omega)
    have h2 : sp_wt p n * (wdr s n 6).2.2.2.2 ≤ 2985984 * 462 := Nat.mul_le_mul (sp_wt_le p hp n (by omega)) (Nat.le_trans (wdr_g hD h 6) (by decide))
    unfold sp_md
    omega
def sp_tl (s : sg) (a b : Nat) : sg := u_tell s (lN (a / Nat.gcd a b)) (lN (b / Nat.gcd a b))
def sp_odds (s : sg) (v p : Int32) : Int32 × sg := if ¬ (0 ≤ v ∧ v ≤ 400) ∨ ¬ (0 ≤ p ∧ p ≤ 12) then (-1, s) else if (s_D s).1 = 0 then (-4, s) else (1, sp_tl s (sp_od s v.toNatClampNeg p.toNatClampNeg 64) 2985984)
def sp_mid (s : sg) (p : Int32) : Int32 × sg := if ¬ (0 ≤ p ∧ p ≤ 12) then (-1, s) else if (s_D s).1 = 0 then (-4, s) else (1, sp_tl s (sp_md s p.toNatClampNeg 64) 2985984)
set_option maxHeartbeats 4000000 in
set_option maxRecDepth 100000 in
theorem l_X4_power (dom : List Nat) (h : mh_H) (b k : Nat) (hb : b < 100) (hk : k ≤ 6) : ∀ (nn j : Nat), j + nn = k → At mX4_power dom 0 5 [some (.int (nI b)), some (.int (nI k)), some (.long (lN (b ^ j))), none, some (.int (nI j))] [] h (mx_Rl (fun v' h' => v' = lN (b ^ k) ∧ h' = h)) := by
  intro nn
  induction nn with
  | zero =>
    intro j hj
    have hj : j = k := by omega
    subst hj
    refine ax_iload (pc := 5) dX4_power_5 rfl ?_
    refine ax_iload_n (pc := 7) dX4_power_7 rfl ?_
    refine ax_icmpge (pc := 8) (tgt := 22) dX4_power_8 (by decide) (fun _ => ?_) (fun q => absurd (nI_le (Nat.le_refl _) (by omega)) q)
    refine ax_lload_n (pc := 22) dX4_power_22 rfl ?_
    refine ax_lret (pc := 23) dX4_power_23 rfl ?_
    exact ⟨_, rfl, rfl, rfl⟩
  | succ nn ih =>
    intro j hj
    have hlt : j < k := by omega
    refine ax_iload (pc := 5) dX4_power_5 rfl ?_
    refine ax_iload_n (pc := 7) dX4_power_7 rfl ?_
    refine ax_icmpge (pc := 8) (tgt := 22) dX4_power_8 (by decide) (fun q => absurd q (nI_ge hlt (by omega))) (fun _ => ?_)
    refine ax_lload_n (pc := 11) dX4_power_11 rfl ?_
    refine ax_iload_n (pc := 12) dX4_power_12 rfl ?_
    refine ax_i2l (pc := 13) dX4_power_13 ?_
    refine ax_lmul (pc := 14) dX4_power_14 ?_
    refine ax_lstore2 (pc := 15) dX4_power_15 rfl (by decide) ?_
    refine ax_inc4p1 (pc := 16) dX4_power_16 rfl (by decide) ?_
    refine ax_goto (pc := 19) (tgt := 5) dX4_power_19 (by decide) ?_
    rw [nI_1, nI_l (by omega), lN_mul]
    exact ih (j + 1) (by omega)
set_option maxHeartbeats 4000000 in
set_option maxRecDepth 100000 in
theorem c_X4_power (dom : List Nat) (h : mh_H) (b k : Nat) (hb : b < 100) (hk : k ≤ 6) : Mt mX4_power dom 0 [.int (nI b), .int (nI k)] h (mx_Rl (fun v' h' => v' = lN (b ^ k) ∧ h' = h)) := by
  refine Mt.of (L := [some (.int (nI b)), some (.int (nI k)), none, none, none]) rfl (Nat.le_of_ble_eq_true rfl) rfl ?_
  refine ax_lconst (pc := 0) (v := 1) dX4_power_0 (by decide) ?_
  refine ax_lstore2 (pc := 1) dX4_power_1 rfl (by decide) ?_
  refine ax_iconst (pc := 2) (v := 0) dX4_power_2 (by decide) ?_
  refine ax_istore4 (pc := 3) dX4_power_3 rfl (by decide) ?_
  exact l_X4_power dom h b k hb hk k 0 (by omega)
set_option maxHeartbeats 4000000 in
set_option maxRecDepth 100000 in
theorem c_X4_weightOf (dom : List Nat) (h : mh_H) (dry p : Nat) (hd : dry < 64) (hp : p < 13) : Mt mX4_weightOf dom 1 [.int (nI dry), .int (nI p)] h (mx_Rl (fun v' h' => v' = lN (sp_wt p dry) ∧ h' = h)) := by
  refine Mt.of (L := [some (.int (nI dry)), some (.int (nI p)), none]) rfl (Nat.le_of_ble_eq_true rfl) rfl ?_
  have hb6 : sp_bc dry 10 ≤ 6 := bc_le 6 (by decide) dry hd
  refine ax_iload_n (pc := 0) dX4_weightOf_0 rfl ?_
  refine ax_eSi1 (pc := 1) sX4_199 dX4_weightOf_1 (by decide) (Nat.le_of_ble_eq_true rfl) (c_J6_bitCount _ _ dry (by omega)) ?_
  refine ax_istore2 (pc := 4) dX4_weightOf_4 rfl (by decide) ?_
  refine ax_iload_n (pc := 5) dX4_weightOf_5 rfl ?_
  refine ax_iload_n (pc := 6) dX4_weightOf_6 rfl ?_
  refine ax_eSl2 (pc := 7) sX4_237 dX4_weightOf_7 (by decide) (Nat.le_of_ble_eq_true rfl) (c_X4_power _ _ p (sp_bc dry 10) (by omega) hb6) ?_
  refine ax_bipush (pc := 10) (v := 12) dX4_weightOf_10 (by decide) ?_
  refine ax_iload_n (pc := 12) dX4_weightOf_12 rfl ?_
  refine ax_isub (pc := 13) dX4_weightOf_13 ?_
  refine At.ti (x' := nI (12 - p)) (by rw [n_12, nI_s (by omega)]) ?_
  refine ax_bipush (pc := 14) (v := 6) dX4_weightOf_14 (by decide) ?_
  refine ax_iload_n (pc := 16) dX4_weightOf_16 rfl ?_
  refine ax_isub (pc := 17) dX4_weightOf_17 ?_
  refine At.ti (x' := nI (6 - sp_bc dry 10)) (by rw [n_6, nI_s (by omega)]) ?_
  refine ax_eSl2 (pc := 18) sX4_237 dX4_weightOf_18 (by decide) (Nat.le_of_ble_eq_true rfl) (c_X4_power _ _ (12 - p) (6 - sp_bc dry 10) (by omega) (by omega)) ?_
  refine ax_lmul (pc := 21) dX4_weightOf_21 ?_
  refine ax_lret (pc := 22) dX4_weightOf_22 rfl ?_
  exact ⟨_, rfl, by rw [lN_mul]; rfl, rfl⟩
theorem gc_m {x y k : Nat} (hy : y ≤ x) (h0 : y ≠ 0) (h : x * y < 2 ^ (k + 1)) : y * (x % y) < 2 ^ k := by
  have h1 : x % y < y := Nat.mod_lt _ (by omega)
  have h2 : x % y + y ≤ x := by
    have h3 := Nat.div_add_mod x y
    have h4 : 1 ≤ x / y := (Nat.le_div_iff_mul_le (by omega)).mpr (by omega)
    have h5 : y * 1 ≤ y * (x / y) := Nat.mul_le_mul_left y h4
    omega
  have h3 : 2 * (x % y) ≤ x := by omega
  have h4 : y * (2 * (x % y)) ≤ y * x := Nat.mul_le_mul_left y h3
  have h5 : y * (2 * (x % y)) = 2 * (y * (x % y)) := by rw [Nat.mul_left_comm]
  rw [Nat.mul_comm x y, Nat.pow_succ] at h
  omega
set_option maxHeartbeats 4000000 in
set_option maxRecDepth 100000 in
theorem l_X4_gcd (dom : List Nat) (h : mh_H) (a0 b0 : Int64) : ∀ (k x y j : Nat) (l9 l10 : Option Value), x < 2 ^ 60 → y ≤ x → x * y < 2 ^ k → j + k ≤ 99 → At mX4_commonDivisor dom 0 9 [some (.long a0), none, some (.long b0), none, some (.long (lN x)), none, some (.long (lN y)), none, some (.int (nI j)), l9, l10] [] h (mx_Rl (fun v' h' => v' = lN (Nat.gcd x y) ∧ h' = h)) := by
  intro k
  induction k with
  | zero =>
    intro x y j l9 l10 hx h1 h2 h3
    have hy0 : y = 0 := by
      rcases Nat.eq_zero_or_pos y with q | q
      · exact q
      · have := Nat.mul_pos (Nat.lt_of_lt_of_le q h1) q
        rw [Nat.pow_zero] at h2
        omega
    subst hy0
    refine ax_iload (pc := 9) dX4_commonDivisor_9 rfl ?_
    refine ax_bipush (pc := 11) (v := 100) dX4_commonDivisor_11 (by decide) ?_
    refine ax_icmpge (pc := 13) (tgt := 44) dX4_commonDivisor_13 (by decide) (fun q => absurd q (by rw [show (100 : Int32) = nI 100 from rfl, nI_leI (by decide) (by omega)]; omega)) (fun _ => ?_)
    refine ax_lload (pc := 16) dX4_commonDivisor_16 rfl ?_
    refine ax_lconst (pc := 18) (v := 0) dX4_commonDivisor_18 (by decide) ?_
    refine ax_lcmp (pc := 19) dX4_commonDivisor_19 ?_
    refine ax_ifeq (pc := 20) (tgt := 44) dX4_commonDivisor_20 (by decide) (fun _ => ?_) (fun q => absurd ((lc_0 (by omega)).mpr rfl) q)
    refine ax_lload (pc := 44) dX4_commonDivisor_44 rfl ?_
    refine ax_lret (pc := 46) dX4_commonDivisor_46 rfl ?_
    exact ⟨_, rfl, by rw [Nat.gcd_zero_right], rfl⟩
  | succ k ih =>
    intro x y j l9 l10 hx h1 h2 h3
    by_cases hy0 : y = 0
    · subst hy0
      refine ax_iload (pc := 9) dX4_commonDivisor_9 rfl ?_
      refine ax_bipush (pc := 11) (v := 100) dX4_commonDivisor_11 (by decide) ?_
      refine ax_icmpge (pc := 13) (tgt := 44) dX4_commonDivisor_13 (by decide) (fun q => absurd q (by rw [show (100 : Int32) = nI 100 from rfl, nI_leI (by decide) (by omega)]; omega)) (fun _ => ?_)
      refine ax_lload (pc := 16) dX4_commonDivisor_16 rfl ?_
      refine ax_lconst (pc := 18) (v := 0) dX4_commonDivisor_18 (by decide) ?_
      refine ax_lcmp (pc := 19) dX4_commonDivisor_19 ?_
      refine ax_ifeq (pc := 20) (tgt := 44) dX4_commonDivisor_20 (by decide) (fun _ => ?_) (fun q => absurd ((lc_0 (by omega)).mpr rfl) q)
      refine ax_lload (pc := 44) dX4_commonDivisor_44 rfl ?_
      refine ax_lret (pc := 46) dX4_commonDivisor_46 rfl ?_
      exact ⟨_, rfl, by rw [Nat.gcd_zero_right], rfl⟩
    · refine ax_iload (pc := 9) dX4_commonDivisor_9 rfl ?_
      refine ax_bipush (pc := 11) (v := 100) dX4_commonDivisor_11 (by decide) ?_
      refine ax_icmpge (pc := 13) (tgt := 44) dX4_commonDivisor_13 (by decide) (fun q => absurd q (by rw [show (100 : Int32) = nI 100 from rfl, nI_leI (by decide) (by omega)]; omega)) (fun _ => ?_)
      refine ax_lload (pc := 16) dX4_commonDivisor_16 rfl ?_
      refine ax_lconst (pc := 18) (v := 0) dX4_commonDivisor_18 (by decide) ?_
      refine ax_lcmp (pc := 19) dX4_commonDivisor_19 ?_
      refine ax_ifeq (pc := 20) (tgt := 44) dX4_commonDivisor_20 (by decide) (fun q => absurd q (fun q => hy0 ((lc_0 (by omega)).mp q))) (fun _ => ?_)
      refine ax_lload (pc := 23) dX4_commonDivisor_23 rfl ?_
      refine ax_lload (pc := 25) dX4_commonDivisor_25 rfl ?_
      refine ax_lrem (pc := 27) dX4_commonDivisor_27 (lN_ne (by omega) hy0) ?_
      rw [pk_lRem (by omega) (by omega) (by omega)]
      refine ax_lstore9 (pc := 28) dX4_commonDivisor_28 rfl (by decide) ?_
      refine ax_lload (pc := 30) dX4_commonDivisor_30 rfl ?_
      refine ax_lstore4 (pc := 32) dX4_commonDivisor_32 rfl (by decide) ?_
      refine ax_lload (pc := 34) dX4_commonDivisor_34 rfl ?_
      refine ax_lstore6 (pc := 36) dX4_commonDivisor_36 rfl (by decide) ?_
      refine ax_inc8p1 (pc := 38) dX4_commonDivisor_38 rfl (by decide) ?_
      refine ax_goto (pc := 41) (tgt := 9) dX4_commonDivisor_41 (by decide) ?_
      rw [nI_1, Nat.gcd_comm x y, Nat.gcd_rec y x, Nat.gcd_comm (x % y) y]
      exact ih y (x % y) (j + 1) _ _ (by omega) (Nat.le_of_lt (Nat.mod_lt _ (by omega))) (gc_m h1 hy0 h2) (by omega)
set_option maxHeartbeats 4000000 in
set_option maxRecDepth 100000 in
theorem c_X4_commonDivisor (dom : List Nat) (h : mh_H) (a b : Nat) (ha : a < 2 ^ 50) (hb : b < 2 ^ 22) (hb0 : b ≠ 0) : Mt mX4_commonDivisor dom 0 [.long (lN a), .long (lN b)] h (mx_Rl (fun v' h' => v' = lN (Nat.gcd a b) ∧ h' = h)) := by
  refine Mt.of (L := [some (.long (lN a)), none, some (.long (lN b)), none, none, none, none, none, none, none, none]) rfl (Nat.le_of_ble_eq_true rfl) rfl ?_
  refine ax_lload_n (pc := 0) dX4_commonDivisor_0 rfl ?_
  refine ax_lstore4 (pc := 1) dX4_commonDivisor_1 rfl (by decide) ?_
  refine ax_lload_n (pc := 3) dX4_commonDivisor_3 rfl ?_
  refine ax_lstore6 (pc := 4) dX4_commonDivisor_4 rfl (by decide) ?_
  refine ax_iconst (pc := 6) (v := 0) dX4_commonDivisor_6 (by decide) ?_
  refine ax_istore8 (pc := 7) dX4_commonDivisor_7 rfl (by decide) ?_
  have hab : a * b < 2 ^ 72 := by
    have := Nat.mul_lt_mul_of_lt_of_le ha (Nat.le_of_lt hb) (by decide)
    exact Nat.lt_of_lt_of_le this (by decide)
  by_cases hba : b ≤ a
  · exact l_X4_gcd dom h (lN a) (lN b) 72 a b 0 _ _ (by omega) hba hab (by decide)
  · have hy0 := hb0
    refine ax_iload (pc := 9) dX4_commonDivisor_9 rfl ?_
    refine ax_bipush (pc := 11) (v := 100) dX4_commonDivisor_11 (by decide) ?_
    refine ax_icmpge (pc := 13) (tgt := 44) dX4_commonDivisor_13 (by decide) (fun q => absurd q (by decide)) (fun _ => ?_)
    refine ax_lload (pc := 16) dX4_commonDivisor_16 rfl ?_
    refine ax_lconst (pc := 18) (v := 0) dX4_commonDivisor_18 (by decide) ?_
    refine ax_lcmp (pc := 19) dX4_commonDivisor_19 ?_
    refine ax_ifeq (pc := 20) (tgt := 44) dX4_commonDivisor_20 (by decide) (fun q => absurd q (fun q => hy0 ((lc_0 (by omega)).mp q))) (fun _ => ?_)
    refine ax_lload (pc := 23) dX4_commonDivisor_23 rfl ?_
    refine ax_lload (pc := 25) dX4_commonDivisor_25 rfl ?_
    refine ax_lrem (pc := 27) dX4_commonDivisor_27 (lN_ne (by omega) hy0) ?_
    rw [pk_lRem (by omega) (by omega) (by omega), Nat.mod_eq_of_lt (by omega)]
    refine ax_lstore9 (pc := 28) dX4_commonDivisor_28 rfl (by decide) ?_
    refine ax_lload (pc := 30) dX4_commonDivisor_30 rfl ?_
    refine ax_lstore4 (pc := 32) dX4_commonDivisor_32 rfl (by decide) ?_
    refine ax_lload (pc := 34) dX4_commonDivisor_34 rfl ?_
    refine ax_lstore6 (pc := 36) dX4_commonDivisor_36 rfl (by decide) ?_
    refine ax_inc8p1 (pc := 38) dX4_commonDivisor_38 rfl (by decide) ?_
    refine ax_goto (pc := 41) (tgt := 9) dX4_commonDivisor_41 (by decide) ?_
    rw [Nat.gcd_comm a b]
    exact l_X4_gcd dom h (lN a) (lN b) 72 b a 1 _ _ (by omega) (by omega) (by rw [Nat.mul_comm]; exact hab) (by decide)
set_option maxHeartbeats 4000000 in
set_option maxRecDepth 100000 in
theorem c_X4_tell (dom : List Nat) (h : mh_H) (s : sg) (a b : Nat) (ha : a < 2 ^ 50) (hb : b < 2 ^ 22) (hb0 : b ≠ 0) (hc : CP s h) : Mt mX4_tell dom 1 [.ref 0, .long (lN a), .long (lN b)] h (mx_Rv (fun h' => CP (sp_tl s a b) h')) := by
  refine Mt.of (L := [some (.ref 0), some (.long (lN a)), none, some (.long (lN b)), none, none, none]) rfl (Nat.le_of_ble_eq_true rfl) rfl ?_
  obtain ⟨c1, c2, c3, c4, c5, c6, c7, c8, c9⟩ := id hc
  have hg0 : Nat.gcd a b ≠ 0 := fun q => hb0 (Nat.eq_zero_of_gcd_eq_zero_right q)
  have hgb : Nat.gcd a b ≤ b := Nat.gcd_le_right a (by omega)
  refine ax_lload_n (pc := 0) dX4_tell_0 rfl ?_
  refine ax_lload_n (pc := 1) dX4_tell_1 rfl ?_
  refine ax_eSl2 (pc := 2) sX4_343 dX4_tell_2 (by decide) (Nat.le_of_ble_eq_true rfl) (c_X4_commonDivisor _ _ a b ha hb hb0) ?_
  refine ax_lstore5 (pc := 5) dX4_tell_5 rfl (by decide) ?_
  refine ax_lload (pc := 7) dX4_tell_7 rfl ?_
  refine ax_lconst (pc := 9) (v := 0) dX4_tell_9 (by decide) ?_
  refine ax_lcmp (pc := 10) dX4_tell_10 ?_
  refine ax_ifle (pc := 11) (tgt := 30) dX4_tell_11 (by decide) (fun q => absurd q (fun q => hg0 ((lc_p (by omega)).mp q))) (fun _ => ?_)
  refine ax_aload_n (pc := 14) dX4_tell_14 rfl ?_
  refine ax_lload_n (pc := 15) dX4_tell_15 rfl ?_
  refine ax_lload (pc := 16) dX4_tell_16 rfl ?_
  refine ax_ldiv (pc := 18) dX4_tell_18 (lN_ne (by omega) hg0) ?_
  refine ax_putl10 (pc := 19) gX4_57 dX4_tell_19 (by exact c1.1) ?_
  refine ax_aload_n (pc := 22) dX4_tell_22 rfl ?_
  refine ax_lload_n (pc := 23) dX4_tell_23 rfl ?_
  refine ax_lload (pc := 24) dX4_tell_24 rfl ?_
  refine ax_ldiv (pc := 26) dX4_tell_26 (lN_ne (by omega) hg0) ?_
  refine ax_putl11u (pc := 27) gX4_61 dX4_tell_27 ?_
  refine ax_vret (pc := 30) dX4_tell_30 rfl ?_
  rw [pk_lDiv (by omega) (by omega) (by omega), pk_lDiv (by omega) (by omega) (by omega)]
  exact ⟨rfl, CP_tell hc⟩
set_option maxHeartbeats 4000000 in
set_option maxRecDepth 100000 in
theorem l_X4_dry (dom : List Nat) (h : mh_H) (s : sg) (hc : CP s h) (hD0 : sp_D0 (s_D s)) (hW0 : sp_W0 (s_D s).1 (s_w s)) (hfi : s_fi s < 512) (dry : Nat) (hd : dry < 64) : ∀ (nn j : Nat), j + nn = 6 → At mX4_groundWithDry dom 3 6 [some (.ref 0), some (.int (nI dry)), some (.int (nI j))] [] (mh_up h 8 (wc (wdr s dry j))) (mx_Ri (fun v' h' => v' = nI (wdr s dry 6).2.2.2.2 ∧ h' = mh_up h 8 (wc (wdr s dry 6)))) := by
  intro nn
  induction nn with
  | zero =>
    intro j hj
    have hj : j = 6 := by omega
    subst hj
    obtain ⟨c1, c2, c3, c4, c5, c6, c7, c8, c9⟩ := id hc
    refine ax_iload_n (pc := 6) dX4_groundWithDry_6 rfl ?_
    refine ax_bipush (pc := 7) (v := 6) dX4_groundWithDry_7 (by decide) ?_
    refine ax_icmpge (pc := 9) (tgt := 63) dX4_groundWithDry_9 (by decide) (fun _ => ?_) (fun q => absurd (by decide) q)
    refine ax_aload_n (pc := 63) dX4_groundWithDry_63 rfl ?_
    refine ax_getf (pc := 64) fX4_46 dX4_groundWithDry_64 (by first | exact c1.1 | exact mh_up_s | exact c5.1 | exact g8 | exact c2.1) rfl ?_
    refine ax_getf (pc := 67) fX4_196 dX4_groundWithDry_67 (by first | exact c1.1 | exact mh_up_s | exact c5.1 | exact g8 | exact c2.1) rfl ?_
    refine ax_iret (pc := 70) dX4_groundWithDry_70 rfl ?_
    exact ⟨_, rfl, rfl, rfl⟩
  | succ nn ih =>
    intro j hj
    have hlt : j < 6 := by omega
    obtain ⟨c1, c2, c3, c4, c5, c6, c7, c8, c9⟩ := id hc
    refine ax_iload_n (pc := 6) dX4_groundWithDry_6 rfl ?_
    refine ax_bipush (pc := 7) (v := 6) dX4_groundWithDry_7 (by decide) ?_
    refine ax_icmpge (pc := 9) (tgt := 63) dX4_groundWithDry_9 (by decide) (fun q => absurd q (by rw [n_6, nI_leI (by decide) (by omega)]; omega)) (fun _ => ?_)
    refine ax_iload_n (pc := 12) dX4_groundWithDry_12 rfl ?_
    refine ax_iload_n (pc := 13) dX4_groundWithDry_13 rfl ?_
    refine ax_ishr (pc := 14) dX4_groundWithDry_14 ?_
    refine ax_iconst (pc := 15) (v := 1) dX4_groundWithDry_15 (by decide) ?_
    refine ax_iand (pc := 16) dX4_groundWithDry_16 ?_
    refine ax_iconst (pc := 17) (v := 1) dX4_groundWithDry_17 (by decide) ?_
    refine ax_icmpne (pc := 18) (tgt := 45) dX4_groundWithDry_18 (by decide) (fun c18 => ?_) (fun c18 => ?_)
    · refine ax_aload_n (pc := 45) dX4_groundWithDry_45 rfl ?_
      refine ax_getf (pc := 46) fX4_46 dX4_groundWithDry_46 (by first | exact c1.1 | exact mh_up_s | exact c5.1 | exact g8 | exact c2.1) rfl ?_
      refine ax_aload_n (pc := 49) dX4_groundWithDry_49 rfl ?_
      refine ax_getf (pc := 50) fX4_21 dX4_groundWithDry_50 (by first | exact c1.1 | exact mh_up_s | exact c5.1 | exact g8 | exact c2.1) rfl ?_
      refine ax_eVi1 (pc := 53) vX4_189 dX4_groundWithDry_53 (by decide) (by first | exact c1.1 | exact mh_up_s | exact c5.1 | exact g8 | exact c2.1) (Nat.le_of_ble_eq_true rfl) (c_X3_goRound _ _ (s_D s) (s_fi s) 8 3 11 12 13 (wdr s dry j).1 (wdr s dry j).2.1 (wdr s dry j).2.2.1 (wdr s dry j).2.2.2.2 (wdr s dry j).2.2.2.1 (by exact mh_up_s) (dyP_k (fun q hq => mh_up_n (by omega)) c5) hD0 (wdr_ok hD0 hW0 j) hfi) ?_
      refine At.hp mh_up_uu ?_
      refine ax_pop (pc := 56) dX4_groundWithDry_56 rfl ?_
      refine ax_inc2p1 (pc := 57) dX4_groundWithDry_57 rfl (by decide) ?_
      refine ax_goto (pc := 60) (tgt := 6) dX4_groundWithDry_60 (by decide) ?_
      rw [ni_bit1 (by omega) (by omega)] at c18
      rw [nI_1]
      have ih2 := ih (j + 1) (by omega)
      rw [wdr] at ih2
      first | rw [if_pos c18] at ih2 | rw [if_neg c18] at ih2
      exact ih2
    · refine ax_aload_n (pc := 21) dX4_groundWithDry_21 rfl ?_
      refine ax_getf (pc := 22) fX4_46 dX4_groundWithDry_22 (by first | exact c1.1 | exact mh_up_s | exact c5.1 | exact g8 | exact c2.1) rfl ?_
      refine ax_eVv0 (pc := 25) vX4_316 dX4_groundWithDry_25 (by decide) (by first | exact c1.1 | exact mh_up_s | exact c5.1 | exact g8 | exact c2.1) (Nat.le_of_ble_eq_true rfl) (c_X3_turn _ _ 8 (wdr s dry j).1 (wdr s dry j).2.1 (wdr s dry j).2.2.1 (wdr s dry j).2.2.2.2 (wdr s dry j).2.2.2.1 (by exact mh_up_s)) ?_
      refine At.hp mh_up_uu ?_
      refine ax_aload_n (pc := 28) dX4_groundWithDry_28 rfl ?_
      refine ax_getf (pc := 29) fX4_46 dX4_groundWithDry_29 (by first | exact c1.1 | exact mh_up_s | exact c5.1 | exact g8 | exact c2.1) rfl ?_
      refine ax_aload_n (pc := 32) dX4_groundWithDry_32 rfl ?_
      refine ax_getf (pc := 33) fX4_21 dX4_groundWithDry_33 (by first | exact c1.1 | exact mh_up_s | exact c5.1 | exact g8 | exact c2.1) rfl ?_
      refine ax_getf (pc := 36) fX4_129 dX4_groundWithDry_36 (by first | exact c1.1 | exact mh_up_s | exact c5.1 | exact g8 | exact c2.1) rfl ?_
      refine ax_eVv1 (pc := 39) vX4_319 dX4_groundWithDry_39 (by decide) (by first | exact c1.1 | exact mh_up_s | exact c5.1 | exact g8 | exact c2.1) (Nat.le_of_ble_eq_true rfl) (c_X3_pass _ _ 8 (wdr s dry j).1 (wdr s dry j).2.1 (wdr s dry j).2.2.1 (wdr s dry j).2.2.2.2 (s_D s).1 (!(wdr s dry j).2.2.2.1) (by exact mh_up_s) (wdr_ok hD0 hW0 j).1 (by have := hD0.2.1; omega)) ?_
      refine At.hp mh_up_uu ?_
      refine ax_goto (pc := 42) (tgt := 57) dX4_groundWithDry_42 (by decide) ?_
      refine ax_inc2p1 (pc := 57) dX4_groundWithDry_57 rfl (by decide) ?_
      refine ax_goto (pc := 60) (tgt := 6) dX4_groundWithDry_60 (by decide) ?_
      rw [ni_bit1 (by omega) (by omega)] at c18
      rw [nI_1]
      have ih2 := ih (j + 1) (by omega)
      rw [wdr] at ih2
      first | rw [if_pos c18] at ih2 | rw [if_neg c18] at ih2
      exact ih2
set_option maxHeartbeats 4000000 in
set_option maxRecDepth 100000 in
theorem c_X4_groundWithDry (dom : List Nat) (h : mh_H) (s : sg) (hc : CP s h) (hD0 : sp_D0 (s_D s)) (hW0 : sp_W0 (s_D s).1 (s_w s)) (hfi : s_fi s < 512) (dry : Nat) (hd : dry < 64) : Mt mX4_groundWithDry dom 3 [.ref 0, .int (nI dry)] h (mx_Ri (fun v' h' => v' = nI (wdr s dry 6).2.2.2.2 ∧ CP s h')) := by
  refine Mt.of (L := [some (.ref 0), some (.int (nI dry)), none]) rfl (Nat.le_of_ble_eq_true rfl) rfl ?_
  obtain ⟨c1, c2, c3, c4, c5, c6, c7, c8, c9⟩ := id hc
  refine ax_aload_n (pc := 0) dX4_groundWithDry_0 rfl ?_
  refine ax_eVv0 (pc := 1) vX4_182 dX4_groundWithDry_1 (by decide) (by first | exact c1.1 | exact mh_up_s | exact c5.1 | exact g8 | exact c2.1) (Nat.le_of_ble_eq_true rfl) (c_X4_startTrial _ _ s hc) ?_
  refine ax_iconst (pc := 4) (v := 0) dX4_groundWithDry_4 (by decide) ?_
  refine ax_istore2 (pc := 5) dX4_groundWithDry_5 rfl (by decide) ?_
  refine At.mono ?_ (l_X4_dry dom h s hc hD0 hW0 hfi dry hd 6 0 (by omega))
  rintro r h1 ⟨v, rfl, rfl, rfl⟩
  exact ⟨_, rfl, rfl, CP_8 hc⟩
set_option maxHeartbeats 4000000 in
set_option maxRecDepth 100000 in
theorem l_X4_odds (dom : List Nat) (s : sg) (hD0 : sp_D0 (s_D s)) (hW0 : sp_W0 (s_D s).1 (s_w s)) (hfi : s_fi s < 512) (v p : Nat) (hv : v ≤ 400) (hp : p < 13) : ∀ (nn j : Nat), j + nn = 64 → ∀ (H : mh_H), CP s H → At mX4_odds dom 4 38 [some (.ref 0), some (.int (nI v)), some (.int (nI p)), some (.long (lN (sp_od s v p j))), none, some (.int (nI j))] [] H (mx_Ri (fun v' h' => v' = (((1 : Int32), sp_tl s (sp_od s v p 64) 2985984)).1 ∧ CP (((1 : Int32), sp_tl s (sp_od s v p 64) 2985984)).2 h')) := by
  intro nn
  induction nn with
  | zero =>
    intro j hj H hinv
    have hj : j = 64 := by omega
    subst hj
    obtain ⟨c1, c2, c3, c4, c5, c6, c7, c8, c9⟩ := id hinv
    refine ax_iload (pc := 38) dX4_odds_38 rfl ?_
    refine ax_bipush (pc := 40) (v := 64) dX4_odds_40 (by decide) ?_
    refine ax_icmpge (pc := 42) (tgt := 70) dX4_odds_42 (by decide) (fun _ => ?_) (fun q => absurd (by decide) q)
    refine ax_aload_n (pc := 70) dX4_odds_70 rfl ?_
    refine ax_lload_n (pc := 71) dX4_odds_71 rfl ?_
    refine ax_bipush (pc := 72) (v := 12) dX4_odds_72 (by decide) ?_
    refine ax_bipush (pc := 74) (v := 6) dX4_odds_74 (by decide) ?_
    refine ax_eSl2 (pc := 76) sX4_237 dX4_odds_76 (by decide) (Nat.le_of_ble_eq_true rfl) (c_X4_power _ _ 12 6 (by decide) (by decide)) ?_
    refine ax_cVv2 (pc := 79) vX4_240 dX4_odds_79 (by decide) (by exact c1.1) (Nat.le_of_ble_eq_true rfl) (c_X4_tell _ _ s (sp_od s v p 64) (12 ^ 6) (Nat.lt_of_le_of_lt (sp_od_le hp 64 (by decide)) (by decide)) (by decide) (by decide) hinv) (fun h1 hq1 => ?_)
    refine ax_iconst (pc := 82) (v := 1) dX4_odds_82 (by decide) ?_
    refine ax_iret (pc := 83) dX4_odds_83 rfl ?_
    exact fin_i rfl hq1
  | succ nn ih =>
    intro j hj H hinv
    have hlt : j < 64 := by omega
    obtain ⟨c1, c2, c3, c4, c5, c6, c7, c8, c9⟩ := id hinv
    refine ax_iload (pc := 38) dX4_odds_38 rfl ?_
    refine ax_bipush (pc := 40) (v := 64) dX4_odds_40 (by decide) ?_
    refine ax_icmpge (pc := 42) (tgt := 70) dX4_odds_42 (by decide) (fun q => absurd q (by rw [show (64 : Int32) = nI 64 from rfl, nI_leI (by decide) (by omega)]; omega)) (fun _ => ?_)
    refine ax_aload_n (pc := 45) dX4_odds_45 rfl ?_
    refine ax_iload (pc := 46) dX4_odds_46 rfl ?_
    refine ax_cVi1 (pc := 48) vX4_230 dX4_odds_48 (by decide) (by exact c1.1) (Nat.le_of_ble_eq_true rfl) (c_X4_groundWithDry _ _ s hinv hD0 hW0 hfi j (by omega)) (fun v1 h1 hq1 => ?_)
    obtain ⟨rfl, hc1⟩ := hq1
    refine ax_iload_n (pc := 51) dX4_odds_51 rfl ?_
    refine ax_icmplt (pc := 52) (tgt := 64) dX4_odds_52 (by decide) (fun c52 => ?_) (fun c52 => ?_)
    · refine ax_inc5p1 (pc := 64) dX4_odds_64 rfl (by decide) ?_
      refine ax_goto (pc := 67) (tgt := 38) dX4_odds_67 (by decide) ?_
      have hg := wdr_g (dry := j) hD0 hW0 6
      rw [nI_ltI (by omega) (by omega)] at c52
      have e5 : sp_od s v p (j + 1) = sp_od s v p j + (if v ≤ (wdr s j 6).2.2.2.2 then sp_wt p j else 0) := rfl
      first | rw [if_pos (Nat.not_lt.mp c52)] at e5 | rw [if_neg (Nat.not_le.mpr c52)] at e5
      first | rw [lN_add, nI_1, ← e5] | rw [nI_1, show sp_od s v p j = sp_od s v p (j + 1) from e5.symm]
      exact ih (j + 1) (by omega) _ hc1
    · refine ax_lload_n (pc := 55) dX4_odds_55 rfl ?_
      refine ax_iload (pc := 56) dX4_odds_56 rfl ?_
      refine ax_iload_n (pc := 58) dX4_odds_58 rfl ?_
      refine ax_eSl2 (pc := 59) sX4_233 dX4_odds_59 (by decide) (Nat.le_of_ble_eq_true rfl) (c_X4_weightOf _ _ j p (by omega) hp) ?_
      refine ax_ladd (pc := 62) dX4_odds_62 ?_
      refine ax_lstore3 (pc := 63) dX4_odds_63 rfl (by decide) ?_
      refine ax_inc5p1 (pc := 64) dX4_odds_64 rfl (by decide) ?_
      refine ax_goto (pc := 67) (tgt := 38) dX4_odds_67 (by decide) ?_
      have hg := wdr_g (dry := j) hD0 hW0 6
      rw [nI_ltI (by omega) (by omega)] at c52
      have e5 : sp_od s v p (j + 1) = sp_od s v p j + (if v ≤ (wdr s j 6).2.2.2.2 then sp_wt p j else 0) := rfl
      first | rw [if_pos (Nat.not_lt.mp c52)] at e5 | rw [if_neg (Nat.not_le.mpr c52)] at e5
      first | rw [lN_add, nI_1, ← e5] | rw [nI_1, show sp_od s v p j = sp_od s v p (j + 1) from e5.symm]
      exact ih (j + 1) (by omega) _ hc1
set_option maxHeartbeats 4000000 in
set_option maxRecDepth 100000 in
theorem c_X4_odds (dom : List Nat) (h : mh_H) (s : sg) (v p : Int32) (hc : CP s h) (hv : IV s) : Mt mX4_odds dom 4 [.ref 0, .int v, .int p] h (mx_Ri (fun v' h' => v' = (sp_odds s v p).1 ∧ CP (sp_odds s v p).2 h')) := by
  refine Mt.of (L := [some (.ref 0), some (.int v), some (.int p), none, none, none]) rfl (Nat.le_of_ble_eq_true rfl) rfl ?_
  obtain ⟨c1, c2, c3, c4, c5, c6, c7, c8, c9⟩ := id hc
  obtain ⟨gx0, gx1, gk1, gf1, gr1, g7, g14, g15, g16⟩ := id c9.1
  obtain ⟨t0, t1, t2, t3, t4, g8⟩ := id c9.2.1
  refine ax_iload_n (pc := 0) dX4_odds_0 rfl ?_
  refine ax_iconst (pc := 1) (v := 0) dX4_odds_1 (by decide) ?_
  refine ax_sipush (pc := 2) (v := 400) dX4_odds_2 (by decide) ?_
  refine ax_eSi3 (pc := 5) sX4_133 dX4_odds_5 (by decide) (Nat.le_of_ble_eq_true rfl) (c_X4_within _ _ _ _ _) ?_
  refine ax_ifeqB (pc := 8) (tgt := 21) dX4_odds_8 (by decide) (fun c8a => ?_) (fun c8a => ?_)
  · refine ax_iconst (pc := 21) (v := -1) dX4_odds_21 (by decide) ?_
    refine ax_iret (pc := 22) dX4_odds_22 rfl ?_
    exact fin_i (by unfold sp_odds; first | exact if_pos (Or.inl c8a) | exact if_pos (Or.inr c18)) hc
  · refine ax_iload_n (pc := 11) dX4_odds_11 rfl ?_
    refine ax_iconst (pc := 12) (v := 0) dX4_odds_12 (by decide) ?_
    refine ax_bipush (pc := 13) (v := 12) dX4_odds_13 (by decide) ?_
    refine ax_eSi3 (pc := 15) sX4_133 dX4_odds_15 (by decide) (Nat.le_of_ble_eq_true rfl) (c_X4_within _ _ _ _ _) ?_
    refine ax_ifneB (pc := 18) (tgt := 23) dX4_odds_18 (by decide) (fun c18 => ?_) (fun c18 => ?_)
    · refine ax_aload_n (pc := 23) dX4_odds_23 rfl ?_
      refine ax_eVi0 (pc := 24) vX4_154 dX4_odds_24 (by decide) (by first | exact c1.1 | exact c5.1 | exact c6 | exact c5.2.1 | exact c5.2.2.1 | exact c5.2.2.2 | exact c1.2 | exact c2.1 | exact c2.2.1 | exact c2.2.2.1 | exact c2.2.2.2 | exact g7 | exact g8 | rfl) (Nat.le_of_ble_eq_true rfl) (c_X4_noDays _ _ s hc hv) ?_
      refine ax_ifeqB (pc := 27) (tgt := 33) dX4_odds_27 (by decide) (fun c27 => ?_) (fun c27 => ?_)
      · obtain ⟨v2, hv2, rfl⟩ := nI_of2 (n := 400) (M := 400) rfl (Int32.not_lt.mpr c8a.1) c8a.2
        obtain ⟨p2, hp2, rfl⟩ := nI_of2 (n := 12) (M := 12) rfl (Int32.not_lt.mpr c18.1) c18.2
        obtain ⟨hD0, hW0, hfi⟩ := hv.w c27
        refine ax_lconst (pc := 33) (v := 0) dX4_odds_33 (by decide) ?_
        refine ax_lstore3 (pc := 34) dX4_odds_34 rfl (by decide) ?_
        refine ax_iconst (pc := 35) (v := 0) dX4_odds_35 (by decide) ?_
        refine ax_istore5 (pc := 36) dX4_odds_36 rfl (by decide) ?_
        unfold sp_odds
        rw [if_neg (by rintro (z | z); exact z c8a; exact z c18), if_neg c27, ni_cl (by omega), ni_cl (by omega)]
        exact l_X4_odds dom s hD0 hW0 hfi v2 p2 hv2 (by omega) 64 0 (by omega) h hc
      · refine ax_bipush (pc := 30) (v := -4) dX4_odds_30 (by decide) ?_
        refine ax_iret (pc := 32) dX4_odds_32 rfl ?_
        exact fin_i (by unfold sp_odds; rw [if_neg (by rintro (z | z); exact z c8a; exact z c18), if_pos c27]) hc
    · refine ax_iconst (pc := 21) (v := -1) dX4_odds_21 (by decide) ?_
      refine ax_iret (pc := 22) dX4_odds_22 rfl ?_
      exact fin_i (by unfold sp_odds; first | exact if_pos (Or.inl c8a) | exact if_pos (Or.inr c18)) hc
set_option maxHeartbeats 4000000 in
set_option maxRecDepth 100000 in
theorem l_X4_mid (dom : List Nat) (s : sg) (hD0 : sp_D0 (s_D s)) (hW0 : sp_W0 (s_D s).1 (s_w s)) (hfi : s_fi s < 512) (p : Nat) (hp : p < 13) : ∀ (nn j : Nat), j + nn = 64 → ∀ (H : mh_H), CP s H → At mX4_mid dom 4 27 [some (.ref 0), some (.int (nI p)), some (.long (lN (sp_md s p j))), none, some (.int (nI j))] [] H (mx_Ri (fun v' h' => v' = (((1 : Int32), sp_tl s (sp_md s p 64) 2985984)).1 ∧ CP (((1 : Int32), sp_tl s (sp_md s p 64) 2985984)).2 h')) := by
  intro nn
  induction nn with
  | zero =>
    intro j hj H hinv
    have hj : j = 64 := by omega
    subst hj
    obtain ⟨c1, c2, c3, c4, c5, c6, c7, c8, c9⟩ := id hinv
    refine ax_iload (pc := 27) dX4_mid_27 rfl ?_
    refine ax_bipush (pc := 29) (v := 64) dX4_mid_29 (by decide) ?_
    refine ax_icmpge (pc := 31) (tgt := 57) dX4_mid_31 (by decide) (fun _ => ?_) (fun q => absurd (by decide) q)
    refine ax_aload_n (pc := 57) dX4_mid_57 rfl ?_
    refine ax_lload_n (pc := 58) dX4_mid_58 rfl ?_
    refine ax_bipush (pc := 59) (v := 12) dX4_mid_59 (by decide) ?_
    refine ax_bipush (pc := 61) (v := 6) dX4_mid_61 (by decide) ?_
    refine ax_eSl2 (pc := 63) sX4_237 dX4_mid_63 (by decide) (Nat.le_of_ble_eq_true rfl) (c_X4_power _ _ 12 6 (by decide) (by decide)) ?_
    refine ax_cVv2 (pc := 66) vX4_240 dX4_mid_66 (by decide) (by exact c1.1) (Nat.le_of_ble_eq_true rfl) (c_X4_tell _ _ s (sp_md s p 64) (12 ^ 6) (Nat.lt_of_le_of_lt (sp_md_le hD0 hW0 hp 64 (by decide)) (by decide)) (by decide) (by decide) hinv) (fun h1 hq1 => ?_)
    refine ax_iconst (pc := 69) (v := 1) dX4_mid_69 (by decide) ?_
    refine ax_iret (pc := 70) dX4_mid_70 rfl ?_
    exact fin_i rfl hq1
  | succ nn ih =>
    intro j hj H hinv
    have hlt : j < 64 := by omega
    obtain ⟨c1, c2, c3, c4, c5, c6, c7, c8, c9⟩ := id hinv
    refine ax_iload (pc := 27) dX4_mid_27 rfl ?_
    refine ax_bipush (pc := 29) (v := 64) dX4_mid_29 (by decide) ?_
    refine ax_icmpge (pc := 31) (tgt := 57) dX4_mid_31 (by decide) (fun q => absurd q (by rw [show (64 : Int32) = nI 64 from rfl, nI_leI (by decide) (by omega)]; omega)) (fun _ => ?_)
    refine ax_lload_n (pc := 34) dX4_mid_34 rfl ?_
    refine ax_iload (pc := 35) dX4_mid_35 rfl ?_
    refine ax_iload_n (pc := 37) dX4_mid_37 rfl ?_
    refine ax_eSl2 (pc := 38) sX4_233 dX4_mid_38 (by decide) (Nat.le_of_ble_eq_true rfl) (c_X4_weightOf _ _ j p (by omega) hp) ?_
    refine ax_aload_n (pc := 41) dX4_mid_41 rfl ?_
    refine ax_iload (pc := 42) dX4_mid_42 rfl ?_
    refine ax_cVi1 (pc := 44) vX4_230 dX4_mid_44 (by decide) (by exact c1.1) (Nat.le_of_ble_eq_true rfl) (c_X4_groundWithDry _ _ s hinv hD0 hW0 hfi j (by omega)) (fun v1 h1 hq1 => ?_)
    obtain ⟨rfl, hc1⟩ := hq1
    refine ax_i2l (pc := 47) dX4_mid_47 ?_
    refine ax_lmul (pc := 48) dX4_mid_48 ?_
    refine ax_ladd (pc := 49) dX4_mid_49 ?_
    refine ax_lstore2 (pc := 50) dX4_mid_50 rfl (by decide) ?_
    refine ax_inc4p1 (pc := 51) dX4_mid_51 rfl (by decide) ?_
    refine ax_goto (pc := 54) (tgt := 27) dX4_mid_54 (by decide) ?_
    have hg := wdr_g (dry := j) hD0 hW0 6
    rw [nI_l (by omega), lN_mul, lN_add, nI_1]
    exact ih (j + 1) (by omega) _ hc1
set_option maxHeartbeats 4000000 in
set_option maxRecDepth 100000 in
theorem c_X4_mid (dom : List Nat) (h : mh_H) (s : sg) (p : Int32) (hc : CP s h) (hv : IV s) : Mt mX4_mid dom 4 [.ref 0, .int p] h (mx_Ri (fun v' h' => v' = (sp_mid s p).1 ∧ CP (sp_mid s p).2 h')) := by
  refine Mt.of (L := [some (.ref 0), some (.int p), none, none, none]) rfl (Nat.le_of_ble_eq_true rfl) rfl ?_
  obtain ⟨c1, c2, c3, c4, c5, c6, c7, c8, c9⟩ := id hc
  obtain ⟨gx0, gx1, gk1, gf1, gr1, g7, g14, g15, g16⟩ := id c9.1
  obtain ⟨t0, t1, t2, t3, t4, g8⟩ := id c9.2.1
  refine ax_iload_n (pc := 0) dX4_mid_0 rfl ?_
  refine ax_iconst (pc := 1) (v := 0) dX4_mid_1 (by decide) ?_
  refine ax_bipush (pc := 2) (v := 12) dX4_mid_2 (by decide) ?_
  refine ax_eSi3 (pc := 4) sX4_133 dX4_mid_4 (by decide) (Nat.le_of_ble_eq_true rfl) (c_X4_within _ _ _ _ _) ?_
  refine ax_ifneB (pc := 7) (tgt := 12) dX4_mid_7 (by decide) (fun c7a => ?_) (fun c7a => ?_)
  · refine ax_aload_n (pc := 12) dX4_mid_12 rfl ?_
    refine ax_eVi0 (pc := 13) vX4_154 dX4_mid_13 (by decide) (by first | exact c1.1 | exact c5.1 | exact c6 | exact c5.2.1 | exact c5.2.2.1 | exact c5.2.2.2 | exact c1.2 | exact c2.1 | exact c2.2.1 | exact c2.2.2.1 | exact c2.2.2.2 | exact g7 | exact g8 | rfl) (Nat.le_of_ble_eq_true rfl) (c_X4_noDays _ _ s hc hv) ?_
    refine ax_ifeqB (pc := 16) (tgt := 22) dX4_mid_16 (by decide) (fun c16 => ?_) (fun c16 => ?_)
    · obtain ⟨p2, hp2, rfl⟩ := nI_of2 (n := 12) (M := 12) rfl (Int32.not_lt.mpr c7a.1) c7a.2
      obtain ⟨hD0, hW0, hfi⟩ := hv.w c16
      refine ax_lconst (pc := 22) (v := 0) dX4_mid_22 (by decide) ?_
      refine ax_lstore2 (pc := 23) dX4_mid_23 rfl (by decide) ?_
      refine ax_iconst (pc := 24) (v := 0) dX4_mid_24 (by decide) ?_
      refine ax_istore4 (pc := 25) dX4_mid_25 rfl (by decide) ?_
      unfold sp_mid
      rw [if_neg (not_not_intro c7a), if_neg c16, ni_cl (by omega)]
      exact l_X4_mid dom s hD0 hW0 hfi p2 (by omega) 64 0 (by omega) h hc
    · refine ax_bipush (pc := 19) (v := -4) dX4_mid_19 (by decide) ?_
      refine ax_iret (pc := 21) dX4_mid_21 rfl ?_
      exact fin_i (by unfold sp_mid; rw [if_neg (not_not_intro c7a), if_pos c16]) hc
  · refine ax_iconst (pc := 10) (v := -1) dX4_mid_10 (by decide) ?_
    refine ax_iret (pc := 11) dX4_mid_11 rfl ?_
    exact fin_i (by unfold sp_mid; exact if_pos c7a) hc
def sp_nx (l : Nat) : Nat := l * 48271 % 2147483647
def sp_ln (l : Nat) : Nat → Nat
  | 0 => l
  | j + 1 => sp_nx (sp_ln l j)
def sp_ld (l : Nat) : Nat × Nat := if l % 6 = 0 then (1, 0) else if l % 6 = 1 then (2, l / 8 % 5) else (0, 0)
def sp_ls (s : sg) (l : Nat) : Nat → sg
  | 0 => s
  | j + 1 => sp_do (sp_ls s l j) (sp_ld (sp_ln l (j + 1))).1 (sp_ld (sp_ln l (j + 1))).2
theorem sp_nx_lt (l : Nat) : sp_nx l < 2147483647 := Nat.mod_lt _ (by decide)
theorem sp_ln_lt {l : Nat} (h : l < 2147483647) (j : Nat) : sp_ln l j < 2147483647 := by
  cases j with
  | zero => exact h
  | succ j => exact sp_nx_lt _
theorem sp_ld_ok (n l : Nat) : dOK n ((sp_ld l).1, (sp_ld l).2) := by
  unfold sp_ld
  split
  · exact dOK_1
  · split
    · exact dOK_2 (by have := Nat.mod_lt (l / 8) (show 0 < 5 by decide); omega)
    · exact dOK_0
theorem sp_ls_D (s : sg) (l j : Nat) : s_D (sp_ls s l j) = s_D s ∧ (s_ds (sp_ls s l j)).length = (s_ds s).length + j := by
  induction j with
  | zero => exact ⟨rfl, rfl⟩
  | succ j ih =>
    refine ⟨ih.1, ?_⟩
    show (s_ds (sp_ls s l j) ++ [_]).length = _
    rw [List.length_append, ih.2]
    rfl
theorem IV.ls {s : sg} (hv : IV s) (h0 : (s_D s).1 ≠ 0) (l : Nat) : ∀ j, (s_ds s).length + j ≤ 40 → IV (sp_ls s l j)
  | 0, _ => hv
  | j + 1, h => (hv.ls h0 l j (by omega)).do (by rw [(sp_ls_D s l j).1]; exact h0) (by rw [(sp_ls_D s l j).2]; omega) (sp_ld_ok _ _)
def sp_lots (s : sg) (n x : Int32) : Int32 × sg := if ¬ (1 ≤ n ∧ n ≤ 20) ∨ ¬ (1 ≤ x ∧ x ≤ 2147483646) then (-1, s) else if (s_D s).1 = 0 then (-4, s) else if 40 < (s_ds s).length + n.toNatClampNeg then (-2, s) else (nI (s_w (sp_ls s x.toNatClampNeg n.toNatClampNeg)).2.2.2.2, sp_ls s x.toNatClampNeg n.toNatClampNeg)
set_option maxHeartbeats 4000000 in
set_option maxRecDepth 100000 in
theorem c_X4_doByLot (dom : List Nat) (h : mh_H) (s : sg) (hc : CP s h) (hv : IV s) (h0 : (s_D s).1 ≠ 0) (hl : (s_ds s).length < 40) (l : Nat) (hl2 : l < 2147483647) : Mt mX4_doByLot dom 5 [.ref 0, .int (nI l)] h (mx_Rv (fun h' => CP (sp_do s (sp_ld l).1 (sp_ld l).2) h')) := by
  refine Mt.of (L := [some (.ref 0), some (.int (nI l))]) rfl (Nat.le_of_ble_eq_true rfl) rfl ?_
  obtain ⟨c1, c2, c3, c4, c5, c6, c7, c8, c9⟩ := id hc
  refine ax_iload_n (pc := 0) dX4_doByLot_0 rfl ?_
  refine ax_bipush (pc := 1) (v := 6) dX4_doByLot_1 (by decide) ?_
  refine ax_irem (pc := 3) dX4_doByLot_3 (by decide) ?_
  refine At.ti (x' := nI (l % 6)) (by rw [show (6 : Int32) = nI 6 from rfl, pk_rem (by omega) (by decide) (by decide)]) ?_
  refine ax_ifne (pc := 4) (tgt := 17) dX4_doByLot_4 (by decide) (fun c4a => ?_) (fun c4a => ?_)
  · refine ax_iload_n (pc := 17) dX4_doByLot_17 rfl ?_
    refine ax_bipush (pc := 18) (v := 6) dX4_doByLot_18 (by decide) ?_
    refine ax_irem (pc := 20) dX4_doByLot_20 (by decide) ?_
    refine At.ti (x' := nI (l % 6)) (by rw [show (6 : Int32) = nI 6 from rfl, pk_rem (by omega) (by decide) (by decide)]) ?_
    refine ax_iconst (pc := 21) (v := 1) dX4_doByLot_21 (by decide) ?_
    refine ax_icmpne (pc := 22) (tgt := 40) dX4_doByLot_22 (by decide) (fun c22 => ?_) (fun c22 => ?_)
    · have ed : sp_ld l = (0, 0) := by rw [n_0, nI_eq (by omega) (by decide)] at c4a; rw [n_1, nI_eq (by omega) (by decide)] at c22; unfold sp_ld; rw [if_neg c4a, if_neg c22]
      refine ax_aload_n (pc := 40) dX4_doByLot_40 rfl ?_
      refine ax_iconst (pc := 41) (v := 0) dX4_doByLot_41 (by decide) ?_
      refine ax_iconst (pc := 42) (v := 0) dX4_doByLot_42 (by decide) ?_
      refine ax_cVi2 (pc := 43) vX4_160 dX4_doByLot_43 (by decide) (by exact c1.1) (Nat.le_of_ble_eq_true rfl) (c_X4_doDeed _ _ s hc hv h0 hl 0 0 (by have := sp_ld_ok (s_D s).1 l; rw [ed] at this; exact this)) (fun v1 h1 hq1 => ?_)
      obtain ⟨rfl, hq1⟩ := hq1
      refine ax_pop (pc := 46) dX4_doByLot_46 rfl ?_
      refine ax_vret (pc := 47) dX4_doByLot_47 rfl ?_
      exact ⟨rfl, by rw [ed]; exact hq1⟩
    · have ed : sp_ld l = (2, l / 8 % 5) := by rw [n_0, nI_eq (by omega) (by decide)] at c4a; rw [n_1, nI_eq (by omega) (by decide)] at c22; unfold sp_ld; rw [if_neg c4a, if_pos c22]
      refine ax_aload_n (pc := 25) dX4_doByLot_25 rfl ?_
      refine ax_iconst (pc := 26) (v := 2) dX4_doByLot_26 (by decide) ?_
      refine ax_iload_n (pc := 27) dX4_doByLot_27 rfl ?_
      refine ax_bipush (pc := 28) (v := 8) dX4_doByLot_28 (by decide) ?_
      refine ax_idiv (pc := 30) dX4_doByLot_30 (by decide) ?_
      refine ax_iconst (pc := 31) (v := 5) dX4_doByLot_31 (by decide) ?_
      refine ax_irem (pc := 32) dX4_doByLot_32 (by decide) ?_
      refine At.ti (x' := nI (l / 8 % 5)) (by rw [n_8, n_5, pk_div (by omega) (by decide) (by decide), pk_rem (by omega) (by decide) (by decide)]) ?_
      refine ax_cVi2 (pc := 33) vX4_160 dX4_doByLot_33 (by decide) (by exact c1.1) (Nat.le_of_ble_eq_true rfl) (c_X4_doDeed _ _ s hc hv h0 hl 2 (l / 8 % 5) (by have := sp_ld_ok (s_D s).1 l; rw [ed] at this; exact this)) (fun v1 h1 hq1 => ?_)
      obtain ⟨rfl, hq1⟩ := hq1
      refine ax_pop (pc := 36) dX4_doByLot_36 rfl ?_
      refine ax_goto (pc := 37) (tgt := 47) dX4_doByLot_37 (by decide) ?_
      refine ax_vret (pc := 47) dX4_doByLot_47 rfl ?_
      exact ⟨rfl, by rw [ed]; exact hq1⟩
  · have ed : sp_ld l = (1, 0) := by rw [n_0, nI_eq (by omega) (by decide)] at c4a; unfold sp_ld; rw [if_pos c4a]
    refine ax_aload_n (pc := 7) dX4_doByLot_7 rfl ?_
    refine ax_iconst (pc := 8) (v := 1) dX4_doByLot_8 (by decide) ?_
    refine ax_iconst (pc := 9) (v := 0) dX4_doByLot_9 (by decide) ?_
    refine ax_cVi2 (pc := 10) vX4_160 dX4_doByLot_10 (by decide) (by exact c1.1) (Nat.le_of_ble_eq_true rfl) (c_X4_doDeed _ _ s hc hv h0 hl 1 0 (by have := sp_ld_ok (s_D s).1 l; rw [ed] at this; exact this)) (fun v1 h1 hq1 => ?_)
    obtain ⟨rfl, hq1⟩ := hq1
    refine ax_pop (pc := 13) dX4_doByLot_13 rfl ?_
    refine ax_goto (pc := 14) (tgt := 47) dX4_doByLot_14 (by decide) ?_
    refine ax_vret (pc := 47) dX4_doByLot_47 rfl ?_
    exact ⟨rfl, by rw [ed]; exact hq1⟩
set_option maxHeartbeats 4000000 in
set_option maxRecDepth 100000 in
theorem l_X4_lots (dom : List Nat) (s : sg) (hv : IV s) (h0 : (s_D s).1 ≠ 0) (m l : Nat) (hm : m ≤ 20) (hl : (s_ds s).length + m ≤ 40) (hl2 : l < 2147483647) (x2 : Int32) : ∀ (nn j : Nat), j + nn = m → ∀ (H : mh_H), CP (sp_ls s l j) H → At mX4_lots dom 6 54 [some (.ref 0), some (.int (nI m)), some (.int x2), some (.int (nI (sp_ln l j))), some (.int (nI j))] [] H (mx_Ri (fun v' h' => v' = ((nI (s_w (sp_ls s l m)).2.2.2.2, sp_ls s l m)).1 ∧ CP ((nI (s_w (sp_ls s l m)).2.2.2.2, sp_ls s l m)).2 h')) := by
  intro nn
  induction nn with
  | zero =>
    intro j hj H hinv
    have hj : j = m := by omega
    subst hj
    obtain ⟨c1, c2, c3, c4, c5, c6, c7, c8, c9⟩ := id hinv
    refine ax_iload (pc := 54) dX4_lots_54 rfl ?_
    refine ax_iload_n (pc := 56) dX4_lots_56 rfl ?_
    refine ax_icmpge (pc := 57) (tgt := 83) dX4_lots_57 (by decide) (fun _ => ?_) (fun q => absurd (nI_le (Nat.le_refl _) (by omega)) q)
    refine ax_aload_n (pc := 83) dX4_lots_83 rfl ?_
    refine ax_getf (pc := 84) fX4_28 dX4_lots_84 (by first | exact c1.1 | exact c6) rfl ?_
    refine ax_getf (pc := 87) fX4_196 dX4_lots_87 (by first | exact c1.1 | exact c6) rfl ?_
    refine ax_iret (pc := 90) dX4_lots_90 rfl ?_
    exact fin_i rfl hinv
  | succ nn ih =>
    intro j hj H hinv
    have hlt : j < m := by omega
    obtain ⟨c1, c2, c3, c4, c5, c6, c7, c8, c9⟩ := id hinv
    refine ax_iload (pc := 54) dX4_lots_54 rfl ?_
    refine ax_iload_n (pc := 56) dX4_lots_56 rfl ?_
    refine ax_icmpge (pc := 57) (tgt := 83) dX4_lots_57 (by decide) (fun q => absurd q (nI_ge hlt (by omega))) (fun _ => ?_)
    refine ax_iload_n (pc := 60) dX4_lots_60 rfl ?_
    refine ax_i2l (pc := 61) dX4_lots_61 ?_
    refine ax_ldc2 (pc := 62) dX4_lots_62 tw_575 ?_
    refine ax_lmul (pc := 65) dX4_lots_65 ?_
    refine ax_ldc2 (pc := 66) dX4_lots_66 tw_576 ?_
    refine ax_lrem (pc := 69) dX4_lots_69 (by decide) ?_
    refine At.tl (x' := lN (sp_ln l (j + 1))) (by have := sp_ln_lt hl2 j; rw [nI_l (by omega), show (48271 : Int64) = lN 48271 from rfl, lN_mul, show (2147483647 : Int64) = lN 2147483647 from rfl, pk_lRem (by omega) (by decide) (by decide)]; rfl) ?_
    refine ax_l2i (pc := 70) dX4_lots_70 ?_
    rw [lN_i]
    refine ax_istore3 (pc := 71) dX4_lots_71 rfl (by decide) ?_
    refine ax_aload_n (pc := 72) dX4_lots_72 rfl ?_
    refine ax_iload_n (pc := 73) dX4_lots_73 rfl ?_
    refine ax_cVv1 (pc := 74) vX4_249 dX4_lots_74 (by decide) (by first | exact c1.1) (Nat.le_of_ble_eq_true rfl) (c_X4_doByLot _ _ (sp_ls s l j) hinv (hv.ls h0 l j (by omega)) (by rw [(sp_ls_D s l j).1]; exact h0) (by rw [(sp_ls_D s l j).2]; omega) (sp_ln l (j + 1)) (sp_ln_lt hl2 _)) (fun h1 hq1 => ?_)
    refine ax_inc4p1 (pc := 77) dX4_lots_77 rfl (by decide) ?_
    refine ax_goto (pc := 80) (tgt := 54) dX4_lots_80 (by decide) ?_
    rw [nI_1]
    exact ih (j + 1) (by omega) h1 hq1
set_option maxHeartbeats 4000000 in
set_option maxRecDepth 100000 in
theorem c_X4_lots (dom : List Nat) (h : mh_H) (s : sg) (n x : Int32) (hc : CP s h) (hv : IV s) : Mt mX4_lots dom 6 [.ref 0, .int n, .int x] h (mx_Ri (fun v' h' => v' = (sp_lots s n x).1 ∧ CP (sp_lots s n x).2 h')) := by
  refine Mt.of (L := [some (.ref 0), some (.int n), some (.int x), none, none]) rfl (Nat.le_of_ble_eq_true rfl) rfl ?_
  obtain ⟨c1, c2, c3, c4, c5, c6, c7, c8, c9⟩ := id hc
  obtain ⟨f, g, e1, e2, e3, e4⟩ := id c7
  have hl40 := hv.2.2.2.1.1
  refine ax_iload_n (pc := 0) dX4_lots_0 rfl ?_
  refine ax_iconst (pc := 1) (v := 1) dX4_lots_1 (by decide) ?_
  refine ax_bipush (pc := 2) (v := 20) dX4_lots_2 (by decide) ?_
  refine ax_eSi3 (pc := 4) sX4_133 dX4_lots_4 (by decide) (Nat.le_of_ble_eq_true rfl) (c_X4_within _ _ _ _ _) ?_
  refine ax_ifeqB (pc := 7) (tgt := 20) dX4_lots_7 (by decide) (fun c7a => ?_) (fun c7a => ?_)
  · refine ax_iconst (pc := 20) (v := -1) dX4_lots_20 (by decide) ?_
    refine ax_iret (pc := 21) dX4_lots_21 rfl ?_
    exact fin_i (by unfold sp_lots; first | exact if_pos (Or.inl c7a) | exact if_pos (Or.inr c17)) hc
  · refine ax_iload_n (pc := 10) dX4_lots_10 rfl ?_
    refine ax_iconst (pc := 11) (v := 1) dX4_lots_11 (by decide) ?_
    refine ax_ldc (pc := 12) dX4_lots_12 tw_574 ?_
    refine ax_eSi3 (pc := 14) sX4_133 dX4_lots_14 (by decide) (Nat.le_of_ble_eq_true rfl) (c_X4_within _ _ _ _ _) ?_
    refine ax_ifneB (pc := 17) (tgt := 22) dX4_lots_17 (by decide) (fun c17 => ?_) (fun c17 => ?_)
    · refine ax_aload_n (pc := 22) dX4_lots_22 rfl ?_
      refine ax_eVi0 (pc := 23) vX4_154 dX4_lots_23 (by decide) (by first | exact c1.1 | exact e1) (Nat.le_of_ble_eq_true rfl) (c_X4_noDays _ _ s hc hv) ?_
      refine ax_ifeqB (pc := 26) (tgt := 32) dX4_lots_26 (by decide) (fun c26 => ?_) (fun c26 => ?_)
      · obtain ⟨m, hm, rfl⟩ := nI_of2 (n := 20) (M := 20) rfl (Int32.not_lt.mpr (Int32.le_trans (by decide) c7a.1)) c7a.2
        obtain ⟨l, hl, rfl⟩ := nI_of2 (n := 2147483646) (M := 2147483646) rfl (Int32.not_lt.mpr (Int32.le_trans (by decide) c17.1)) c17.2
        refine ax_aload_n (pc := 32) dX4_lots_32 rfl ?_
        refine ax_getf (pc := 33) fX4_35 dX4_lots_33 (by first | exact c1.1 | exact e1) rfl ?_
        refine ax_getf (pc := 36) fX4_72 dX4_lots_36 (by first | exact c1.1 | exact e1) rfl ?_
        refine ax_iload_n (pc := 39) dX4_lots_39 rfl ?_
        refine ax_iadd (pc := 40) dX4_lots_40 ?_
        rw [nI_add]
        refine ax_bipush (pc := 41) (v := 40) dX4_lots_41 (by decide) ?_
        refine ax_icmple (pc := 43) (tgt := 49) dX4_lots_43 (by decide) (fun c43 => ?_) (fun c43 => ?_)
        · rw [n_40, nI_leI (by omega) (by decide)] at c43
          refine ax_iload_n (pc := 49) dX4_lots_49 rfl ?_
          refine ax_istore3 (pc := 50) dX4_lots_50 rfl (by decide) ?_
          refine ax_iconst (pc := 51) (v := 0) dX4_lots_51 (by decide) ?_
          refine ax_istore4 (pc := 52) dX4_lots_52 rfl (by decide) ?_
          unfold sp_lots
          rw [if_neg (by rintro (z | z); exact z c7a; exact z c17), if_neg c26, ni_cl (by omega), if_neg (by omega), ni_cl (by omega)]
          exact l_X4_lots dom s hv c26 m l hm (by omega) (by omega) _ m 0 (by omega) h hc
        · rw [n_40, nI_leI (by omega) (by decide)] at c43
          refine ax_bipush (pc := 46) (v := -2) dX4_lots_46 (by decide) ?_
          refine ax_iret (pc := 48) dX4_lots_48 rfl ?_
          exact fin_i (by unfold sp_lots; rw [if_neg (by rintro (z | z); exact z c7a; exact z c17), if_neg c26, ni_cl (by omega), if_pos (by omega)]) hc
      · refine ax_bipush (pc := 29) (v := -4) dX4_lots_29 (by decide) ?_
        refine ax_iret (pc := 31) dX4_lots_31 rfl ?_
        exact fin_i (by unfold sp_lots; rw [if_neg (by rintro (z | z); exact z c7a; exact z c17), if_pos c26]) hc
    · refine ax_iconst (pc := 20) (v := -1) dX4_lots_20 (by decide) ?_
      refine ax_iret (pc := 21) dX4_lots_21 rfl ?_
      exact fin_i (by unfold sp_lots; first | exact if_pos (Or.inl c7a) | exact if_pos (Or.inr c17)) hc
