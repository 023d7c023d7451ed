def sp_bc (a : Nat) : Nat → Nat
  | 0 => 0
  | k + 1 => sp_bc a k + (if a.testBit k = true then 1 else 0)
def bc_u (x k : Int32) : Int32 := (x.toUInt32 >>> (k.toUInt32 &&& Int32.toUInt32 31)).toInt32
def bc_1 (x : Int32) : Int32 := x - (bc_u x 1 &&& 1431655765)
def bc_2 (x : Int32) : Int32 := (x &&& 858993459) + (bc_u x 2 &&& 858993459)
def bc_3 (x : Int32) : Int32 := (x + bc_u x 4) &&& 252645135
def bc_4 (x : Int32) : Int32 := x + bc_u x 8
def bc_5 (x : Int32) : Int32 := x + bc_u x 16
def bc_x (x : Int32) : Int32 := bc_5 (bc_4 (bc_3 (bc_2 (bc_1 x)))) &&& 63
theorem bc_e : ∀ a, a < 256 → bc_x (nI a) = nI (sp_bc a 10) := by decide +kernel
theorem bc_le : ∀ n, n < 9 → ∀ a, a < 2 ^ n → sp_bc a 10 ≤ n := by decide +kernel
/-- the wheel ahead of a step, raked if the set has it -/
def rkw (set j : Nat) (w : sp_W) : sp_W := if set.testBit j = true then (w.1, w.2.1, 0, w.2.2.2.1, w.2.2.2.2) else w
def wr (s : sg) (set : Nat) : Nat → sp_W
  | 0 => s_t s
  | j + 1 => sp_st (s_D s) (s_fi s) (rkw set j (wr s set j))
theorem rkw_ok {n set j : Nat} {w : sp_W} (h : sp_W0 n w) : sp_W0 n (rkw set j w) := by
  unfold rkw
  split
  · exact ⟨h.1, h.2.1, Nat.zero_le _⟩
  · exact h
theorem rkw_g {set j : Nat} {w : sp_W} : (rkw set j w).2.2.2.2 = w.2.2.2.2 := by
  unfold rkw
  split <;> rfl
theorem wr_ok {s : sg} {set : Nat} (hD : sp_D0 (s_D s)) (h : sp_W0 (s_D s).1 (s_w s)) (n : Nat) : sp_W0 (s_D s).1 (wr s set n) := by
  induction n with
  | zero => exact h
  | succ n ih => exact sp_st_ok hD (rkw_ok ih)
theorem wr_g {s : sg} {set : Nat} (hD : sp_D0 (s_D s)) (h : sp_W0 (s_D s).1 (s_w s)) (n : Nat) : (wr s set n).2.2.2.2 ≤ 77 * n := by
  induction n with
  | zero => exact Nat.le_refl _
  | succ n ih =>
    have h1 := sp_wf_le (fi := s_fi s) hD (rkw_ok (set := set) (j := n) (wr_ok (set := set) hD h n))
    have h2 := rkw_g (set := set) (j := n) (w := wr s set n)
    show (rkw set n (wr s set n)).2.2.2.2 + sp_wf (s_D s) (s_fi s) (rkw set n (wr s set n)) ≤ _
    omega
def sp_rk (p : Nat → Bool) (b : Nat → Nat) : Nat → Option Nat
  | 0 => none
  | j + 1 => match sp_rk p b j with
    | none => if p j = true then some j else none
    | some f => if p j = true ∧ b j < b f then some j else some f
def rk_a (b : Nat → Nat) (n : Nat) (o : Option Nat) : Nat := match o with
  | none => n + 1
  | some f => b f
def rk_b (o : Option Nat) : Nat := match o with
  | none => 0
  | some f => f
theorem rk_t {p : Nat → Bool} {b : Nat → Nat} {n j : Nat} (h1 : b j < rk_a b n (sp_rk p b j)) (h2 : p j = true) : sp_rk p b (j + 1) = some j := by
  rw [sp_rk]
  cases h : sp_rk p b j with
  | none => exact if_pos h2
  | some f => rw [h] at h1; exact if_pos ⟨h2, h1⟩
theorem rk_f {p : Nat → Bool} {b : Nat → Nat} {n j : Nat} (hb : b j ≤ n) (h : ¬ (b j < rk_a b n (sp_rk p b j) ∧ p j = true)) : sp_rk p b (j + 1) = sp_rk p b j := by
  rw [sp_rk]
  cases e : sp_rk p b j with
  | none => rw [e] at h; exact if_neg (fun q => h ⟨by show b j < n + 1; omega, q⟩)
  | some f => rw [e] at h; exact if_neg (fun q => h ⟨q.2, q.1⟩)
theorem rk_lt {p : Nat → Bool} {b : Nat → Nat} : ∀ {j f : Nat}, sp_rk p b j = some f → f < j
  | 0, f, h => by cases h
  | j + 1, f, h => by
    rw [sp_rk] at h
    cases e : sp_rk p b j with
    | none =>
      rw [e] at h
      dsimp only at h
      split at h
      · cases h; omega
      · cases h
    | some g =>
      have := rk_lt e
      rw [e] at h
      dsimp only at h
      split at h
      · cases h; omega
      · cases h; omega
def rk_p (s : sg) (n v set : Nat) : Bool := decide (v ≤ (wr s set n).2.2.2.2)
def sp_rakes (s : sg) (n v : Int32) : Int32 × sg := if ¬ (1 ≤ n ∧ n ≤ 8) ∨ ¬ (0 ≤ v ∧ v ≤ 400) then (-1, s) else if (s_D s).1 = 0 then (-4, s) else match sp_rk (rk_p s n.toNatClampNeg v.toNatClampNeg) (fun a => sp_bc a 10) (2 ^ n.toNatClampNeg) with
  | none => (-9, s)
  | some f => (nI (sp_bc f 10), u_ask s (nI f))
set_option maxHeartbeats 4000000 in
set_option maxRecDepth 100000 in
theorem c_J6_bitCount (dom : List Nat) (h : mh_H) (a : Nat) (ha : a < 256) : Mt mJ6_bitCount_0f7a4 dom 0 [.int (nI a)] h (mx_Ri (fun v' h' => v' = nI (sp_bc a 10) ∧ h' = h)) := by
  refine Mt.of (L := [some (.int (nI a))]) rfl (Nat.le_of_ble_eq_true rfl) rfl ?_
  refine ax_iload_n (pc := 0) dJ6_bitCount_0f7a4_0 rfl ?_
  refine ax_iload_n (pc := 1) dJ6_bitCount_0f7a4_1 rfl ?_
  refine ax_iconst (pc := 2) (v := 1) dJ6_bitCount_0f7a4_2 (by decide) ?_
  refine ax_iushr (pc := 3) dJ6_bitCount_0f7a4_3 ?_
  refine ax_ldcw (pc := 4) dJ6_bitCount_0f7a4_4 tw_484 ?_
  refine ax_iand (pc := 7) dJ6_bitCount_0f7a4_7 ?_
  refine ax_isub (pc := 8) dJ6_bitCount_0f7a4_8 ?_
  refine ax_istore0 (pc := 9) dJ6_bitCount_0f7a4_9 (by decide) ?_
  refine ax_iload_n (pc := 10) dJ6_bitCount_0f7a4_10 rfl ?_
  refine ax_ldcw (pc := 11) dJ6_bitCount_0f7a4_11 tw_485 ?_
  refine ax_iand (pc := 14) dJ6_bitCount_0f7a4_14 ?_
  refine ax_iload_n (pc := 15) dJ6_bitCount_0f7a4_15 rfl ?_
  refine ax_iconst (pc := 16) (v := 2) dJ6_bitCount_0f7a4_16 (by decide) ?_
  refine ax_iushr (pc := 17) dJ6_bitCount_0f7a4_17 ?_
  refine ax_ldcw (pc := 18) dJ6_bitCount_0f7a4_18 tw_485 ?_
  refine ax_iand (pc := 21) dJ6_bitCount_0f7a4_21 ?_
  refine ax_iadd (pc := 22) dJ6_bitCount_0f7a4_22 ?_
  refine ax_istore0 (pc := 23) dJ6_bitCount_0f7a4_23 (by decide) ?_
  refine ax_iload_n (pc := 24) dJ6_bitCount_0f7a4_24 rfl ?_
  refine ax_iload_n (pc := 25) dJ6_bitCount_0f7a4_25 rfl ?_
  refine ax_iconst (pc := 26) (v := 4) dJ6_bitCount_0f7a4_26 (by decide) ?_
  refine ax_iushr (pc := 27) dJ6_bitCount_0f7a4_27 ?_
  refine ax_iadd (pc := 28) dJ6_bitCount_0f7a4_28 ?_
  refine ax_ldcw (pc := 29) dJ6_bitCount_0f7a4_29 tw_486 ?_
  refine ax_iand (pc := 32) dJ6_bitCount_0f7a4_32 ?_
  refine ax_istore0 (pc := 33) dJ6_bitCount_0f7a4_33 (by decide) ?_
  refine ax_iload_n (pc := 34) dJ6_bitCount_0f7a4_34 rfl ?_
  refine ax_iload_n (pc := 35) dJ6_bitCount_0f7a4_35 rfl ?_
  refine ax_bipush (pc := 36) (v := 8) dJ6_bitCount_0f7a4_36 (by decide) ?_
  refine ax_iushr (pc := 38) dJ6_bitCount_0f7a4_38 ?_
  refine ax_iadd (pc := 39) dJ6_bitCount_0f7a4_39 ?_
  refine ax_istore0 (pc := 40) dJ6_bitCount_0f7a4_40 (by decide) ?_
  refine ax_iload_n (pc := 41) dJ6_bitCount_0f7a4_41 rfl ?_
  refine ax_iload_n (pc := 42) dJ6_bitCount_0f7a4_42 rfl ?_
  refine ax_bipush (pc := 43) (v := 16) dJ6_bitCount_0f7a4_43 (by decide) ?_
  refine ax_iushr (pc := 45) dJ6_bitCount_0f7a4_45 ?_
  refine ax_iadd (pc := 46) dJ6_bitCount_0f7a4_46 ?_
  refine ax_istore0 (pc := 47) dJ6_bitCount_0f7a4_47 (by decide) ?_
  refine ax_iload_n (pc := 48) dJ6_bitCount_0f7a4_48 rfl ?_
  refine ax_bipush (pc := 49) (v := 63) dJ6_bitCount_0f7a4_49 (by decide) ?_
  refine ax_iand (pc := 51) dJ6_bitCount_0f7a4_51 ?_
  refine ax_iret (pc := 52) dJ6_bitCount_0f7a4_52 rfl ?_
  exact ⟨_, rfl, bc_e a ha, rfl⟩
set_option maxHeartbeats 4000000 in
set_option maxRecDepth 100000 in
theorem l_X4_raking (dom : List Nat) (h : mh_H) (s : sg) (hc : CP s h) (hD0 : sp_D0 (s_D s)) (hW0 : sp_W0 (s_D s).1 (s_w s)) (hfi : s_fi s < 512) (m set : Nat) (hm : m ≤ 8) (hset : set < 256) : ∀ (nn j : Nat), j + nn = m → At mX4_groundRaking dom 3 6 [some (.ref 0), some (.int (nI m)), some (.int (nI set)), some (.int (nI j))] [] (mh_up h 8 (wc (wr s set j))) (mx_Ri (fun v' h' => v' = nI (wr s set m).2.2.2.2 ∧ h' = mh_up h 8 (wc (wr s set m)))) := by
  intro nn
  induction nn with
  | zero =>
    intro j hj
    have hj : j = m := by omega
    subst hj
    obtain ⟨c1, c2, c3, c4, c5, c6, c7, c8, c9⟩ := id hc
    refine ax_iload_n (pc := 6) dX4_groundRaking_6 rfl ?_
    refine ax_iload_n (pc := 7) dX4_groundRaking_7 rfl ?_
    refine ax_icmpge (pc := 8) (tgt := 46) dX4_groundRaking_8 (by decide) (fun _ => ?_) (fun q => absurd (nI_le (Nat.le_refl _) (by omega)) q)
    refine ax_aload_n (pc := 46) dX4_groundRaking_46 rfl ?_
    refine ax_getf (pc := 47) fX4_46 dX4_groundRaking_47 (by first | exact c1.1 | exact mh_up_s | exact c5.1 | exact g8 | exact c2.1) rfl ?_
    refine ax_getf (pc := 50) fX4_196 dX4_groundRaking_50 (by first | exact c1.1 | exact mh_up_s | exact c5.1 | exact g8 | exact c2.1) rfl ?_
    refine ax_iret (pc := 53) dX4_groundRaking_53 rfl ?_
    exact ⟨_, rfl, rfl, rfl⟩
  | succ nn ih =>
    intro j hj
    have hlt : j < m := by omega
    obtain ⟨c1, c2, c3, c4, c5, c6, c7, c8, c9⟩ := id hc
    refine ax_iload_n (pc := 6) dX4_groundRaking_6 rfl ?_
    refine ax_iload_n (pc := 7) dX4_groundRaking_7 rfl ?_
    refine ax_icmpge (pc := 8) (tgt := 46) dX4_groundRaking_8 (by decide) (fun q => absurd q (nI_ge hlt (by omega))) (fun _ => ?_)
    refine ax_iload_n (pc := 11) dX4_groundRaking_11 rfl ?_
    refine ax_iload_n (pc := 12) dX4_groundRaking_12 rfl ?_
    refine ax_ishr (pc := 13) dX4_groundRaking_13 ?_
    refine ax_iconst (pc := 14) (v := 1) dX4_groundRaking_14 (by decide) ?_
    refine ax_iand (pc := 15) dX4_groundRaking_15 ?_
    refine ax_iconst (pc := 16) (v := 1) dX4_groundRaking_16 (by decide) ?_
    refine ax_icmpne (pc := 17) (tgt := 28) dX4_groundRaking_17 (by decide) (fun c17 => ?_) (fun c17 => ?_)
    · rw [ni_bit1 (by omega) (by omega)] at c17
      refine At.hp (h' := mh_up h 8 (wc (rkw set j (wr s set j)))) (by unfold rkw; first | (rw [if_pos c17]; rfl) | rw [if_neg c17]) ?_
      refine ax_aload_n (pc := 28) dX4_groundRaking_28 rfl ?_
      refine ax_getf (pc := 29) fX4_46 dX4_groundRaking_29 (by first | exact c1.1 | exact mh_up_s | exact c5.1 | exact g8 | exact c2.1) rfl ?_
      refine ax_aload_n (pc := 32) dX4_groundRaking_32 rfl ?_
      refine ax_getf (pc := 33) fX4_21 dX4_groundRaking_33 (by first | exact c1.1 | exact mh_up_s | exact c5.1 | exact g8 | exact c2.1) rfl ?_
      refine ax_eVi1 (pc := 36) vX4_189 dX4_groundRaking_36 (by decide) (by first | exact c1.1 | exact mh_up_s | exact c5.1 | exact g8 | exact c2.1) (Nat.le_of_ble_eq_true rfl) (c_X3_goRound _ _ (s_D s) (s_fi s) 8 3 11 12 13 (rkw set j (wr s set j)).1 (rkw set j (wr s set j)).2.1 (rkw set j (wr s set j)).2.2.1 (rkw set j (wr s set j)).2.2.2.2 (rkw set j (wr s set j)).2.2.2.1 (by exact mh_up_s) (dyP_k (fun q hq => mh_up_n (by omega)) c5) hD0 (rkw_ok (wr_ok hD0 hW0 j)) hfi) ?_
      refine At.hp mh_up_uu ?_
      refine ax_pop (pc := 39) dX4_groundRaking_39 rfl ?_
      refine ax_inc3p1 (pc := 40) dX4_groundRaking_40 rfl (by decide) ?_
      refine ax_goto (pc := 43) (tgt := 6) dX4_groundRaking_43 (by decide) ?_
      rw [nI_1]
      exact ih (j + 1) (by omega)
    · refine ax_aload_n (pc := 20) dX4_groundRaking_20 rfl ?_
      refine ax_getf (pc := 21) fX4_46 dX4_groundRaking_21 (by first | exact c1.1 | exact mh_up_s | exact c5.1 | exact g8 | exact c2.1) rfl ?_
      refine ax_iconst (pc := 24) (v := 0) dX4_groundRaking_24 (by decide) ?_
      refine ax_puti2u (pc := 25) gX4_169 dX4_groundRaking_25 ?_
      rw [ni_bit1 (by omega) (by omega)] at c17
      refine At.hp (h' := mh_up h 8 (wc (rkw set j (wr s set j)))) (by unfold rkw; first | (rw [if_pos c17]; rfl) | rw [if_neg c17]) ?_
      refine ax_aload_n (pc := 28) dX4_groundRaking_28 rfl ?_
      refine ax_getf (pc := 29) fX4_46 dX4_groundRaking_29 (by first | exact c1.1 | exact mh_up_s | exact c5.1 | exact g8 | exact c2.1) rfl ?_
      refine ax_aload_n (pc := 32) dX4_groundRaking_32 rfl ?_
      refine ax_getf (pc := 33) fX4_21 dX4_groundRaking_33 (by first | exact c1.1 | exact mh_up_s | exact c5.1 | exact g8 | exact c2.1) rfl ?_
      refine ax_eVi1 (pc := 36) vX4_189 dX4_groundRaking_36 (by decide) (by first | exact c1.1 | exact mh_up_s | exact c5.1 | exact g8 | exact c2.1) (Nat.le_of_ble_eq_true rfl) (c_X3_goRound _ _ (s_D s) (s_fi s) 8 3 11 12 13 (rkw set j (wr s set j)).1 (rkw set j (wr s set j)).2.1 (rkw set j (wr s set j)).2.2.1 (rkw set j (wr s set j)).2.2.2.2 (rkw set j (wr s set j)).2.2.2.1 (by exact mh_up_s) (dyP_k (fun q hq => mh_up_n (by omega)) c5) hD0 (rkw_ok (wr_ok hD0 hW0 j)) hfi) ?_
      refine At.hp mh_up_uu ?_
      refine ax_pop (pc := 39) dX4_groundRaking_39 rfl ?_
      refine ax_inc3p1 (pc := 40) dX4_groundRaking_40 rfl (by decide) ?_
      refine ax_goto (pc := 43) (tgt := 6) dX4_groundRaking_43 (by decide) ?_
      rw [nI_1]
      exact ih (j + 1) (by omega)
set_option maxHeartbeats 4000000 in
set_option maxRecDepth 100000 in
theorem c_X4_groundRaking (dom : List Nat) (h : mh_H) (s : sg) (hc : CP s h) (hD0 : sp_D0 (s_D s)) (hW0 : sp_W0 (s_D s).1 (s_w s)) (hfi : s_fi s < 512) (m set : Nat) (hm : m ≤ 8) (hset : set < 256) : Mt mX4_groundRaking dom 3 [.ref 0, .int (nI m), .int (nI set)] h (mx_Ri (fun v' h' => v' = nI (wr s set m).2.2.2.2 ∧ CP s h')) := by
  refine Mt.of (L := [some (.ref 0), some (.int (nI m)), some (.int (nI set)), none]) rfl (Nat.le_of_ble_eq_true rfl) rfl ?_
  obtain ⟨c1, c2, c3, c4, c5, c6, c7, c8, c9⟩ := id hc
  refine ax_aload_n (pc := 0) dX4_groundRaking_0 rfl ?_
  refine ax_eVv0 (pc := 1) vX4_182 dX4_groundRaking_1 (by decide) (by first | exact c1.1 | exact mh_up_s | exact c5.1 | exact g8 | exact c2.1) (Nat.le_of_ble_eq_true rfl) (c_X4_startTrial _ _ s hc) ?_
  refine ax_iconst (pc := 4) (v := 0) dX4_groundRaking_4 (by decide) ?_
  refine ax_istore3 (pc := 5) dX4_groundRaking_5 rfl (by decide) ?_
  refine At.mono ?_ (l_X4_raking dom h s hc hD0 hW0 hfi m set hm hset m 0 (by omega))
  rintro r h1 ⟨v, rfl, rfl, rfl⟩
  exact ⟨_, rfl, rfl, CP_8 hc⟩
set_option maxHeartbeats 4000000 in
set_option maxRecDepth 100000 in
theorem l_X4_rakes (dom : List Nat) (s : sg) (hD0 : sp_D0 (s_D s)) (hW0 : sp_W0 (s_D s).1 (s_w s)) (hfi : s_fi s < 512) (m v : Nat) (hm1 : 1 ≤ m) (hm : m ≤ 8) (hv : v ≤ 400) : ∀ (nn j : Nat), j + nn = 2 ^ m → ∀ (H : mh_H) (l6 : Option Value), CP s H → At mX4_rakes dom 4 43 [some (.ref 0), some (.int (nI m)), some (.int (nI v)), some (.int (nI (rk_a (fun a => sp_bc a 10) m (sp_rk (rk_p s m v) (fun a => sp_bc a 10) j)))), some (.int (nI (rk_b (sp_rk (rk_p s m v) (fun a => sp_bc a 10) j)))), some (.int (nI j)), l6] [] H (mx_Ri (fun v' h' => v' = (match (sp_rk (rk_p s m v) (fun a => sp_bc a 10) (2 ^ m)) with | none => ((-9 : Int32), s) | some f => (nI (sp_bc f 10), u_ask s (nI f))).1 ∧ CP (match (sp_rk (rk_p s m v) (fun a => sp_bc a 10) (2 ^ m)) with | none => ((-9 : Int32), s) | some f => (nI (sp_bc f 10), u_ask s (nI f))).2 h')) := by
  intro nn
  induction nn with
  | zero =>
    intro j hj H l6 hinv
    have hj : j = 2 ^ m := by omega
    subst hj
    obtain ⟨c1, c2, c3, c4, c5, c6, c7, c8, c9⟩ := id hinv
    have hp : 2 ^ m ≤ 256 := Nat.pow_le_pow_right (n := 2) (by decide) hm
    refine ax_iload (pc := 43) dX4_rakes_43 rfl ?_
    refine ax_iconst (pc := 45) (v := 1) dX4_rakes_45 (by decide) ?_
    refine ax_iload_n (pc := 46) dX4_rakes_46 rfl ?_
    refine ax_ishl (pc := 47) dX4_rakes_47 ?_
    refine ax_icmpge (pc := 48) (tgt := 88) dX4_rakes_48 (by decide) (fun _ => ?_) (fun q => absurd (by rw [ni_shl1 (by omega), nI_leI (by omega) (by omega)]; exact Nat.le_refl _) q)
    cases er : (sp_rk (rk_p s m v) (fun a => sp_bc a 10) (2 ^ m)) with
    | none =>
      refine ax_iload_n (pc := 88) dX4_rakes_88 rfl ?_
      refine ax_iload_n (pc := 89) dX4_rakes_89 rfl ?_
      refine ax_icmple (pc := 90) (tgt := 96) dX4_rakes_90 (by decide) (fun q => absurd q (nI_ge (Nat.lt_succ_self m) (by show m + 1 < 2 ^ 31; omega))) (fun _ => ?_)
      refine ax_bipush (pc := 93) (v := -9) dX4_rakes_93 (by decide) ?_
      refine ax_iret (pc := 95) dX4_rakes_95 rfl ?_
      exact ⟨_, rfl, rfl, hinv⟩
    | some f =>
      have hf := rk_lt er
      have hb := bc_le m (by omega) f hf
      refine ax_iload_n (pc := 88) dX4_rakes_88 rfl ?_
      refine ax_iload_n (pc := 89) dX4_rakes_89 rfl ?_
      refine ax_icmple (pc := 90) (tgt := 96) dX4_rakes_90 (by decide) (fun _ => ?_) (fun q => absurd (nI_le hb (by omega)) q)
      refine ax_aload_n (pc := 96) dX4_rakes_96 rfl ?_
      refine ax_iload (pc := 97) dX4_rakes_97 rfl ?_
      refine ax_puti9 (pc := 99) gX4_53 dX4_rakes_99 (by exact c1.1) ?_
      refine ax_iload_n (pc := 102) dX4_rakes_102 rfl ?_
      refine ax_iret (pc := 103) dX4_rakes_103 rfl ?_
      exact ⟨_, rfl, rfl, CP_ask hinv⟩
  | succ nn ih =>
    intro j hj H l6 hinv
    have hlt : j < 2 ^ m := by omega
    obtain ⟨c1, c2, c3, c4, c5, c6, c7, c8, c9⟩ := id hinv
    have hp : 2 ^ m ≤ 256 := Nat.pow_le_pow_right (n := 2) (by decide) hm
    refine ax_iload (pc := 43) dX4_rakes_43 rfl ?_
    refine ax_iconst (pc := 45) (v := 1) dX4_rakes_45 (by decide) ?_
    refine ax_iload_n (pc := 46) dX4_rakes_46 rfl ?_
    refine ax_ishl (pc := 47) dX4_rakes_47 ?_
    refine ax_icmpge (pc := 48) (tgt := 88) dX4_rakes_48 (by decide) (fun q => absurd q (by rw [ni_shl1 (by omega), nI_leI (by omega) (by omega)]; omega)) (fun _ => ?_)
    refine ax_iload (pc := 51) dX4_rakes_51 rfl ?_
    refine ax_eSi1 (pc := 53) sX4_199 dX4_rakes_53 (by decide) (Nat.le_of_ble_eq_true rfl) (c_J6_bitCount _ _ j (by omega)) ?_
    refine ax_istore6 (pc := 56) dX4_rakes_56 rfl (by decide) ?_
    refine ax_iload (pc := 58) dX4_rakes_58 rfl ?_
    refine ax_iload_n (pc := 60) dX4_rakes_60 rfl ?_
    refine ax_icmpge (pc := 61) (tgt := 82) dX4_rakes_61 (by decide) (fun c61 => ?_) (fun c61 => ?_)
    · have hb := bc_le m (by omega) j hlt
      have ha : rk_a (fun a => sp_bc a 10) m (sp_rk (rk_p s m v) (fun a => sp_bc a 10) j) ≤ m + 1 := by
        cases er : (sp_rk (rk_p s m v) (fun a => sp_bc a 10) j) with
        | none => exact Nat.le_refl _
        | some f => exact Nat.le_succ_of_le (bc_le m (by omega) f (Nat.lt_trans (rk_lt er) hlt))
      have hg := wr_g (set := j) hD0 hW0 m
      rw [nI_leI (by omega) (by omega)] at c61
      refine ax_inc5p1 (pc := 82) dX4_rakes_82 rfl (by decide) ?_
      refine ax_goto (pc := 85) (tgt := 43) dX4_rakes_85 (by decide) ?_
      rw [nI_1]
      first | (rw [nI_ltI (by omega) (by omega)] at c72; first | (have e5 : sp_rk (rk_p s m v) (fun a => sp_bc a 10) (j + 1) = some j := rk_t (n := m) (Nat.not_le.mp c61) (decide_eq_true (Nat.not_lt.mp c72)); have ih2 := ih (j + 1) (by omega) _ (some (.int (nI (sp_bc j 10)))) hc1; rw [e5] at ih2; exact ih2) | (have e5 : sp_rk (rk_p s m v) (fun a => sp_bc a 10) (j + 1) = (sp_rk (rk_p s m v) (fun a => sp_bc a 10) j) := rk_f (n := m) hb (fun q => absurd (of_decide_eq_true q.2) (Nat.not_le.mpr c72)); have ih2 := ih (j + 1) (by omega) _ (some (.int (nI (sp_bc j 10)))) hc1; rw [e5] at ih2; exact ih2)) | (have e5 : sp_rk (rk_p s m v) (fun a => sp_bc a 10) (j + 1) = (sp_rk (rk_p s m v) (fun a => sp_bc a 10) j) := rk_f (n := m) hb (fun q => absurd q.1 (Nat.not_lt.mpr c61)); have ih2 := ih (j + 1) (by omega) _ (some (.int (nI (sp_bc j 10)))) hinv; rw [e5] at ih2; exact ih2)
    · refine ax_aload_n (pc := 64) dX4_rakes_64 rfl ?_
      refine ax_iload_n (pc := 65) dX4_rakes_65 rfl ?_
      refine ax_iload (pc := 66) dX4_rakes_66 rfl ?_
      refine ax_cVi2 (pc := 68) vX4_204 dX4_rakes_68 (by decide) (by exact c1.1) (Nat.le_of_ble_eq_true rfl) (c_X4_groundRaking _ _ s hinv hD0 hW0 hfi m j hm (by omega)) (fun v1 h1 hq1 => ?_)
      obtain ⟨rfl, hc1⟩ := hq1
      refine ax_iload_n (pc := 71) dX4_rakes_71 rfl ?_
      refine ax_icmplt (pc := 72) (tgt := 82) dX4_rakes_72 (by decide) (fun c72 => ?_) (fun c72 => ?_)
      · have hb := bc_le m (by omega) j hlt
        have ha : rk_a (fun a => sp_bc a 10) m (sp_rk (rk_p s m v) (fun a => sp_bc a 10) j) ≤ m + 1 := by
          cases er : (sp_rk (rk_p s m v) (fun a => sp_bc a 10) j) with
          | none => exact Nat.le_refl _
          | some f => exact Nat.le_succ_of_le (bc_le m (by omega) f (Nat.lt_trans (rk_lt er) hlt))
        have hg := wr_g (set := j) hD0 hW0 m
        rw [nI_leI (by omega) (by omega)] at c61
        refine ax_inc5p1 (pc := 82) dX4_rakes_82 rfl (by decide) ?_
        refine ax_goto (pc := 85) (tgt := 43) dX4_rakes_85 (by decide) ?_
        rw [nI_1]
        first | (rw [nI_ltI (by omega) (by omega)] at c72; first | (have e5 : sp_rk (rk_p s m v) (fun a => sp_bc a 10) (j + 1) = some j := rk_t (n := m) (Nat.not_le.mp c61) (decide_eq_true (Nat.not_lt.mp c72)); have ih2 := ih (j + 1) (by omega) _ (some (.int (nI (sp_bc j 10)))) hc1; rw [e5] at ih2; exact ih2) | (have e5 : sp_rk (rk_p s m v) (fun a => sp_bc a 10) (j + 1) = (sp_rk (rk_p s m v) (fun a => sp_bc a 10) j) := rk_f (n := m) hb (fun q => absurd (of_decide_eq_true q.2) (Nat.not_le.mpr c72)); have ih2 := ih (j + 1) (by omega) _ (some (.int (nI (sp_bc j 10)))) hc1; rw [e5] at ih2; exact ih2)) | (have e5 : sp_rk (rk_p s m v) (fun a => sp_bc a 10) (j + 1) = (sp_rk (rk_p s m v) (fun a => sp_bc a 10) j) := rk_f (n := m) hb (fun q => absurd q.1 (Nat.not_lt.mpr c61)); have ih2 := ih (j + 1) (by omega) _ (some (.int (nI (sp_bc j 10)))) hinv; rw [e5] at ih2; exact ih2)
      · refine ax_iload (pc := 75) dX4_rakes_75 rfl ?_
        refine ax_istore3 (pc := 77) dX4_rakes_77 rfl (by decide) ?_
        refine ax_iload (pc := 78) dX4_rakes_78 rfl ?_
        refine ax_istore4 (pc := 80) dX4_rakes_80 rfl (by decide) ?_
        have hb := bc_le m (by omega) j hlt
        have ha : rk_a (fun a => sp_bc a 10) m (sp_rk (rk_p s m v) (fun a => sp_bc a 10) j) ≤ m + 1 := by
          cases er : (sp_rk (rk_p s m v) (fun a => sp_bc a 10) j) with
          | none => exact Nat.le_refl _
          | some f => exact Nat.le_succ_of_le (bc_le m (by omega) f (Nat.lt_trans (rk_lt er) hlt))
        have hg := wr_g (set := j) hD0 hW0 m
        rw [nI_leI (by omega) (by omega)] at c61
        refine ax_inc5p1 (pc := 82) dX4_rakes_82 rfl (by decide) ?_
        refine ax_goto (pc := 85) (tgt := 43) dX4_rakes_85 (by decide) ?_
        rw [nI_1]
        first | (rw [nI_ltI (by omega) (by omega)] at c72; first | (have e5 : sp_rk (rk_p s m v) (fun a => sp_bc a 10) (j + 1) = some j := rk_t (n := m) (Nat.not_le.mp c61) (decide_eq_true (Nat.not_lt.mp c72)); have ih2 := ih (j + 1) (by omega) _ (some (.int (nI (sp_bc j 10)))) hc1; rw [e5] at ih2; exact ih2) | (have e5 : sp_rk (rk_p s m v) (fun a => sp_bc a 10) (j + 1) = (sp_rk (rk_p s m v) (fun a => sp_bc a 10) j) := rk_f (n := m) hb (fun q => absurd (of_decide_eq_true q.2) (Nat.not_le.mpr c72)); have ih2 := ih (j + 1) (by omega) _ (some (.int (nI (sp_bc j 10)))) hc1; rw [e5] at ih2; exact ih2)) | (have e5 : sp_rk (rk_p s m v) (fun a => sp_bc a 10) (j + 1) = (sp_rk (rk_p s m v) (fun a => sp_bc a 10) j) := rk_f (n := m) hb (fun q => absurd q.1 (Nat.not_lt.mpr c61)); have ih2 := ih (j + 1) (by omega) _ (some (.int (nI (sp_bc j 10)))) hinv; rw [e5] at ih2; exact ih2)
set_option maxHeartbeats 4000000 in
set_option maxRecDepth 100000 in
theorem c_X4_rakes (dom : List Nat) (h : mh_H) (s : sg) (n v : Int32) (hc : CP s h) (hv : IV s) : Mt mX4_rakes dom 4 [.ref 0, .int n, .int v] h (mx_Ri (fun v' h' => v' = (sp_rakes s n v).1 ∧ CP (sp_rakes s n v).2 h')) := by
  refine Mt.of (L := [some (.ref 0), some (.int n), some (.int v), none, none, none, none]) rfl (Nat.le_of_ble_eq_true rfl) rfl ?_
  obtain ⟨c1, c2, c3, c4, c5, c6, c7, c8, c9⟩ := id hc
  obtain ⟨gx0, gx1, gk1, gf1, gr1, g7, g14, g15, g16⟩ := id c9.1
  obtain ⟨t0, t1, t2, t3, t4, g8⟩ := id c9.2.1
  refine ax_iload_n (pc := 0) dX4_rakes_0 rfl ?_
  refine ax_iconst (pc := 1) (v := 1) dX4_rakes_1 (by decide) ?_
  refine ax_bipush (pc := 2) (v := 8) dX4_rakes_2 (by decide) ?_
  refine ax_eSi3 (pc := 4) sX4_133 dX4_rakes_4 (by decide) (Nat.le_of_ble_eq_true rfl) (c_X4_within _ _ _ _ _) ?_
  refine ax_ifeqB (pc := 7) (tgt := 21) dX4_rakes_7 (by decide) (fun c7a => ?_) (fun c7a => ?_)
  · refine ax_iconst (pc := 21) (v := -1) dX4_rakes_21 (by decide) ?_
    refine ax_iret (pc := 22) dX4_rakes_22 rfl ?_
    exact fin_i (by unfold sp_rakes; first | exact if_pos (Or.inl c7a) | exact if_pos (Or.inr c18)) hc
  · refine ax_iload_n (pc := 10) dX4_rakes_10 rfl ?_
    refine ax_iconst (pc := 11) (v := 0) dX4_rakes_11 (by decide) ?_
    refine ax_sipush (pc := 12) (v := 400) dX4_rakes_12 (by decide) ?_
    refine ax_eSi3 (pc := 15) sX4_133 dX4_rakes_15 (by decide) (Nat.le_of_ble_eq_true rfl) (c_X4_within _ _ _ _ _) ?_
    refine ax_ifneB (pc := 18) (tgt := 23) dX4_rakes_18 (by decide) (fun c18 => ?_) (fun c18 => ?_)
    · refine ax_aload_n (pc := 23) dX4_rakes_23 rfl ?_
      refine ax_eVi0 (pc := 24) vX4_154 dX4_rakes_24 (by decide) (by first | exact c1.1 | exact c5.1 | exact c6 | exact c5.2.1 | exact c5.2.2.1 | exact c5.2.2.2 | exact c1.2 | exact c2.1 | exact c2.2.1 | exact c2.2.2.1 | exact c2.2.2.2 | exact g7 | exact g8 | rfl) (Nat.le_of_ble_eq_true rfl) (c_X4_noDays _ _ s hc hv) ?_
      refine ax_ifeqB (pc := 27) (tgt := 33) dX4_rakes_27 (by decide) (fun c27 => ?_) (fun c27 => ?_)
      · obtain ⟨m, hm, rfl⟩ := nI_of2 (n := 8) (M := 8) rfl (Int32.not_lt.mpr (Int32.le_trans (by decide) c7a.1)) c7a.2
        obtain ⟨v2, hv2, rfl⟩ := nI_of2 (n := 400) (M := 400) rfl (Int32.not_lt.mpr c18.1) c18.2
        obtain ⟨hD0, hW0, hfi⟩ := hv.w c27
        have hm1 : 1 ≤ m := by have := c7a.1; rw [n_1, nI_leI (by decide) (by omega)] at this; exact this
        refine ax_iload_n (pc := 33) dX4_rakes_33 rfl ?_
        refine ax_iconst (pc := 34) (v := 1) dX4_rakes_34 (by decide) ?_
        refine ax_iadd (pc := 35) dX4_rakes_35 ?_
        rw [nI_1]
        refine ax_istore3 (pc := 36) dX4_rakes_36 rfl (by decide) ?_
        refine ax_iconst (pc := 37) (v := 0) dX4_rakes_37 (by decide) ?_
        refine ax_istore4 (pc := 38) dX4_rakes_38 rfl (by decide) ?_
        refine ax_iconst (pc := 40) (v := 0) dX4_rakes_40 (by decide) ?_
        refine ax_istore5 (pc := 41) dX4_rakes_41 rfl (by decide) ?_
        unfold sp_rakes
        rw [if_neg (by rintro (z | z); exact z c7a; exact z c18), if_neg c27, ni_cl (by omega), ni_cl (by omega)]
        exact l_X4_rakes dom s hD0 hW0 hfi m v2 hm1 hm hv2 (2 ^ m) 0 (by omega) h none hc
      · refine ax_bipush (pc := 30) (v := -4) dX4_rakes_30 (by decide) ?_
        refine ax_iret (pc := 32) dX4_rakes_32 rfl ?_
        exact fin_i (by unfold sp_rakes; rw [if_neg (by rintro (z | z); exact z c7a; exact z c18), if_pos c27]) hc
    · refine ax_iconst (pc := 21) (v := -1) dX4_rakes_21 (by decide) ?_
      refine ax_iret (pc := 22) dX4_rakes_22 rfl ?_
      exact fin_i (by unfold sp_rakes; first | exact if_pos (Or.inl c7a) | exact if_pos (Or.inr c18)) hc
