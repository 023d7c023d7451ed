/-- ways of a turn; ways of j turns -/
def wy (q : Nat) : Nat := if q % 2 = 0 then 3 else 2
def dP : Nat → Nat
  | 0 => 1
  | j + 1 => dP j * wy j
theorem wy_e {q : Nat} (h : q % 2 = 0) : wy q = 3 := if_pos h
theorem wy_o {q : Nat} (h : ¬ q % 2 = 0) : wy q = 2 := if_neg h
theorem wy_0 (q : Nat) : 0 < wy q := by
  unfold wy
  split <;> omega
theorem dP_0 : ∀ j, 0 < dP j
  | 0 => Nat.one_pos
  | j + 1 => Nat.mul_pos (dP_0 j) (wy_0 j)
theorem dP_le : ∀ j, j ≤ 6 → dP j ≤ 216 := by decide
theorem dP_dvd {j : Nat} : ∀ d, ∃ K, dP (j + d) = dP j * K
  | 0 => ⟨1, (Nat.mul_one _).symm⟩
  | d + 1 => by
    obtain ⟨K, e⟩ := dP_dvd (j := j) d
    exact ⟨K * wy (j + d), by show dP (j + d) * wy (j + d) = _; rw [e, Nat.mul_assoc]⟩
/-- a turn: hatch, grating -/
def tn (q did : Nat) (p : Nat × Nat) : Nat × Nat := if q % 2 = 0 then (min 4 (p.1 + (if did = 2 then 1 else 0)), if did = 1 then 0 else p.2) else (p.1, min 40 (p.2 + 5 * did))
/-- hatch and grating behind j turns of a code -/
def dS (s : sg) (c : Nat) : Nat → Nat × Nat
  | 0 => ((s_w s).2.1, (s_w s).2.2.1)
  | j + 1 => tn j (c / dP j % wy j) (dS s c j)
theorem tn_ok {q did : Nat} {p : Nat × Nat} (h : p.1 ≤ 4 ∧ p.2 ≤ 40) : (tn q did p).1 ≤ 4 ∧ (tn q did p).2 ≤ 40 := by
  unfold tn
  split
  · exact ⟨Nat.min_le_left _ _, by show (if did = 1 then 0 else p.2) ≤ 40; split; omega; exact h.2⟩
  · exact ⟨h.1, Nat.min_le_left _ _⟩
theorem dS_ok {s : sg} {c : Nat} (hW : sp_W0 (s_D s).1 (s_w s)) : ∀ j, (dS s c j).1 ≤ 4 ∧ (dS s c j).2 ≤ 40
  | 0 => ⟨hW.2.1, hW.2.2⟩
  | j + 1 => tn_ok (dS_ok hW j)
theorem dS_c {s : sg} {c w q : Nat} : ∀ j, j ≤ q → dS s (c + w * dP q) j = dS s c j
  | 0, _ => rfl
  | j + 1, h => by
    obtain ⟨K, e⟩ := dP_dvd (j := j + 1) (q - (j + 1))
    rw [show j + 1 + (q - (j + 1)) = q by omega] at e
    have e2 : dP q = dP j * (wy j * K) := by rw [e]; exact Nat.mul_assoc _ _ _
    have e3 : (c + w * dP q) / dP j % wy j = c / dP j % wy j := by
      rw [e2, Nat.mul_left_comm, Nat.add_mul_div_left _ _ (dP_0 j), Nat.mul_left_comm, Nat.add_mul_mod_self_left]
    show tn j ((c + w * dP q) / dP j % wy j) (dS s (c + w * dP q) j) = tn j (c / dP j % wy j) (dS s c j)
    rw [e3, dS_c j (by omega)]
theorem dS_w {s : sg} {c w q : Nat} (hc : c < dP q) (hw : w < wy q) : dS s (c + w * dP q) (q + 1) = tn q w (dS s c q) := by
  show tn q ((c + w * dP q) / dP q % wy q) (dS s (c + w * dP q) q) = _
  rw [dS_c q (Nat.le_refl _), Nat.add_mul_div_right _ _ (dP_0 q), Nat.div_eq_of_lt hc, Nat.zero_add, Nat.mod_eq_of_lt hw]
/-- what a code of q turns is worth, the others being played on -/
def vl (s : sg) (m q c : Nat) : Nat := sp_du s (m - q) (decide (q % 2 = 0)) (dS s c q).1 (dS s c q).2
theorem vl_le {s : sg} {m q c : Nat} (hD : sp_D0 (s_D s)) (hW : sp_W0 (s_D s).1 (s_w s)) : vl s m q c ≤ 616 := sp_du_le hD hW _ _ _ _ (dS_ok hW q).1 (dS_ok hW q).2
theorem mi4 {t : Nat} (h : t ≤ 4) : min 4 (t + 0) = t := by rw [Nat.add_zero]; exact Nat.min_eq_right h
theorem vl_e {s : sg} {m q c : Nat} (hW : sp_W0 (s_D s).1 (s_w s)) (hq : q < m) (he : q % 2 = 0) (hc : c < dP q) : max (max (vl s m (q + 1) c) (vl s m (q + 1) (c + 1 * dP q))) (vl s m (q + 1) (c + 2 * dP q)) = vl s m q c := by
  have ok := dS_ok (c := c) hW q
  have w0 := dS_w (s := s) (w := 0) hc (by rw [wy_e he]; decide)
  have w1 := dS_w (s := s) (w := 1) hc (by rw [wy_e he]; decide)
  have w2 := dS_w (s := s) (w := 2) hc (by rw [wy_e he]; decide)
  rw [Nat.zero_mul, Nat.add_zero] at w0
  unfold vl
  rw [w0, w1, w2, show m - q = (m - (q + 1)) + 1 by omega, decide_eq_true he, decide_eq_false (show ¬ (q + 1) % 2 = 0 by omega)]
  unfold tn
  rw [if_pos he, if_pos he, if_pos he, if_neg (by decide), if_neg (by decide), if_neg (by decide), if_pos rfl, if_pos rfl, if_neg (by decide), mi4 ok.1, Nat.max_assoc]
  rfl
theorem vl_o {s : sg} {m q c : Nat} (hW : sp_W0 (s_D s).1 (s_w s)) (hq : q < m) (he : ¬ q % 2 = 0) (hc : c < dP q) : min (vl s m (q + 1) c) (vl s m (q + 1) (c + 1 * dP q)) = vl s m q c := by
  have ok := dS_ok (c := c) hW q
  have w0 := dS_w (s := s) (w := 0) hc (by rw [wy_o he]; decide)
  have w1 := dS_w (s := s) (w := 1) hc (by rw [wy_o he]; decide)
  rw [Nat.zero_mul, Nat.add_zero] at w0
  unfold vl
  rw [w0, w1, show m - q = (m - (q + 1)) + 1 by omega, decide_eq_false he, decide_eq_true (show (q + 1) % 2 = 0 by omega)]
  unfold tn
  rw [if_neg he, if_neg he, show min 40 ((dS s c q).2 + 5 * 0) = (dS s c q).2 from Nat.min_eq_right ok.2]
  rfl
theorem sm_n {a b : Nat} (ha : a < 2 ^ 31) (hb : b < 2 ^ 31) : (if nI a < nI b then nI a else nI b) = nI (min a b) := by
  rw [Nat.min_comm]
  exact ni_min hb ha
theorem MB.wu {s : sg} {h : mh_H} {sl a b : Nat → Int32} (m : MB s (mh_up h 14 (mh_ia 0 216 a)) sl) : MB s (mh_up h 14 (mh_ia 0 216 b)) sl := by
  have e : ∀ k, k ≠ 14 → mh_up h 14 (mh_ia 0 216 b) k = mh_up h 14 (mh_ia 0 216 a) k := fun k hk => (mh_up_n hk).trans (mh_up_n hk).symm
  obtain ⟨m1, m2, m3, m4, m5, m6, m7, m8⟩ := m
  exact ⟨mRw_k (fun k hk => e k (by omega)) m1, mTx_k (fun k hk => e k (by omega)) m2, dayX_k (fun k hk => e k (by omega)) m3, mNw_k (fun k hk => e k (by omega)) m4, m5, (e _ (by decide)).trans m6, (e _ (by decide)).trans m7, b, mh_up_s⟩
set_option maxHeartbeats 4000000 in
set_option maxRecDepth 100000 in
theorem l_X5_played (dom : List Nat) (h : mh_H) (s : sg) (nd : Int32) (sl : Nat → Int32) (hm : MB s h sl) (hv : IV s) (hd0 : ¬ (s_D s).1 = 0) (m code : Nat) (hm2 : m ≤ 6) (hcode : code < 216) (x2 : Int32) : ∀ (nn j : Nat), j + nn = m → ∀ (l5 : Option Value) (g tu : Int32), At mX5_played dom 5 9 [some (.ref 0), some (.int (nI m)), some (.int x2), some (.int (nI (code / dP j))), some (.int (nI j)), l5] [] (hM h (xs s nd) (s6 sl 984 ((s_t s).1, (dS s code j).1, (dS s code j).2, (s_t s).2.2.2.1, 0) (s_fi s) g) tu) (mx_Ri (fun v' h' => v' = nI (sp_gd s (dS s code m).1 (dS s code m).2) ∧ ∃ sl' tu', h' = hM h (xs s nd) sl' tu' ∧ MB s h sl')) := by
  intro nn
  induction nn with
  | zero =>
    intro j hj l5 g tu
    have hj : j = m := by omega
    subst hj
    obtain ⟨⟨m1, f2, m2, mf⟩, ⟨m3, f4, m4, mg⟩, ⟨so, fl, dr, md⟩, mn, msl, mk, mc, ⟨wo, mw⟩⟩ := id hm
    have hn := hm.now
    have h40 := hv.2.2.2.1.1
    obtain ⟨d5, d6, d7, dR⟩ := id md
    obtain ⟨hD0, hW0, hfi⟩ := hv.w hd0
    have ok := dS_ok (c := code) hW0 j
    refine ax_iload (pc := 9) dX5_played_9 rfl ?_
    refine ax_iload_n (pc := 11) dX5_played_11 rfl ?_
    refine ax_icmpge (pc := 12) (tgt := 146) dX5_played_12 (by decide) (fun _ => ?_) (fun q => absurd (nI_le (Nat.le_refl _) (by omega)) q)
    refine ax_aload_n (pc := 146) dX5_played_146 rfl ?_
    refine ax_bipush (pc := 147) (v := nI 8) dX5_played_147 (by decide) ?_
    refine ax_cVi1 (pc := 149) vX5_167 dX5_played_149 (by decide) (by exact hM_0) (Nat.le_of_ble_eq_true rfl) (c_X5_many _ h (xs s nd) sl (s_D s) so fl dr md (s_fi s) ((s_t s).1, (dS s code j).1, (dS s code j).2, (s_t s).2.2.2.1, 0) hD0 ⟨hW0.1, ok.1, ok.2⟩ hfi rfl rfl 8 (by decide) _ _) (fun v1 h1 hq => ?_)
    obtain ⟨rfl, g1, tu1, rfl⟩ := hq
    refine ax_iret (pc := 152) dX5_played_152 rfl ?_
    exact ⟨_, rfl, rfl, _, _, rfl, hm.t hv⟩
  | succ nn ih =>
    intro j hj l5 g tu
    have hlt : j < m := by omega
    obtain ⟨⟨m1, f2, m2, mf⟩, ⟨m3, f4, m4, mg⟩, ⟨so, fl, dr, md⟩, mn, msl, mk, mc, ⟨wo, mw⟩⟩ := id hm
    have hn := hm.now
    have h40 := hv.2.2.2.1.1
    obtain ⟨d5, d6, d7, dR⟩ := id md
    obtain ⟨hD0, hW0, hfi⟩ := hv.w hd0
    have ok := dS_ok (c := code) hW0 j
    have ok2 : code / dP j % 3 < 3 := Nat.mod_lt _ (by decide)
    have ok3 : code / dP j % 2 < 2 := Nat.mod_lt _ (by decide)
    refine ax_iload (pc := 9) dX5_played_9 rfl ?_
    refine ax_iload_n (pc := 11) dX5_played_11 rfl ?_
    refine ax_icmpge (pc := 12) (tgt := 146) dX5_played_12 (by decide) (fun q => absurd q (nI_ge hlt (by omega))) (fun _ => ?_)
    by_cases hp : j % 2 = 0
    · have E1 := nI_eq (a := code / dP j % 3) (b := 1) (by omega) (by decide)
      have E2 := nI_eq (a := code / dP j % 3) (b := 2) (by omega) (by decide)
      refine ax_iload_n (pc := 15) dX5_played_15 rfl ?_
      refine ax_iload (pc := 16) dX5_played_16 rfl ?_
      refine ax_iconst (pc := 18) (v := nI 2) dX5_played_18 (by decide) ?_
      refine bx_irem dX5_played_19 (by omega) (by decide) (by decide) ?_
      refine ax_ifne (pc := 20) (tgt := 27) dX5_played_20 (by decide) (fun q => absurd q (fun z => z (by rw [hp]; rfl))) (fun _ => ?_)
      refine ax_iconst (pc := 23) (v := nI 3) dX5_played_23 (by decide) ?_
      refine ax_goto (pc := 24) (tgt := 28) dX5_played_24 (by decide) ?_
      refine bx_irem dX5_played_28 (Nat.lt_of_le_of_lt (Nat.div_le_self _ _) (by omega)) (by decide) (by decide) ?_
      refine ax_istore5 (pc := 29) dX5_played_29 rfl (by decide) ?_
      refine ax_iload_n (pc := 31) dX5_played_31 rfl ?_
      refine ax_iload (pc := 32) dX5_played_32 rfl ?_
      refine ax_iconst (pc := 34) (v := nI 2) dX5_played_34 (by decide) ?_
      refine bx_irem dX5_played_35 (by omega) (by decide) (by decide) ?_
      refine ax_ifne (pc := 36) (tgt := 43) dX5_played_36 (by decide) (fun q => absurd q (fun z => z (by rw [hp]; rfl))) (fun _ => ?_)
      refine ax_iconst (pc := 39) (v := nI 3) dX5_played_39 (by decide) ?_
      refine ax_goto (pc := 40) (tgt := 44) dX5_played_40 (by decide) ?_
      refine bx_idiv dX5_played_44 (Nat.lt_of_le_of_lt (Nat.div_le_self _ _) (by omega)) (by decide) (by decide) ?_
      refine At.ti (x' := nI (code / dP (j + 1))) (by rw [Nat.div_div_eq_div_mul, show dP (j + 1) = dP j * 3 by rw [dP, wy_e hp]]) ?_
      refine ax_istore3 (pc := 45) dX5_played_45 rfl (by decide) ?_
      refine ax_iload (pc := 46) dX5_played_46 rfl ?_
      refine ax_iconst (pc := 48) (v := nI 2) dX5_played_48 (by decide) ?_
      refine bx_irem dX5_played_49 (by omega) (by decide) (by decide) ?_
      refine ax_ifne (pc := 50) (tgt := 114) dX5_played_50 (by decide) (fun q => absurd q (fun z => z (by rw [hp]; rfl))) (fun _ => ?_)
      refine ax_aload_n (pc := 53) dX5_played_53 rfl ?_
      refine ax_getf (pc := 54) fX5_41 dX5_played_54 (by exact hM_0) rfl ?_
      refine ax_sipush (pc := 57) (v := nI 986) dX5_played_57 (by decide) ?_
      refine ax_iload (pc := 60) dX5_played_60 rfl ?_
      refine ax_iconst (pc := 62) (v := nI 1) dX5_played_62 (by decide) ?_
      refine ax_icmpne (pc := 63) (tgt := 70) dX5_played_63 (by decide) (fun c63 => ?_) (fun c63 => ?_)
      · refine ax_aload_n (pc := 70) dX5_played_70 rfl ?_
        refine ax_getf (pc := 71) fX5_41 dX5_played_71 (by exact hM_0) rfl ?_
        refine ax_sipush (pc := 74) (v := nI 986) dX5_played_74 (by decide) ?_
        refine bx_slld dX5_played_77 (by decide) (show _ = nI (dS s code j).2 from s6_2 (b := 984)) ?_
        refine bx_slst dX5_played_78 (by decide) (s6_u2 (b := 984)) ?_
        refine ax_aload_n (pc := 79) dX5_played_79 rfl ?_
        refine ax_getf (pc := 80) fX5_41 dX5_played_80 (by exact hM_0) rfl ?_
        refine ax_sipush (pc := 83) (v := nI 985) dX5_played_83 (by decide) ?_
        refine ax_iconst (pc := 86) (v := nI 4) dX5_played_86 (by decide) ?_
        refine ax_aload_n (pc := 87) dX5_played_87 rfl ?_
        refine ax_getf (pc := 88) fX5_41 dX5_played_88 (by exact hM_0) rfl ?_
        refine ax_sipush (pc := 91) (v := nI 985) dX5_played_91 (by decide) ?_
        refine bx_slld dX5_played_94 (by decide) (show _ = nI (dS s code j).1 from s6_1 (b := 984)) ?_
        refine ax_iload (pc := 95) dX5_played_95 rfl ?_
        refine ax_iconst (pc := 97) (v := nI 2) dX5_played_97 (by decide) ?_
        refine ax_icmpne (pc := 98) (tgt := 105) dX5_played_98 (by decide) (fun c98 => ?_) (fun c98 => ?_)
        · refine ax_iconst (pc := 105) (v := nI 0) dX5_played_105 (by decide) ?_
          refine bx_iadd dX5_played_106  ?_
          refine ax_eSi2 (pc := 107) sX5_103 dX5_played_107 (by decide) (Nat.le_of_ble_eq_true rfl) (c_X5_smaller _ _ _ _) ?_
          refine At.ti (sm_n (by decide) (by first | omega | (dsimp only; omega))) ?_
          refine bx_slst dX5_played_110 (by decide) (s6_u1 (b := 984)) ?_
          refine ax_goto (pc := 111) (tgt := 140) dX5_played_111 (by decide) ?_
          refine ax_inc4p1 (pc := 140) dX5_played_140 rfl (by decide) ?_
          refine ax_goto (pc := 143) (tgt := 9) dX5_played_143 (by decide) ?_
          rw [nI_1]
          have K := fun l5 => ih (j + 1) (by omega) l5 g tu
          first
            | (rw [(show dS s code (j + 1) = _ by show tn j (code / dP j % wy j) (dS s code j) = _; unfold tn; rw [if_pos hp, wy_e hp, if_pos (E2.mp c98), if_pos (E1.mp c63)])] at K; exact K _)
            | (rw [(show dS s code (j + 1) = _ by show tn j (code / dP j % wy j) (dS s code j) = _; unfold tn; rw [if_pos hp, wy_e hp, if_pos (E2.mp c98), if_neg (fun z => c63 (E1.mpr z))])] at K; exact K _)
            | (rw [(show dS s code (j + 1) = _ by show tn j (code / dP j % wy j) (dS s code j) = _; unfold tn; rw [if_pos hp, wy_e hp, if_neg (fun z => c98 (E2.mpr z)), if_pos (E1.mp c63)])] at K; exact K _)
            | (rw [(show dS s code (j + 1) = _ by show tn j (code / dP j % wy j) (dS s code j) = _; unfold tn; rw [if_pos hp, wy_e hp, if_neg (fun z => c98 (E2.mpr z)), if_neg (fun z => c63 (E1.mpr z))])] at K; exact K _)
        · refine ax_iconst (pc := 101) (v := nI 1) dX5_played_101 (by decide) ?_
          refine ax_goto (pc := 102) (tgt := 106) dX5_played_102 (by decide) ?_
          refine bx_iadd dX5_played_106  ?_
          refine ax_eSi2 (pc := 107) sX5_103 dX5_played_107 (by decide) (Nat.le_of_ble_eq_true rfl) (c_X5_smaller _ _ _ _) ?_
          refine At.ti (sm_n (by decide) (by first | omega | (dsimp only; omega))) ?_
          refine bx_slst dX5_played_110 (by decide) (s6_u1 (b := 984)) ?_
          refine ax_goto (pc := 111) (tgt := 140) dX5_played_111 (by decide) ?_
          refine ax_inc4p1 (pc := 140) dX5_played_140 rfl (by decide) ?_
          refine ax_goto (pc := 143) (tgt := 9) dX5_played_143 (by decide) ?_
          rw [nI_1]
          have K := fun l5 => ih (j + 1) (by omega) l5 g tu
          first
            | (rw [(show dS s code (j + 1) = _ by show tn j (code / dP j % wy j) (dS s code j) = _; unfold tn; rw [if_pos hp, wy_e hp, if_pos (E2.mp c98), if_pos (E1.mp c63)])] at K; exact K _)
            | (rw [(show dS s code (j + 1) = _ by show tn j (code / dP j % wy j) (dS s code j) = _; unfold tn; rw [if_pos hp, wy_e hp, if_pos (E2.mp c98), if_neg (fun z => c63 (E1.mpr z))])] at K; exact K _)
            | (rw [(show dS s code (j + 1) = _ by show tn j (code / dP j % wy j) (dS s code j) = _; unfold tn; rw [if_pos hp, wy_e hp, if_neg (fun z => c98 (E2.mpr z)), if_pos (E1.mp c63)])] at K; exact K _)
            | (rw [(show dS s code (j + 1) = _ by show tn j (code / dP j % wy j) (dS s code j) = _; unfold tn; rw [if_pos hp, wy_e hp, if_neg (fun z => c98 (E2.mpr z)), if_neg (fun z => c63 (E1.mpr z))])] at K; exact K _)
      · refine ax_iconst (pc := 66) (v := nI 0) dX5_played_66 (by decide) ?_
        refine ax_goto (pc := 67) (tgt := 78) dX5_played_67 (by decide) ?_
        refine bx_slst dX5_played_78 (by decide) (s6_u2 (b := 984)) ?_
        refine ax_aload_n (pc := 79) dX5_played_79 rfl ?_
        refine ax_getf (pc := 80) fX5_41 dX5_played_80 (by exact hM_0) rfl ?_
        refine ax_sipush (pc := 83) (v := nI 985) dX5_played_83 (by decide) ?_
        refine ax_iconst (pc := 86) (v := nI 4) dX5_played_86 (by decide) ?_
        refine ax_aload_n (pc := 87) dX5_played_87 rfl ?_
        refine ax_getf (pc := 88) fX5_41 dX5_played_88 (by exact hM_0) rfl ?_
        refine ax_sipush (pc := 91) (v := nI 985) dX5_played_91 (by decide) ?_
        refine bx_slld dX5_played_94 (by decide) (show _ = nI (dS s code j).1 from s6_1 (b := 984)) ?_
        refine ax_iload (pc := 95) dX5_played_95 rfl ?_
        refine ax_iconst (pc := 97) (v := nI 2) dX5_played_97 (by decide) ?_
        refine ax_icmpne (pc := 98) (tgt := 105) dX5_played_98 (by decide) (fun c98 => ?_) (fun c98 => ?_)
        · refine ax_iconst (pc := 105) (v := nI 0) dX5_played_105 (by decide) ?_
          refine bx_iadd dX5_played_106  ?_
          refine ax_eSi2 (pc := 107) sX5_103 dX5_played_107 (by decide) (Nat.le_of_ble_eq_true rfl) (c_X5_smaller _ _ _ _) ?_
          refine At.ti (sm_n (by decide) (by first | omega | (dsimp only; omega))) ?_
          refine bx_slst dX5_played_110 (by decide) (s6_u1 (b := 984)) ?_
          refine ax_goto (pc := 111) (tgt := 140) dX5_played_111 (by decide) ?_
          refine ax_inc4p1 (pc := 140) dX5_played_140 rfl (by decide) ?_
          refine ax_goto (pc := 143) (tgt := 9) dX5_played_143 (by decide) ?_
          rw [nI_1]
          have K := fun l5 => ih (j + 1) (by omega) l5 g tu
          first
            | (rw [(show dS s code (j + 1) = _ by show tn j (code / dP j % wy j) (dS s code j) = _; unfold tn; rw [if_pos hp, wy_e hp, if_pos (E2.mp c98), if_pos (E1.mp c63)])] at K; exact K _)
            | (rw [(show dS s code (j + 1) = _ by show tn j (code / dP j % wy j) (dS s code j) = _; unfold tn; rw [if_pos hp, wy_e hp, if_pos (E2.mp c98), if_neg (fun z => c63 (E1.mpr z))])] at K; exact K _)
            | (rw [(show dS s code (j + 1) = _ by show tn j (code / dP j % wy j) (dS s code j) = _; unfold tn; rw [if_pos hp, wy_e hp, if_neg (fun z => c98 (E2.mpr z)), if_pos (E1.mp c63)])] at K; exact K _)
            | (rw [(show dS s code (j + 1) = _ by show tn j (code / dP j % wy j) (dS s code j) = _; unfold tn; rw [if_pos hp, wy_e hp, if_neg (fun z => c98 (E2.mpr z)), if_neg (fun z => c63 (E1.mpr z))])] at K; exact K _)
        · refine ax_iconst (pc := 101) (v := nI 1) dX5_played_101 (by decide) ?_
          refine ax_goto (pc := 102) (tgt := 106) dX5_played_102 (by decide) ?_
          refine bx_iadd dX5_played_106  ?_
          refine ax_eSi2 (pc := 107) sX5_103 dX5_played_107 (by decide) (Nat.le_of_ble_eq_true rfl) (c_X5_smaller _ _ _ _) ?_
          refine At.ti (sm_n (by decide) (by first | omega | (dsimp only; omega))) ?_
          refine bx_slst dX5_played_110 (by decide) (s6_u1 (b := 984)) ?_
          refine ax_goto (pc := 111) (tgt := 140) dX5_played_111 (by decide) ?_
          refine ax_inc4p1 (pc := 140) dX5_played_140 rfl (by decide) ?_
          refine ax_goto (pc := 143) (tgt := 9) dX5_played_143 (by decide) ?_
          rw [nI_1]
          have K := fun l5 => ih (j + 1) (by omega) l5 g tu
          first
            | (rw [(show dS s code (j + 1) = _ by show tn j (code / dP j % wy j) (dS s code j) = _; unfold tn; rw [if_pos hp, wy_e hp, if_pos (E2.mp c98), if_pos (E1.mp c63)])] at K; exact K _)
            | (rw [(show dS s code (j + 1) = _ by show tn j (code / dP j % wy j) (dS s code j) = _; unfold tn; rw [if_pos hp, wy_e hp, if_pos (E2.mp c98), if_neg (fun z => c63 (E1.mpr z))])] at K; exact K _)
            | (rw [(show dS s code (j + 1) = _ by show tn j (code / dP j % wy j) (dS s code j) = _; unfold tn; rw [if_pos hp, wy_e hp, if_neg (fun z => c98 (E2.mpr z)), if_pos (E1.mp c63)])] at K; exact K _)
            | (rw [(show dS s code (j + 1) = _ by show tn j (code / dP j % wy j) (dS s code j) = _; unfold tn; rw [if_pos hp, wy_e hp, if_neg (fun z => c98 (E2.mpr z)), if_neg (fun z => c63 (E1.mpr z))])] at K; exact K _)
    · refine ax_iload_n (pc := 15) dX5_played_15 rfl ?_
      refine ax_iload (pc := 16) dX5_played_16 rfl ?_
      refine ax_iconst (pc := 18) (v := nI 2) dX5_played_18 (by decide) ?_
      refine bx_irem dX5_played_19 (by omega) (by decide) (by decide) ?_
      refine ax_ifne (pc := 20) (tgt := 27) dX5_played_20 (by decide) (fun _ => ?_) (fun q => absurd q (by rw [show j % 2 = 1 by omega]; decide))
      refine ax_iconst (pc := 27) (v := nI 2) dX5_played_27 (by decide) ?_
      refine bx_irem dX5_played_28 (Nat.lt_of_le_of_lt (Nat.div_le_self _ _) (by omega)) (by decide) (by decide) ?_
      refine ax_istore5 (pc := 29) dX5_played_29 rfl (by decide) ?_
      refine ax_iload_n (pc := 31) dX5_played_31 rfl ?_
      refine ax_iload (pc := 32) dX5_played_32 rfl ?_
      refine ax_iconst (pc := 34) (v := nI 2) dX5_played_34 (by decide) ?_
      refine bx_irem dX5_played_35 (by omega) (by decide) (by decide) ?_
      refine ax_ifne (pc := 36) (tgt := 43) dX5_played_36 (by decide) (fun _ => ?_) (fun q => absurd q (by rw [show j % 2 = 1 by omega]; decide))
      refine ax_iconst (pc := 43) (v := nI 2) dX5_played_43 (by decide) ?_
      refine bx_idiv dX5_played_44 (Nat.lt_of_le_of_lt (Nat.div_le_self _ _) (by omega)) (by decide) (by decide) ?_
      refine At.ti (x' := nI (code / dP (j + 1))) (by rw [Nat.div_div_eq_div_mul, show dP (j + 1) = dP j * 2 by rw [dP, wy_o hp]]) ?_
      refine ax_istore3 (pc := 45) dX5_played_45 rfl (by decide) ?_
      refine ax_iload (pc := 46) dX5_played_46 rfl ?_
      refine ax_iconst (pc := 48) (v := nI 2) dX5_played_48 (by decide) ?_
      refine bx_irem dX5_played_49 (by omega) (by decide) (by decide) ?_
      refine ax_ifne (pc := 50) (tgt := 114) dX5_played_50 (by decide) (fun _ => ?_) (fun q => absurd q (by rw [show j % 2 = 1 by omega]; decide))
      refine ax_aload_n (pc := 114) dX5_played_114 rfl ?_
      refine ax_getf (pc := 115) fX5_41 dX5_played_115 (by exact hM_0) rfl ?_
      refine ax_sipush (pc := 118) (v := nI 986) dX5_played_118 (by decide) ?_
      refine ax_bipush (pc := 121) (v := nI 40) dX5_played_121 (by decide) ?_
      refine ax_aload_n (pc := 123) dX5_played_123 rfl ?_
      refine ax_getf (pc := 124) fX5_41 dX5_played_124 (by exact hM_0) rfl ?_
      refine ax_sipush (pc := 127) (v := nI 986) dX5_played_127 (by decide) ?_
      refine bx_slld dX5_played_130 (by decide) (show _ = nI (dS s code j).2 from s6_2 (b := 984)) ?_
      refine ax_iconst (pc := 131) (v := nI 5) dX5_played_131 (by decide) ?_
      refine ax_iload (pc := 132) dX5_played_132 rfl ?_
      refine bx_imul dX5_played_134  ?_
      refine bx_iadd dX5_played_135  ?_
      refine ax_eSi2 (pc := 136) sX5_103 dX5_played_136 (by decide) (Nat.le_of_ble_eq_true rfl) (c_X5_smaller _ _ _ _) ?_
      refine At.ti (sm_n (by decide) (by first | omega | (dsimp only; omega))) ?_
      refine bx_slst dX5_played_139 (by decide) (s6_u2 (b := 984)) ?_
      refine ax_inc4p1 (pc := 140) dX5_played_140 rfl (by decide) ?_
      refine ax_goto (pc := 143) (tgt := 9) dX5_played_143 (by decide) ?_
      rw [nI_1]
      have K := fun l5 => ih (j + 1) (by omega) l5 g tu
      rw [show dS s code (j + 1) = _ by show tn j (code / dP j % wy j) (dS s code j) = _; unfold tn; rw [if_neg hp, wy_o hp]] at K
      exact K _
set_option maxHeartbeats 4000000 in
set_option maxRecDepth 100000 in
theorem c_X5_played (dom : List Nat) (h : mh_H) (s : sg) (nd : Int32) (sl : Nat → Int32) (tu : Int32) (hm : MB s h sl) (hv : IV s) (hd0 : ¬ (s_D s).1 = 0) (m code : Nat) (hm2 : m ≤ 6) (hcode : code < 216) : Mt mX5_played dom 5 [.ref 0, .int (nI m), .int (nI code)] (hM h (xs s nd) sl tu) (mx_Ri (fun v' h' => v' = nI (sp_gd s (dS s code m).1 (dS s code m).2) ∧ ∃ sl' tu', h' = hM h (xs s nd) sl' tu' ∧ MB s h sl')) := by
  refine Mt.of (L := [some (.ref 0), some (.int (nI m)), some (.int (nI code)), none, none, none]) rfl (Nat.le_of_ble_eq_true rfl) rfl ?_
  obtain ⟨⟨m1, f2, m2, mf⟩, ⟨m3, f4, m4, mg⟩, ⟨so, fl, dr, md⟩, mn, msl, mk, mc, ⟨wo, mw⟩⟩ := id hm
  have hn := hm.now
  have h40 := hv.2.2.2.1.1
  obtain ⟨d5, d6, d7, dR⟩ := id md
  refine ax_aload_n (pc := 0) dX5_played_0 rfl ?_
  refine ax_eVv0 (pc := 1) vX5_164 dX5_played_1 (by decide) (by exact hM_0) (Nat.le_of_ble_eq_true rfl) (c_X5_try _ h s nd sl tu hn h40) ?_
  refine ax_iload_n (pc := 4) dX5_played_4 rfl ?_
  refine ax_istore3 (pc := 5) dX5_played_5 rfl (by decide) ?_
  refine ax_iconst (pc := 6) (v := nI 0) dX5_played_6 (by decide) ?_
  refine ax_istore4 (pc := 7) dX5_played_7 rfl (by decide) ?_
  have K := l_X5_played dom h s nd sl hm hv hd0 m code hm2 hcode (nI code) m 0 (by omega) none (nI (s_w s).2.2.2.2) tu
  rw [show dP 0 = 1 from rfl, Nat.div_one] at K
  exact K
set_option maxHeartbeats 4000000 in
set_option maxRecDepth 100000 in
theorem l_X5_du0 (dom : List Nat) (h : mh_H) (x : mxT) (sl : Nat → Int32) (tu : Int32) (m : Nat) (hm2 : m ≤ 6) (Q : Option Value → mh_H → Prop) (KK : At mX5_duel dom 6 53 [some (.ref 0), some (.int (nI m)), some (.int (nI (dP m))), some (.int (nI m)), none, none, none, none] [] (hM h x sl tu) Q) : ∀ (nn j : Nat), j + nn = m → At mX5_duel dom 6 28 [some (.ref 0), some (.int (nI m)), some (.int (nI (dP j))), some (.int (nI j)), none, none, none, none] [] (hM h x sl tu) Q := by
  intro nn
  induction nn with
  | zero =>
    intro j hj
    have hj : j = m := by omega
    subst hj
    refine ax_iload_n (pc := 28) dX5_duel_28 rfl ?_
    refine ax_iload_n (pc := 29) dX5_duel_29 rfl ?_
    refine ax_icmpge (pc := 30) (tgt := 53) dX5_duel_30 (by decide) (fun _ => ?_) (fun q => absurd (nI_le (Nat.le_refl _) (by omega)) q)
    exact KK
  | succ nn ih =>
    intro j hj
    have hlt : j < m := by omega
    refine ax_iload_n (pc := 28) dX5_duel_28 rfl ?_
    refine ax_iload_n (pc := 29) dX5_duel_29 rfl ?_
    refine ax_icmpge (pc := 30) (tgt := 53) dX5_duel_30 (by decide) (fun q => absurd q (nI_ge hlt (by omega))) (fun _ => ?_)
    by_cases hp : j % 2 = 0
    · refine ax_iload_n (pc := 33) dX5_duel_33 rfl ?_
      refine ax_iload_n (pc := 34) dX5_duel_34 rfl ?_
      refine ax_iconst (pc := 35) (v := nI 2) dX5_duel_35 (by decide) ?_
      refine bx_irem dX5_duel_36 (by omega) (by decide) (by decide) ?_
      refine ax_ifne (pc := 37) (tgt := 44) dX5_duel_37 (by decide) (fun q => absurd q (fun z => z (by rw [hp]; rfl))) (fun _ => ?_)
      refine ax_iconst (pc := 40) (v := nI 3) dX5_duel_40 (by decide) ?_
      refine ax_goto (pc := 41) (tgt := 45) dX5_duel_41 (by decide) ?_
      refine bx_imul dX5_duel_45  ?_
      refine At.ti (x' := nI (dP (j + 1))) (by rw [dP, wy_e hp]) ?_
      refine ax_istore2 (pc := 46) dX5_duel_46 rfl (by decide) ?_
      refine ax_inc3p1 (pc := 47) dX5_duel_47 rfl (by decide) ?_
      refine ax_goto (pc := 50) (tgt := 28) dX5_duel_50 (by decide) ?_
      rw [nI_1]
      exact ih (j + 1) (by omega)
    · refine ax_iload_n (pc := 33) dX5_duel_33 rfl ?_
      refine ax_iload_n (pc := 34) dX5_duel_34 rfl ?_
      refine ax_iconst (pc := 35) (v := nI 2) dX5_duel_35 (by decide) ?_
      refine bx_irem dX5_duel_36 (by omega) (by decide) (by decide) ?_
      refine ax_ifne (pc := 37) (tgt := 44) dX5_duel_37 (by decide) (fun _ => ?_) (fun q => absurd q (by rw [show j % 2 = 1 by omega]; decide))
      refine ax_iconst (pc := 44) (v := nI 2) dX5_duel_44 (by decide) ?_
      refine bx_imul dX5_duel_45  ?_
      refine At.ti (x' := nI (dP (j + 1))) (by rw [dP, wy_o hp]) ?_
      refine ax_istore2 (pc := 46) dX5_duel_46 rfl (by decide) ?_
      refine ax_inc3p1 (pc := 47) dX5_duel_47 rfl (by decide) ?_
      refine ax_goto (pc := 50) (tgt := 28) dX5_duel_50 (by decide) ?_
      rw [nI_1]
      exact ih (j + 1) (by omega)
set_option maxHeartbeats 4000000 in
set_option maxRecDepth 100000 in
theorem l_X5_du1 (dom : List Nat) (h : mh_H) (s : sg) (nd : Int32) (hv : IV s) (hd0 : ¬ (s_D s).1 = 0) (m : Nat) (hm2 : m ≤ 6) (Q : Option Value → mh_H → Prop) (KK : ∀ (wo sl : Nat → Int32) (tu : Int32), MB s (mh_up h 14 (mh_ia 0 216 wo)) sl → (∀ c, c < dP m → wo c = nI (vl s m m c)) → At mX5_duel dom 6 78 [some (.ref 0), some (.int (nI m)), some (.int (nI (dP m))), some (.int (nI (dP m))), none, none, none, none] [] (hM (mh_up h 14 (mh_ia 0 216 wo)) (xs s nd) sl tu) Q) : ∀ (nn j : Nat), j + nn = dP m → ∀ (wo sl : Nat → Int32) (tu : Int32), (MB s (mh_up h 14 (mh_ia 0 216 wo)) sl ∧ ∀ c, c < j → wo c = nI (vl s m m c)) → At mX5_duel dom 6 55 [some (.ref 0), some (.int (nI m)), some (.int (nI (dP m))), some (.int (nI j)), none, none, none, none] [] (hM (mh_up h 14 (mh_ia 0 216 wo)) (xs s nd) sl tu) Q := by
  intro nn
  induction nn with
  | zero =>
    intro j hj wo sl tu hinv
    have hj : j = dP m := by omega
    subst hj
    have hdp := dP_le m hm2
    refine ax_iload_n (pc := 55) dX5_duel_55 rfl ?_
    refine ax_iload_n (pc := 56) dX5_duel_56 rfl ?_
    refine ax_icmpge (pc := 57) (tgt := 78) dX5_duel_57 (by decide) (fun _ => ?_) (fun q => absurd (nI_le (Nat.le_refl _) (by omega)) q)
    exact KK _ _ _ hinv.1 hinv.2
  | succ nn ih =>
    intro j hj wo sl tu hinv
    have hlt : j < dP m := by omega
    have hdp := dP_le m hm2
    refine ax_iload_n (pc := 55) dX5_duel_55 rfl ?_
    refine ax_iload_n (pc := 56) dX5_duel_56 rfl ?_
    refine ax_icmpge (pc := 57) (tgt := 78) dX5_duel_57 (by decide) (fun q => absurd q (nI_ge hlt (by omega))) (fun _ => ?_)
    refine ax_aload_n (pc := 60) dX5_duel_60 rfl ?_
    refine ax_getf (pc := 61) fX5_54 dX5_duel_61 (by exact hM_0) rfl ?_
    refine ax_iload_n (pc := 64) dX5_duel_64 rfl ?_
    refine ax_aload_n (pc := 65) dX5_duel_65 rfl ?_
    refine ax_iload_n (pc := 66) dX5_duel_66 rfl ?_
    refine ax_iload_n (pc := 67) dX5_duel_67 rfl ?_
    refine ax_cVi2 (pc := 68) vX5_190 dX5_duel_68 (by decide) (by exact hM_0) (Nat.le_of_ble_eq_true rfl) (c_X5_played _ (mh_up h 14 (mh_ia 0 216 wo)) s nd sl tu hinv.1 hv hd0 m j hm2 (by omega)) (fun v1 h1 hq => ?_)
    obtain ⟨rfl, sl1, tu1, rfl, hq1⟩ := hq
    refine bx_iastoreu dX5_duel_71 (by decide) (by omega) (by decide) rfl ?_
    refine ax_inc3p1 (pc := 72) dX5_duel_72 rfl (by decide) ?_
    refine ax_goto (pc := 75) (tgt := 55) dX5_duel_75 (by decide) ?_
    rw [nI_1]
    refine ih (j + 1) (by omega) _ _ _ ⟨hq1.wu, fun c hc => ?_⟩
    by_cases z : c = j
    · subst z; rw [pk_us]; unfold vl; rw [Nat.sub_self]; rfl
    · rw [pk_un z]; exact hinv.2 c (by omega)
set_option maxHeartbeats 4000000 in
set_option maxRecDepth 100000 in
theorem l_X5_du2E (dom : List Nat) (h : mh_H) (s : sg) (nd : Int32) (hv : IV s) (hd0 : ¬ (s_D s).1 = 0) (m : Nat) (hm2 : m ≤ 6) (t : Nat) (htm : t < m) (hp : t % 2 = 0) (Q : Option Value → mh_H → Prop) (KK : ∀ (wo sl : Nat → Int32) (tu : Int32) (l6 l7 : Option Value), MB s (mh_up h 14 (mh_ia 0 216 wo)) sl → (∀ c, c < dP t → wo c = nI (vl s m t c)) → At mX5_duel dom 6 198 [some (.ref 0), some (.int (nI m)), some (.int (nI (dP t))), some (.int (nI t)), some (.int (nI 3)), some (.int (nI (dP t))), l6, l7] [] (hM (mh_up h 14 (mh_ia 0 216 wo)) (xs s nd) sl tu) Q) : ∀ (nn j : Nat), j + nn = dP t → ∀ (wo sl : Nat → Int32) (tu : Int32) (l6 l7 : Option Value), (MB s (mh_up h 14 (mh_ia 0 216 wo)) sl ∧ (∀ c, c < j → wo c = nI (vl s m t c)) ∧ ∀ c, j ≤ c → c < dP (t + 1) → wo c = nI (vl s m (t + 1) c)) → At mX5_duel dom 6 107 [some (.ref 0), some (.int (nI m)), some (.int (nI (dP t))), some (.int (nI t)), some (.int (nI 3)), some (.int (nI j)), l6, l7] [] (hM (mh_up h 14 (mh_ia 0 216 wo)) (xs s nd) sl tu) Q := by
  intro nn
  induction nn with
  | zero =>
    intro j hj wo sl tu l6 l7 hinv
    have hj : j = dP t := by omega
    subst hj
    have hdp := dP_le t (by omega)
    refine ax_iload (pc := 107) dX5_duel_107 rfl ?_
    refine ax_iload_n (pc := 109) dX5_duel_109 rfl ?_
    refine ax_icmpge (pc := 110) (tgt := 198) dX5_duel_110 (by decide) (fun _ => ?_) (fun q => absurd (nI_le (Nat.le_refl _) (by omega)) q)
    exact KK _ _ _ _ _ hinv.1 hinv.2.1
  | succ nn ih =>
    intro j hj wo sl tu l6 l7 hinv
    have hlt : j < dP t := by omega
    have hdp := dP_le (t + 1) (by omega)
    have hd1 : dP (t + 1) = dP t * 3 := by rw [dP, wy_e hp]
    obtain ⟨hD0, hW0, hfi⟩ := hv.w hd0
    refine ax_iload (pc := 107) dX5_duel_107 rfl ?_
    refine ax_iload_n (pc := 109) dX5_duel_109 rfl ?_
    refine ax_icmpge (pc := 110) (tgt := 198) dX5_duel_110 (by decide) (fun q => absurd q (nI_ge hlt (by omega))) (fun _ => ?_)
    refine ax_aload_n (pc := 113) dX5_duel_113 rfl ?_
    refine ax_getf (pc := 114) fX5_54 dX5_duel_114 (by exact hM_0) rfl ?_
    refine ax_iload (pc := 117) dX5_duel_117 rfl ?_
    refine bx_iaload dX5_duel_119 ((hM_n (by decide)).trans mh_up_s) (by omega) (by decide) (hinv.2.2 _ (Nat.le_refl _) (by omega)) ?_
    refine ax_istore6 (pc := 120) dX5_duel_120 rfl (by decide) ?_
    refine ax_iconst (pc := 122) (v := nI 1) dX5_duel_122 (by decide) ?_
    refine ax_istore7 (pc := 123) dX5_duel_123 rfl (by decide) ?_
    refine ax_iload (pc := 125) dX5_duel_125 rfl ?_
    refine ax_iload (pc := 127) dX5_duel_127 rfl ?_
    refine ax_icmpge (pc := 129) (tgt := 183) dX5_duel_129 (by decide) (fun q => absurd q (by decide)) (fun _ => ?_)
    refine ax_iload_n (pc := 132) dX5_duel_132 rfl ?_
    refine ax_iconst (pc := 133) (v := nI 2) dX5_duel_133 (by decide) ?_
    refine bx_irem dX5_duel_134 (by omega) (by decide) (by decide) ?_
    refine ax_ifne (pc := 135) (tgt := 158) dX5_duel_135 (by decide) (fun q => absurd q (fun z => z (by rw [hp]; rfl))) (fun _ => ?_)
    refine ax_iload (pc := 138) dX5_duel_138 rfl ?_
    refine ax_aload_n (pc := 140) dX5_duel_140 rfl ?_
    refine ax_getf (pc := 141) fX5_54 dX5_duel_141 (by exact hM_0) rfl ?_
    refine ax_iload (pc := 144) dX5_duel_144 rfl ?_
    refine ax_iload (pc := 146) dX5_duel_146 rfl ?_
    refine ax_iload_n (pc := 148) dX5_duel_148 rfl ?_
    refine bx_imul dX5_duel_149  ?_
    refine bx_iadd dX5_duel_150  ?_
    refine bx_iaload dX5_duel_151 ((hM_n (by decide)).trans mh_up_s) (show j + 1 * dP t < 216 by omega) (by decide) (hinv.2.2 _ (by omega) (show j + 1 * dP t < dP (t + 1) by omega)) ?_
    refine ax_eSi2 (pc := 152) sX5_106 dX5_duel_152 (by decide) (Nat.le_of_ble_eq_true rfl) (c_X5_larger _ _ _ _) ?_
    refine ax_goto (pc := 155) (tgt := 175) dX5_duel_155 (by decide) ?_
    refine At.ti (ni_max (Nat.lt_of_le_of_lt (vl_le hD0 hW0) (show 616 < 2 ^ 31 by decide)) (Nat.lt_of_le_of_lt (vl_le hD0 hW0) (show 616 < 2 ^ 31 by decide))) ?_
    refine ax_istore6 (pc := 175) dX5_duel_175 rfl (by decide) ?_
    refine ax_inc7p1 (pc := 177) dX5_duel_177 rfl (by decide) ?_
    refine ax_goto (pc := 180) (tgt := 125) dX5_duel_180 (by decide) ?_
    rw [nI_1]
    show At _ _ _ _ [_, _, _, _, _, _, _, some (.int (nI 2))] _ _ _
    refine ax_iload (pc := 125) dX5_duel_125 rfl ?_
    refine ax_iload (pc := 127) dX5_duel_127 rfl ?_
    refine ax_icmpge (pc := 129) (tgt := 183) dX5_duel_129 (by decide) (fun q => absurd q (by decide)) (fun _ => ?_)
    refine ax_iload_n (pc := 132) dX5_duel_132 rfl ?_
    refine ax_iconst (pc := 133) (v := nI 2) dX5_duel_133 (by decide) ?_
    refine bx_irem dX5_duel_134 (by omega) (by decide) (by decide) ?_
    refine ax_ifne (pc := 135) (tgt := 158) dX5_duel_135 (by decide) (fun q => absurd q (fun z => z (by rw [hp]; rfl))) (fun _ => ?_)
    refine ax_iload (pc := 138) dX5_duel_138 rfl ?_
    refine ax_aload_n (pc := 140) dX5_duel_140 rfl ?_
    refine ax_getf (pc := 141) fX5_54 dX5_duel_141 (by exact hM_0) rfl ?_
    refine ax_iload (pc := 144) dX5_duel_144 rfl ?_
    refine ax_iload (pc := 146) dX5_duel_146 rfl ?_
    refine ax_iload_n (pc := 148) dX5_duel_148 rfl ?_
    refine bx_imul dX5_duel_149  ?_
    refine bx_iadd dX5_duel_150  ?_
    refine bx_iaload dX5_duel_151 ((hM_n (by decide)).trans mh_up_s) (show j + 2 * dP t < 216 by omega) (by decide) (hinv.2.2 _ (by omega) (show j + 2 * dP t < dP (t + 1) by omega)) ?_
    refine ax_eSi2 (pc := 152) sX5_106 dX5_duel_152 (by decide) (Nat.le_of_ble_eq_true rfl) (c_X5_larger _ _ _ _) ?_
    refine ax_goto (pc := 155) (tgt := 175) dX5_duel_155 (by decide) ?_
    refine At.ti (ni_max (Nat.lt_of_le_of_lt (Nat.max_le.mpr ⟨(vl_le hD0 hW0), (vl_le hD0 hW0)⟩) (show 616 < 2 ^ 31 by decide)) (Nat.lt_of_le_of_lt (vl_le hD0 hW0) (show 616 < 2 ^ 31 by decide))) ?_
    refine ax_istore6 (pc := 175) dX5_duel_175 rfl (by decide) ?_
    refine ax_inc7p1 (pc := 177) dX5_duel_177 rfl (by decide) ?_
    refine ax_goto (pc := 180) (tgt := 125) dX5_duel_180 (by decide) ?_
    rw [nI_1]
    show At _ _ _ _ [_, _, _, _, _, _, _, some (.int (nI 3))] _ _ _
    refine ax_iload (pc := 125) dX5_duel_125 rfl ?_
    refine ax_iload (pc := 127) dX5_duel_127 rfl ?_
    refine ax_icmpge (pc := 129) (tgt := 183) dX5_duel_129 (by decide) (fun _ => ?_) (fun q => absurd (by decide) q)
    refine ax_aload_n (pc := 183) dX5_duel_183 rfl ?_
    refine ax_getf (pc := 184) fX5_54 dX5_duel_184 (by exact hM_0) rfl ?_
    refine ax_iload (pc := 187) dX5_duel_187 rfl ?_
    refine ax_iload (pc := 189) dX5_duel_189 rfl ?_
    refine bx_iastoreu dX5_duel_191 (by decide) (by omega) (by decide) rfl ?_
    refine ax_inc5p1 (pc := 192) dX5_duel_192 rfl (by decide) ?_
    refine ax_goto (pc := 195) (tgt := 107) dX5_duel_195 (by decide) ?_
    rw [nI_1]
    refine ih (j + 1) (by omega) _ _ _ _ _ ⟨hinv.1.wu, fun c hc => ?_, fun c h1 h2 => ?_⟩
    · by_cases z : c = j
      · subst z; rw [pk_us, vl_e hW0 htm hp hlt]
      · rw [pk_un z]; exact hinv.2.1 c (by omega)
    · rw [pk_un (by omega)]; exact hinv.2.2 c (by omega) h2
set_option maxHeartbeats 4000000 in
set_option maxRecDepth 100000 in
theorem l_X5_du2O (dom : List Nat) (h : mh_H) (s : sg) (nd : Int32) (hv : IV s) (hd0 : ¬ (s_D s).1 = 0) (m : Nat) (hm2 : m ≤ 6) (t : Nat) (htm : t < m) (hp : ¬ t % 2 = 0) (Q : Option Value → mh_H → Prop) (KK : ∀ (wo sl : Nat → Int32) (tu : Int32) (l6 l7 : Option Value), MB s (mh_up h 14 (mh_ia 0 216 wo)) sl → (∀ c, c < dP t → wo c = nI (vl s m t c)) → At mX5_duel dom 6 198 [some (.ref 0), some (.int (nI m)), some (.int (nI (dP t))), some (.int (nI t)), some (.int (nI 2)), some (.int (nI (dP t))), l6, l7] [] (hM (mh_up h 14 (mh_ia 0 216 wo)) (xs s nd) sl tu) Q) : ∀ (nn j : Nat), j + nn = dP t → ∀ (wo sl : Nat → Int32) (tu : Int32) (l6 l7 : Option Value), (MB s (mh_up h 14 (mh_ia 0 216 wo)) sl ∧ (∀ c, c < j → wo c = nI (vl s m t c)) ∧ ∀ c, j ≤ c → c < dP (t + 1) → wo c = nI (vl s m (t + 1) c)) → At mX5_duel dom 6 107 [some (.ref 0), some (.int (nI m)), some (.int (nI (dP t))), some (.int (nI t)), some (.int (nI 2)), some (.int (nI j)), l6, l7] [] (hM (mh_up h 14 (mh_ia 0 216 wo)) (xs s nd) sl tu) Q := by
  intro nn
  induction nn with
  | zero =>
    intro j hj wo sl tu l6 l7 hinv
    have hj : j = dP t := by omega
    subst hj
    have hdp := dP_le t (by omega)
    refine ax_iload (pc := 107) dX5_duel_107 rfl ?_
    refine ax_iload_n (pc := 109) dX5_duel_109 rfl ?_
    refine ax_icmpge (pc := 110) (tgt := 198) dX5_duel_110 (by decide) (fun _ => ?_) (fun q => absurd (nI_le (Nat.le_refl _) (by omega)) q)
    exact KK _ _ _ _ _ hinv.1 hinv.2.1
  | succ nn ih =>
    intro j hj wo sl tu l6 l7 hinv
    have hlt : j < dP t := by omega
    have hdp := dP_le (t + 1) (by omega)
    have hd1 : dP (t + 1) = dP t * 2 := by rw [dP, wy_o hp]
    obtain ⟨hD0, hW0, hfi⟩ := hv.w hd0
    refine ax_iload (pc := 107) dX5_duel_107 rfl ?_
    refine ax_iload_n (pc := 109) dX5_duel_109 rfl ?_
    refine ax_icmpge (pc := 110) (tgt := 198) dX5_duel_110 (by decide) (fun q => absurd q (nI_ge hlt (by omega))) (fun _ => ?_)
    refine ax_aload_n (pc := 113) dX5_duel_113 rfl ?_
    refine ax_getf (pc := 114) fX5_54 dX5_duel_114 (by exact hM_0) rfl ?_
    refine ax_iload (pc := 117) dX5_duel_117 rfl ?_
    refine bx_iaload dX5_duel_119 ((hM_n (by decide)).trans mh_up_s) (by omega) (by decide) (hinv.2.2 _ (Nat.le_refl _) (by omega)) ?_
    refine ax_istore6 (pc := 120) dX5_duel_120 rfl (by decide) ?_
    refine ax_iconst (pc := 122) (v := nI 1) dX5_duel_122 (by decide) ?_
    refine ax_istore7 (pc := 123) dX5_duel_123 rfl (by decide) ?_
    refine ax_iload (pc := 125) dX5_duel_125 rfl ?_
    refine ax_iload (pc := 127) dX5_duel_127 rfl ?_
    refine ax_icmpge (pc := 129) (tgt := 183) dX5_duel_129 (by decide) (fun q => absurd q (by decide)) (fun _ => ?_)
    refine ax_iload_n (pc := 132) dX5_duel_132 rfl ?_
    refine ax_iconst (pc := 133) (v := nI 2) dX5_duel_133 (by decide) ?_
    refine bx_irem dX5_duel_134 (by omega) (by decide) (by decide) ?_
    refine ax_ifne (pc := 135) (tgt := 158) dX5_duel_135 (by decide) (fun _ => ?_) (fun q => absurd q (by rw [show t % 2 = 1 by omega]; decide))
    refine ax_iload (pc := 158) dX5_duel_158 rfl ?_
    refine ax_aload_n (pc := 160) dX5_duel_160 rfl ?_
    refine ax_getf (pc := 161) fX5_54 dX5_duel_161 (by exact hM_0) rfl ?_
    refine ax_iload (pc := 164) dX5_duel_164 rfl ?_
    refine ax_iload (pc := 166) dX5_duel_166 rfl ?_
    refine ax_iload_n (pc := 168) dX5_duel_168 rfl ?_
    refine bx_imul dX5_duel_169  ?_
    refine bx_iadd dX5_duel_170  ?_
    refine bx_iaload dX5_duel_171 ((hM_n (by decide)).trans mh_up_s) (show j + 1 * dP t < 216 by omega) (by decide) (hinv.2.2 _ (by omega) (show j + 1 * dP t < dP (t + 1) by omega)) ?_
    refine ax_eSi2 (pc := 172) sX5_103 dX5_duel_172 (by decide) (Nat.le_of_ble_eq_true rfl) (c_X5_smaller _ _ _ _) ?_
    refine At.ti (sm_n (Nat.lt_of_le_of_lt (vl_le hD0 hW0) (show 616 < 2 ^ 31 by decide)) (Nat.lt_of_le_of_lt (vl_le hD0 hW0) (show 616 < 2 ^ 31 by decide))) ?_
    refine ax_istore6 (pc := 175) dX5_duel_175 rfl (by decide) ?_
    refine ax_inc7p1 (pc := 177) dX5_duel_177 rfl (by decide) ?_
    refine ax_goto (pc := 180) (tgt := 125) dX5_duel_180 (by decide) ?_
    rw [nI_1]
    show At _ _ _ _ [_, _, _, _, _, _, _, some (.int (nI 2))] _ _ _
    refine ax_iload (pc := 125) dX5_duel_125 rfl ?_
    refine ax_iload (pc := 127) dX5_duel_127 rfl ?_
    refine ax_icmpge (pc := 129) (tgt := 183) dX5_duel_129 (by decide) (fun _ => ?_) (fun q => absurd (by decide) q)
    refine ax_aload_n (pc := 183) dX5_duel_183 rfl ?_
    refine ax_getf (pc := 184) fX5_54 dX5_duel_184 (by exact hM_0) rfl ?_
    refine ax_iload (pc := 187) dX5_duel_187 rfl ?_
    refine ax_iload (pc := 189) dX5_duel_189 rfl ?_
    refine bx_iastoreu dX5_duel_191 (by decide) (by omega) (by decide) rfl ?_
    refine ax_inc5p1 (pc := 192) dX5_duel_192 rfl (by decide) ?_
    refine ax_goto (pc := 195) (tgt := 107) dX5_duel_195 (by decide) ?_
    rw [nI_1]
    refine ih (j + 1) (by omega) _ _ _ _ _ ⟨hinv.1.wu, fun c hc => ?_, fun c h1 h2 => ?_⟩
    · by_cases z : c = j
      · subst z; rw [pk_us, vl_o hW0 htm hp hlt]
      · rw [pk_un z]; exact hinv.2.1 c (by omega)
    · rw [pk_un (by omega)]; exact hinv.2.2 c (by omega) h2
set_option maxHeartbeats 4000000 in
set_option maxRecDepth 100000 in
theorem l_X5_du3 (dom : List Nat) (h : mh_H) (s : sg) (nd : Int32) (hv : IV s) (hd0 : ¬ (s_D s).1 = 0) (m : Nat) (hm2 : m ≤ 6) : ∀ (t : Nat), t ≤ m → ∀ (wo sl : Nat → Int32) (tu : Int32) (l4 l5 l6 l7 : Option Value), MB s (mh_up h 14 (mh_ia 0 216 wo)) sl → (∀ c, c < dP t → wo c = nI (vl s m t c)) → At mX5_duel dom 6 82 [some (.ref 0), some (.int (nI m)), some (.int (nI (dP t))), some (.int (nI t + (-1))), l4, l5, l6, l7] [] (hM (mh_up h 14 (mh_ia 0 216 wo)) (xs s nd) sl tu) (mx_Ri (fun v' h' => v' = nI (vl s m 0 0) ∧ MP s h')) := by
  intro t
  induction t with
  | zero =>
    intro ht wo sl tu l4 l5 l6 l7 hm hw
    refine ax_iload_n (pc := 82) dX5_duel_82 rfl ?_
    refine ax_iflt (pc := 83) (tgt := 204) dX5_duel_83 (by decide) (fun _ => ?_) (fun q => absurd (by decide) q)
    refine ax_aload_n (pc := 204) dX5_duel_204 rfl ?_
    refine ax_getf (pc := 205) fX5_54 dX5_duel_205 (by exact hM_0) rfl ?_
    refine ax_iconst (pc := 208) (v := nI 0) dX5_duel_208 (by decide) ?_
    refine bx_iaload dX5_duel_209 ((hM_n (by decide)).trans mh_up_s) (by decide) (by decide) (hw 0 (by decide)) ?_
    refine ax_iret (pc := 210) dX5_duel_210 rfl ?_
    exact ⟨_, rfl, rfl, MB.mp (s := s) hm⟩
  | succ t ih =>
    intro ht wo sl tu l4 l5 l6 l7 hm hw
    have hdp := dP_le (t + 1) (by omega)
    rw [dv_s]
    by_cases hp : t % 2 = 0
    · skip
      refine ax_iload_n (pc := 82) dX5_duel_82 rfl ?_
      refine ax_iflt (pc := 83) (tgt := 204) dX5_duel_83 (by decide) (fun q => absurd q (nI_pos (by omega))) (fun _ => ?_)
      refine ax_iload_n (pc := 86) dX5_duel_86 rfl ?_
      refine ax_iconst (pc := 87) (v := nI 2) dX5_duel_87 (by decide) ?_
      refine bx_irem dX5_duel_88 (by omega) (by decide) (by decide) ?_
      refine ax_ifne (pc := 89) (tgt := 96) dX5_duel_89 (by decide) (fun q => absurd q (fun z => z (by rw [hp]; rfl))) (fun _ => ?_)
      refine ax_iconst (pc := 92) (v := nI 3) dX5_duel_92 (by decide) ?_
      refine ax_goto (pc := 93) (tgt := 97) dX5_duel_93 (by decide) ?_
      refine ax_istore4 (pc := 97) dX5_duel_97 rfl (by decide) ?_
      refine ax_iload_n (pc := 99) dX5_duel_99 rfl ?_
      refine ax_iload (pc := 100) dX5_duel_100 rfl ?_
      refine bx_idiv dX5_duel_102 (by omega) (by decide) (by decide) ?_
      refine At.ti (x' := nI (dP t)) (by rw [show dP (t + 1) = dP t * 3 by rw [dP, wy_e hp], Nat.mul_div_cancel _ (by decide)]) ?_
      refine ax_istore2 (pc := 103) dX5_duel_103 rfl (by decide) ?_
      refine ax_iconst (pc := 104) (v := nI 0) dX5_duel_104 (by decide) ?_
      refine ax_istore5 (pc := 105) dX5_duel_105 rfl (by decide) ?_
      refine l_X5_du2E dom h s nd hv hd0 m hm2 t (by omega) hp _ (fun wo1 sl1 tu1 l6 l7 hq1 hw1 => ?_) (dP t) 0 (by omega) _ _ _ _ _ ⟨hm, fun c hc => absurd hc (Nat.not_lt_zero c), fun c _ h2 => hw c h2⟩
      refine ax_inc3m1 (pc := 198) dX5_duel_198 rfl (by decide) ?_
      refine ax_goto (pc := 201) (tgt := 82) dX5_duel_201 (by decide) ?_
      exact ih (by omega) _ _ _ _ _ _ _ hq1 hw1
    · skip
      refine ax_iload_n (pc := 82) dX5_duel_82 rfl ?_
      refine ax_iflt (pc := 83) (tgt := 204) dX5_duel_83 (by decide) (fun q => absurd q (nI_pos (by omega))) (fun _ => ?_)
      refine ax_iload_n (pc := 86) dX5_duel_86 rfl ?_
      refine ax_iconst (pc := 87) (v := nI 2) dX5_duel_87 (by decide) ?_
      refine bx_irem dX5_duel_88 (by omega) (by decide) (by decide) ?_
      refine ax_ifne (pc := 89) (tgt := 96) dX5_duel_89 (by decide) (fun _ => ?_) (fun q => absurd q (by rw [show t % 2 = 1 by omega]; decide))
      refine ax_iconst (pc := 96) (v := nI 2) dX5_duel_96 (by decide) ?_
      refine ax_istore4 (pc := 97) dX5_duel_97 rfl (by decide) ?_
      refine ax_iload_n (pc := 99) dX5_duel_99 rfl ?_
      refine ax_iload (pc := 100) dX5_duel_100 rfl ?_
      refine bx_idiv dX5_duel_102 (by omega) (by decide) (by decide) ?_
      refine At.ti (x' := nI (dP t)) (by rw [show dP (t + 1) = dP t * 2 by rw [dP, wy_o hp], Nat.mul_div_cancel _ (by decide)]) ?_
      refine ax_istore2 (pc := 103) dX5_duel_103 rfl (by decide) ?_
      refine ax_iconst (pc := 104) (v := nI 0) dX5_duel_104 (by decide) ?_
      refine ax_istore5 (pc := 105) dX5_duel_105 rfl (by decide) ?_
      refine l_X5_du2O dom h s nd hv hd0 m hm2 t (by omega) hp _ (fun wo1 sl1 tu1 l6 l7 hq1 hw1 => ?_) (dP t) 0 (by omega) _ _ _ _ _ ⟨hm, fun c hc => absurd hc (Nat.not_lt_zero c), fun c _ h2 => hw c h2⟩
      refine ax_inc3m1 (pc := 198) dX5_duel_198 rfl (by decide) ?_
      refine ax_goto (pc := 201) (tgt := 82) dX5_duel_201 (by decide) ?_
      exact ih (by omega) _ _ _ _ _ _ _ hq1 hw1
set_option maxHeartbeats 4000000 in
set_option maxRecDepth 100000 in
theorem c_X5_duel (dom : List Nat) (h : mh_H) (s : sg) (nd : Int32) (sl : Nat → Int32) (tu : Int32) (n : Int32) (hm : MB s h sl) (hv : IV s) : Mt mX5_duel dom 6 [.ref 0, .int n] (hM h (xs s nd) sl tu) (mx_Ri (fun v' h' => v' = (sp_duel s n).1 ∧ MP (sp_duel s n).2 h')) := by
  refine Mt.of (L := [some (.ref 0), some (.int n), none, none, none, none, none, none]) rfl (Nat.le_of_ble_eq_true rfl) rfl ?_
  obtain ⟨⟨m1, f2, m2, mf⟩, ⟨m3, f4, m4, mg⟩, ⟨so, fl, dr, md⟩, mn, msl, mk, mc, ⟨wo, mw⟩⟩ := id hm
  have hn := hm.now
  have h40 := hv.2.2.2.1.1
  obtain ⟨d5, d6, d7, dR⟩ := id md
  refine ax_iload_n (pc := 0) dX5_duel_0 rfl ?_
  refine ax_i2l (pc := 1) dX5_duel_1 ?_
  refine ax_lconst (pc := 2) (v := 0) dX5_duel_2 (by decide) ?_
  refine ax_ldc2 (pc := 3) dX5_duel_3 tw_941 ?_
  refine ax_eSi3 (pc := 6) sX5_63 dX5_duel_6 (by decide) (Nat.le_of_ble_eq_true rfl) (c_X5_in _ _ n 0 6 _ _ (by decide) (by decide)) ?_
  refine ax_ifneB (pc := 9) (tgt := 14) dX5_duel_9 (by decide) (fun c9a => ?_) (fun c9a => ?_)
  · refine ax_aload_n (pc := 14) dX5_duel_14 rfl ?_
    refine ax_getf (pc := 15) fX5_97 dX5_duel_15 (by exact hM_0) rfl ?_
    refine ax_ifne (pc := 18) (tgt := 24) dX5_duel_18 (by decide) (fun c18 => ?_) (fun c18 => ?_)
    · obtain ⟨m, hm2, rfl⟩ := nI_of2 (n := 6) (M := 6) rfl (Int32.not_lt.mpr c9a.1) c9a.2
      have hd0 : ¬ (s_D s).1 = 0 := fun q => c18 (by show nI (s_D s).1 = 0; rw [q]; rfl)
      obtain ⟨hD0, hW0, hfi⟩ := hv.w hd0
      have hWt : sp_W0 (s_D s).1 (s_t s) := hW0
      refine ax_iconst (pc := 24) (v := nI 1) dX5_duel_24 (by decide) ?_
      refine ax_istore2 (pc := 25) dX5_duel_25 rfl (by decide) ?_
      refine ax_iconst (pc := 26) (v := nI 0) dX5_duel_26 (by decide) ?_
      refine ax_istore3 (pc := 27) dX5_duel_27 rfl (by decide) ?_
      unfold sp_duel
      rw [if_neg (not_not_intro c9a), if_neg hd0, ni_cl (by omega)]
      refine l_X5_du0 dom h (xs s nd) sl tu m hm2 _ ?_ m 0 (by omega)
      refine ax_iconst (pc := 53) (v := nI 0) dX5_duel_53 (by decide) ?_
      refine ax_istore3 (pc := 54) dX5_duel_54 rfl (by decide) ?_
      refine At.hp (h' := hM (mh_up h 14 (mh_ia 0 216 wo)) (xs s nd) sl tu) (by rw [mh_up_id mw]) ?_
      refine l_X5_du1 dom h s nd hv hd0 m hm2 _ (fun wo1 sl1 tu1 hq1 hw1 => ?_) (dP m) 0 (by omega) wo sl tu ⟨by rw [mh_up_id mw]; exact hm, fun c hc => absurd hc (Nat.not_lt_zero c)⟩
      refine ax_iload_n (pc := 78) dX5_duel_78 rfl ?_
      refine ax_iconst (pc := 79) (v := nI 1) dX5_duel_79 (by decide) ?_
      refine ax_isub (pc := 80) dX5_duel_80 ?_
      refine At.ti (x' := nI m + (-1)) (Int32.sub_eq_add_neg _ _) ?_
      refine ax_istore3 (pc := 81) dX5_duel_81 rfl (by decide) ?_
      exact l_X5_du3 dom h s nd hv hd0 m hm2 m (Nat.le_refl _) wo1 sl1 tu1 none none none none hq1 hw1
    · refine ax_bipush (pc := 21) (v := -4) dX5_duel_21 (by decide) ?_
      refine ax_iret (pc := 23) dX5_duel_23 rfl ?_
      exact fin_m (by unfold sp_duel; rw [if_neg (not_not_intro c9a), if_pos ((nI_eq (by have := hv.2.2.1.1; omega) (show 0 < 2 ^ 31 by decide)).mp c18)]) hm.mp
  · refine ax_iconst (pc := 12) (v := -1) dX5_duel_12 (by decide) ?_
    refine ax_iret (pc := 13) dX5_duel_13 rfl ?_
    exact fin_m (by unfold sp_duel; exact if_pos c9a) hm.mp
