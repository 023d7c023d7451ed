def rkV (o : Option Nat) : Int32 := match o with
  | none => -9
  | some f => nI f
theorem wr_s {s : sg} {set j : Nat} : (wr s set j).2.2.2.2 + sp_wf (s_D s) (s_fi s) (rkw set j (wr s set j)) = (wr s set (j + 1)).2.2.2.2 := by
  show _ = (rkw set j (wr s set j)).2.2.2.2 + _
  rw [rkw_g]
set_option maxHeartbeats 4000000 in
set_option maxRecDepth 100000 in
theorem l_X5_rk1 (dom : List Nat) (h : mh_H) (s : sg) (nd : Int32) (sl : Nat → Int32) (hm : MB s h sl) (hv : IV s) (hd0 : ¬ (s_D s).1 = 0) (m v set : Nat) (hm2 : m ≤ 8) (hset : set < 256) (x3 : Int32) (Q : Option Value → mh_H → Prop) (KK : ∀ g tu, At mX5_rakes dom 4 115 [some (.ref 0), some (.int (nI m)), some (.int (nI v)), some (.int x3), some (.int (nI set)), some (.int (nI (wr s set m).2.2.2.2)), some (.int (nI m))] [] (hM h (xs s nd) (s6 sl 984 (wr s set m) (s_fi s) g) tu) Q) : ∀ (nn j : Nat), j + nn = m → ∀ (g tu : Int32), At mX5_rakes dom 4 60 [some (.ref 0), some (.int (nI m)), some (.int (nI v)), some (.int x3), some (.int (nI set)), some (.int (nI (wr s set j).2.2.2.2)), some (.int (nI j))] [] (hM h (xs s nd) (s6 sl 984 (wr s set j) (s_fi s) g) tu) Q := by
  intro nn
  induction nn with
  | zero =>
    intro j hj g tu
    have hj : j = m := by omega
    subst hj
    refine ax_iload (pc := 60) dX5_rakes_60 rfl ?_
    refine ax_iload_n (pc := 62) dX5_rakes_62 rfl ?_
    refine ax_icmpge (pc := 63) (tgt := 115) dX5_rakes_63 (by decide) (fun _ => ?_) (fun q => absurd (nI_le (Nat.le_refl _) (by omega)) q)
    exact KK _ _
  | succ nn ih =>
    intro j hj g tu
    have hlt : j < m := by omega
    obtain ⟨⟨m1, f2, m2, mf⟩, ⟨m3, f4, m4, mg⟩, ⟨so, fl, dr, md⟩, mn, msl, mk, mc, ⟨wo, mw⟩⟩ := id hm
    have hn := hm.now
    have h40 := hv.2.2.2.1.1
    obtain ⟨d5, d6, d7, dR⟩ := id md
    obtain ⟨hD0, hW0, hfi⟩ := hv.w hd0
    refine ax_iload (pc := 60) dX5_rakes_60 rfl ?_
    refine ax_iload_n (pc := 62) dX5_rakes_62 rfl ?_
    refine ax_icmpge (pc := 63) (tgt := 115) dX5_rakes_63 (by decide) (fun q => absurd q (nI_ge hlt (by omega))) (fun _ => ?_)
    refine ax_aload_n (pc := 66) dX5_rakes_66 rfl ?_
    refine ax_getf (pc := 67) fX5_41 dX5_rakes_67 (by exact hM_0) rfl ?_
    refine ax_sipush (pc := 70) (v := nI 986) dX5_rakes_70 (by decide) ?_
    refine ax_iload (pc := 73) dX5_rakes_73 rfl ?_
    refine ax_iload (pc := 75) dX5_rakes_75 rfl ?_
    refine ax_eSi2 (pc := 77) sX5_109 dX5_rakes_77 (by decide) (Nat.le_of_ble_eq_true rfl) (c_X5_has _ _ set j (by omega) (by omega)) ?_
    refine ax_ifeqB (pc := 80) (tgt := 87) dX5_rakes_80 (by decide) (fun c80 => ?_) (fun c80 => ?_)
    · have er : ((wr s set j).1, (wr s set j).2.1, (wr s set j).2.2.1, (wr s set j).2.2.2.1, (wr s set j).2.2.2.2) = rkw set j (wr s set j) := (if_neg c80).symm
      refine ax_aload_n (pc := 87) dX5_rakes_87 rfl ?_
      refine ax_getf (pc := 88) fX5_41 dX5_rakes_88 (by exact hM_0) rfl ?_
      refine ax_sipush (pc := 91) (v := nI 986) dX5_rakes_91 (by decide) ?_
      refine bx_slld dX5_rakes_94 (by decide) (s6_2 (b := 984)) ?_
      refine bx_slst dX5_rakes_95 (by decide) ((s6_u2 (b := 984)).trans (congrArg (fun w => s6 sl 984 w (s_fi s) g) er)) ?_
      refine ax_iload (pc := 96) dX5_rakes_96 rfl ?_
      refine ax_aload_n (pc := 98) dX5_rakes_98 rfl ?_
      refine ax_sipush (pc := 99) (v := nI 984) dX5_rakes_99 (by decide) ?_
      refine ax_iconst (pc := 102) (v := 0) dX5_rakes_102 (by decide) ?_
      refine ax_eVi2 (pc := 103) vX5_156 dX5_rakes_103 (by decide) (by exact hM_0) (Nat.le_of_ble_eq_true rfl) (c_X5_steps _ h (xs s nd) sl tu (s_D s) so fl dr md 984 (s_fi s) (rkw set j (wr s set j)) g (by decide) hD0 (rkw_ok (wr_ok hD0 hW0 j)) hfi rfl) ?_
      refine bx_iadd dX5_rakes_106  ?_
      refine At.ti (congrArg nI wr_s) ?_
      refine ax_istore5 (pc := 107) dX5_rakes_107 rfl (by decide) ?_
      refine ax_inc6p1 (pc := 109) dX5_rakes_109 rfl (by decide) ?_
      refine ax_goto (pc := 112) (tgt := 60) dX5_rakes_112 (by decide) ?_
      rw [nI_1]
      exact ih (j + 1) (by omega) _ _
    · have er : ((wr s set j).1, (wr s set j).2.1, 0, (wr s set j).2.2.2.1, (wr s set j).2.2.2.2) = rkw set j (wr s set j) := (if_pos c80).symm
      refine ax_iconst (pc := 83) (v := nI 0) dX5_rakes_83 (by decide) ?_
      refine ax_goto (pc := 84) (tgt := 95) dX5_rakes_84 (by decide) ?_
      refine bx_slst dX5_rakes_95 (by decide) ((s6_u2 (b := 984)).trans (congrArg (fun w => s6 sl 984 w (s_fi s) g) er)) ?_
      refine ax_iload (pc := 96) dX5_rakes_96 rfl ?_
      refine ax_aload_n (pc := 98) dX5_rakes_98 rfl ?_
      refine ax_sipush (pc := 99) (v := nI 984) dX5_rakes_99 (by decide) ?_
      refine ax_iconst (pc := 102) (v := 0) dX5_rakes_102 (by decide) ?_
      refine ax_eVi2 (pc := 103) vX5_156 dX5_rakes_103 (by decide) (by exact hM_0) (Nat.le_of_ble_eq_true rfl) (c_X5_steps _ h (xs s nd) sl tu (s_D s) so fl dr md 984 (s_fi s) (rkw set j (wr s set j)) g (by decide) hD0 (rkw_ok (wr_ok hD0 hW0 j)) hfi rfl) ?_
      refine bx_iadd dX5_rakes_106  ?_
      refine At.ti (congrArg nI wr_s) ?_
      refine ax_istore5 (pc := 107) dX5_rakes_107 rfl (by decide) ?_
      refine ax_inc6p1 (pc := 109) dX5_rakes_109 rfl (by decide) ?_
      refine ax_goto (pc := 112) (tgt := 60) dX5_rakes_112 (by decide) ?_
      rw [nI_1]
      exact ih (j + 1) (by omega) _ _
def rkA (s : sg) (o : Option Nat) : Int32 × sg := match o with
  | none => (-9, s)
  | some f => (nI (sp_bc f 10), u_ask s (nI f))
theorem rk_un {s : sg} {n v : Nat} (hn : n ≤ 8) (hv : v ≤ 400) (h1 : 1 ≤ nI n ∧ nI n ≤ 8) (h2 : 0 ≤ nI v ∧ nI v ≤ 400) (h0 : ¬ (s_D s).1 = 0) : sp_rakes s (nI n) (nI v) = rkA s (sp_rk (rk_p s n v) (fun a => sp_bc a 10) (2 ^ n)) := by
  unfold sp_rakes
  rw [if_neg (by rintro (z | z); exact z h1; exact z h2), if_neg h0, ni_cl (by omega), ni_cl (by omega)]
  rfl
theorem bc10 {a : Nat} (h : a < 256) : sp_bc a 10 ≤ 8 := bc_le 8 (by decide) a h
set_option maxHeartbeats 4000000 in
set_option maxRecDepth 100000 in
theorem l_X5_rakes (dom : List Nat) (h : mh_H) (s : sg) (nd : Int32) (hv : IV s) (hd0 : ¬ (s_D s).1 = 0) (m v : Nat) (hm2 : m ≤ 8) (hv2 : v ≤ 400) : ∀ (nn j : Nat), j + nn = 2 ^ m → ∀ (sl : Nat → Int32) (tu : Int32) (l5 l6 : Option Value), MB s h sl → At mX5_rakes dom 4 42 [some (.ref 0), some (.int (nI m)), some (.int (nI v)), some (.int (rkV (sp_rk (rk_p s m v) (fun a => sp_bc a 10) j))), some (.int (nI j)), l5, l6] [] (hM h (xs s nd) sl tu) (mx_Ri (fun v' h' => v' = (rkA s (sp_rk (rk_p s m v) (fun a => sp_bc a 10) (2 ^ m))).1 ∧ MP (rkA s (sp_rk (rk_p s m v) (fun a => sp_bc a 10) (2 ^ m))).2 h')) := by
  intro nn
  induction nn with
  | zero =>
    intro j hj sl tu l5 l6 hinv
    have hj : j = 2 ^ m := by omega
    subst hj
    have h256 : 2 ^ m ≤ 2 ^ 8 := Nat.pow_le_pow_right (by decide) hm2
    refine ax_iload (pc := 42) dX5_rakes_42 rfl ?_
    refine ax_iconst (pc := 44) (v := 1) dX5_rakes_44 (by decide) ?_
    refine ax_iload_n (pc := 45) dX5_rakes_45 rfl ?_
    refine ax_ishl (pc := 46) dX5_rakes_46 ?_
    refine At.ti (ni_shl1 (by omega)) ?_
    refine ax_icmpge (pc := 47) (tgt := 150) dX5_rakes_47 (by decide) (fun _ => ?_) (fun q => absurd (nI_le (Nat.le_refl _) (by omega)) q)
    cases eo : (sp_rk (rk_p s m v) (fun a => sp_bc a 10) (2 ^ m)) with
    | none =>
      show At _ _ _ _ [_, _, _, some (.int (-9)), _, _, _] _ _ _
      refine ax_iload_n (pc := 150) dX5_rakes_150 rfl ?_
      refine ax_ifge (pc := 151) (tgt := 157) dX5_rakes_151 (by decide) (fun q => absurd q (by decide)) (fun _ => ?_)
      refine ax_bipush (pc := 154) (v := -9) dX5_rakes_154 (by decide) ?_
      refine ax_iret (pc := 156) dX5_rakes_156 rfl ?_
      exact ⟨_, rfl, rfl, hinv.mp⟩
    | some f =>
      have hf := rk_lt eo
      show At _ _ _ _ [_, _, _, some (.int (nI f)), _, _, _] _ _ _
      refine ax_iload_n (pc := 150) dX5_rakes_150 rfl ?_
      refine ax_ifge (pc := 151) (tgt := 157) dX5_rakes_151 (by decide) (fun _ => ?_) (fun q => absurd (nI_pos' (by omega)) q)
      refine ax_aload_n (pc := 157) dX5_rakes_157 rfl ?_
      refine ax_iload_n (pc := 158) dX5_rakes_158 rfl ?_
      refine bx_ptold gX5_75 dX5_rakes_159 ?_
      refine ax_iload_n (pc := 162) dX5_rakes_162 rfl ?_
      refine ax_eSi1 (pc := 163) sX5_176 dX5_rakes_163 (by decide) (Nat.le_of_ble_eq_true rfl) (c_X5_bits _ _ f (by omega)) ?_
      refine ax_iret (pc := 166) dX5_rakes_166 rfl ?_
      exact ⟨_, rfl, rfl, MB.mp (s := u_ask s _) hinv.ask⟩
  | succ nn ih =>
    intro j hj sl tu l5 l6 hinv
    have hlt : j < 2 ^ m := by omega
    have hm := hinv
    obtain ⟨⟨m1, f2, m2, mf⟩, ⟨m3, f4, m4, mg⟩, ⟨so, fl, dr, md⟩, mn, msl, mk, mc, ⟨wo, mw⟩⟩ := id hm
    have hn := hm.now
    have h40 := hv.2.2.2.1.1
    obtain ⟨d5, d6, d7, dR⟩ := id md
    obtain ⟨hD0, hW0, hfi⟩ := hv.w hd0
    have hWt : sp_W0 (s_D s).1 (s_t s) := hW0
    have h256 : 2 ^ m ≤ 2 ^ 8 := Nat.pow_le_pow_right (by decide) hm2
    refine ax_iload (pc := 42) dX5_rakes_42 rfl ?_
    refine ax_iconst (pc := 44) (v := 1) dX5_rakes_44 (by decide) ?_
    refine ax_iload_n (pc := 45) dX5_rakes_45 rfl ?_
    refine ax_ishl (pc := 46) dX5_rakes_46 ?_
    refine At.ti (ni_shl1 (by omega)) ?_
    refine ax_icmpge (pc := 47) (tgt := 150) dX5_rakes_47 (by decide) (fun q => absurd q (nI_ge hlt (by omega))) (fun _ => ?_)
    refine ax_aload_n (pc := 50) dX5_rakes_50 rfl ?_
    refine ax_eVv0 (pc := 51) vX5_164 dX5_rakes_51 (by decide) (by exact hM_0) (Nat.le_of_ble_eq_true rfl) (c_X5_try _ h s nd sl tu hn h40) ?_
    refine ax_iconst (pc := 54) (v := nI 0) dX5_rakes_54 (by decide) ?_
    refine ax_istore5 (pc := 55) dX5_rakes_55 rfl (by decide) ?_
    refine ax_iconst (pc := 57) (v := nI 0) dX5_rakes_57 (by decide) ?_
    refine ax_istore6 (pc := 58) dX5_rakes_58 rfl (by decide) ?_
    refine l_X5_rk1 dom h s nd sl hm hv hd0 m v j hm2 (by omega) (rkV (sp_rk (rk_p s m v) (fun a => sp_bc a 10) j)) _ (fun g1 tu1 => ?_) m 0 (by omega) _ _
    have hp : rk_p s m v j = true ↔ v ≤ (wr s j m).2.2.2.2 := decide_eq_true_iff
    have eg := nI_ltI (Nat.lt_of_le_of_lt (wr_g (set := j) hD0 hW0 m) (show 77 * m < 2 ^ 31 by omega)) (show v < 2 ^ 31 by omega)
    cases eo : (sp_rk (rk_p s m v) (fun a => sp_bc a 10) j) with
    | none =>
      show At _ _ _ _ [_, _, _, some (.int (-9)), _, _, _] _ _ _
      refine ax_iload (pc := 115) dX5_rakes_115 rfl ?_
      refine ax_iload_n (pc := 117) dX5_rakes_117 rfl ?_
      refine ax_icmplt (pc := 118) (tgt := 142) dX5_rakes_118 (by decide) (fun c118 => ?_) (fun c118 => ?_)
      · refine ax_iload_n (pc := 142) dX5_rakes_142 rfl ?_
        refine ax_istore3 (pc := 143) dX5_rakes_143 rfl (by decide) ?_
        refine ax_inc4p1 (pc := 144) dX5_rakes_144 rfl (by decide) ?_
        refine ax_goto (pc := 147) (tgt := 42) dX5_rakes_147 (by decide) ?_
        first
          | (have K := fun l5 l6 => ih (j + 1) (by omega) (s6 sl 984 (wr s j m) (s_fi s) g1) tu1 l5 l6 (hm.t hv); rw [nI_1]; rw [show sp_rk (rk_p s m v) (fun a => sp_bc a 10) (j + 1) = some j by rw [sp_rk, eo]; exact if_pos (hp.mpr (Nat.not_lt.mp (fun z => c118 (eg.mpr z))))] at K; exact K _ _)
          | (have K := fun l5 l6 => ih (j + 1) (by omega) (s6 sl 984 (wr s j m) (s_fi s) g1) tu1 l5 l6 (hm.t hv); rw [nI_1]; rw [show sp_rk (rk_p s m v) (fun a => sp_bc a 10) (j + 1) = none by rw [sp_rk, eo]; exact if_neg (fun z => absurd (hp.mp z) (Nat.not_le.mpr (eg.mp c118)))] at K; exact K _ _)
      · refine ax_iload_n (pc := 121) dX5_rakes_121 rfl ?_
        refine ax_iflt (pc := 122) (tgt := 137) dX5_rakes_122 (by decide) (fun _ => ?_) (fun q => absurd (by decide) q)
        refine ax_iload (pc := 137) dX5_rakes_137 rfl ?_
        refine ax_goto (pc := 139) (tgt := 143) dX5_rakes_139 (by decide) ?_
        refine ax_istore3 (pc := 143) dX5_rakes_143 rfl (by decide) ?_
        refine ax_inc4p1 (pc := 144) dX5_rakes_144 rfl (by decide) ?_
        refine ax_goto (pc := 147) (tgt := 42) dX5_rakes_147 (by decide) ?_
        first
          | (have K := fun l5 l6 => ih (j + 1) (by omega) (s6 sl 984 (wr s j m) (s_fi s) g1) tu1 l5 l6 (hm.t hv); rw [nI_1]; rw [show sp_rk (rk_p s m v) (fun a => sp_bc a 10) (j + 1) = some j by rw [sp_rk, eo]; exact if_pos (hp.mpr (Nat.not_lt.mp (fun z => c118 (eg.mpr z))))] at K; exact K _ _)
          | (have K := fun l5 l6 => ih (j + 1) (by omega) (s6 sl 984 (wr s j m) (s_fi s) g1) tu1 l5 l6 (hm.t hv); rw [nI_1]; rw [show sp_rk (rk_p s m v) (fun a => sp_bc a 10) (j + 1) = none by rw [sp_rk, eo]; exact if_neg (fun z => absurd (hp.mp z) (Nat.not_le.mpr (eg.mp c118)))] at K; exact K _ _)
    | some f =>
      have hf := rk_lt eo
      show At _ _ _ _ [_, _, _, some (.int (nI f)), _, _, _] _ _ _
      have eb := nI_leI (Nat.lt_of_le_of_lt (bc10 (show f < 256 by omega)) (show 8 < 2 ^ 31 by decide)) (Nat.lt_of_le_of_lt (bc10 (show j < 256 by omega)) (show 8 < 2 ^ 31 by decide))
      refine ax_iload (pc := 115) dX5_rakes_115 rfl ?_
      refine ax_iload_n (pc := 117) dX5_rakes_117 rfl ?_
      refine ax_icmplt (pc := 118) (tgt := 142) dX5_rakes_118 (by decide) (fun c118 => ?_) (fun c118 => ?_)
      · refine ax_iload_n (pc := 142) dX5_rakes_142 rfl ?_
        refine ax_istore3 (pc := 143) dX5_rakes_143 rfl (by decide) ?_
        refine ax_inc4p1 (pc := 144) dX5_rakes_144 rfl (by decide) ?_
        refine ax_goto (pc := 147) (tgt := 42) dX5_rakes_147 (by decide) ?_
        first
          | (have K := fun l5 l6 => ih (j + 1) (by omega) (s6 sl 984 (wr s j m) (s_fi s) g1) tu1 l5 l6 (hm.t hv); rw [nI_1]; rw [show sp_rk (rk_p s m v) (fun a => sp_bc a 10) (j + 1) = some j by rw [sp_rk, eo]; exact if_pos ⟨hp.mpr (Nat.not_lt.mp (fun z => c118 (eg.mpr z))), Nat.not_le.mp (fun z => c134 (eb.mpr z))⟩] at K; exact K _ _)
          | (have K := fun l5 l6 => ih (j + 1) (by omega) (s6 sl 984 (wr s j m) (s_fi s) g1) tu1 l5 l6 (hm.t hv); rw [nI_1]; rw [show sp_rk (rk_p s m v) (fun a => sp_bc a 10) (j + 1) = some f by rw [sp_rk, eo]; exact if_neg (fun z => absurd (eb.mp c134) (Nat.not_le.mpr z.2))] at K; exact K _ _)
          | (have K := fun l5 l6 => ih (j + 1) (by omega) (s6 sl 984 (wr s j m) (s_fi s) g1) tu1 l5 l6 (hm.t hv); rw [nI_1]; rw [show sp_rk (rk_p s m v) (fun a => sp_bc a 10) (j + 1) = some f by rw [sp_rk, eo]; exact if_neg (fun z => absurd (hp.mp z.1) (Nat.not_le.mpr (eg.mp c118)))] at K; exact K _ _)
      · refine ax_iload_n (pc := 121) dX5_rakes_121 rfl ?_
        refine ax_iflt (pc := 122) (tgt := 137) dX5_rakes_122 (by decide) (fun q => absurd q (nI_pos (by omega))) (fun _ => ?_)
        refine ax_iload (pc := 125) dX5_rakes_125 rfl ?_
        refine ax_eSi1 (pc := 127) sX5_176 dX5_rakes_127 (by decide) (Nat.le_of_ble_eq_true rfl) (c_X5_bits _ _ j (by omega)) ?_
        refine ax_iload_n (pc := 130) dX5_rakes_130 rfl ?_
        refine ax_eSi1 (pc := 131) sX5_176 dX5_rakes_131 (by decide) (Nat.le_of_ble_eq_true rfl) (c_X5_bits _ _ f (by omega)) ?_
        refine ax_icmpge (pc := 134) (tgt := 142) dX5_rakes_134 (by decide) (fun c134 => ?_) (fun c134 => ?_)
        · refine ax_iload_n (pc := 142) dX5_rakes_142 rfl ?_
          refine ax_istore3 (pc := 143) dX5_rakes_143 rfl (by decide) ?_
          refine ax_inc4p1 (pc := 144) dX5_rakes_144 rfl (by decide) ?_
          refine ax_goto (pc := 147) (tgt := 42) dX5_rakes_147 (by decide) ?_
          first
            | (have K := fun l5 l6 => ih (j + 1) (by omega) (s6 sl 984 (wr s j m) (s_fi s) g1) tu1 l5 l6 (hm.t hv); rw [nI_1]; rw [show sp_rk (rk_p s m v) (fun a => sp_bc a 10) (j + 1) = some j by rw [sp_rk, eo]; exact if_pos ⟨hp.mpr (Nat.not_lt.mp (fun z => c118 (eg.mpr z))), Nat.not_le.mp (fun z => c134 (eb.mpr z))⟩] at K; exact K _ _)
            | (have K := fun l5 l6 => ih (j + 1) (by omega) (s6 sl 984 (wr s j m) (s_fi s) g1) tu1 l5 l6 (hm.t hv); rw [nI_1]; rw [show sp_rk (rk_p s m v) (fun a => sp_bc a 10) (j + 1) = some f by rw [sp_rk, eo]; exact if_neg (fun z => absurd (eb.mp c134) (Nat.not_le.mpr z.2))] at K; exact K _ _)
            | (have K := fun l5 l6 => ih (j + 1) (by omega) (s6 sl 984 (wr s j m) (s_fi s) g1) tu1 l5 l6 (hm.t hv); rw [nI_1]; rw [show sp_rk (rk_p s m v) (fun a => sp_bc a 10) (j + 1) = some f by rw [sp_rk, eo]; exact if_neg (fun z => absurd (hp.mp z.1) (Nat.not_le.mpr (eg.mp c118)))] at K; exact K _ _)
        · refine ax_iload (pc := 137) dX5_rakes_137 rfl ?_
          refine ax_goto (pc := 139) (tgt := 143) dX5_rakes_139 (by decide) ?_
          refine ax_istore3 (pc := 143) dX5_rakes_143 rfl (by decide) ?_
          refine ax_inc4p1 (pc := 144) dX5_rakes_144 rfl (by decide) ?_
          refine ax_goto (pc := 147) (tgt := 42) dX5_rakes_147 (by decide) ?_
          first
            | (have K := fun l5 l6 => ih (j + 1) (by omega) (s6 sl 984 (wr s j m) (s_fi s) g1) tu1 l5 l6 (hm.t hv); rw [nI_1]; rw [show sp_rk (rk_p s m v) (fun a => sp_bc a 10) (j + 1) = some j by rw [sp_rk, eo]; exact if_pos ⟨hp.mpr (Nat.not_lt.mp (fun z => c118 (eg.mpr z))), Nat.not_le.mp (fun z => c134 (eb.mpr z))⟩] at K; exact K _ _)
            | (have K := fun l5 l6 => ih (j + 1) (by omega) (s6 sl 984 (wr s j m) (s_fi s) g1) tu1 l5 l6 (hm.t hv); rw [nI_1]; rw [show sp_rk (rk_p s m v) (fun a => sp_bc a 10) (j + 1) = some f by rw [sp_rk, eo]; exact if_neg (fun z => absurd (eb.mp c134) (Nat.not_le.mpr z.2))] at K; exact K _ _)
            | (have K := fun l5 l6 => ih (j + 1) (by omega) (s6 sl 984 (wr s j m) (s_fi s) g1) tu1 l5 l6 (hm.t hv); rw [nI_1]; rw [show sp_rk (rk_p s m v) (fun a => sp_bc a 10) (j + 1) = some f by rw [sp_rk, eo]; exact if_neg (fun z => absurd (hp.mp z.1) (Nat.not_le.mpr (eg.mp c118)))] at K; exact K _ _)
set_option maxHeartbeats 4000000 in
set_option maxRecDepth 100000 in
theorem c_X5_rakes (dom : List Nat) (h : mh_H) (s : sg) (nd : Int32) (sl : Nat → Int32) (tu : Int32) (n v : Int32) (hm : MB s h sl) (hv : IV s) : Mt mX5_rakes dom 4 [.ref 0, .int n, .int v] (hM h (xs s nd) sl tu) (mx_Ri (fun v' h' => v' = (sp_rakes s n v).1 ∧ MP (sp_rakes s n v).2 h')) := by
  refine Mt.of (L := [some (.ref 0), some (.int n), some (.int v), none, none, none, none]) rfl (Nat.le_of_ble_eq_true rfl) rfl ?_
  obtain ⟨⟨m1, f2, m2, mf⟩, ⟨m3, f4, m4, mg⟩, ⟨so, fl, dr, md⟩, mn, msl, mk, mc, ⟨wo, mw⟩⟩ := id hm
  have hn := hm.now
  have h40 := hv.2.2.2.1.1
  obtain ⟨d5, d6, d7, dR⟩ := id md
  refine ax_iload_n (pc := 0) dX5_rakes_0 rfl ?_
  refine ax_i2l (pc := 1) dX5_rakes_1 ?_
  refine ax_lconst (pc := 2) (v := 1) dX5_rakes_2 (by decide) ?_
  refine ax_ldc2 (pc := 3) dX5_rakes_3 tw_900 ?_
  refine ax_eSi3 (pc := 6) sX5_63 dX5_rakes_6 (by decide) (Nat.le_of_ble_eq_true rfl) (c_X5_in _ _ n 1 8 _ _ (by decide) (by decide)) ?_
  refine ax_ifeqB (pc := 9) (tgt := 24) dX5_rakes_9 (by decide) (fun c9a => ?_) (fun c9a => ?_)
  · refine ax_iconst (pc := 24) (v := -1) dX5_rakes_24 (by decide) ?_
    refine ax_iret (pc := 25) dX5_rakes_25 rfl ?_
    exact fin_m (by unfold sp_rakes; first | exact if_pos (Or.inl c9a) | exact if_pos (Or.inr c21)) hm.mp
  · refine ax_iload_n (pc := 12) dX5_rakes_12 rfl ?_
    refine ax_i2l (pc := 13) dX5_rakes_13 ?_
    refine ax_lconst (pc := 14) (v := 0) dX5_rakes_14 (by decide) ?_
    refine ax_ldc2 (pc := 15) dX5_rakes_15 tw_901 ?_
    refine ax_eSi3 (pc := 18) sX5_63 dX5_rakes_18 (by decide) (Nat.le_of_ble_eq_true rfl) (c_X5_in _ _ v 0 400 _ _ (by decide) (by decide)) ?_
    refine ax_ifneB (pc := 21) (tgt := 26) dX5_rakes_21 (by decide) (fun c21 => ?_) (fun c21 => ?_)
    · refine ax_aload_n (pc := 26) dX5_rakes_26 rfl ?_
      refine ax_getf (pc := 27) fX5_97 dX5_rakes_27 (by exact hM_0) rfl ?_
      refine ax_ifne (pc := 30) (tgt := 36) dX5_rakes_30 (by decide) (fun c30 => ?_) (fun c30 => ?_)
      · obtain ⟨m, hm2, rfl⟩ := nI_of2 (n := 8) (M := 8) rfl (Int32.not_lt.mpr (Int32.le_trans (by decide) c9a.1)) c9a.2
        obtain ⟨v, hv2, rfl⟩ := nI_of2 (n := 400) (M := 400) rfl (Int32.not_lt.mpr c21.1) c21.2
        have hd0 : ¬ (s_D s).1 = 0 := fun q => c30 (by show nI (s_D s).1 = 0; rw [q]; rfl)
        obtain ⟨hD0, hW0, hfi⟩ := hv.w hd0
        have hWt : sp_W0 (s_D s).1 (s_t s) := hW0
        refine ax_bipush (pc := 36) (v := -9) dX5_rakes_36 (by decide) ?_
        refine ax_istore3 (pc := 38) dX5_rakes_38 rfl (by decide) ?_
        refine ax_iconst (pc := 39) (v := nI 0) dX5_rakes_39 (by decide) ?_
        refine ax_istore4 (pc := 40) dX5_rakes_40 rfl (by decide) ?_
        rw [rk_un hm2 hv2 c9a c21 hd0]
        exact l_X5_rakes dom h s nd hv hd0 m v hm2 hv2 (2 ^ m) 0 (by omega) sl tu none none hm
      · refine ax_bipush (pc := 33) (v := -4) dX5_rakes_33 (by decide) ?_
        refine ax_iret (pc := 35) dX5_rakes_35 rfl ?_
        exact fin_m (by unfold sp_rakes; rw [if_neg (by rintro (z | z); exact z c9a; exact z c21), if_pos ((nI_eq (by have := hv.2.2.1.1; omega) (show 0 < 2 ^ 31 by decide)).mp c30)]) hm.mp
    · refine ax_iconst (pc := 24) (v := -1) dX5_rakes_24 (by decide) ?_
      refine ax_iret (pc := 25) dX5_rakes_25 rfl ?_
      exact fin_m (by unfold sp_rakes; first | exact if_pos (Or.inl c9a) | exact if_pos (Or.inr c21)) hm.mp
set_option maxHeartbeats 4000000 in
set_option maxRecDepth 100000 in
theorem l_X5_tells (dom : List Nat) (h : mh_H) (x : mxT) (sl : Nat → Int32) (tu : Int32) (A B g : Nat) (hA : A < 2 ^ 60) (hB : B < 2 ^ 60) (hg0 : 0 < g) (hg2 : g < 2 ^ 60) : ∀ (n b a : Nat) (l9 : Option Value), b ≤ n → a < 2 ^ 60 → b < 2 ^ 60 → Nat.gcd a b = g → At mX5_tells dom 0 6 [some (.ref 0), some (.long (lN A)), none, some (.long (lN B)), none, some (.long (lN a)), none, some (.long (lN b)), none, l9, none] [] (hM h x sl tu) (mx_Rv (fun h' => h' = hM h (x.1, x.2.1, x.2.2.1, x.2.2.2.1, lN (A / g), lN (B / g), x.2.2.2.2.2.2) sl tu)) := by
  intro n
  induction n with
  | zero =>
    intro b a l9 hbn ha2 hb2 hg
    have hb : b = 0 := by omega
    have hga : a = g := by rw [← hg, hb, Nat.gcd_zero_right]
    subst hga
    refine ax_lload (pc := 6) dX5_tells_6 rfl ?_
    refine ax_lconst (pc := 8) (v := 0) dX5_tells_8 (by decide) ?_
    refine ax_lcmp (pc := 9) dX5_tells_9 ?_
    refine ax_ifeq (pc := 10) (tgt := 31) dX5_tells_10 (by decide) (fun _ => ?_) (fun q => absurd ((lc_0 (by omega)).mpr hb) q)
    refine ax_aload_n (pc := 31) dX5_tells_31 rfl ?_
    refine ax_lload_n (pc := 32) dX5_tells_32 rfl ?_
    refine ax_lload (pc := 33) dX5_tells_33 rfl ?_
    refine bx_ldiv dX5_tells_35 (by omega) (by omega) (by omega) ?_
    refine bx_pupper gX5_193 dX5_tells_36 ?_
    refine ax_aload_n (pc := 39) dX5_tells_39 rfl ?_
    refine ax_lload_n (pc := 40) dX5_tells_40 rfl ?_
    refine ax_lload (pc := 41) dX5_tells_41 rfl ?_
    refine bx_ldiv dX5_tells_43 (by omega) (by omega) (by omega) ?_
    refine bx_plower gX5_47 dX5_tells_44 ?_
    refine ax_vret (pc := 47) dX5_tells_47 rfl ?_
    exact ⟨rfl, rfl⟩
  | succ n ih =>
    intro b a l9 hbn ha2 hb2 hg
    by_cases hb : b = 0
    · have hga : a = g := by rw [← hg, hb, Nat.gcd_zero_right]
      subst hga
      refine ax_lload (pc := 6) dX5_tells_6 rfl ?_
      refine ax_lconst (pc := 8) (v := 0) dX5_tells_8 (by decide) ?_
      refine ax_lcmp (pc := 9) dX5_tells_9 ?_
      refine ax_ifeq (pc := 10) (tgt := 31) dX5_tells_10 (by decide) (fun _ => ?_) (fun q => absurd ((lc_0 (by omega)).mpr hb) q)
      refine ax_aload_n (pc := 31) dX5_tells_31 rfl ?_
      refine ax_lload_n (pc := 32) dX5_tells_32 rfl ?_
      refine ax_lload (pc := 33) dX5_tells_33 rfl ?_
      refine bx_ldiv dX5_tells_35 (by omega) (by omega) (by omega) ?_
      refine bx_pupper gX5_193 dX5_tells_36 ?_
      refine ax_aload_n (pc := 39) dX5_tells_39 rfl ?_
      refine ax_lload_n (pc := 40) dX5_tells_40 rfl ?_
      refine ax_lload (pc := 41) dX5_tells_41 rfl ?_
      refine bx_ldiv dX5_tells_43 (by omega) (by omega) (by omega) ?_
      refine bx_plower gX5_47 dX5_tells_44 ?_
      refine ax_vret (pc := 47) dX5_tells_47 rfl ?_
      exact ⟨rfl, rfl⟩
    · skip
      refine ax_lload (pc := 6) dX5_tells_6 rfl ?_
      refine ax_lconst (pc := 8) (v := 0) dX5_tells_8 (by decide) ?_
      refine ax_lcmp (pc := 9) dX5_tells_9 ?_
      refine ax_ifeq (pc := 10) (tgt := 31) dX5_tells_10 (by decide) (fun q => absurd q (fun z => hb ((lc_0 (by omega)).mp z))) (fun _ => ?_)
      refine ax_lload (pc := 13) dX5_tells_13 rfl ?_
      refine ax_lload (pc := 15) dX5_tells_15 rfl ?_
      refine bx_lrem dX5_tells_17 (by omega) (by omega) (by omega) ?_
      refine ax_lstore9 (pc := 18) dX5_tells_18 rfl (by decide) ?_
      refine ax_lload (pc := 20) dX5_tells_20 rfl ?_
      refine ax_lstore5 (pc := 22) dX5_tells_22 rfl (by decide) ?_
      refine ax_lload (pc := 24) dX5_tells_24 rfl ?_
      refine ax_lstore7 (pc := 26) dX5_tells_26 rfl (by decide) ?_
      refine ax_goto (pc := 28) (tgt := 6) dX5_tells_28 (by decide) ?_
      exact ih (a % b) b (some (.long (lN (a % b)))) (by have := Nat.mod_lt a (show 0 < b by omega); omega) hb2 (by have := Nat.mod_lt a (show 0 < b by omega); omega) (by rw [← hg, Nat.gcd_comm b (a % b), ← Nat.gcd_rec, Nat.gcd_comm])
set_option maxHeartbeats 4000000 in
set_option maxRecDepth 100000 in
theorem c_X5_tells (dom : List Nat) (h : mh_H) (s : sg) (nd : Int32) (sl : Nat → Int32) (tu : Int32) (A B : Nat) (hA : A < 2 ^ 60) (hB : B < 2 ^ 60) (hB0 : 0 < B) (hm : MB s h sl) : Mt mX5_tells dom 0 [.ref 0, .long (lN A), .long (lN B)] (hM h (xs s nd) sl tu) (mx_Rv (fun h' => MP (sp_tl s A B) h')) := by
  refine Mt.of (L := [some (.ref 0), some (.long (lN A)), none, some (.long (lN B)), none, none, none, none, none, none, none]) rfl (Nat.le_of_ble_eq_true rfl) rfl ?_
  refine ax_lload_n (pc := 0) dX5_tells_0 rfl ?_
  refine ax_lstore5 (pc := 1) dX5_tells_1 rfl (by decide) ?_
  refine ax_lload_n (pc := 3) dX5_tells_3 rfl ?_
  refine ax_lstore7 (pc := 4) dX5_tells_4 rfl (by decide) ?_
  refine At.mono ?_ (l_X5_tells dom h (xs s nd) sl tu A B (Nat.gcd A B) hA hB (Nat.gcd_pos_of_pos_right A hB0) (Nat.lt_of_le_of_lt (Nat.gcd_le_right A hB0) hB) B B A none (Nat.le_refl _) hA hB rfl)
  rintro r h1 ⟨rfl, rfl⟩
  exact ⟨rfl, MB.mp (s := sp_tl s A B) hm.tell⟩
def wq (p set : Nat) : Nat → Nat
  | 0 => 1
  | j + 1 => wq p set j * (if set.testBit j = true then p else 12 - p)
theorem bc_j (a : Nat) : ∀ j, sp_bc a j ≤ j
  | 0 => Nat.le_refl _
  | j + 1 => by
    have := bc_j a j
    rw [sp_bc]
    split <;> omega
theorem wq_e (p set : Nat) : ∀ j, wq p set j = p ^ sp_bc set j * (12 - p) ^ (j - sp_bc set j)
  | 0 => rfl
  | j + 1 => by
    have h := bc_j set j
    rw [wq, wq_e p set j, sp_bc]
    by_cases hb : set.testBit j = true
    · rw [if_pos hb, if_pos hb, Nat.pow_succ, show j + 1 - (sp_bc set j + 1) = j - sp_bc set j by omega]
      exact Nat.mul_right_comm _ _ _
    · rw [if_neg hb, if_neg hb, Nat.add_zero, show j + 1 - sp_bc set j = (j - sp_bc set j) + 1 by omega, Nat.pow_succ]
      exact Nat.mul_assoc _ _ _
theorem bc_64 : ∀ a, a < 64 → sp_bc a 10 = sp_bc a 6 := by decide +kernel
theorem wq_6 {p set : Nat} (h : set < 64) : wq p set 6 = sp_wt p set := by
  unfold sp_wt
  rw [bc_64 set h, wq_e]
set_option maxHeartbeats 4000000 in
set_option maxRecDepth 100000 in
theorem l_X5_wg1 (dom : List Nat) (h : mh_H) (s : sg) (nd : Int32) (sl : Nat → Int32) (hm : MB s h sl) (hv : IV s) (hd0 : ¬ (s_D s).1 = 0) (p set : Nat) (hp : p ≤ 12) (hset : set < 64) (v : Int32) (all : Int64) (Q : Option Value → mh_H → Prop) (KK : ∀ g tu, At mX5_weighs dom 4 82 [some (.ref 0), some (.int v), some (.int (nI p)), some (.long all), none, some (.int (nI set)), some (.long (lN (wq p set 6))), none, some (.int (nI (wdr s set 6).2.2.2.2)), some (.int (nI 6))] [] (hM h (xs s nd) (s6 sl 984 (wdr s set 6) (s_fi s) g) tu) Q) : ∀ (nn j : Nat), j + nn = 6 → ∀ (g tu : Int32), At mX5_weighs dom 4 25 [some (.ref 0), some (.int v), some (.int (nI p)), some (.long all), none, some (.int (nI set)), some (.long (lN (wq p set j))), none, some (.int (nI (wdr s set j).2.2.2.2)), some (.int (nI j))] [] (hM h (xs s nd) (s6 sl 984 (wdr s set j) (s_fi s) g) tu) Q := by
  intro nn
  induction nn with
  | zero =>
    intro j hj g tu
    have hj : j = 6 := by omega
    subst hj
    refine ax_iload (pc := 25) dX5_weighs_25 rfl ?_
    refine ax_bipush (pc := 27) (v := nI 6) dX5_weighs_27 (by decide) ?_
    refine ax_icmpge (pc := 29) (tgt := 82) dX5_weighs_29 (by decide) (fun _ => ?_) (fun q => absurd (by decide) q)
    exact KK _ _
  | succ nn ih =>
    intro j hj g tu
    have hlt : j < 6 := by omega
    obtain ⟨⟨m1, f2, m2, mf⟩, ⟨m3, f4, m4, mg⟩, ⟨so, fl, dr, md⟩, mn, msl, mk, mc, ⟨wo, mw⟩⟩ := id hm
    have hn := hm.now
    have h40 := hv.2.2.2.1.1
    obtain ⟨d5, d6, d7, dR⟩ := id md
    obtain ⟨hD0, hW0, hfi⟩ := hv.w hd0
    refine ax_iload (pc := 25) dX5_weighs_25 rfl ?_
    refine ax_bipush (pc := 27) (v := nI 6) dX5_weighs_27 (by decide) ?_
    refine ax_icmpge (pc := 29) (tgt := 82) dX5_weighs_29 (by decide) (fun q => absurd q (by rw [nI_leI (by decide) (by omega)]; omega)) (fun _ => ?_)
    by_cases hb : set.testBit j = true
    · refine ax_lload (pc := 32) dX5_weighs_32 rfl ?_
      refine ax_iload (pc := 34) dX5_weighs_34 rfl ?_
      refine ax_iload (pc := 36) dX5_weighs_36 rfl ?_
      refine ax_eSi2 (pc := 38) sX5_109 dX5_weighs_38 (by decide) (Nat.le_of_ble_eq_true rfl) (c_X5_has _ _ set j (by omega) (by omega)) ?_
      refine ax_ifeq (pc := 41) (tgt := 49) dX5_weighs_41 (by decide) (fun q => absurd q (fun z => bi_0.mp z hb)) (fun _ => ?_)
      refine ax_iload_n (pc := 44) dX5_weighs_44 rfl ?_
      refine bx_i2l dX5_weighs_45 (by omega) ?_
      refine ax_goto (pc := 46) (tgt := 54) dX5_weighs_46 (by decide) ?_
      refine bx_lmul dX5_weighs_54  ?_
      refine ax_lstore6 (pc := 55) dX5_weighs_55 rfl (by decide) ?_
      refine ax_iload (pc := 57) dX5_weighs_57 rfl ?_
      refine ax_aload_n (pc := 59) dX5_weighs_59 rfl ?_
      refine ax_sipush (pc := 60) (v := nI 984) dX5_weighs_60 (by decide) ?_
      refine ax_iload (pc := 63) dX5_weighs_63 rfl ?_
      refine ax_iload (pc := 65) dX5_weighs_65 rfl ?_
      refine ax_eSi2 (pc := 67) sX5_109 dX5_weighs_67 (by decide) (Nat.le_of_ble_eq_true rfl) (c_X5_has _ _ set j (by omega) (by omega)) ?_
      refine At.ti (if_pos hb) ?_
      refine ax_eVi2 (pc := 70) vX5_156 dX5_weighs_70 (by decide) (by exact hM_0) (Nat.le_of_ble_eq_true rfl) (c_X5_stepsT _ h (xs s nd) sl tu (s_D s) so fl dr md 984 (s_fi s) (wdr s set j) g (by decide) hD0 (wdr_ok hD0 hW0 j) hfi rfl) ?_
      refine At.ti (x' := nI 0) rfl ?_
      refine bx_iadd dX5_weighs_73  ?_
      refine ax_istore8 (pc := 74) dX5_weighs_74 rfl (by decide) ?_
      refine ax_inc9p1 (pc := 76) dX5_weighs_76 rfl (by decide) ?_
      refine ax_goto (pc := 79) (tgt := 25) dX5_weighs_79 (by decide) ?_
      rw [nI_1]
      have K := fun g2 tu2 => ih (j + 1) (by omega) g2 tu2
      rw [show wdr s set (j + 1) = dryW (s_D s).1 (wdr s set j) from if_pos hb, show wq p set (j + 1) = wq p set j * p by rw [wq, if_pos hb]] at K
      exact K _ _
    · refine ax_lload (pc := 32) dX5_weighs_32 rfl ?_
      refine ax_iload (pc := 34) dX5_weighs_34 rfl ?_
      refine ax_iload (pc := 36) dX5_weighs_36 rfl ?_
      refine ax_eSi2 (pc := 38) sX5_109 dX5_weighs_38 (by decide) (Nat.le_of_ble_eq_true rfl) (c_X5_has _ _ set j (by omega) (by omega)) ?_
      refine ax_ifeq (pc := 41) (tgt := 49) dX5_weighs_41 (by decide) (fun _ => ?_) (fun q => absurd (bi_0.mpr hb) q)
      refine ax_bipush (pc := 49) (v := nI 12) dX5_weighs_49 (by decide) ?_
      refine ax_iload_n (pc := 51) dX5_weighs_51 rfl ?_
      refine bx_isub dX5_weighs_52 (by omega) ?_
      refine bx_i2l dX5_weighs_53 (by omega) ?_
      refine bx_lmul dX5_weighs_54  ?_
      refine ax_lstore6 (pc := 55) dX5_weighs_55 rfl (by decide) ?_
      refine ax_iload (pc := 57) dX5_weighs_57 rfl ?_
      refine ax_aload_n (pc := 59) dX5_weighs_59 rfl ?_
      refine ax_sipush (pc := 60) (v := nI 984) dX5_weighs_60 (by decide) ?_
      refine ax_iload (pc := 63) dX5_weighs_63 rfl ?_
      refine ax_iload (pc := 65) dX5_weighs_65 rfl ?_
      refine ax_eSi2 (pc := 67) sX5_109 dX5_weighs_67 (by decide) (Nat.le_of_ble_eq_true rfl) (c_X5_has _ _ set j (by omega) (by omega)) ?_
      refine At.ti (if_neg hb) ?_
      refine ax_eVi2 (pc := 70) vX5_156 dX5_weighs_70 (by decide) (by exact hM_0) (Nat.le_of_ble_eq_true rfl) (c_X5_steps _ h (xs s nd) sl tu (s_D s) so fl dr md 984 (s_fi s) (wdr s set j) g (by decide) hD0 (wdr_ok hD0 hW0 j) hfi rfl) ?_
      refine bx_iadd dX5_weighs_73  ?_
      refine ax_istore8 (pc := 74) dX5_weighs_74 rfl (by decide) ?_
      refine ax_inc9p1 (pc := 76) dX5_weighs_76 rfl (by decide) ?_
      refine ax_goto (pc := 79) (tgt := 25) dX5_weighs_79 (by decide) ?_
      rw [nI_1]
      have K := fun g2 tu2 => ih (j + 1) (by omega) g2 tu2
      rw [show wdr s set (j + 1) = sp_st (s_D s) (s_fi s) (wdr s set j) from if_neg hb, show wq p set (j + 1) = wq p set j * (12 - p) by rw [wq, if_neg hb]] at K
      exact K _ _
set_option maxHeartbeats 4000000 in
set_option maxRecDepth 100000 in
theorem l_X5_wgO (dom : List Nat) (h : mh_H) (s : sg) (nd : Int32) (hv : IV s) (hd0 : ¬ (s_D s).1 = 0) (v p : Nat) (hv2 : v ≤ 400) (hp : p ≤ 12) : ∀ (nn j : Nat), j + nn = 64 → ∀ (sl : Nat → Int32) (tu : Int32) (l6 l8 l9 : Option Value), MB s h sl → At mX5_weighs dom 4 5 [some (.ref 0), some (.int (nI v)), some (.int (nI p)), some (.long (lN (sp_od s v p j))), none, some (.int (nI j)), l6, none, l8, l9] [] (hM h (xs s nd) sl tu) (mx_Rl (fun v' h' => v' = lN (sp_od s v p 64) ∧ ∃ sl' tu', h' = hM h (xs s nd) sl' tu' ∧ MB s h sl')) := by
  intro nn
  induction nn with
  | zero =>
    intro j hj sl tu l6 l8 l9 hinv
    have hj : j = 64 := by omega
    subst hj
    refine ax_iload (pc := 5) dX5_weighs_5 rfl ?_
    refine ax_bipush (pc := 7) (v := nI 64) dX5_weighs_7 (by decide) ?_
    refine ax_icmpge (pc := 9) (tgt := 116) dX5_weighs_9 (by decide) (fun _ => ?_) (fun q => absurd (by decide) q)
    refine ax_lload_n (pc := 116) dX5_weighs_116 rfl ?_
    refine ax_lret (pc := 117) dX5_weighs_117 rfl ?_
    exact ⟨_, rfl, rfl, _, _, rfl, hinv⟩
  | succ nn ih =>
    intro j hj sl tu l6 l8 l9 hinv
    have hlt : j < 64 := by omega
    have hm := hinv
    obtain ⟨⟨m1, f2, m2, mf⟩, ⟨m3, f4, m4, mg⟩, ⟨so, fl, dr, md⟩, mn, msl, mk, mc, ⟨wo, mw⟩⟩ := id hm
    have hn := hm.now
    have h40 := hv.2.2.2.1.1
    obtain ⟨d5, d6, d7, dR⟩ := id md
    obtain ⟨hD0, hW0, hfi⟩ := hv.w hd0
    have hWt : sp_W0 (s_D s).1 (s_t s) := hW0
    refine ax_iload (pc := 5) dX5_weighs_5 rfl ?_
    refine ax_bipush (pc := 7) (v := nI 64) dX5_weighs_7 (by decide) ?_
    refine ax_icmpge (pc := 9) (tgt := 116) dX5_weighs_9 (by decide) (fun q => absurd q (by rw [nI_leI (by decide) (by omega)]; omega)) (fun _ => ?_)
    refine ax_aload_n (pc := 12) dX5_weighs_12 rfl ?_
    refine ax_eVv0 (pc := 13) vX5_164 dX5_weighs_13 (by decide) (by exact hM_0) (Nat.le_of_ble_eq_true rfl) (c_X5_try _ h s nd sl tu hn h40) ?_
    refine ax_lconst (pc := 16) (v := 1) dX5_weighs_16 (by decide) ?_
    refine ax_lstore6 (pc := 17) dX5_weighs_17 rfl (by decide) ?_
    refine ax_iconst (pc := 19) (v := nI 0) dX5_weighs_19 (by decide) ?_
    refine ax_istore8 (pc := 20) dX5_weighs_20 rfl (by decide) ?_
    refine ax_iconst (pc := 22) (v := nI 0) dX5_weighs_22 (by decide) ?_
    refine ax_istore9 (pc := 23) dX5_weighs_23 rfl (by decide) ?_
    refine l_X5_wg1 dom h s nd sl hm hv hd0 p j hp hlt _ _ _ (fun g1 tu1 => ?_) 6 0 (by omega) _ _
    have eg := nI_ltI (Nat.lt_of_le_of_lt (wdr_g (dry := j) hD0 hW0 6) (show 77 * 6 < 2 ^ 31 by decide)) (show v < 2 ^ 31 by omega)
    refine ax_lload_n (pc := 82) dX5_weighs_82 rfl ?_
    refine ax_iload_n (pc := 83) dX5_weighs_83 rfl ?_
    refine ax_ifge (pc := 84) (tgt := 96) dX5_weighs_84 (by decide) (fun _ => ?_) (fun q => absurd (nI_pos' (by omega)) q)
    refine ax_iload (pc := 96) dX5_weighs_96 rfl ?_
    refine ax_iload_n (pc := 98) dX5_weighs_98 rfl ?_
    refine ax_icmplt (pc := 99) (tgt := 107) dX5_weighs_99 (by decide) (fun c99 => ?_) (fun c99 => ?_)
    · refine ax_lconst (pc := 107) (v := 0) dX5_weighs_107 (by decide) ?_
      refine ax_ladd (pc := 108) dX5_weighs_108 ?_
      refine ax_lstore3 (pc := 109) dX5_weighs_109 rfl (by decide) ?_
      refine ax_inc5p1 (pc := 110) dX5_weighs_110 rfl (by decide) ?_
      refine ax_goto (pc := 113) (tgt := 5) dX5_weighs_113 (by decide) ?_
      have K := fun l6 l8 l9 => ih (j + 1) (by omega) (s6 sl 984 (wdr s j 6) (s_fi s) g1) tu1 l6 l8 l9 (hm.t hv)
      rw [sp_od] at K
      rw [nI_1, wq_6 hlt]
      first
        | (rw [if_neg (Nat.not_le.mpr (eg.mp c99)), Nat.add_zero] at K; rw [Int64.add_zero]; exact K _ _ _)
        | (rw [if_pos (Nat.not_lt.mp (fun z => c99 (eg.mpr z))), ← lN_add] at K; exact K _ _ _)
    · refine ax_lload (pc := 102) dX5_weighs_102 rfl ?_
      refine ax_goto (pc := 104) (tgt := 108) dX5_weighs_104 (by decide) ?_
      refine ax_ladd (pc := 108) dX5_weighs_108 ?_
      refine ax_lstore3 (pc := 109) dX5_weighs_109 rfl (by decide) ?_
      refine ax_inc5p1 (pc := 110) dX5_weighs_110 rfl (by decide) ?_
      refine ax_goto (pc := 113) (tgt := 5) dX5_weighs_113 (by decide) ?_
      have K := fun l6 l8 l9 => ih (j + 1) (by omega) (s6 sl 984 (wdr s j 6) (s_fi s) g1) tu1 l6 l8 l9 (hm.t hv)
      rw [sp_od] at K
      rw [nI_1, wq_6 hlt]
      first
        | (rw [if_neg (Nat.not_le.mpr (eg.mp c99)), Nat.add_zero] at K; rw [Int64.add_zero]; exact K _ _ _)
        | (rw [if_pos (Nat.not_lt.mp (fun z => c99 (eg.mpr z))), ← lN_add] at K; exact K _ _ _)
set_option maxHeartbeats 4000000 in
set_option maxRecDepth 100000 in
theorem c_X5_weighsO (dom : List Nat) (h : mh_H) (s : sg) (nd : Int32) (sl : Nat → Int32) (tu : Int32) (hm : MB s h sl) (hv : IV s) (hd0 : ¬ (s_D s).1 = 0) (v p : Nat) (hv2 : v ≤ 400) (hp : p ≤ 12) : Mt mX5_weighs dom 4 [.ref 0, .int (nI v), .int (nI p)] (hM h (xs s nd) sl tu) (mx_Rl (fun v' h' => v' = lN (sp_od s v p 64) ∧ ∃ sl' tu', h' = hM h (xs s nd) sl' tu' ∧ MB s h sl')) := by
  refine Mt.of (L := [some (.ref 0), some (.int (nI v)), some (.int (nI p)), none, none, none, none, none, none, none]) rfl (Nat.le_of_ble_eq_true rfl) rfl ?_
  refine ax_lconst (pc := 0) (v := 0) dX5_weighs_0 (by decide) ?_
  refine ax_lstore3 (pc := 1) dX5_weighs_1 rfl (by decide) ?_
  refine ax_iconst (pc := 2) (v := nI 0) dX5_weighs_2 (by decide) ?_
  refine ax_istore5 (pc := 3) dX5_weighs_3 rfl (by decide) ?_
  exact l_X5_wgO dom h s nd hv hd0 v p hv2 hp 64 0 (by omega) sl tu none none none hm
set_option maxHeartbeats 4000000 in
set_option maxRecDepth 100000 in
theorem l_X5_wgM (dom : List Nat) (h : mh_H) (s : sg) (nd : Int32) (hv : IV s) (hd0 : ¬ (s_D s).1 = 0) (p : Nat) (hp : p ≤ 12) : ∀ (nn j : Nat), j + nn = 64 → ∀ (sl : Nat → Int32) (tu : Int32) (l6 l8 l9 : Option Value), MB s h sl → At mX5_weighs dom 4 5 [some (.ref 0), some (.int (-1)), some (.int (nI p)), some (.long (lN (sp_md s p j))), none, some (.int (nI j)), l6, none, l8, l9] [] (hM h (xs s nd) sl tu) (mx_Rl (fun v' h' => v' = lN (sp_md s p 64) ∧ ∃ sl' tu', h' = hM h (xs s nd) sl' tu' ∧ MB s h sl')) := by
  intro nn
  induction nn with
  | zero =>
    intro j hj sl tu l6 l8 l9 hinv
    have hj : j = 64 := by omega
    subst hj
    refine ax_iload (pc := 5) dX5_weighs_5 rfl ?_
    refine ax_bipush (pc := 7) (v := nI 64) dX5_weighs_7 (by decide) ?_
    refine ax_icmpge (pc := 9) (tgt := 116) dX5_weighs_9 (by decide) (fun _ => ?_) (fun q => absurd (by decide) q)
    refine ax_lload_n (pc := 116) dX5_weighs_116 rfl ?_
    refine ax_lret (pc := 117) dX5_weighs_117 rfl ?_
    exact ⟨_, rfl, rfl, _, _, rfl, hinv⟩
  | succ nn ih =>
    intro j hj sl tu l6 l8 l9 hinv
    have hlt : j < 64 := by omega
    have hm := hinv
    obtain ⟨⟨m1, f2, m2, mf⟩, ⟨m3, f4, m4, mg⟩, ⟨so, fl, dr, md⟩, mn, msl, mk, mc, ⟨wo, mw⟩⟩ := id hm
    have hn := hm.now
    have h40 := hv.2.2.2.1.1
    obtain ⟨d5, d6, d7, dR⟩ := id md
    obtain ⟨hD0, hW0, hfi⟩ := hv.w hd0
    have hWt : sp_W0 (s_D s).1 (s_t s) := hW0
    refine ax_iload (pc := 5) dX5_weighs_5 rfl ?_
    refine ax_bipush (pc := 7) (v := nI 64) dX5_weighs_7 (by decide) ?_
    refine ax_icmpge (pc := 9) (tgt := 116) dX5_weighs_9 (by decide) (fun q => absurd q (by rw [nI_leI (by decide) (by omega)]; omega)) (fun _ => ?_)
    refine ax_aload_n (pc := 12) dX5_weighs_12 rfl ?_
    refine ax_eVv0 (pc := 13) vX5_164 dX5_weighs_13 (by decide) (by exact hM_0) (Nat.le_of_ble_eq_true rfl) (c_X5_try _ h s nd sl tu hn h40) ?_
    refine ax_lconst (pc := 16) (v := 1) dX5_weighs_16 (by decide) ?_
    refine ax_lstore6 (pc := 17) dX5_weighs_17 rfl (by decide) ?_
    refine ax_iconst (pc := 19) (v := nI 0) dX5_weighs_19 (by decide) ?_
    refine ax_istore8 (pc := 20) dX5_weighs_20 rfl (by decide) ?_
    refine ax_iconst (pc := 22) (v := nI 0) dX5_weighs_22 (by decide) ?_
    refine ax_istore9 (pc := 23) dX5_weighs_23 rfl (by decide) ?_
    refine l_X5_wg1 dom h s nd sl hm hv hd0 p j hp hlt _ _ _ (fun g1 tu1 => ?_) 6 0 (by omega) _ _
    refine ax_lload_n (pc := 82) dX5_weighs_82 rfl ?_
    refine ax_iload_n (pc := 83) dX5_weighs_83 rfl ?_
    refine ax_ifge (pc := 84) (tgt := 96) dX5_weighs_84 (by decide) (fun q => absurd q (by decide)) (fun _ => ?_)
    refine ax_lload (pc := 87) dX5_weighs_87 rfl ?_
    refine ax_iload (pc := 89) dX5_weighs_89 rfl ?_
    refine bx_i2l dX5_weighs_91 (Nat.lt_of_le_of_lt (wdr_g (dry := j) hD0 hW0 6) (show 77 * 6 < 2 ^ 31 by decide)) ?_
    refine bx_lmul dX5_weighs_92  ?_
    refine ax_goto (pc := 93) (tgt := 108) dX5_weighs_93 (by decide) ?_
    refine bx_ladd dX5_weighs_108  ?_
    refine ax_lstore3 (pc := 109) dX5_weighs_109 rfl (by decide) ?_
    refine ax_inc5p1 (pc := 110) dX5_weighs_110 rfl (by decide) ?_
    refine ax_goto (pc := 113) (tgt := 5) dX5_weighs_113 (by decide) ?_
    have K := fun l6 l8 l9 => ih (j + 1) (by omega) (s6 sl 984 (wdr s j 6) (s_fi s) g1) tu1 l6 l8 l9 (hm.t hv)
    rw [sp_md] at K
    rw [nI_1, wq_6 hlt]
    exact K _ _ _
set_option maxHeartbeats 4000000 in
set_option maxRecDepth 100000 in
theorem c_X5_weighsM (dom : List Nat) (h : mh_H) (s : sg) (nd : Int32) (sl : Nat → Int32) (tu : Int32) (hm : MB s h sl) (hv : IV s) (hd0 : ¬ (s_D s).1 = 0) (p : Nat) (hp : p ≤ 12) : Mt mX5_weighs dom 4 [.ref 0, .int (-1), .int (nI p)] (hM h (xs s nd) sl tu) (mx_Rl (fun v' h' => v' = lN (sp_md s p 64) ∧ ∃ sl' tu', h' = hM h (xs s nd) sl' tu' ∧ MB s h sl')) := by
  refine Mt.of (L := [some (.ref 0), some (.int (-1)), some (.int (nI p)), none, none, none, none, none, none, none]) rfl (Nat.le_of_ble_eq_true rfl) rfl ?_
  refine ax_lconst (pc := 0) (v := 0) dX5_weighs_0 (by decide) ?_
  refine ax_lstore3 (pc := 1) dX5_weighs_1 rfl (by decide) ?_
  refine ax_iconst (pc := 2) (v := nI 0) dX5_weighs_2 (by decide) ?_
  refine ax_istore5 (pc := 3) dX5_weighs_3 rfl (by decide) ?_
  exact l_X5_wgM dom h s nd hv hd0 p hp 64 0 (by omega) sl tu none none none hm
set_option maxHeartbeats 4000000 in
set_option maxRecDepth 100000 in
theorem c_X5_odds (dom : List Nat) (h : mh_H) (s : sg) (nd : Int32) (sl : Nat → Int32) (tu : Int32) (v p : Int32) (hm : MB s h sl) (hv : IV s) : Mt mX5_odds dom 5 [.ref 0, .int v, .int p] (hM h (xs s nd) sl tu) (mx_Ri (fun v' h' => v' = (sp_odds s v p).1 ∧ MP (sp_odds s v p).2 h')) := by
  refine Mt.of (L := [some (.ref 0), some (.int v), some (.int p)]) rfl (Nat.le_of_ble_eq_true rfl) rfl ?_
  obtain ⟨⟨m1, f2, m2, mf⟩, ⟨m3, f4, m4, mg⟩, ⟨so, fl, dr, md⟩, mn, msl, mk, mc, ⟨wo, mw⟩⟩ := id hm
  have hn := hm.now
  have h40 := hv.2.2.2.1.1
  obtain ⟨d5, d6, d7, dR⟩ := id md
  refine ax_iload_n (pc := 0) dX5_odds_0 rfl ?_
  refine ax_i2l (pc := 1) dX5_odds_1 ?_
  refine ax_lconst (pc := 2) (v := 0) dX5_odds_2 (by decide) ?_
  refine ax_ldc2 (pc := 3) dX5_odds_3 tw_901 ?_
  refine ax_eSi3 (pc := 6) sX5_63 dX5_odds_6 (by decide) (Nat.le_of_ble_eq_true rfl) (c_X5_in _ _ v 0 400 _ _ (by decide) (by decide)) ?_
  refine ax_ifeqB (pc := 9) (tgt := 24) dX5_odds_9 (by decide) (fun c9a => ?_) (fun c9a => ?_)
  · refine ax_iconst (pc := 24) (v := -1) dX5_odds_24 (by decide) ?_
    refine ax_iret (pc := 25) dX5_odds_25 rfl ?_
    exact fin_m (by unfold sp_odds; first | exact if_pos (Or.inl c9a) | exact if_pos (Or.inr c21)) hm.mp
  · refine ax_iload_n (pc := 12) dX5_odds_12 rfl ?_
    refine ax_i2l (pc := 13) dX5_odds_13 ?_
    refine ax_lconst (pc := 14) (v := 0) dX5_odds_14 (by decide) ?_
    refine ax_ldc2 (pc := 15) dX5_odds_15 tw_950 ?_
    refine ax_eSi3 (pc := 18) sX5_63 dX5_odds_18 (by decide) (Nat.le_of_ble_eq_true rfl) (c_X5_in _ _ p 0 12 _ _ (by decide) (by decide)) ?_
    refine ax_ifneB (pc := 21) (tgt := 26) dX5_odds_21 (by decide) (fun c21 => ?_) (fun c21 => ?_)
    · refine ax_aload_n (pc := 26) dX5_odds_26 rfl ?_
      refine ax_getf (pc := 27) fX5_97 dX5_odds_27 (by exact hM_0) rfl ?_
      refine ax_ifne (pc := 30) (tgt := 36) dX5_odds_30 (by decide) (fun c30 => ?_) (fun c30 => ?_)
      · obtain ⟨v, hv2, rfl⟩ := nI_of2 (n := 400) (M := 400) rfl (Int32.not_lt.mpr c9a.1) c9a.2
        obtain ⟨p, hp, rfl⟩ := nI_of2 (n := 12) (M := 12) rfl (Int32.not_lt.mpr c21.1) c21.2
        have hd0 : ¬ (s_D s).1 = 0 := fun q => c30 (by show nI (s_D s).1 = 0; rw [q]; rfl)
        obtain ⟨hD0, hW0, hfi⟩ := hv.w hd0
        have hWt : sp_W0 (s_D s).1 (s_t s) := hW0
        refine ax_aload_n (pc := 36) dX5_odds_36 rfl ?_
        refine ax_aload_n (pc := 37) dX5_odds_37 rfl ?_
        refine ax_iload_n (pc := 38) dX5_odds_38 rfl ?_
        refine ax_iload_n (pc := 39) dX5_odds_39 rfl ?_
        refine ax_cVl2 (pc := 40) vX5_198 dX5_odds_40 (by decide) (by exact hM_0) (Nat.le_of_ble_eq_true rfl) (c_X5_weighsO _ h s nd sl tu hm hv hd0 v p hv2 hp) (fun v1 h1 hq => ?_)
        obtain ⟨rfl, sl2, tu2, rfl, hq⟩ := hq
        refine ax_ldc2 (pc := 43) dX5_odds_43 tw_955 ?_
        refine At.tl (x' := lN 2985984) rfl ?_
        refine ax_cVv2 (pc := 46) vX5_204 dX5_odds_46 (by decide) (by exact hM_0) (Nat.le_of_ble_eq_true rfl) (c_X5_tells _ h s nd sl2 tu2 (sp_od s v p 64) 2985984 (by have := sp_od_le (s := s) (v := v) (p := p) (by omega) 64 (by decide); omega) (by decide) (by decide) hq) (fun h2 hq2 => ?_)
        refine ax_iconst (pc := 49) (v := 1) dX5_odds_49 (by decide) ?_
        refine ax_iret (pc := 50) dX5_odds_50 rfl ?_
        exact fin_m (by unfold sp_odds; rw [if_neg (by rintro (z | z); exact z c9a; exact z c21), if_neg hd0, ni_cl (by omega), ni_cl (by omega)]) hq2
      · refine ax_bipush (pc := 33) (v := -4) dX5_odds_33 (by decide) ?_
        refine ax_iret (pc := 35) dX5_odds_35 rfl ?_
        exact fin_m (by unfold sp_odds; rw [if_neg (by rintro (z | z); exact z c9a; exact z c21), if_pos ((nI_eq (by have := hv.2.2.1.1; omega) (show 0 < 2 ^ 31 by decide)).mp c30)]) hm.mp
    · refine ax_iconst (pc := 24) (v := -1) dX5_odds_24 (by decide) ?_
      refine ax_iret (pc := 25) dX5_odds_25 rfl ?_
      exact fin_m (by unfold sp_odds; first | exact if_pos (Or.inl c9a) | exact if_pos (Or.inr c21)) hm.mp
set_option maxHeartbeats 4000000 in
set_option maxRecDepth 100000 in
theorem c_X5_mid (dom : List Nat) (h : mh_H) (s : sg) (nd : Int32) (sl : Nat → Int32) (tu : Int32) (p : Int32) (hm : MB s h sl) (hv : IV s) : Mt mX5_mid dom 5 [.ref 0, .int p] (hM h (xs s nd) sl tu) (mx_Ri (fun v' h' => v' = (sp_mid s p).1 ∧ MP (sp_mid s p).2 h')) := by
  refine Mt.of (L := [some (.ref 0), some (.int p)]) rfl (Nat.le_of_ble_eq_true rfl) rfl ?_
  obtain ⟨⟨m1, f2, m2, mf⟩, ⟨m3, f4, m4, mg⟩, ⟨so, fl, dr, md⟩, mn, msl, mk, mc, ⟨wo, mw⟩⟩ := id hm
  have hn := hm.now
  have h40 := hv.2.2.2.1.1
  obtain ⟨d5, d6, d7, dR⟩ := id md
  refine ax_iload_n (pc := 0) dX5_mid_0 rfl ?_
  refine ax_i2l (pc := 1) dX5_mid_1 ?_
  refine ax_lconst (pc := 2) (v := 0) dX5_mid_2 (by decide) ?_
  refine ax_ldc2 (pc := 3) dX5_mid_3 tw_950 ?_
  refine ax_eSi3 (pc := 6) sX5_63 dX5_mid_6 (by decide) (Nat.le_of_ble_eq_true rfl) (c_X5_in _ _ p 0 12 _ _ (by decide) (by decide)) ?_
  refine ax_ifneB (pc := 9) (tgt := 14) dX5_mid_9 (by decide) (fun c9a => ?_) (fun c9a => ?_)
  · refine ax_aload_n (pc := 14) dX5_mid_14 rfl ?_
    refine ax_getf (pc := 15) fX5_97 dX5_mid_15 (by exact hM_0) rfl ?_
    refine ax_ifne (pc := 18) (tgt := 24) dX5_mid_18 (by decide) (fun c18 => ?_) (fun c18 => ?_)
    · obtain ⟨p, hp, rfl⟩ := nI_of2 (n := 12) (M := 12) rfl (Int32.not_lt.mpr c9a.1) c9a.2
      have hd0 : ¬ (s_D s).1 = 0 := fun q => c18 (by show nI (s_D s).1 = 0; rw [q]; rfl)
      obtain ⟨hD0, hW0, hfi⟩ := hv.w hd0
      have hWt : sp_W0 (s_D s).1 (s_t s) := hW0
      refine ax_aload_n (pc := 24) dX5_mid_24 rfl ?_
      refine ax_aload_n (pc := 25) dX5_mid_25 rfl ?_
      refine ax_iconst (pc := 26) (v := -1) dX5_mid_26 (by decide) ?_
      refine ax_iload_n (pc := 27) dX5_mid_27 rfl ?_
      refine ax_cVl2 (pc := 28) vX5_198 dX5_mid_28 (by decide) (by exact hM_0) (Nat.le_of_ble_eq_true rfl) (c_X5_weighsM _ h s nd sl tu hm hv hd0 p hp) (fun v1 h1 hq => ?_)
      obtain ⟨rfl, sl2, tu2, rfl, hq⟩ := hq
      refine ax_ldc2 (pc := 31) dX5_mid_31 tw_955 ?_
      refine At.tl (x' := lN 2985984) rfl ?_
      refine ax_cVv2 (pc := 34) vX5_204 dX5_mid_34 (by decide) (by exact hM_0) (Nat.le_of_ble_eq_true rfl) (c_X5_tells _ h s nd sl2 tu2 (sp_md s p 64) 2985984 (by have := sp_md_le (s := s) (p := p) hD0 hW0 (by omega) 64 (by decide); omega) (by decide) (by decide) hq) (fun h2 hq2 => ?_)
      refine ax_iconst (pc := 37) (v := 1) dX5_mid_37 (by decide) ?_
      refine ax_iret (pc := 38) dX5_mid_38 rfl ?_
      exact fin_m (by unfold sp_mid; rw [if_neg (not_not_intro c9a), if_neg hd0, ni_cl (by omega)]) hq2
    · refine ax_bipush (pc := 21) (v := -4) dX5_mid_21 (by decide) ?_
      refine ax_iret (pc := 23) dX5_mid_23 rfl ?_
      exact fin_m (by unfold sp_mid; rw [if_neg (not_not_intro c9a), if_pos ((nI_eq (by have := hv.2.2.1.1; omega) (show 0 < 2 ^ 31 by decide)).mp c18)]) hm.mp
  · refine ax_iconst (pc := 12) (v := -1) dX5_mid_12 (by decide) ?_
    refine ax_iret (pc := 13) dX5_mid_13 rfl ?_
    exact fin_m (by unfold sp_mid; exact if_pos c9a) hm.mp
set_option maxHeartbeats 4000000 in
set_option maxRecDepth 100000 in
theorem l_X5_lots (dom : List Nat) (h : mh_H) (s : sg) (nd : Int32) (hv : IV s) (hd0 : ¬ (s_D s).1 = 0) (m l : Nat) (hm2 : m ≤ 20) (hl : (s_ds s).length + m ≤ 40) (hl2 : l < 2147483647) (x2 : Int32) : ∀ (nn j : Nat), j + nn = m → ∀ (sl : Nat → Int32) (tu : Int32) (l6 : Option Value), MB (sp_ls s l j) h sl → At mX5_lots dom 5 56 [some (.ref 0), some (.int (nI m)), some (.int x2), some (.long (lN (sp_ln l j))), none, some (.int (nI j)), l6] [] (hM h (xs (sp_ls s l j) nd) sl tu) (mx_Ri (fun v' h' => v' = nI (s_w (sp_ls s l m)).2.2.2.2 ∧ MP (sp_ls s l m) h')) := by
  intro nn
  induction nn with
  | zero =>
    intro j hj sl tu l6 hinv
    have hj : j = m := by omega
    subst hj
    refine ax_iload (pc := 56) dX5_lots_56 rfl ?_
    refine ax_iload_n (pc := 58) dX5_lots_58 rfl ?_
    refine ax_icmpge (pc := 59) (tgt := 150) dX5_lots_59 (by decide) (fun _ => ?_) (fun q => absurd (nI_le (Nat.le_refl _) (by omega)) q)
    refine ax_aload_n (pc := 150) dX5_lots_150 rfl ?_
    refine ax_getf (pc := 151) fX5_41 dX5_lots_151 (by exact hM_0) rfl ?_
    refine ax_aload_n (pc := 154) dX5_lots_154 rfl ?_
    refine ax_eVi0 (pc := 155) vX5_123 dX5_lots_155 (by decide) (by exact hM_0) (Nat.le_of_ble_eq_true rfl) (c_X5_now _ h (xs (sp_ls s l j) nd) sl tu (s_ds (sp_ls s l j)).length rfl) ?_
    refine ax_iconst (pc := 158) (v := nI 3) dX5_lots_158 (by decide) ?_
    refine bx_iadd dX5_lots_159  ?_
    refine bx_slld dX5_lots_160 (by have := (sp_ls_D s l j).2; omega) hinv.now.2.2.2.1 ?_
    refine ax_iret (pc := 161) dX5_lots_161 rfl ?_
    exact ⟨_, rfl, rfl, hinv.mp⟩
  | succ nn ih =>
    intro j hj sl tu l6 hinv
    have hlt : j < m := by omega
    have hvj := hv.ls hd0 l j (by omega)
    have hDj := sp_ls_D s l j
    have hm := hinv
    obtain ⟨⟨m1, f2, m2, mf⟩, ⟨m3, f4, m4, mg⟩, ⟨so, fl, dr, md⟩, mn, msl, mk, mc, ⟨wo, mw⟩⟩ := id hm
    have hn := hm.now
    have hlen : (s_ds (sp_ls s l j)).length = (s_ds s).length + j := hDj.2
    obtain ⟨hD0, hW0, hfi⟩ := hvj.w (by rw [hDj.1]; exact hd0)
    have hxl := sp_ln_lt hl2 j
    have hyl := sp_ln_lt hl2 (j + 1)
    refine ax_iload (pc := 56) dX5_lots_56 rfl ?_
    refine ax_iload_n (pc := 58) dX5_lots_58 rfl ?_
    refine ax_icmpge (pc := 59) (tgt := 150) dX5_lots_59 (by decide) (fun q => absurd q (nI_ge hlt (by omega))) (fun _ => ?_)
    refine ax_lload_n (pc := 62) dX5_lots_62 rfl ?_
    refine ax_ldc2 (pc := 63) dX5_lots_63 tw_969 ?_
    refine At.tl (x' := lN 48271) rfl ?_
    refine bx_lmul dX5_lots_66  ?_
    refine ax_ldc2 (pc := 67) dX5_lots_67 tw_970 ?_
    refine At.tl (x' := lN 2147483647) rfl ?_
    refine bx_lrem dX5_lots_70 (by omega) (by decide) (by decide) ?_
    refine At.tl (x' := lN (sp_ln l (j + 1))) rfl ?_
    refine ax_lstore3 (pc := 71) dX5_lots_71 rfl (by decide) ?_
    refine ax_aload_n (pc := 72) dX5_lots_72 rfl ?_
    refine ax_eVi0 (pc := 73) vX5_153 dX5_lots_73 (by decide) (by exact hM_0) (Nat.le_of_ble_eq_true rfl) (c_X5_deed _ h (xs (sp_ls s l j) nd) sl tu (s_ds (sp_ls s l j)).length (rp (s_D (sp_ls s l j)) (s_ds (sp_ls s l j))) rfl hn (by omega)) ?_
    refine ax_istore6 (pc := 76) dX5_lots_76 rfl (by decide) ?_
    refine ax_lload_n (pc := 78) dX5_lots_78 rfl ?_
    refine ax_ldc2 (pc := 79) dX5_lots_79 tw_941 ?_
    refine At.tl (x' := lN 6) rfl ?_
    refine bx_lrem dX5_lots_82 (by omega) (by decide) (by decide) ?_
    refine ax_lconst (pc := 83) (v := 0) dX5_lots_83 (by decide) ?_
    refine ax_lcmp (pc := 84) dX5_lots_84 ?_
    refine ax_ifne (pc := 85) (tgt := 101) dX5_lots_85 (by decide) (fun c85 => ?_) (fun c85 => ?_)
    · have e0 : ¬ (sp_ln l (j + 1)) % 6 = 0 := fun z => c85 ((lc_0 (by omega)).mpr z)
      refine ax_lload_n (pc := 101) dX5_lots_101 rfl ?_
      refine ax_ldc2 (pc := 102) dX5_lots_102 tw_941 ?_
      refine At.tl (x' := lN 6) rfl ?_
      refine bx_lrem dX5_lots_105 (by omega) (by decide) (by decide) ?_
      refine ax_lconst (pc := 106) (v := 1) dX5_lots_106 (by decide) ?_
      refine ax_lcmp (pc := 107) dX5_lots_107 ?_
      refine ax_ifne (pc := 108) (tgt := 133) dX5_lots_108 (by decide) (fun c108 => ?_) (fun c108 => ?_)
      · have e1 : ¬ (sp_ln l (j + 1)) % 6 = 1 := fun z => c108 ((lg_cmp_eq _ _).mpr (by rw [z]; rfl))
        refine ax_aload_n (pc := 133) dX5_lots_133 rfl ?_
        refine ax_aload_n (pc := 134) dX5_lots_134 rfl ?_
        refine ax_iload (pc := 135) dX5_lots_135 rfl ?_
        refine ax_iconst (pc := 137) (v := 0) dX5_lots_137 (by decide) ?_
        refine ax_eVi2 (pc := 138) vX5_156 dX5_lots_138 (by decide) (by exact hM_0) (Nat.le_of_ble_eq_true rfl) (c_X5_steps _ h ((xs (sp_ls s l j) nd).1, (xs (sp_ls s l j) nd).2.1, nI ((s_ds (sp_ls s l j)).length + 1), (xs (sp_ls s l j) nd).2.2.2.1, (xs (sp_ls s l j) nd).2.2.2.2.1, (xs (sp_ls s l j) nd).2.2.2.2.2.1, (xs (sp_ls s l j) nd).2.2.2.2.2.2) sl tu (s_D (sp_ls s l j)) so fl dr md (6 * ((s_ds (sp_ls s l j)).length + 1)) (s_fi (sp_ls s l j)) (s_w (sp_ls s l j)) (nI (s_w (sp_ls s l j)).2.2.2.2) (by omega) hD0 hW0 hfi rfl) ?_
        refine bx_pturned gX5_147 dX5_lots_141 ?_
        refine ax_inc5p1 (pc := 144) dX5_lots_144 rfl (by decide) ?_
        refine ax_goto (pc := 147) (tgt := 56) dX5_lots_147 (by decide) ?_
        rw [nI_1]
        have eL : sp_ls s l (j + 1) = sp_do (sp_ls s l j) 0 0 := by
          show sp_do _ (sp_ld (sp_ln l (j + 1))).1 (sp_ld (sp_ln l (j + 1))).2 = _
          rw [show sp_ld (sp_ln l (j + 1)) = (0, 0) by unfold sp_ld; rw [if_neg e0, if_neg e1]]
        refine At.hp (congrArg (fun z => hM h z _ _) (show _ = xs (sp_ls s l (j + 1)) nd from (xs_do (q := 0) (b := 0)).trans (by rw [eL]))) ?_
        exact ih (j + 1) (by omega) _ _ _ (by rw [eL]; exact MB.do hm hvj (by omega) (sp_st (s_D (sp_ls s l j)) (s_fi (sp_ls s l j)) (s_w (sp_ls s l j)), s_fi (sp_ls s l j)) rp_ap0 (nI_add _ _))
      · have e1 : (sp_ln l (j + 1)) % 6 = 1 := (pk_lEQ (by omega) (show 1 < 2 ^ 63 by decide)).mp ((lg_cmp_eq _ _).mp c108)
        refine ax_aload_n (pc := 111) dX5_lots_111 rfl ?_
        refine ax_getf (pc := 112) fX5_41 dX5_lots_112 (by exact hM_0) rfl ?_
        refine ax_iload (pc := 115) dX5_lots_115 rfl ?_
        refine ax_iconst (pc := 117) (v := nI 1) dX5_lots_117 (by decide) ?_
        refine bx_iadd dX5_lots_118  ?_
        refine ax_lload_n (pc := 119) dX5_lots_119 rfl ?_
        refine ax_ldc2 (pc := 120) dX5_lots_120 tw_900 ?_
        refine At.tl (x' := lN 8) rfl ?_
        refine bx_ldiv dX5_lots_123 (by omega) (by decide) (by decide) ?_
        refine ax_ldc2 (pc := 124) dX5_lots_124 tw_707 ?_
        refine At.tl (x' := lN 5) rfl ?_
        refine bx_lrem dX5_lots_127 (by omega) (by decide) (by decide) ?_
        refine ax_l2i (pc := 128) dX5_lots_128 ?_
        refine At.ti (lN_i _) ?_
        refine bx_slst dX5_lots_129 (by omega) s6_u1 ?_
        refine ax_goto (pc := 130) (tgt := 144) dX5_lots_130 (by decide) ?_
        refine ax_inc5p1 (pc := 144) dX5_lots_144 rfl (by decide) ?_
        refine ax_goto (pc := 147) (tgt := 56) dX5_lots_147 (by decide) ?_
        rw [nI_1]
        have eL : sp_ls s l (j + 1) = sp_do (sp_ls s l j) 2 ((sp_ln l (j + 1)) / 8 % 5) := by
          show sp_do _ (sp_ld (sp_ln l (j + 1))).1 (sp_ld (sp_ln l (j + 1))).2 = _
          rw [show sp_ld (sp_ln l (j + 1)) = (2, ((sp_ln l (j + 1)) / 8 % 5)) by unfold sp_ld; rw [if_neg e0, if_pos e1]]
        refine At.hp (congrArg (fun z => hM h z _ _) (show _ = xs (sp_ls s l (j + 1)) nd from (xs_do (q := 2) (b := ((sp_ln l (j + 1)) / 8 % 5))).trans (by rw [eL]))) ?_
        exact ih (j + 1) (by omega) _ _ _ (by rw [eL]; exact MB.do hm hvj (by omega) (((s_w (sp_ls s l j)).1, (sp_ln l (j + 1)) / 8 % 5, (s_w (sp_ls s l j)).2.2.1, (s_w (sp_ls s l j)).2.2.2.1, (s_w (sp_ls s l j)).2.2.2.2), s_fi (sp_ls s l j)) rp_ap2 rfl)
    · have e0 : (sp_ln l (j + 1)) % 6 = 0 := (lc_0 (by omega)).mp c85
      refine ax_aload_n (pc := 88) dX5_lots_88 rfl ?_
      refine ax_getf (pc := 89) fX5_41 dX5_lots_89 (by exact hM_0) rfl ?_
      refine ax_iload (pc := 92) dX5_lots_92 rfl ?_
      refine ax_iconst (pc := 94) (v := nI 2) dX5_lots_94 (by decide) ?_
      refine bx_iadd dX5_lots_95  ?_
      refine ax_iconst (pc := 96) (v := nI 0) dX5_lots_96 (by decide) ?_
      refine bx_slst dX5_lots_97 (by omega) s6_u2 ?_
      have hbr : True := trivial
      refine ax_goto (pc := 98) (tgt := 144) dX5_lots_98 (by decide) ?_
      refine ax_inc5p1 (pc := 144) dX5_lots_144 rfl (by decide) ?_
      refine ax_goto (pc := 147) (tgt := 56) dX5_lots_147 (by decide) ?_
      rw [nI_1]
      have eL : sp_ls s l (j + 1) = sp_do (sp_ls s l j) 1 0 := by
        show sp_do _ (sp_ld (sp_ln l (j + 1))).1 (sp_ld (sp_ln l (j + 1))).2 = _
        rw [show sp_ld (sp_ln l (j + 1)) = (1, 0) by exact if_pos e0]
      refine At.hp (congrArg (fun z => hM h z _ _) (show _ = xs (sp_ls s l (j + 1)) nd from (xs_do (q := 1) (b := 0)).trans (by rw [eL]))) ?_
      exact ih (j + 1) (by omega) _ _ _ (by rw [eL]; exact MB.do hm hvj (by omega) (((s_w (sp_ls s l j)).1, (s_w (sp_ls s l j)).2.1, 0, (s_w (sp_ls s l j)).2.2.2.1, (s_w (sp_ls s l j)).2.2.2.2), s_fi (sp_ls s l j)) rp_ap1 rfl)
set_option maxHeartbeats 4000000 in
set_option maxRecDepth 100000 in
theorem c_X5_lots (dom : List Nat) (h : mh_H) (s : sg) (nd : Int32) (sl : Nat → Int32) (tu : Int32) (n x : Int32) (hm : MB s h sl) (hv : IV s) : Mt mX5_lots dom 5 [.ref 0, .int n, .int x] (hM h (xs s nd) sl tu) (mx_Ri (fun v' h' => v' = (sp_lots s n x).1 ∧ MP (sp_lots s n x).2 h')) := by
  refine Mt.of (L := [some (.ref 0), some (.int n), some (.int x), none, none, none, none]) rfl (Nat.le_of_ble_eq_true rfl) rfl ?_
  obtain ⟨⟨m1, f2, m2, mf⟩, ⟨m3, f4, m4, mg⟩, ⟨so, fl, dr, md⟩, mn, msl, mk, mc, ⟨wo, mw⟩⟩ := id hm
  have hn := hm.now
  have h40 := hv.2.2.2.1.1
  obtain ⟨d5, d6, d7, dR⟩ := id md
  refine ax_iload_n (pc := 0) dX5_lots_0 rfl ?_
  refine ax_i2l (pc := 1) dX5_lots_1 ?_
  refine ax_lconst (pc := 2) (v := 1) dX5_lots_2 (by decide) ?_
  refine ax_ldc2 (pc := 3) dX5_lots_3 tw_887 ?_
  refine ax_eSi3 (pc := 6) sX5_63 dX5_lots_6 (by decide) (Nat.le_of_ble_eq_true rfl) (c_X5_in _ _ n 1 20 _ _ (by decide) (by decide)) ?_
  refine ax_ifeqB (pc := 9) (tgt := 24) dX5_lots_9 (by decide) (fun c9a => ?_) (fun c9a => ?_)
  · refine ax_iconst (pc := 24) (v := -1) dX5_lots_24 (by decide) ?_
    refine ax_iret (pc := 25) dX5_lots_25 rfl ?_
    exact fin_m (by unfold sp_lots; first | exact if_pos (Or.inl c9a) | exact if_pos (Or.inr c21)) hm.mp
  · refine ax_iload_n (pc := 12) dX5_lots_12 rfl ?_
    refine ax_i2l (pc := 13) dX5_lots_13 ?_
    refine ax_lconst (pc := 14) (v := 1) dX5_lots_14 (by decide) ?_
    refine ax_ldc2 (pc := 15) dX5_lots_15 tw_968 ?_
    refine ax_eSi3 (pc := 18) sX5_63 dX5_lots_18 (by decide) (Nat.le_of_ble_eq_true rfl) (c_X5_in _ _ x 1 2147483646 _ _ (by decide) (by decide)) ?_
    refine ax_ifneB (pc := 21) (tgt := 26) dX5_lots_21 (by decide) (fun c21 => ?_) (fun c21 => ?_)
    · refine ax_aload_n (pc := 26) dX5_lots_26 rfl ?_
      refine ax_getf (pc := 27) fX5_97 dX5_lots_27 (by exact hM_0) rfl ?_
      refine ax_ifne (pc := 30) (tgt := 36) dX5_lots_30 (by decide) (fun c30 => ?_) (fun c30 => ?_)
      · obtain ⟨m, hm2, rfl⟩ := nI_of2 (n := 20) (M := 20) rfl (Int32.not_lt.mpr (Int32.le_trans (by decide) c9a.1)) c9a.2
        have hd0 : ¬ (s_D s).1 = 0 := fun q => c30 (by show nI (s_D s).1 = 0; rw [q]; rfl)
        obtain ⟨hD0, hW0, hfi⟩ := hv.w hd0
        have hWt : sp_W0 (s_D s).1 (s_t s) := hW0
        obtain ⟨l, hl2, rfl⟩ := nI_of2 (n := 2147483646) (M := 2147483646) rfl (Int32.not_lt.mpr (Int32.le_trans (by decide) c21.1)) c21.2
        refine ax_aload_n (pc := 36) dX5_lots_36 rfl ?_
        refine ax_getf (pc := 37) fX5_100 dX5_lots_37 (by exact hM_0) rfl ?_
        refine ax_iload_n (pc := 40) dX5_lots_40 rfl ?_
        refine bx_iadd dX5_lots_41  ?_
        refine ax_bipush (pc := 42) (v := nI 40) dX5_lots_42 (by decide) ?_
        refine ax_icmple (pc := 44) (tgt := 50) dX5_lots_44 (by decide) (fun c44 => ?_) (fun c44 => ?_)
        · refine ax_iload_n (pc := 50) dX5_lots_50 rfl ?_
          refine bx_i2l dX5_lots_51 (by omega) ?_
          refine ax_lstore3 (pc := 52) dX5_lots_52 rfl (by decide) ?_
          refine ax_iconst (pc := 53) (v := nI 0) dX5_lots_53 (by decide) ?_
          refine ax_istore5 (pc := 54) dX5_lots_54 rfl (by decide) ?_
          have hle := (nI_leI (show (s_ds s).length + m < 2 ^ 31 by omega) (show 40 < 2 ^ 31 by decide)).mp c44
          rw [show sp_lots s (nI m) (nI l) = (nI (s_w (sp_ls s l m)).2.2.2.2, sp_ls s l m) by unfold sp_lots; rw [if_neg (by rintro (z | z); exact z c9a; exact z c21), if_neg hd0, ni_cl (show m < 2 ^ 31 by omega), if_neg (Nat.not_lt.mpr hle), ni_cl (show l < 2 ^ 31 by omega)]]
          exact l_X5_lots dom h s nd hv hd0 m l hm2 hle (by omega) _ m 0 (by omega) sl tu none hm
        · refine ax_bipush (pc := 47) (v := -2) dX5_lots_47 (by decide) ?_
          refine ax_iret (pc := 49) dX5_lots_49 rfl ?_
          exact fin_m (by unfold sp_lots; rw [if_neg (by rintro (z | z); exact z c9a; exact z c21), if_neg hd0, ni_cl (show m < 2 ^ 31 by omega), if_pos (Nat.not_le.mp (fun z => c44 ((nI_leI (by omega) (by decide)).mpr z)))]) hm.mp
      · refine ax_bipush (pc := 33) (v := -4) dX5_lots_33 (by decide) ?_
        refine ax_iret (pc := 35) dX5_lots_35 rfl ?_
        exact fin_m (by unfold sp_lots; rw [if_neg (by rintro (z | z); exact z c9a; exact z c21), if_pos ((nI_eq (by have := hv.2.2.1.1; omega) (show 0 < 2 ^ 31 by decide)).mp c30)]) hm.mp
    · refine ax_iconst (pc := 24) (v := -1) dX5_lots_24 (by decide) ?_
      refine ax_iret (pc := 25) dX5_lots_25 rfl ?_
      exact fin_m (by unfold sp_lots; first | exact if_pos (Or.inl c9a) | exact if_pos (Or.inr c21)) hm.mp
