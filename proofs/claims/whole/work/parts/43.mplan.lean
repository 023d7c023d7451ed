/-- the first greatest -/
def fa (g : Nat → Nat) (n i v : Nat) : Prop := i < n ∧ g i = v ∧ (∀ j, j < n → g j ≤ v) ∧ ∀ j, j < i → g j < v
theorem fa_u {g : Nat → Nat} {n i v i' v' : Nat} (h : fa g n i v) (h' : fa g n i' v') : i = i' ∧ v = v' := by
  obtain ⟨a1, a2, a3, a4⟩ := h
  obtain ⟨b1, b2, b3, b4⟩ := h'
  have e : v = v' := by
    have := a3 i' b1
    have := b3 i a1
    omega
  refine ⟨?_, e⟩
  rcases Nat.lt_trichotomy i i' with q | q | q
  · have := b4 i q; omega
  · exact q
  · have := a4 i' q; omega
theorem fa_c {g f : Nat → Nat} {n i v : Nat} (e : ∀ j, j < n → f j = g j) (h : fa g n i v) : fa f n i v := ⟨h.1, (e i h.1).trans h.2.1, fun j hj => by rw [e j hj]; exact h.2.2.1 j hj, fun j hj => by rw [e j (Nat.lt_trans hj h.1)]; exact h.2.2.2 j hj⟩
theorem m1_lt {a : Nat} (h : a < 2 ^ 31) : (-1 : Int32) < nI a := by
  rw [Int32.lt_iff_toInt_lt, z_m1, nI_toInt h]
  omega
theorem mx_fa {g : Nat → Nat} : ∀ n, (∀ j, j ≤ n → g j < 2 ^ 31) → ∃ i v, fa g (n + 1) i v ∧ sp_mx 0 (-1) g (n + 1) = (nI i, nI v)
  | 0, hg => ⟨0, g 0, ⟨by omega, rfl, fun j hj => by rw [show j = 0 by omega]; exact Nat.le_refl _, fun j hj => by omega⟩, sp_mx_t (j := 0) (m1_lt (hg 0 (by omega)))⟩
  | n + 1, hg => by
    obtain ⟨i, v, ⟨a1, a2, a3, a4⟩, e⟩ := mx_fa (g := g) n (fun j hj => hg j (by omega))
    have hv : v < 2 ^ 31 := by rw [← a2]; exact hg i (by omega)
    by_cases q : v < g (n + 1)
    · refine ⟨n + 1, g (n + 1), ⟨by omega, rfl, fun j hj => ?_, fun j hj => ?_⟩, sp_mx_t (by rw [e]; exact nI_lt q (hg _ (by omega)))⟩
      · by_cases z : j = n + 1
        · subst z; exact Nat.le_refl _
        · have := a3 j (by omega); omega
      · have := a3 j (by omega); omega
    · refine ⟨i, v, ⟨by omega, a2, fun j hj => ?_, a4⟩, by rw [sp_mx_f (by rw [e]; exact nI_nlt (by omega) hv), e]⟩
      by_cases z : j = n + 1
      · subst z; omega
      · exact a3 j (by omega)
theorem mxn_ge {g : Nat → Nat} : ∀ n j, j < n → g j ≤ sp_mxn g n
  | 0, j, h => by omega
  | n + 1, j, h => by
    rw [sp_mxn]
    by_cases z : j = n
    · subst z; exact Nat.le_max_right _ _
    · exact Nat.le_trans (mxn_ge n j (by omega)) (Nat.le_max_left _ _)
section PL
variable {D : sp_D} {fi : Nat}
/-- what is ground by the settings of a code of l + 1 figures -/
def pV (D : sp_D) (fi : Nat) : Nat → sp_W → Nat → Nat
  | 0, w, c => (sp_st D fi (hs w c)).2.2.2.2
  | l + 1, w, c => pV D fi l (sp_st D fi (hs w (c / 5 ^ (l + 1)))) (c % 5 ^ (l + 1))
abbrev bN (D : sp_D) (fi l : Nat) (w : sp_W) : Nat := (sp_bs D fi l w).toNatClampNeg
def pM (D : sp_D) (fi l : Nat) (w : sp_W) : Nat := sp_mxn (fun t => sp_ms D fi l w t) 5
def pG (D : sp_D) (fi : Nat) : Nat → sp_W → Nat
  | 0, w => bN D fi 0 w
  | l + 1, w => bN D fi (l + 1) w * 5 ^ (l + 1) + pG D fi l (sp_st D fi (hs w (bN D fi (l + 1) w)))
def pO (D : sp_D) (l : Nat) (w : sp_W) : Prop := sp_W0 D.1 w ∧ w.2.2.2.2 + 77 * (l + 1) ≤ 2000
theorem pO_s {l t : Nat} {w : sp_W} (hD : sp_D0 D) (h : pO D (l + 1) w) (ht : t ≤ 4) : pO D l (sp_st D fi (hs w t)) := by
  refine ⟨sp_st_ok hD (hs_ok h.1 ht), ?_⟩
  have h1 := st_g (fi := fi) hD h.1 ht
  have h2 := h.2
  omega
theorem bs_fa {l : Nat} {w : sp_W} (hD : sp_D0 D) (h : pO D l w) : fa (fun t => sp_ms D fi l w t) 5 (bN D fi l w) (pM D fi l w) := by
  have hb : ∀ j, j ≤ 4 → sp_ms D fi l w j ≤ 2000 := fun j hj => Nat.le_trans (sp_ms_le hD l w j h.1 hj) h.2
  obtain ⟨i, v, hf, e⟩ := mx_fa (g := fun t => sp_ms D fi l w t) 4 (fun j hj => Nat.lt_of_le_of_lt (hb j hj) (by decide))
  have e1 : bN D fi l w = i := by
    show (sp_mx 0 (-1) (fun t => sp_ms D fi l w t) (4 + 1)).1.toNatClampNeg = i
    rw [e]
    exact ni_cl (by have := hf.1; omega)
  have e2 : pM D fi l w = v := by
    refine Nat.le_antisymm (sp_mxn_le' (fun j hj => hf.2.2.1 j hj)) ?_
    have := mxn_ge (g := fun t => sp_ms D fi l w t) 5 i hf.1
    exact Nat.le_trans (Nat.le_of_eq hf.2.1.symm) this
  rw [e1, e2]
  exact hf
theorem bN_le {l : Nat} {w : sp_W} : bN D fi l w ≤ 4 := by
  obtain ⟨t, ht, e⟩ := sp_bs_ix (D := D) (fi := fi) (l := l) (w := w)
  show (sp_bs D fi l w).toNatClampNeg ≤ 4
  rw [e, ni_cl (by omega)]
  exact ht
theorem bN_I {l : Nat} {w : sp_W} : sp_bs D fi l w = nI (bN D fi l w) := by
  obtain ⟨t, ht, e⟩ := sp_bs_ix (D := D) (fi := fi) (l := l) (w := w)
  show _ = nI (sp_bs D fi l w).toNatClampNeg
  rw [e, ni_cl (by omega)]
theorem p5 (n : Nat) : 0 < 5 ^ n := Nat.pow_pos (by decide)
theorem pG_fa (hD : sp_D0 D) : ∀ (l : Nat) (w : sp_W), pO D l w → fa (pV D fi l w) (5 ^ (l + 1)) (pG D fi l w) (pM D fi l w)
  | 0, w, h => bs_fa hD h
  | l + 1, w, h => by
    obtain ⟨b1, b2, b3, b4⟩ := bs_fa (fi := fi) hD h
    have ih : ∀ t, t ≤ 4 → fa (pV D fi l (sp_st D fi (hs w t))) (5 ^ (l + 1)) (pG D fi l (sp_st D fi (hs w t))) (sp_ms D fi (l + 1) w t) := fun t ht => pG_fa hD l _ (pO_s hD h ht)
    have hb := bN_le (D := D) (fi := fi) (l := l + 1) (w := w)
    obtain ⟨i1, i2, i3, i4⟩ := ih _ hb
    have hN := p5 (l + 1)
    have e5 : 5 ^ (l + 1 + 1) = 5 ^ (l + 1) * 5 := Nat.pow_succ _ _
    show fa _ _ (bN D fi (l + 1) w * 5 ^ (l + 1) + pG D fi l (sp_st D fi (hs w (bN D fi (l + 1) w)))) _
    generalize hG : pG D fi l (sp_st D fi (hs w (bN D fi (l + 1) w))) = G at i1 i2 i3 i4 ⊢
    generalize hT : bN D fi (l + 1) w = T at *
    have d1 : (T * 5 ^ (l + 1) + G) / 5 ^ (l + 1) = T := by rw [Nat.add_comm, Nat.add_mul_div_right _ _ hN, Nat.div_eq_of_lt i1, Nat.zero_add]
    have d2 : (T * 5 ^ (l + 1) + G) % 5 ^ (l + 1) = G := by rw [Nat.add_comm, Nat.add_mul_mod_self_right, Nat.mod_eq_of_lt i1]
    have hv : ∀ c, pV D fi (l + 1) w c = pV D fi l (sp_st D fi (hs w (c / 5 ^ (l + 1)))) (c % 5 ^ (l + 1)) := fun _ => rfl
    refine ⟨?_, ?_, fun c hc => ?_, fun c hc => ?_⟩
    · have := Nat.mul_le_mul_right (5 ^ (l + 1)) hb
      omega
    · rw [hv, d1, d2, i2]
      exact b2
    · rw [hv]
      have h5 : c / 5 ^ (l + 1) < 5 := Nat.div_lt_of_lt_mul (by rw [← e5]; exact hc)
      exact Nat.le_trans ((ih _ (by omega)).2.2.1 _ (Nat.mod_lt _ hN)) (b3 _ h5)
    · rw [hv]
      have hdm := Nat.div_add_mod c (5 ^ (l + 1))
      have hm := Nat.mod_lt c hN
      generalize c / 5 ^ (l + 1) = q at hdm ⊢
      generalize c % 5 ^ (l + 1) = r at hdm hm ⊢
      rcases Nat.lt_trichotomy q T with z | z | z
      · exact Nat.lt_of_le_of_lt ((ih q (by omega)).2.2.1 r hm) (b4 q z)
      · subst z
        have : r < G := by rw [Nat.mul_comm] at hdm; omega
        have := i4 r this
        rw [← b2]
        exact this
      · have h1 := Nat.mul_le_mul_left (5 ^ (l + 1)) (show T + 1 ≤ q from z)
        rw [Nat.mul_succ] at h1
        rw [Nat.mul_comm T] at hc
        omega
theorem pw_sh {n : Nat} {w : sp_W} : ∀ i, sp_pw D fi (n + 1) w (i + 1) = sp_pw D fi n (sp_st D fi (hs w (bN D fi n w))) i
  | 0 => rfl
  | i + 1 => by
    show sp_st D fi (hs (sp_pw D fi (n + 1) w (i + 1)) (sp_bs D fi (n + 1 - (i + 1) - 1) (sp_pw D fi (n + 1) w (i + 1))).toNatClampNeg) = sp_st D fi (hs (sp_pw D fi n (sp_st D fi (hs w (bN D fi n w))) i) (sp_bs D fi (n - i - 1) (sp_pw D fi n (sp_st D fi (hs w (bN D fi n w))) i)).toNatClampNeg)
    rw [pw_sh i, show n + 1 - (i + 1) - 1 = n - i - 1 by omega]
theorem pw_M (hD : sp_D0 D) : ∀ (l : Nat) (w : sp_W), pO D l w → (sp_pw D fi (l + 1) w (l + 1)).2.2.2.2 = pM D fi l w
  | 0, w, h => (bs_fa (fi := fi) hD h).2.1
  | l + 1, w, h => by
    rw [pw_sh, pw_M hD l _ (pO_s hD h bN_le)]
    exact (bs_fa (fi := fi) hD h).2.1
theorem pG_dig (hD : sp_D0 D) : ∀ (l : Nat) (w : sp_W), pO D l w → ∀ j, j ≤ l → pG D fi l w / 5 ^ (l - j) % 5 = bN D fi (l - j) (sp_pw D fi (l + 1) w j)
  | 0, w, h, j, hj => by
    have : j = 0 := by omega
    subst this
    show pG D fi 0 w / 1 % 5 = bN D fi 0 w
    rw [Nat.div_one]
    exact Nat.mod_eq_of_lt (by have := bN_le (D := D) (fi := fi) (l := 0) (w := w); show bN D fi 0 w < 5; omega)
  | l + 1, w, h, j, hj => by
    have hb := bN_le (D := D) (fi := fi) (l := l + 1) (w := w)
    have hN := p5 (l + 1)
    have i1 := (pG_fa (fi := fi) hD l _ (pO_s (fi := fi) hD h hb)).1
    show (bN D fi (l + 1) w * 5 ^ (l + 1) + pG D fi l (sp_st D fi (hs w (bN D fi (l + 1) w)))) / _ % 5 = _
    cases j with
    | zero =>
      show _ / 5 ^ (l + 1) % 5 = bN D fi (l + 1) w
      rw [Nat.add_comm, Nat.add_mul_div_right _ _ hN, Nat.div_eq_of_lt i1, Nat.zero_add]
      exact Nat.mod_eq_of_lt (by omega)
    | succ j =>
      rw [show l + 1 - (j + 1) = l - j by omega, pw_sh, ← pG_dig hD l _ (pO_s hD h hb) j (by omega)]
      generalize pG D fi l (sp_st D fi (hs w (bN D fi (l + 1) w))) = G
      rw [show 5 ^ (l + 1) = 5 ^ j * 5 * 5 ^ (l - j) by rw [← Nat.pow_succ, ← Nat.pow_add]; congr 1; omega, ← Nat.mul_assoc, Nat.add_comm, Nat.add_mul_div_right _ _ (p5 (l - j)), ← Nat.mul_assoc, Nat.add_mul_mod_self_right]
/-- the wheel behind j settings of a code of n figures -/
def pW (D : sp_D) (fi n c : Nat) (w : sp_W) : Nat → sp_W
  | 0 => w
  | j + 1 => sp_st D fi (hs (pW D fi n c w j) (c / 5 ^ (n - (j + 1)) % 5))
theorem dg5 {c m n : Nat} (h : m < n) : c % 5 ^ n / 5 ^ m % 5 = c / 5 ^ m % 5 := by
  rw [show 5 ^ n = 5 ^ m * 5 ^ (n - m) by rw [← Nat.pow_add]; congr 1; omega, Nat.mod_mul_right_div_self]
  exact Nat.mod_mod_of_dvd _ (Nat.pow_dvd_pow 5 (show 1 ≤ n - m by omega))
theorem pW_sh {n c : Nat} {w : sp_W} : ∀ j, j ≤ n → pW D fi (n + 1) c w (j + 1) = pW D fi n (c % 5 ^ n) (sp_st D fi (hs w (c / 5 ^ n % 5))) j
  | 0, _ => rfl
  | j + 1, h => by
    show sp_st D fi (hs (pW D fi (n + 1) c w (j + 1)) (c / 5 ^ (n + 1 - (j + 1 + 1)) % 5)) = sp_st D fi (hs (pW D fi n (c % 5 ^ n) (sp_st D fi (hs w (c / 5 ^ n % 5))) j) (c % 5 ^ n / 5 ^ (n - (j + 1)) % 5))
    rw [pW_sh j (by omega), dg5 (by omega), show n + 1 - (j + 1 + 1) = n - (j + 1) by omega]
theorem pW_V : ∀ (l c : Nat) (w : sp_W), c < 5 ^ (l + 1) → (pW D fi (l + 1) c w (l + 1)).2.2.2.2 = pV D fi l w c
  | 0, c, w, h => by
    show (sp_st D fi (hs w (c / 1 % 5))).2.2.2.2 = (sp_st D fi (hs w c)).2.2.2.2
    rw [Nat.div_one, Nat.mod_eq_of_lt (show c < 5 from h)]
  | l + 1, c, w, h => by
    have h5 : c / 5 ^ (l + 1) < 5 := Nat.div_lt_of_lt_mul (by rw [← Nat.pow_succ]; exact h)
    rw [pW_sh _ (Nat.le_refl _), pW_V l _ _ (Nat.mod_lt _ (p5 _)), Nat.mod_eq_of_lt h5]
    rfl
theorem m5 {x : Nat} : x % 5 ≤ 4 := Nat.le_of_lt_succ (Nat.mod_lt _ (by decide))
theorem pW_ok {n c : Nat} {w : sp_W} (hD : sp_D0 D) (h : sp_W0 D.1 w) : ∀ j, sp_W0 D.1 (pW D fi n c w j)
  | 0 => h
  | j + 1 => sp_st_ok hD (hs_ok (pW_ok hD h j) m5)
theorem pW_g {n c : Nat} {w : sp_W} (hD : sp_D0 D) (h : sp_W0 D.1 w) : ∀ j, (pW D fi n c w j).2.2.2.2 ≤ w.2.2.2.2 + 77 * j
  | 0 => Nat.le_refl _
  | j + 1 => by
    have h1 := pW_g (n := n) (c := c) hD h j
    have h2 := st_g (fi := fi) hD (pW_ok (fi := fi) (n := n) (c := c) hD h j) (m5 (x := c / 5 ^ (n - (j + 1))))
    show (sp_st D fi (hs (pW D fi n c w j) (c / 5 ^ (n - (j + 1)) % 5))).2.2.2.2 ≤ _
    omega
end PL
/-- what a code grinds -/
abbrev pf (s : sg) (m : Nat) : Nat → Nat := fun c => (pW (s_D s) (s_fi s) m c (s_t s) m).2.2.2.2
theorem pl_end {s : sg} {m : Nat} (h1 : 1 ≤ m) (h5 : m ≤ 5) (hD : sp_D0 (s_D s)) (hW : sp_W0 (s_D s).1 (s_t s)) : sp_mx 0 (-1) (pf s m) (5 ^ m) = (nI (pG (s_D s) (s_fi s) (m - 1) (s_t s)), nI (sp_pw (s_D s) (s_fi s) m (s_t s) m).2.2.2.2) ∧ pG (s_D s) (s_fi s) (m - 1) (s_t s) < 5 ^ m := by
  obtain ⟨l, rfl⟩ : ∃ l, m = l + 1 := ⟨m - 1, by omega⟩
  rw [Nat.add_sub_cancel]
  have hO : pO (s_D s) l (s_t s) := ⟨hW, by show 0 + 77 * (l + 1) ≤ 2000; omega⟩
  have hg := pG_fa (fi := s_fi s) hD l _ hO
  have hp := p5 (l + 1)
  obtain ⟨i, v, hf, e⟩ := mx_fa (g := pf s (l + 1)) (5 ^ (l + 1) - 1) (fun j _ => by
    have h := pW_g (fi := s_fi s) (n := l + 1) (c := j) hD hW (l + 1)
    have e0 : (s_t s).2.2.2.2 = 0 := rfl
    show (pW (s_D s) (s_fi s) (l + 1) j (s_t s) (l + 1)).2.2.2.2 < 2 ^ 31
    omega)
  rw [Nat.sub_add_cancel hp] at hf e
  have hf2 := fa_c (f := pV (s_D s) (s_fi s) l (s_t s)) (fun j hj => (pW_V l j _ hj).symm) hf
  obtain ⟨e1, e2⟩ := fa_u hf2 hg
  refine ⟨?_, hg.1⟩
  rw [e, e1, e2, pw_M hD l _ hO]
/-- the row as it is written, from behind -/
def plF (F : Nat) (f : Nat → Int32) (r m t : Nat) : Nat → Int32 := fun i => if 40 * r + t ≤ i ∧ i < 40 * r + m then nI (F / 5 ^ (m - (i - 40 * r + 1)) % 5) else bz f r 40 i
theorem plF_m {F : Nat} {f : Nat → Int32} {r m : Nat} : plF F f r m m = bz f r 40 := by
  funext i
  exact if_neg (by omega)
theorem plF_s {F : Nat} {f : Nat → Int32} {r m t : Nat} (h : t < m) : upd (plF F f r m (t + 1)) (40 * r + t) (nI (F / 5 ^ (m - (t + 1)) % 5)) = plF F f r m t := by
  funext i
  unfold upd plF
  by_cases h1 : i = 40 * r + t
  · rw [if_pos h1, if_pos (by omega), show i - 40 * r = t by omega]
  · rw [if_neg h1]
    by_cases h2 : 40 * r + (t + 1) ≤ i ∧ i < 40 * r + m
    · rw [if_pos h2, if_pos (by omega)]
    · rw [if_neg h2, if_neg (by omega)]
theorem dv_s (t : Nat) : nI (t + 1) + (-1) = nI t := (Int32.sub_eq_add_neg _ _).symm.trans (nI_pred t)
theorem pl_d {F m t : Nat} (h : t < m) : F / 5 ^ (m - (t + 1)) / 5 = F / 5 ^ (m - t) := by
  rw [Nat.div_div_eq_div_mul, ← Nat.pow_succ, show (m - (t + 1)).succ = m - t by omega]
theorem pl_row {s : sg} {m i q : Nat} {f rc : Nat → Int32} (h1 : 1 ≤ m) (h5 : m ≤ 5) (hD : sp_D0 (s_D s)) (hW : sp_W0 (s_D s).1 (s_t s)) (hi : i < m) : plF (pG (s_D s) (s_fi s) (m - 1) (s_t s)) f q m 0 (40 * q + i) = sp_pr s rc m m i := by
  obtain ⟨l, rfl⟩ : ∃ l, m = l + 1 := ⟨m - 1, by omega⟩
  have hO : pO (s_D s) l (s_t s) := ⟨hW, by show 0 + 77 * (l + 1) ≤ 2000; omega⟩
  unfold plF sp_pr
  rw [if_pos (by omega), if_pos hi, Nat.add_sub_cancel, show l + 1 - (40 * q + i - 40 * q + 1) = l - i by omega, show l + 1 - i - 1 = l - i by omega, pG_dig hD l _ hO i (by omega)]
  exact bN_I.symm
set_option maxHeartbeats 4000000 in
set_option maxRecDepth 100000 in
theorem l_X5_pl0 (dom : List Nat) (h : mh_H) (x : mxT) (sl : Nat → Int32) (tu : Int32) (m : Nat) (hm2 : m ≤ 5) (x2 : Int32) (Q : Option Value → mh_H → Prop) (KK : At mX5_plan dom 4 57 [some (.ref 0), some (.int (nI m)), some (.int x2), some (.int (nI (5 ^ m))), some (.int (nI m)), none, none, none, none, none] [] (hM h x sl tu) Q) : ∀ (nn j : Nat), j + nn = m → At mX5_plan dom 4 41 [some (.ref 0), some (.int (nI m)), some (.int x2), some (.int (nI (5 ^ j))), some (.int (nI j)), none, none, none, none, none] [] (hM h x sl tu) Q := by
  intro nn
  induction nn with
  | zero =>
    intro j hj
    have hj : j = m := by omega
    subst hj
    refine ax_iload (pc := 41) dX5_plan_41 rfl ?_
    refine ax_iload_n (pc := 43) dX5_plan_43 rfl ?_
    refine ax_icmpge (pc := 44) (tgt := 57) dX5_plan_44 (by decide) (fun _ => ?_) (fun q => absurd (nI_le (Nat.le_refl _) (by omega)) q)
    exact KK
  | succ nn ih =>
    intro j hj
    have hlt : j < m := by omega
    refine ax_iload (pc := 41) dX5_plan_41 rfl ?_
    refine ax_iload_n (pc := 43) dX5_plan_43 rfl ?_
    refine ax_icmpge (pc := 44) (tgt := 57) dX5_plan_44 (by decide) (fun q => absurd q (nI_ge hlt (by omega))) (fun _ => ?_)
    refine ax_iload_n (pc := 47) dX5_plan_47 rfl ?_
    refine ax_iconst (pc := 48) (v := nI 5) dX5_plan_48 (by decide) ?_
    refine bx_imul dX5_plan_49  ?_
    refine At.ti (x' := nI (5 ^ (j + 1))) (by rw [Nat.pow_succ]) ?_
    refine ax_istore3 (pc := 50) dX5_plan_50 rfl (by decide) ?_
    refine ax_inc4p1 (pc := 51) dX5_plan_51 rfl (by decide) ?_
    refine ax_goto (pc := 54) (tgt := 41) dX5_plan_54 (by decide) ?_
    rw [nI_1]
    exact ih (j + 1) (by omega)
set_option maxHeartbeats 4000000 in
set_option maxRecDepth 100000 in
theorem l_X5_pl1 (dom : List Nat) (h : mh_H) (s : sg) (nd : Int32) (sl : Nat → Int32) (hm : MB s h sl) (hv : IV s) (hd0 : ¬ (s_D s).1 = 0) (m code : Nat) (hm2 : m ≤ 5) (hcode : code < 4000) (x2 x3 x4 x5 : Int32) (Q : Option Value → mh_H → Prop) (KK : ∀ g tu, At mX5_plan dom 4 131 [some (.ref 0), some (.int (nI m)), some (.int x2), some (.int x3), some (.int x4), some (.int x5), some (.int (nI code)), some (.int (nI (5 ^ (m - m)))), some (.int (nI (pW (s_D s) (s_fi s) m code (s_t s) m).2.2.2.2)), some (.int (nI m))] [] (hM h (xs s nd) (s6 sl 984 (pW (s_D s) (s_fi s) m code (s_t s) m) (s_fi s) g) tu) Q) : ∀ (nn j : Nat), j + nn = m → ∀ (g tu : Int32), At mX5_plan dom 4 85 [some (.ref 0), some (.int (nI m)), some (.int x2), some (.int x3), some (.int x4), some (.int x5), some (.int (nI code)), some (.int (nI (5 ^ (m - j)))), some (.int (nI (pW (s_D s) (s_fi s) m code (s_t s) j).2.2.2.2)), some (.int (nI j))] [] (hM h (xs s nd) (s6 sl 984 (pW (s_D s) (s_fi s) m code (s_t s) j) (s_fi s) g) tu) Q := by
  intro nn
  induction nn with
  | zero =>
    intro j hj g tu
    have hj : j = m := by omega
    subst hj
    refine ax_iload (pc := 85) dX5_plan_85 rfl ?_
    refine ax_iload_n (pc := 87) dX5_plan_87 rfl ?_
    refine ax_icmpge (pc := 88) (tgt := 131) dX5_plan_88 (by decide) (fun _ => ?_) (fun q => absurd (nI_le (Nat.le_refl _) (by omega)) q)
    exact KK _ _
  | succ nn ih =>
    intro j hj g tu
    have hlt : j < m := by omega
    obtain ⟨⟨m1, f2, m2, mf⟩, ⟨m3, f4, m4, mg⟩, ⟨so, fl, dr, md⟩, mn, msl, mk, mc, ⟨wo, mw⟩⟩ := id hm
    have hn := hm.now
    have h40 := hv.2.2.2.1.1
    obtain ⟨d5, d6, d7, dR⟩ := id md
    obtain ⟨hD0, hW0, hfi⟩ := hv.w hd0
    have hWt : sp_W0 (s_D s).1 (s_t s) := hW0
    have hp0 : 5 ^ (m - j) < 2 ^ 31 := Nat.lt_of_le_of_lt (Nat.pow_le_pow_right (by decide) (show m - j ≤ 5 by omega)) (by decide)
    have hp1 : 5 ^ (m - (j + 1)) < 2 ^ 31 := Nat.lt_of_le_of_lt (Nat.pow_le_pow_right (by decide) (show m - (j + 1) ≤ 5 by omega)) (by decide)
    have he : 5 ^ (m - j) / 5 = 5 ^ (m - (j + 1)) := by rw [show m - j = m - (j + 1) + 1 by omega, Nat.pow_succ, Nat.mul_div_cancel _ (by decide)]
    refine ax_iload (pc := 85) dX5_plan_85 rfl ?_
    refine ax_iload_n (pc := 87) dX5_plan_87 rfl ?_
    refine ax_icmpge (pc := 88) (tgt := 131) dX5_plan_88 (by decide) (fun q => absurd q (nI_ge hlt (by omega))) (fun _ => ?_)
    refine ax_iload (pc := 91) dX5_plan_91 rfl ?_
    refine ax_iconst (pc := 93) (v := nI 5) dX5_plan_93 (by decide) ?_
    refine bx_idiv dX5_plan_94 hp0 (by decide) (by decide) ?_
    refine At.ti (x' := nI (5 ^ (m - (j + 1)))) (congrArg nI he) ?_
    refine ax_istore7 (pc := 95) dX5_plan_95 rfl (by decide) ?_
    refine ax_aload_n (pc := 97) dX5_plan_97 rfl ?_
    refine ax_getf (pc := 98) fX5_41 dX5_plan_98 (by exact hM_0) rfl ?_
    refine ax_sipush (pc := 101) (v := nI 985) dX5_plan_101 (by decide) ?_
    refine ax_iload (pc := 104) dX5_plan_104 rfl ?_
    refine ax_iload (pc := 106) dX5_plan_106 rfl ?_
    refine bx_idiv dX5_plan_108 (by omega) (p5 _) hp1 ?_
    refine ax_iconst (pc := 109) (v := nI 5) dX5_plan_109 (by decide) ?_
    refine bx_irem dX5_plan_110 (Nat.lt_of_le_of_lt (Nat.div_le_self _ _) (by omega)) (by decide) (by decide) ?_
    refine bx_slst dX5_plan_111 (by decide) (s6_u1 (b := 984)) ?_
    refine ax_iload (pc := 112) dX5_plan_112 rfl ?_
    refine ax_aload_n (pc := 114) dX5_plan_114 rfl ?_
    refine ax_sipush (pc := 115) (v := nI 984) dX5_plan_115 (by decide) ?_
    refine ax_iconst (pc := 118) (v := 0) dX5_plan_118 (by decide) ?_
    refine ax_eVi2 (pc := 119) vX5_156 dX5_plan_119 (by decide) (by exact hM_0) (Nat.le_of_ble_eq_true rfl) (c_X5_steps _ h (xs s nd) sl tu (s_D s) so fl dr md 984 (s_fi s) (hs (pW (s_D s) (s_fi s) m code (s_t s) j) (code / 5 ^ (m - (j + 1)) % 5)) g (by decide) hD0 (hs_ok (pW_ok hD0 hWt j) m5) hfi rfl) ?_
    refine bx_iadd dX5_plan_122  ?_
    refine At.ti (x' := nI (pW (s_D s) (s_fi s) m code (s_t s) (j + 1)).2.2.2.2) rfl ?_
    refine ax_istore8 (pc := 123) dX5_plan_123 rfl (by decide) ?_
    refine ax_inc9p1 (pc := 125) dX5_plan_125 rfl (by decide) ?_
    refine ax_goto (pc := 128) (tgt := 85) dX5_plan_128 (by decide) ?_
    rw [nI_1]
    exact ih (j + 1) (by omega) _ _
set_option maxHeartbeats 4000000 in
set_option maxRecDepth 100000 in
theorem l_X5_pl3 (dom : List Nat) (h : mh_H) (x : mxT) (sl : Nat → Int32) (tu : Int32) (z f : Nat → Int32) (r m F : Nat) (hr : r < 6) (hm2 : m ≤ 5) (hF : F < 4000) (x3 x5 : Int32) (l7 l8 l9 : Option Value) : ∀ (t : Nat), t ≤ m → At mX5_plan dom 4 173 [some (.ref 0), some (.int (nI m)), some (.int (nI r)), some (.int x3), some (.int (nI (F / 5 ^ (m - t)))), some (.int x5), some (.int (nI t + (-1))), l7, l8, l9] [] (hM (mh_up (mh_up h 1 (mh_ia 0 6 (upd z r (nI m)))) 2 (mh_ia 0 240 (plF F f r m t))) x sl tu) (mx_Ri (fun v' h' => v' = x5 ∧ h' = (hM (mh_up (mh_up h 1 (mh_ia 0 6 (upd z r (nI m)))) 2 (mh_ia 0 240 (plF F f r m 0))) x sl tu))) := by
  intro t
  induction t with
  | zero =>
    intro ht
    refine ax_iload (pc := 173) dX5_plan_173 rfl ?_
    refine ax_iflt (pc := 175) (tgt := 206) dX5_plan_175 (by decide) (fun _ => ?_) (fun q => absurd (by decide) q)
    refine ax_iload (pc := 206) dX5_plan_206 rfl ?_
    refine ax_iret (pc := 208) dX5_plan_208 rfl ?_
    exact ⟨_, rfl, rfl, rfl⟩
  | succ t ih =>
    intro ht
    rw [dv_s]
    refine ax_iload (pc := 173) dX5_plan_173 rfl ?_
    refine ax_iflt (pc := 175) (tgt := 206) dX5_plan_175 (by decide) (fun q => absurd q (nI_pos (by omega))) (fun _ => ?_)
    refine ax_aload_n (pc := 178) dX5_plan_178 rfl ?_
    refine ax_getf (pc := 179) fX5_13 dX5_plan_179 (by exact hM_0) rfl ?_
    refine ax_bipush (pc := 182) (v := nI 40) dX5_plan_182 (by decide) ?_
    refine ax_iload_n (pc := 184) dX5_plan_184 rfl ?_
    refine bx_imul dX5_plan_185  ?_
    refine ax_iload (pc := 186) dX5_plan_186 rfl ?_
    refine bx_iadd dX5_plan_188  ?_
    refine ax_iload (pc := 189) dX5_plan_189 rfl ?_
    refine ax_iconst (pc := 191) (v := nI 5) dX5_plan_191 (by decide) ?_
    refine bx_irem dX5_plan_192 (Nat.lt_of_le_of_lt (Nat.div_le_self _ _) (by omega)) (by decide) (by decide) ?_
    refine bx_iastoreu dX5_plan_193 (by decide) (by omega) (by decide) (plF_s (by omega)) ?_
    refine ax_iload (pc := 194) dX5_plan_194 rfl ?_
    refine ax_iconst (pc := 196) (v := nI 5) dX5_plan_196 (by decide) ?_
    refine bx_idiv dX5_plan_197 (Nat.lt_of_le_of_lt (Nat.div_le_self _ _) (by omega)) (by decide) (by decide) ?_
    refine At.ti (x' := nI (F / 5 ^ (m - t))) (congrArg nI (pl_d (by omega))) ?_
    refine ax_istore4 (pc := 198) dX5_plan_198 rfl (by decide) ?_
    refine ax_inc6m1 (pc := 200) dX5_plan_200 rfl (by decide) ?_
    refine ax_goto (pc := 203) (tgt := 173) dX5_plan_203 (by decide) ?_
    exact ih (by omega)
set_option maxHeartbeats 4000000 in
set_option maxRecDepth 100000 in
theorem l_X5_pl2 (dom : List Nat) (h : mh_H) (s : sg) (nd : Int32) (hv : IV s) (hd0 : ¬ (s_D s).1 = 0) (m q : Nat) (hq : q < 6) (hm1 : 1 ≤ m) (hm2 : m ≤ 5) : ∀ (nn j : Nat), j + nn = 5 ^ m → ∀ (sl : Nat → Int32) (tu : Int32) (l7 l8 l9 : Option Value), MB s h sl → At mX5_plan dom 4 66 [some (.ref 0), some (.int (nI m)), some (.int (nI q)), some (.int (nI (5 ^ m))), some (.int (sp_mx 0 (-1) (pf s m) j).1), some (.int (sp_mx 0 (-1) (pf s m) j).2), some (.int (nI j)), l7, l8, l9] [] (hM h (xs s nd) sl tu) (mx_Ri (fun v' h' => v' = nI (sp_pw (s_D s) (s_fi s) m (s_t s) m).2.2.2.2 ∧ MP (u_rows s (va_fn (s_rz s) q (nI m)) (va_fn (s_rc s) q (sp_pr s (s_rc s q) m m))) h')) := by
  intro nn
  induction nn with
  | zero =>
    intro j hj sl tu l7 l8 l9 hinv
    have hj : j = 5 ^ m := by omega
    subst hj
    have hp5 : 5 ^ m ≤ 3125 := Nat.pow_le_pow_right (by decide) hm2
    have hm := hinv
    obtain ⟨⟨m1, f2, m2, mf⟩, ⟨m3, f4, m4, mg⟩, ⟨so, fl, dr, md⟩, mn, msl, mk, mc, ⟨wo, mw⟩⟩ := id hm
    have hn := hm.now
    have h40 := hv.2.2.2.1.1
    obtain ⟨d5, d6, d7, dR⟩ := id md
    obtain ⟨hD0, hW0, hfi⟩ := hv.w hd0
    have hWt : sp_W0 (s_D s).1 (s_t s) := hW0
    refine ax_iload (pc := 66) dX5_plan_66 rfl ?_
    refine ax_iload_n (pc := 68) dX5_plan_68 rfl ?_
    refine ax_icmpge (pc := 69) (tgt := 162) dX5_plan_69 (by decide) (fun _ => ?_) (fun q => absurd (nI_le (Nat.le_refl _) (by omega)) q)
    refine ax_aload_n (pc := 162) dX5_plan_162 rfl ?_
    refine ax_iload_n (pc := 163) dX5_plan_163 rfl ?_
    refine ax_iload_n (pc := 164) dX5_plan_164 rfl ?_
    refine ax_eVv2 (pc := 165) vX5_71 dX5_plan_165 (by decide) (by exact hM_0) (Nat.le_of_ble_eq_true rfl) (c_X5_begins _ h (xs s nd) sl tu (s_rz s) f2 q (nI m) hq m1 m2) ?_
    refine ax_iload_n (pc := 168) dX5_plan_168 rfl ?_
    refine ax_iconst (pc := 169) (v := nI 1) dX5_plan_169 (by decide) ?_
    refine ax_isub (pc := 170) dX5_plan_170 ?_
    refine At.ti (x' := nI m + (-1)) (Int32.sub_eq_add_neg _ _) ?_
    refine ax_istore6 (pc := 171) dX5_plan_171 rfl (by decide) ?_
    obtain ⟨eE, hF⟩ := pl_end hm1 hm2 hD0 hWt
    rw [eE]
    have K := l_X5_pl3 dom h (xs s nd) sl tu (s_rz s) f2 q m (pG (s_D s) (s_fi s) (m - 1) (s_t s)) hq hm2 (by omega) (nI (5 ^ m)) (nI (sp_pw (s_D s) (s_fi s) m (s_t s) m).2.2.2.2) l7 l8 l9 m (Nat.le_refl _)
    rw [plF_m, Nat.sub_self, Nat.pow_zero, Nat.div_one] at K
    refine At.mono ?_ K
    rintro r h1 ⟨v, rfl, rfl, rfl⟩
    exact ⟨_, rfl, rfl, MB.mp (s := u_rows s _ _) (MB.made hm hv hq (by omega) mf (fun i hi => pl_row hm1 hm2 hD0 hWt hi) (fun i hi => (if_neg (by omega)).trans (if_neg (by omega))))⟩
  | succ nn ih =>
    intro j hj sl tu l7 l8 l9 hinv
    have hlt : j < 5 ^ m := by omega
    have hp5 : 5 ^ m ≤ 3125 := Nat.pow_le_pow_right (by decide) hm2
    have hm := hinv
    obtain ⟨⟨m1, f2, m2, mf⟩, ⟨m3, f4, m4, mg⟩, ⟨so, fl, dr, md⟩, mn, msl, mk, mc, ⟨wo, mw⟩⟩ := id hm
    have hn := hm.now
    have h40 := hv.2.2.2.1.1
    obtain ⟨d5, d6, d7, dR⟩ := id md
    obtain ⟨hD0, hW0, hfi⟩ := hv.w hd0
    have hWt : sp_W0 (s_D s).1 (s_t s) := hW0
    refine ax_iload (pc := 66) dX5_plan_66 rfl ?_
    refine ax_iload_n (pc := 68) dX5_plan_68 rfl ?_
    refine ax_icmpge (pc := 69) (tgt := 162) dX5_plan_69 (by decide) (fun q => absurd q (nI_ge hlt (by omega))) (fun _ => ?_)
    refine ax_aload_n (pc := 72) dX5_plan_72 rfl ?_
    refine ax_eVv0 (pc := 73) vX5_164 dX5_plan_73 (by decide) (by exact hM_0) (Nat.le_of_ble_eq_true rfl) (c_X5_try _ h s nd sl tu hn h40) ?_
    refine ax_iload_n (pc := 76) dX5_plan_76 rfl ?_
    refine ax_istore7 (pc := 77) dX5_plan_77 rfl (by decide) ?_
    refine ax_iconst (pc := 79) (v := nI 0) dX5_plan_79 (by decide) ?_
    refine ax_istore8 (pc := 80) dX5_plan_80 rfl (by decide) ?_
    refine ax_iconst (pc := 82) (v := nI 0) dX5_plan_82 (by decide) ?_
    refine ax_istore9 (pc := 83) dX5_plan_83 rfl (by decide) ?_
    refine l_X5_pl1 dom h s nd sl hm hv hd0 m j hm2 (by omega) _ _ _ _ _ (fun g1 tu1 => ?_) m 0 (by omega) _ _
    refine ax_iload (pc := 131) dX5_plan_131 rfl ?_
    refine ax_iload (pc := 133) dX5_plan_133 rfl ?_
    refine ax_icmple (pc := 135) (tgt := 143) dX5_plan_135 (by decide) (fun c135 => ?_) (fun c135 => ?_)
    · refine ax_iload (pc := 143) dX5_plan_143 rfl ?_
      refine ax_istore4 (pc := 145) dX5_plan_145 rfl (by decide) ?_
      refine ax_iload (pc := 147) dX5_plan_147 rfl ?_
      refine ax_iload (pc := 149) dX5_plan_149 rfl ?_
      refine ax_eSi2 (pc := 151) sX5_106 dX5_plan_151 (by decide) (Nat.le_of_ble_eq_true rfl) (c_X5_larger _ _ _ _) ?_
      refine ax_istore5 (pc := 154) dX5_plan_154 rfl (by decide) ?_
      refine ax_inc6p1 (pc := 156) dX5_plan_156 rfl (by decide) ?_
      refine ax_goto (pc := 159) (tgt := 66) dX5_plan_159 (by decide) ?_
      rw [nI_1]
      have K := fun l7 l8 l9 => ih (j + 1) (by omega) (s6 sl 984 (pW (s_D s) (s_fi s) m j (s_t s) m) (s_fi s) g1) tu1 l7 l8 l9 (hm.t hv)
      first
        | (rw [sp_mx_f (g := pf s m) (j := j) (Int32.not_lt.mpr c135)] at K; rw [if_neg (Int32.not_lt.mpr c135)]; exact K _ _ _)
        | (rw [sp_mx_t (g := pf s m) (j := j) (Int32.not_le.mp c135)] at K; rw [if_pos (Int32.not_le.mp c135)]; exact K _ _ _)
    · refine ax_iload (pc := 138) dX5_plan_138 rfl ?_
      refine ax_goto (pc := 140) (tgt := 145) dX5_plan_140 (by decide) ?_
      refine ax_istore4 (pc := 145) dX5_plan_145 rfl (by decide) ?_
      refine ax_iload (pc := 147) dX5_plan_147 rfl ?_
      refine ax_iload (pc := 149) dX5_plan_149 rfl ?_
      refine ax_eSi2 (pc := 151) sX5_106 dX5_plan_151 (by decide) (Nat.le_of_ble_eq_true rfl) (c_X5_larger _ _ _ _) ?_
      refine ax_istore5 (pc := 154) dX5_plan_154 rfl (by decide) ?_
      refine ax_inc6p1 (pc := 156) dX5_plan_156 rfl (by decide) ?_
      refine ax_goto (pc := 159) (tgt := 66) dX5_plan_159 (by decide) ?_
      rw [nI_1]
      have K := fun l7 l8 l9 => ih (j + 1) (by omega) (s6 sl 984 (pW (s_D s) (s_fi s) m j (s_t s) m) (s_fi s) g1) tu1 l7 l8 l9 (hm.t hv)
      first
        | (rw [sp_mx_f (g := pf s m) (j := j) (Int32.not_lt.mpr c135)] at K; rw [if_neg (Int32.not_lt.mpr c135)]; exact K _ _ _)
        | (rw [sp_mx_t (g := pf s m) (j := j) (Int32.not_le.mp c135)] at K; rw [if_pos (Int32.not_le.mp c135)]; exact K _ _ _)
set_option maxHeartbeats 4000000 in
set_option maxRecDepth 100000 in
theorem c_X5_plan (dom : List Nat) (h : mh_H) (s : sg) (nd : Int32) (sl : Nat → Int32) (tu : Int32) (n r : Int32) (hm : MB s h sl) (hv : IV s) : Mt mX5_plan dom 4 [.ref 0, .int n, .int r] (hM h (xs s nd) sl tu) (mx_Ri (fun v' h' => v' = (sp_plan s n r).1 ∧ MP (sp_plan s n r).2 h')) := by
  refine Mt.of (L := [some (.ref 0), some (.int n), some (.int r), none, none, none, none, none, none, none]) rfl (Nat.le_of_ble_eq_true rfl) rfl ?_
  obtain ⟨⟨m1, f2, m2, mf⟩, ⟨m3, f4, m4, mg⟩, ⟨so, fl, dr, md⟩, mn, msl, mk, mc, ⟨wo, mw⟩⟩ := id hm
  have hn := hm.now
  have h40 := hv.2.2.2.1.1
  obtain ⟨d5, d6, d7, dR⟩ := id md
  refine ax_iload_n (pc := 0) dX5_plan_0 rfl ?_
  refine ax_i2l (pc := 1) dX5_plan_1 ?_
  refine ax_lconst (pc := 2) (v := 1) dX5_plan_2 (by decide) ?_
  refine ax_ldc2 (pc := 3) dX5_plan_3 tw_707 ?_
  refine ax_eSi3 (pc := 6) sX5_63 dX5_plan_6 (by decide) (Nat.le_of_ble_eq_true rfl) (c_X5_in _ _ n 1 5 _ _ (by decide) (by decide)) ?_
  refine ax_ifeqB (pc := 9) (tgt := 24) dX5_plan_9 (by decide) (fun c9a => ?_) (fun c9a => ?_)
  · refine ax_iconst (pc := 24) (v := -1) dX5_plan_24 (by decide) ?_
    refine ax_iret (pc := 25) dX5_plan_25 rfl ?_
    exact fin_m (by unfold sp_plan; first | exact if_pos (Or.inl c9a) | exact if_pos (Or.inr c21)) hm.mp
  · refine ax_iload_n (pc := 12) dX5_plan_12 rfl ?_
    refine ax_i2l (pc := 13) dX5_plan_13 ?_
    refine ax_lconst (pc := 14) (v := 0) dX5_plan_14 (by decide) ?_
    refine ax_ldc2 (pc := 15) dX5_plan_15 tw_707 ?_
    refine ax_eSi3 (pc := 18) sX5_63 dX5_plan_18 (by decide) (Nat.le_of_ble_eq_true rfl) (c_X5_in _ _ r 0 5 _ _ (by decide) (by decide)) ?_
    refine ax_ifneB (pc := 21) (tgt := 26) dX5_plan_21 (by decide) (fun c21 => ?_) (fun c21 => ?_)
    · refine ax_aload_n (pc := 26) dX5_plan_26 rfl ?_
      refine ax_getf (pc := 27) fX5_97 dX5_plan_27 (by exact hM_0) rfl ?_
      refine ax_ifne (pc := 30) (tgt := 36) dX5_plan_30 (by decide) (fun c30 => ?_) (fun c30 => ?_)
      · obtain ⟨m, hm2, rfl⟩ := nI_of2 (n := 5) (M := 5) rfl (Int32.not_lt.mpr (Int32.le_trans (by decide) c9a.1)) c9a.2
        have hd0 : ¬ (s_D s).1 = 0 := fun q => c30 (by show nI (s_D s).1 = 0; rw [q]; rfl)
        obtain ⟨hD0, hW0, hfi⟩ := hv.w hd0
        have hWt : sp_W0 (s_D s).1 (s_t s) := hW0
        obtain ⟨q, hq, rfl⟩ := ix_5 c21
        have hm1 : 1 ≤ m := by have z := c9a.1; rw [n_1, nI_leI (by decide) (by omega)] at z; exact z
        refine ax_iconst (pc := 36) (v := nI 1) dX5_plan_36 (by decide) ?_
        refine ax_istore3 (pc := 37) dX5_plan_37 rfl (by decide) ?_
        refine ax_iconst (pc := 38) (v := nI 0) dX5_plan_38 (by decide) ?_
        refine ax_istore4 (pc := 39) dX5_plan_39 rfl (by decide) ?_
        unfold sp_plan
        rw [if_neg (by rintro (z | z); exact z c9a; exact z c21), if_neg hd0, ni_cl (by omega), ni_cl (by omega)]
        refine l_X5_pl0 dom h (xs s nd) sl tu m hm2 (nI q) _ ?_ m 0 (by omega)
        refine ax_iconst (pc := 57) (v := 0) dX5_plan_57 (by decide) ?_
        refine ax_istore4 (pc := 58) dX5_plan_58 rfl (by decide) ?_
        refine ax_iconst (pc := 60) (v := -1) dX5_plan_60 (by decide) ?_
        refine ax_istore5 (pc := 61) dX5_plan_61 rfl (by decide) ?_
        refine ax_iconst (pc := 63) (v := nI 0) dX5_plan_63 (by decide) ?_
        refine ax_istore6 (pc := 64) dX5_plan_64 rfl (by decide) ?_
        exact l_X5_pl2 dom h s nd hv hd0 m q hq hm1 hm2 (5 ^ m) 0 (by omega) sl tu none none none hm
      · refine ax_bipush (pc := 33) (v := -4) dX5_plan_33 (by decide) ?_
        refine ax_iret (pc := 35) dX5_plan_35 rfl ?_
        exact fin_m (by unfold sp_plan; rw [if_neg (by rintro (z | z); exact z c9a; exact z c21), if_pos ((nI_eq (by have := hv.2.2.1.1; omega) (show 0 < 2 ^ 31 by decide)).mp c30)]) hm.mp
    · refine ax_iconst (pc := 24) (v := -1) dX5_plan_24 (by decide) ?_
      refine ax_iret (pc := 25) dX5_plan_25 rfl ?_
      exact fin_m (by unfold sp_plan; first | exact if_pos (Or.inl c9a) | exact if_pos (Or.inr c21)) hm.mp
