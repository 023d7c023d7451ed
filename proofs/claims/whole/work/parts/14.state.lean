/-! The state of the system, and how the class's cells hold it -/
abbrev sg : Type := (Nat → Int32) × (Nat → Nat → Int32) × (Nat → Int32) × (Nat → Nat → Int32) × sp_D × List (Nat × Nat) × (Nat → Option (List (Nat × Nat))) × Int32 × Int64 × Int64 × Int32 × (Nat → Int32)
abbrev s_rz (s : sg) : Nat → Int32 := s.1
abbrev s_rc (s : sg) : Nat → Nat → Int32 := s.2.1
abbrev s_tz (s : sg) : Nat → Int32 := s.2.2.1
abbrev s_tc (s : sg) : Nat → Nat → Int32 := s.2.2.2.1
abbrev s_D (s : sg) : sp_D := s.2.2.2.2.1
abbrev s_ds (s : sg) : List (Nat × Nat) := s.2.2.2.2.2.1
abbrev s_kp (s : sg) : Nat → Option (List (Nat × Nat)) := s.2.2.2.2.2.2.1
abbrev s_ask (s : sg) : Int32 := s.2.2.2.2.2.2.2.1
abbrev s_up (s : sg) : Int64 := s.2.2.2.2.2.2.2.2.1
abbrev s_lo (s : sg) : Int64 := s.2.2.2.2.2.2.2.2.2.1
abbrev s_fin (s : sg) : Int32 := s.2.2.2.2.2.2.2.2.2.2.1
abbrev s_fc (s : sg) : Nat → Int32 := s.2.2.2.2.2.2.2.2.2.2.2
def u_rows (s : sg) (z : Nat → Int32) (c : Nat → Nat → Int32) : sg := (z, c, s_tz s, s_tc s, s_D s, s_ds s, s_kp s, s_ask s, s_up s, s_lo s, s_fin s, s_fc s)
def u_texts (s : sg) (z : Nat → Int32) (c : Nat → Nat → Int32) : sg := (s_rz s, s_rc s, z, c, s_D s, s_ds s, s_kp s, s_ask s, s_up s, s_lo s, s_fin s, s_fc s)
def u_leat (s : sg) (D : sp_D) (ds : List (Nat × Nat)) (kp : Nat → Option (List (Nat × Nat))) : sg := (s_rz s, s_rc s, s_tz s, s_tc s, D, ds, kp, s_ask s, s_up s, s_lo s, s_fin s, s_fc s)
def u_ask (s : sg) (v : Int32) : sg := (s_rz s, s_rc s, s_tz s, s_tc s, s_D s, s_ds s, s_kp s, v, s_up s, s_lo s, s_fin s, s_fc s)
def u_tell (s : sg) (a b : Int64) : sg := (s_rz s, s_rc s, s_tz s, s_tc s, s_D s, s_ds s, s_kp s, s_ask s, a, b, s_fin s, s_fc s)
def u_fnd (s : sg) (f : Nat) : sg := (s_rz s, s_rc s, s_tz s, s_tc s, s_D s, s_ds s, s_kp s, s_ask s, s_up s, s_lo s, nI f, upd (s_fc s) f (s_fc s f + 1))
def va_fn {α : Type} (f : Nat → α) (k : Nat) (v : α) : Nat → α := fun j => if j = k then v else f j
theorem va_fn_s {α : Type} {f : Nat → α} {k : Nat} {v : α} : va_fn f k v k = v := if_pos rfl
theorem va_fn_n {α : Type} {f : Nat → α} {k j : Nat} {v : α} (h : j ≠ k) : va_fn f k v j = f j := if_neg h
/-- one deed done -/
def rp_ap (D : sp_D) (s : sp_W × Nat) (d : Nat × Nat) : sp_W × Nat :=
  if d.1 = 1 then ((s.1.1, s.1.2.1, 0, s.1.2.2.2.1, s.1.2.2.2.2), s.2) else if d.1 = 2 then ((s.1.1, d.2, s.1.2.2.1, s.1.2.2.2.1, s.1.2.2.2.2), s.2) else if d.1 = 3 then (s.1, s.2 ||| 2 ^ d.2) else (sp_st D s.2 s.1, s.2)
def rp_0 (D : sp_D) : sp_W × Nat := if D.1 = 0 then ((0, 0, 0, false, 0), 0) else ((0, 2, 0, false, 0), 0)
def rp (D : sp_D) (ds : List (Nat × Nat)) : sp_W × Nat := ds.foldl (rp_ap D) (rp_0 D)
/-- what a deed answers -/
def rp_an (D : sp_D) (s : sp_W × Nat) (d : Nat × Nat) : Nat := if d.1 = 1 then s.1.2.2.1 else if d.1 = 2 then s.1.2.1 else if d.1 = 3 then sp_dr D s.2 d.2 else sp_wf D s.2 s.1
abbrev s_w (s : sg) : sp_W := (rp (s_D s) (s_ds s)).1
abbrev s_fi (s : sg) : Nat := (rp (s_D s) (s_ds s)).2
def dOK (n : Nat) (d : Nat × Nat) : Prop := d.1 ≤ 3 ∧ (d.1 = 2 → d.2 ≤ 4) ∧ (d.1 = 3 → d.2 < n)
def sp_D1 (D : sp_D) : Prop := D.1 ≤ 9 ∧ D.1 ≠ 1 ∧ ∀ k, k < 9 → D.2.1 k < 6 ∧ D.2.2.1 k < 10 ∧ D.2.2.2 k < 10
theorem sp_D1.to {D : sp_D} (h : sp_D1 D) (h0 : D.1 ≠ 0) : sp_D0 D := ⟨by have := h.2.1; omega, h.1, h.2.2⟩
def IV (s : sg) : Prop :=
  (∀ r, r < 6 → s_rz s r = -1 ∨ ∃ m, m ≤ 40 ∧ s_rz s r = nI m) ∧ (∀ t, t < 4 → s_tz s t = -1 ∨ ∃ m, m ≤ 60 ∧ s_tz s t = nI m) ∧ sp_D1 (s_D s) ∧
  ((s_ds s).length ≤ 40 ∧ (∀ d ∈ s_ds s, dOK (s_D s).1 d) ∧ ((s_D s).1 = 0 → s_ds s = [])) ∧ (∀ k, k < 3 → ∀ ds, s_kp s k = some ds → ds.length ≤ 40 ∧ (∀ d ∈ ds, dOK (s_D s).1 d) ∧ (s_D s).1 ≠ 0)
theorem or_lt {a k : Nat} (ha : a < 512) (hk : k < 9) : a ||| 2 ^ k < 512 := Nat.or_lt_two_pow (n := 9) ha (Nat.pow_lt_pow_right (by decide) hk)
theorem rp_ap_ok {D : sp_D} {s : sp_W × Nat} {d : Nat × Nat} (hD : sp_D0 D) (h : sp_W0 D.1 s.1 ∧ s.2 < 512) (hd : dOK D.1 d) : sp_W0 D.1 (rp_ap D s d).1 ∧ (rp_ap D s d).2 < 512 := by
  unfold rp_ap
  split
  · exact ⟨⟨h.1.1, h.1.2.1, Nat.zero_le _⟩, h.2⟩
  · split
    · rename_i _ h2
      exact ⟨⟨h.1.1, hd.2.1 h2, h.1.2.2⟩, h.2⟩
    · split
      · rename_i _ _ h3
        exact ⟨h.1, or_lt h.2 (Nat.lt_of_lt_of_le (hd.2.2 h3) hD.2.1)⟩
      · exact ⟨sp_st_ok hD h.1, h.2⟩
theorem rp_fold_ok {D : sp_D} (hD : sp_D0 D) : ∀ (ds : List (Nat × Nat)) (s : sp_W × Nat), sp_W0 D.1 s.1 ∧ s.2 < 512 → (∀ d ∈ ds, dOK D.1 d) → sp_W0 D.1 (ds.foldl (rp_ap D) s).1 ∧ (ds.foldl (rp_ap D) s).2 < 512
  | [], _, h, _ => h
  | d :: ds, s, h, hd => rp_fold_ok hD ds _ (rp_ap_ok hD h (hd d List.mem_cons_self)) (fun e he => hd e (List.mem_cons_of_mem _ he))
theorem rp_0_ok {D : sp_D} (hD : sp_D0 D) : sp_W0 D.1 (rp_0 D).1 ∧ (rp_0 D).2 < 512 := by
  have := hD.1
  unfold rp_0
  rw [if_neg (by omega)]
  exact ⟨⟨by show 0 < D.1; omega, by decide, by decide⟩, by decide⟩
theorem rp_ok {D : sp_D} {ds : List (Nat × Nat)} (hD : sp_D0 D) (hd : ∀ d ∈ ds, dOK D.1 d) : sp_W0 D.1 (rp D ds).1 ∧ (rp D ds).2 < 512 := rp_fold_ok hD ds _ (rp_0_ok hD) hd
theorem rp_snoc (D : sp_D) (ds : List (Nat × Nat)) (d : Nat × Nat) : rp D (ds ++ [d]) = rp_ap D (rp D ds) d := by
  unfold rp
  rw [List.foldl_append]
  rfl
theorem IV.w {s : sg} (h : IV s) (h0 : (s_D s).1 ≠ 0) : sp_D0 (s_D s) ∧ sp_W0 (s_D s).1 (s_w s) ∧ s_fi s < 512 := ⟨h.2.2.1.to h0, (rp_ok (h.2.2.1.to h0) h.2.2.2.1.2.1)⟩
theorem IV.fi {s : sg} (h : IV s) : s_fi s < 512 := by
  by_cases h0 : (s_D s).1 = 0
  · show (rp (s_D s) (s_ds s)).2 < 512
    rw [h.2.2.2.1.2.2 h0]
    unfold rp rp_0
    rw [if_pos h0]
    exact (by decide : 0 < 512)
  · exact (h.w h0).2.2
def dsR (ds : List (Nat × Nat)) (f g : Nat → Int32) : Prop := ∀ (j : Nat) (d : Nat × Nat), ds[j]? = some d → f j = nI d.1 ∧ g j = nI d.2
def kz (o : Option (List (Nat × Nat))) : Int32 := match o with
  | none => -1
  | some ds => nI ds.length
def gS (ask : Int32) (up lo : Int64) (fin : Int32) (fc : Nat → Int32) (h : mh_H) : Prop := h 0 = mh_ob 4 [.ref 1, .ref 2, .ref 3, .ref 4, .ref 5, .ref 6, .ref 7, .ref 8, .ref 9, .int ask, .long up, .long lo, .int fin, .ref 10] ∧ h 10 = mh_ia 0 6 fc
def gC (h : mh_H) : Prop := h 1 = mh_ra 2 6 (fun r => some (20 + r)) ∧ h 2 = mh_ra 2 4 (fun t => some (40 + t)) ∧ h 6 = mh_ra 3 3 (fun k => some (60 + k)) ∧ h 9 = mh_ra 4 5 (fun i => some (72 + i))
def gR (rz : Nat → Int32) (rc : Nat → Nat → Int32) (h : mh_H) : Prop := ∀ r, r < 6 → h (20 + r) = mh_ob 2 [.ref (30 + r), .int (rz r)] ∧ h (30 + r) = mh_ia 0 60 (rc r)
def gT (tz : Nat → Int32) (tc : Nat → Nat → Int32) (h : mh_H) : Prop := ∀ r, r < 4 → h (40 + r) = mh_ob 2 [.ref (50 + r), .int (tz r)] ∧ h (50 + r) = mh_ia 0 60 (tc r)
def gE (ds : List (Nat × Nat)) (h : mh_H) : Prop := ∃ f g, h 5 = mh_ob 1 [.ref 17, .ref 18, .int (nI ds.length)] ∧ h 17 = mh_ia 0 40 f ∧ h 18 = mh_ia 0 40 g ∧ dsR ds f g
def gK (kp : Nat → Option (List (Nat × Nat))) (h : mh_H) : Prop := ∀ k, k < 3 → ∃ f g, h (60 + k) = mh_ob 1 [.ref (64 + k), .ref (68 + k), .int (kz (kp k))] ∧ h (64 + k) = mh_ia 0 40 f ∧ h (68 + k) = mh_ia 0 40 g ∧ ∀ ds, kp k = some ds → dsR ds f g
def gV (h : mh_H) (a : Nat) : Prop := ∃ f0 f1 f2 f3 f4, h a = mh_ob 3 [f0, f1, f2, f3, f4]
def gX (h : mh_H) : Prop := gsX h ∧ gV h 8 ∧ ∀ i, i < 5 → gV h (72 + i)
def CP (s : sg) (h : mh_H) : Prop := gS (s_ask s) (s_up s) (s_lo s) (s_fin s) (s_fc s) h ∧ gC h ∧ gR (s_rz s) (s_rc s) h ∧ gT (s_tz s) (s_tc s) h ∧ dyP (s_D s) (s_fi s) 3 11 12 13 h ∧ h 4 = wc (s_w s) ∧ gE (s_ds s) h ∧ gK (s_kp s) h ∧ gX h
section FP
variable {h h' : mh_H}
theorem gS_k {a : Int32} {b c : Int64} {d : Int32} {e : Nat → Int32} (he : ∀ k, k = 0 ∨ k = 10 → h' k = h k) (g : gS a b c d e h) : gS a b c d e h' := ⟨(he 0 (by decide)).trans g.1, (he 10 (by decide)).trans g.2⟩
theorem gC_k (he : ∀ k, k = 1 ∨ k = 2 ∨ k = 6 ∨ k = 9 → h' k = h k) (g : gC h) : gC h' := ⟨(he 1 (by decide)).trans g.1, (he 2 (by decide)).trans g.2.1, (he 6 (by decide)).trans g.2.2.1, (he 9 (by decide)).trans g.2.2.2⟩
theorem gR_k {a : Nat → Int32} {b : Nat → Nat → Int32} (he : ∀ k, (20 ≤ k ∧ k < 26) ∨ (30 ≤ k ∧ k < 36) → h' k = h k) (g : gR a b h) : gR a b h' := fun r hr => ⟨(he _ (by omega)).trans (g r hr).1, (he _ (by omega)).trans (g r hr).2⟩
theorem gT_k {a : Nat → Int32} {b : Nat → Nat → Int32} (he : ∀ k, (40 ≤ k ∧ k < 44) ∨ (50 ≤ k ∧ k < 54) → h' k = h k) (g : gT a b h) : gT a b h' := fun r hr => ⟨(he _ (by omega)).trans (g r hr).1, (he _ (by omega)).trans (g r hr).2⟩
theorem dyP_k {D : sp_D} {fi a k f r : Nat} (he : ∀ q, q = a ∨ q = k ∨ q = f ∨ q = r → h' q = h q) (g : dyP D fi a k f r h) : dyP D fi a k f r h' := ⟨(he _ (by simp)).trans g.1, (he _ (by simp)).trans g.2.1, (he _ (by simp)).trans g.2.2.1, (he _ (by simp)).trans g.2.2.2⟩
theorem gE_k {a : List (Nat × Nat)} (he : ∀ k, k = 5 ∨ k = 17 ∨ k = 18 → h' k = h k) (g : gE a h) : gE a h' := by
  obtain ⟨f, g, g1, g2, g3, g4⟩ := g
  exact ⟨f, g, (he _ (by decide)).trans g1, (he _ (by decide)).trans g2, (he _ (by decide)).trans g3, g4⟩
theorem gK_k {a : Nat → Option (List (Nat × Nat))} (he : ∀ k, (60 ≤ k ∧ k < 63) ∨ (64 ≤ k ∧ k < 67) ∨ (68 ≤ k ∧ k < 71) → h' k = h k) (g : gK a h) : gK a h' := fun k hk => by
  obtain ⟨f, g, g1, g2, g3, g4⟩ := g k hk
  exact ⟨f, g, (he _ (by omega)).trans g1, (he _ (by omega)).trans g2, (he _ (by omega)).trans g3, g4⟩
theorem gsX_k (he : ∀ k, k = 7 ∨ k = 14 ∨ k = 15 ∨ k = 16 → h' k = h k) (g : gsX h) : gsX h' := by
  obtain ⟨x0, x1, k, f, r, g1, g2, g3, g4⟩ := g
  exact ⟨x0, x1, k, f, r, (he _ (by decide)).trans g1, (he _ (by decide)).trans g2, (he _ (by decide)).trans g3, (he _ (by decide)).trans g4⟩
theorem gV_k {a : Nat} (he : h' a = h a) (g : gV h a) : gV h' a := by
  obtain ⟨f0, f1, f2, f3, f4, g⟩ := g
  exact ⟨f0, f1, f2, f3, f4, he.trans g⟩
theorem gX_k (he : ∀ k, k = 7 ∨ k = 8 ∨ k = 14 ∨ k = 15 ∨ k = 16 ∨ (72 ≤ k ∧ k < 77) → h' k = h k) (g : gX h) : gX h' := ⟨gsX_k (fun k hk => he k (by omega)) g.1, gV_k (he 8 (by decide)) g.2.1, fun i hi => gV_k (he _ (by omega)) (g.2.2 i hi)⟩
theorem gV_s {a : Nat} (w : sp_W) : gV (mh_up h a (wc w)) a := ⟨_, _, _, _, _, mh_up_s⟩
theorem wc_V {a : Nat} {w : sp_W} (g : h a = wc w) : gV h a := ⟨_, _, _, _, _, g⟩
variable {s : sg}
/-- the trial wheel -/
theorem CP_8 {w : sp_W} (c : CP s h) : CP s (mh_up h 8 (wc w)) := by
  obtain ⟨c1, c2, c3, c4, c5, c6, c7, c8, c9⟩ := c
  exact ⟨gS_k (fun k hk => mh_up_n (by omega)) c1, gC_k (fun k hk => mh_up_n (by omega)) c2, gR_k (fun k hk => mh_up_n (by omega)) c3, gT_k (fun k hk => mh_up_n (by omega)) c4, dyP_k (fun k hk => mh_up_n (by omega)) c5, (mh_up_n (by decide)).trans c6, gE_k (fun k hk => mh_up_n (by omega)) c7, gK_k (fun k hk => mh_up_n (by omega)) c8, gsX_k (fun k hk => mh_up_n (by omega)) c9.1, gV_s w, fun i hi => gV_k (mh_up_n (by omega)) (c9.2.2 i hi)⟩
theorem CP_pl {w : sp_W} {i : Nat} (hi : i < 5) (c : CP s h) : CP s (mh_up h (72 + i) (wc w)) := by
  obtain ⟨c1, c2, c3, c4, c5, c6, c7, c8, c9⟩ := c
  refine ⟨gS_k (fun k hk => mh_up_n (by omega)) c1, gC_k (fun k hk => mh_up_n (by omega)) c2, gR_k (fun k hk => mh_up_n (by omega)) c3, gT_k (fun k hk => mh_up_n (by omega)) c4, dyP_k (fun k hk => mh_up_n (by omega)) c5, (mh_up_n (by omega)).trans c6, gE_k (fun k hk => mh_up_n (by omega)) c7, gK_k (fun k hk => mh_up_n (by omega)) c8, gsX_k (fun k hk => mh_up_n (by omega)) c9.1, gV_k (mh_up_n (by omega)) c9.2.1, fun j hj => ?_⟩
  by_cases hji : j = i
  · subst hji; exact gV_s w
  · exact gV_k (mh_up_n (by omega)) (c9.2.2 j hj)
theorem CP_gs {D : sp_D} {fi : Nat} (c : CP s h) : CP s (gsH h D fi) := by
  obtain ⟨c1, c2, c3, c4, c5, c6, c7, c8, c9⟩ := c
  exact ⟨gS_k (fun k hk => gsH_n (by omega)) c1, gC_k (fun k hk => gsH_n (by omega)) c2, gR_k (fun k hk => gsH_n (by omega)) c3, gT_k (fun k hk => gsH_n (by omega)) c4, dyP_k (fun k hk => gsH_n (by omega)) c5, (gsH_n (by decide)).trans c6, gE_k (fun k hk => gsH_n (by omega)) c7, gK_k (fun k hk => gsH_n (by omega)) c8, gsH_X h D fi, gV_k (gsH_n (by decide)) c9.2.1, fun i hi => gV_k (gsH_n (by omega)) (c9.2.2 i hi)⟩
abbrev o4 (ask : Int32) (up lo : Int64) (fin : Int32) : mh_E := mh_ob 4 [.ref 1, .ref 2, .ref 3, .ref 4, .ref 5, .ref 6, .ref 7, .ref 8, .ref 9, .int ask, .long up, .long lo, .int fin, .ref 10]
theorem CP_ask {v : Int32} (c : CP s h) : CP (u_ask s v) (mh_up h 0 (o4 v (s_up s) (s_lo s) (s_fin s))) := by
  obtain ⟨c1, c2, c3, c4, c5, c6, c7, c8, c9⟩ := c
  exact ⟨⟨mh_up_s, (mh_up_n (by decide)).trans c1.2⟩, gC_k (fun k hk => mh_up_n (by omega)) c2, gR_k (fun k hk => mh_up_n (by omega)) c3, gT_k (fun k hk => mh_up_n (by omega)) c4, dyP_k (fun k hk => mh_up_n (by omega)) c5, (mh_up_n (by decide)).trans c6, gE_k (fun k hk => mh_up_n (by omega)) c7, gK_k (fun k hk => mh_up_n (by omega)) c8, gX_k (fun k hk => mh_up_n (by omega)) c9⟩
theorem CP_tell {a b : Int64} (c : CP s h) : CP (u_tell s a b) (mh_up h 0 (o4 (s_ask s) a b (s_fin s))) := by
  obtain ⟨c1, c2, c3, c4, c5, c6, c7, c8, c9⟩ := c
  exact ⟨⟨mh_up_s, (mh_up_n (by decide)).trans c1.2⟩, gC_k (fun k hk => mh_up_n (by omega)) c2, gR_k (fun k hk => mh_up_n (by omega)) c3, gT_k (fun k hk => mh_up_n (by omega)) c4, dyP_k (fun k hk => mh_up_n (by omega)) c5, (mh_up_n (by decide)).trans c6, gE_k (fun k hk => mh_up_n (by omega)) c7, gK_k (fun k hk => mh_up_n (by omega)) c8, gX_k (fun k hk => mh_up_n (by omega)) c9⟩
theorem CP_fnd {f : Nat} (c : CP s h) : CP (u_fnd s f) (mh_up (mh_up h 0 (o4 (s_ask s) (s_up s) (s_lo s) (nI f))) 10 (mh_ia 0 6 (upd (s_fc s) f (s_fc s f + 1)))) := by
  obtain ⟨c1, c2, c3, c4, c5, c6, c7, c8, c9⟩ := c
  have e : ∀ k, k ≠ 10 → k ≠ 0 → mh_up (mh_up h 0 (o4 (s_ask s) (s_up s) (s_lo s) (nI f))) 10 (mh_ia 0 6 (upd (s_fc s) f (s_fc s f + 1))) k = h k := fun k h1 h2 => (mh_up_n h1).trans (mh_up_n h2)
  exact ⟨⟨(mh_up_n (by decide)).trans mh_up_s, mh_up_s⟩, gC_k (fun k hk => e k (by omega) (by omega)) c2, gR_k (fun k hk => e k (by omega) (by omega)) c3, gT_k (fun k hk => e k (by omega) (by omega)) c4, dyP_k (fun k hk => e k (by omega) (by omega)) c5, (e 4 (by decide) (by decide)).trans c6, gE_k (fun k hk => e k (by omega) (by omega)) c7, gK_k (fun k hk => e k (by omega) (by omega)) c8, gX_k (fun k hk => e k (by omega) (by omega)) c9⟩
theorem CP_row {r : Nat} {z : Int32} {q : Nat → Int32} (hr : r < 6) (c : CP s h) : CP (u_rows s (va_fn (s_rz s) r z) (va_fn (s_rc s) r q)) (mh_up (mh_up h (20 + r) (mh_ob 2 [.ref (30 + r), .int z])) (30 + r) (mh_ia 0 60 q)) := by
  obtain ⟨c1, c2, c3, c4, c5, c6, c7, c8, c9⟩ := c
  have e : ∀ k, k ≠ 30 + r → k ≠ 20 + r → mh_up (mh_up h (20 + r) (mh_ob 2 [.ref (30 + r), .int z])) (30 + r) (mh_ia 0 60 q) k = h k := fun k h1 h2 => (mh_up_n h1).trans (mh_up_n h2)
  refine ⟨gS_k (fun k hk => e k (by omega) (by omega)) c1, gC_k (fun k hk => e k (by omega) (by omega)) c2, fun j hj => ?_, gT_k (fun k hk => e k (by omega) (by omega)) c4, dyP_k (fun k hk => e k (by omega) (by omega)) c5, (e 4 (by omega) (by omega)).trans c6, gE_k (fun k hk => e k (by omega) (by omega)) c7, gK_k (fun k hk => e k (by omega) (by omega)) c8, gX_k (fun k hk => e k (by omega) (by omega)) c9⟩
  by_cases h1 : j = r
  · subst h1
    refine ⟨(mh_up_n (by omega)).trans (mh_up_s.trans ?_), mh_up_s.trans ?_⟩
    · show _ = mh_ob 2 [_, .int (va_fn (s_rz s) j z j)]
      rw [va_fn_s]
    · show _ = mh_ia 0 60 (va_fn (s_rc s) j q j)
      rw [va_fn_s]
  · refine ⟨(e _ (by omega) (by omega)).trans ((c3 j hj).1.trans ?_), (e _ (by omega) (by omega)).trans ((c3 j hj).2.trans ?_)⟩
    · show _ = mh_ob 2 [_, .int (va_fn (s_rz s) r z j)]
      rw [va_fn_n h1]
    · show _ = mh_ia 0 60 (va_fn (s_rc s) r q j)
      rw [va_fn_n h1]
theorem CP_txt {r : Nat} {z : Int32} {q : Nat → Int32} (hr : r < 4) (c : CP s h) : CP (u_texts s (va_fn (s_tz s) r z) (va_fn (s_tc s) r q)) (mh_up (mh_up h (40 + r) (mh_ob 2 [.ref (50 + r), .int z])) (50 + r) (mh_ia 0 60 q)) := by
  obtain ⟨c1, c2, c3, c4, c5, c6, c7, c8, c9⟩ := c
  have e : ∀ k, k ≠ 50 + r → k ≠ 40 + r → mh_up (mh_up h (40 + r) (mh_ob 2 [.ref (50 + r), .int z])) (50 + r) (mh_ia 0 60 q) k = h k := fun k h1 h2 => (mh_up_n h1).trans (mh_up_n h2)
  refine ⟨gS_k (fun k hk => e k (by omega) (by omega)) c1, gC_k (fun k hk => e k (by omega) (by omega)) c2, gR_k (fun k hk => e k (by omega) (by omega)) c3, fun j hj => ?_, dyP_k (fun k hk => e k (by omega) (by omega)) c5, (e 4 (by omega) (by omega)).trans c6, gE_k (fun k hk => e k (by omega) (by omega)) c7, gK_k (fun k hk => e k (by omega) (by omega)) c8, gX_k (fun k hk => e k (by omega) (by omega)) c9⟩
  by_cases h1 : j = r
  · subst h1
    refine ⟨(mh_up_n (by omega)).trans (mh_up_s.trans ?_), mh_up_s.trans ?_⟩
    · show _ = mh_ob 2 [_, .int (va_fn (s_tz s) j z j)]
      rw [va_fn_s]
    · show _ = mh_ia 0 60 (va_fn (s_tc s) j q j)
      rw [va_fn_s]
  · refine ⟨(e _ (by omega) (by omega)).trans ((c4 j hj).1.trans ?_), (e _ (by omega) (by omega)).trans ((c4 j hj).2.trans ?_)⟩
    · show _ = mh_ob 2 [_, .int (va_fn (s_tz s) r z j)]
      rw [va_fn_n h1]
    · show _ = mh_ia 0 60 (va_fn (s_tc s) r q j)
      rw [va_fn_n h1]
end FP
