/-! The mathematics: days, a wheel, a step; all numbers are natural ones -/
abbrev sp_D : Type := Nat × (Nat → Nat) × (Nat → Nat) × (Nat → Nat)
abbrev sp_W : Type := Nat × Nat × Nat × Bool × Nat
/-- what a day of kind k, flow f, drift r grinds through a hatch t, a grating c -/
def sp_fl (k f r t c : Nat) : Nat := if k = 1 then 2 * f * t - c else if k = 2 then f * min t 1 - c else if k = 4 then (2 * f * t - c) + (if t = 4 then 5 else 0) else if k = 5 then f * t - c - r else f * t - c
/-- what it leaves -/
def sp_li (k r : Nat) : Nat := if k = 1 ∨ k = 4 then r / 2 else if k = 3 then r + 3 else if k = 5 then 2 * (r + 3) else r
def sp_dr (D : sp_D) (fi k : Nat) : Nat := if fi.testBit k then 0 else D.2.2.2 k
def sp_df (D : sp_D) (fi k t c : Nat) : Nat := sp_fl (D.2.1 k) (D.2.2.1 k) (sp_dr D fi k) t c
def sp_dl (D : sp_D) (fi k : Nat) : Nat := sp_li (D.2.1 k) (sp_dr D fi k)
def sp_pass (n : Nat) (b : Bool) (a : Nat) : Nat := if b then (if 0 < a then a - 1 else n - 1) else (if a + 1 < n then a + 1 else 0)
/-- a step whose day grinds v and leaves u -/
def sp_mv (n : Nat) (w : sp_W) (v u : Nat) : sp_W := (sp_pass n (if v = 0 then !w.2.2.2.1 else w.2.2.2.1) w.1, w.2.1, min 40 (w.2.2.1 + u), (if v = 0 then !w.2.2.2.1 else w.2.2.2.1), w.2.2.2.2 + v)
def sp_wf (D : sp_D) (fi : Nat) (w : sp_W) : Nat := sp_df D fi w.1 w.2.1 w.2.2.1
def sp_st (D : sp_D) (fi : Nat) (w : sp_W) : sp_W := sp_mv D.1 w (sp_wf D fi w) (sp_dl D fi w.1)
def sp_D0 (D : sp_D) : Prop := 2 ≤ D.1 ∧ D.1 ≤ 9 ∧ ∀ k, k < 9 → D.2.1 k < 6 ∧ D.2.2.1 k < 10 ∧ D.2.2.2 k < 10
def sp_W0 (n : Nat) (w : sp_W) : Prop := w.1 < n ∧ w.2.1 ≤ 4 ∧ w.2.2.1 ≤ 40
theorem sp_dr_lt {D : sp_D} {fi k : Nat} (h : D.2.2.2 k < 10) : sp_dr D fi k < 10 := by
  unfold sp_dr
  split <;> omega
theorem sp_fl_le {k f r t c : Nat} (hf : f < 10) (ht : t ≤ 4) : sp_fl k f r t c ≤ 77 := by
  have h1 : f * t ≤ 9 * 4 := Nat.mul_le_mul (by omega) ht
  have h2 : 2 * f * t = 2 * (f * t) := Nat.mul_assoc 2 f t
  have h3 : f * min t 1 ≤ 9 * 1 := Nat.mul_le_mul (by omega) (Nat.min_le_right _ _)
  unfold sp_fl
  rw [h2]
  repeat' split
  all_goals omega
theorem sp_li_le {k r : Nat} (hr : r < 10) : sp_li k r ≤ 24 := by
  unfold sp_li
  repeat' split
  all_goals omega
theorem sp_pass_lt {n a : Nat} {b : Bool} (hn : 0 < n) (ha : a < n) : sp_pass n b a < n := by
  unfold sp_pass
  repeat' split
  all_goals omega
theorem sp_mv_ok {n : Nat} {w : sp_W} {v u : Nat} (hn : 0 < n) (h : sp_W0 n w) : sp_W0 n (sp_mv n w v u) := ⟨sp_pass_lt hn h.1, h.2.1, Nat.min_le_left _ _⟩
theorem sp_st_ok {D : sp_D} {fi : Nat} {w : sp_W} (hD : sp_D0 D) (h : sp_W0 D.1 w) : sp_W0 D.1 (sp_st D fi w) := sp_mv_ok (by have := hD.1; omega) h
theorem sp_wf_le {D : sp_D} {fi : Nat} {w : sp_W} (hD : sp_D0 D) (h : sp_W0 D.1 w) : sp_wf D fi w ≤ 77 := sp_fl_le (hD.2.2 w.1 (by have := hD.2.1; have := h.1; omega)).2.1 h.2.1
-- numbers
theorem ni_sub0 {a b : Nat} (ha : a < 2 ^ 30) (hb : b < 2 ^ 30) : (if (0 : Int32) < nI a - nI b then nI a - nI b else 0) = nI (a - b) := by
  have h1 := pk_sub_toInt ha hb
  by_cases h : b < a
  · rw [if_pos (by rw [Int32.lt_iff_toInt_lt, h1]; show (0 : Int) < _; omega), pk_sub (by omega)]
  · rw [if_neg (by rw [Int32.lt_iff_toInt_lt, h1]; show ¬ (0 : Int) < _; omega), show a - b = 0 by omega]
    rfl
theorem ni_min {a b : Nat} (ha : a < 2 ^ 31) (hb : b < 2 ^ 31) : (if nI b < nI a then nI b else nI a) = nI (min a b) := by
  by_cases h : b < a
  · rw [if_pos (nI_lt h ha), Nat.min_eq_right (by omega)]
  · rw [if_neg (nI_nlt (by omega) hb), Nat.min_eq_left (by omega)]
theorem ni_max {a b : Nat} (ha : a < 2 ^ 31) (hb : b < 2 ^ 31) : (if nI a < nI b then nI b else nI a) = nI (max a b) := by
  by_cases h : a < b
  · rw [if_pos (nI_lt h hb), Nat.max_eq_right (by omega)]
  · rw [if_neg (nI_nlt (by omega) ha), Nat.max_eq_left (by omega)]
abbrev bb (b : Bool) : Int32 := if b = true then 1 else 0
/-- a cell that is a wheel -/
def wc (w : sp_W) : mh_E := mh_ob 3 [.int (nI w.1), .int (nI w.2.1), .int (nI w.2.2.1), .int (bb w.2.2.2.1), .int (nI w.2.2.2.2)]
/-- days at a, their kinds at k, flows at f, drifts at r -/
def dyP (D : sp_D) (fi a k f r : Nat) (h : mh_H) : Prop := h a = mh_ob 0 [.ref k, .ref f, .ref r, .int (nI D.1), .int (nI fi)] ∧ h k = mh_ia 0 9 (fun j => nI (D.2.1 j)) ∧ h f = mh_ia 0 9 (fun j => nI (D.2.2.1 j)) ∧ h r = mh_ia 0 9 (fun j => nI (D.2.2.2 j))
