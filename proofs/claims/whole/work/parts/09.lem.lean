theorem nI_s {a b : Nat} (h : b ≤ a) : nI a - nI b = nI (a - b) := pk_sub h
theorem pa_t {n x : Nat} (hx : x < 100) (c : ¬ nI x ≤ 0) : nI x - 1 = nI (sp_pass n true x) := by
  rw [n_0, nI_leI (by omega) (by decide)] at c
  rw [n_1, nI_s (by omega)]
  simp only [sp_pass, if_true]
  rw [if_pos (by omega)]
theorem pa_u {n x : Nat} (hx : x < n) (hn : n < 100) (c : nI x ≤ 0) : nI n - 1 = nI (sp_pass n true x) := by
  rw [n_0, nI_leI (by omega) (by decide)] at c
  rw [n_1, nI_s (by omega)]
  simp only [sp_pass, if_true]
  rw [if_neg (by omega)]
theorem pa_v {n x : Nat} (hx : x < n) (hn : n < 100) (c : nI n - 1 ≤ nI x) : (0 : Int32) = nI (sp_pass n false x) := by
  rw [n_1, nI_s (by omega), nI_leI (by omega) (by omega)] at c
  simp only [sp_pass]
  rw [if_neg (by decide), if_neg (by omega)]
  rfl
theorem pa_w {n x : Nat} (hx : x < n) (hn : n < 100) (c : ¬ nI n - 1 ≤ nI x) : nI x + 1 = nI (sp_pass n false x) := by
  rw [n_1, nI_s (by omega), nI_leI (by omega) (by omega)] at c
  simp only [sp_pass]
  rw [if_neg (by decide), if_pos (by omega), nI_1]
theorem li_a {r k : Nat} (hr : r < 10) (hk : k = 1 ∨ k = 4) : nI r / 2 = nI (sp_li k r) := by
  unfold sp_li
  rw [if_pos hk, n_2, pk_div (by omega) (by decide) (by decide)]
theorem li_3 {r : Nat} : nI r + 3 = nI (sp_li 3 r) := by
  unfold sp_li
  rw [if_neg (by decide), if_pos rfl, n_3, nI_add]
theorem li_5 {r : Nat} : 2 * (nI r + 3) = nI (sp_li 5 r) := by
  unfold sp_li
  rw [if_neg (by decide), if_neg (by decide), if_pos rfl, n_3, nI_add, n_2, pk_mul]
theorem li_o {r k : Nat} (hk : k = 0 ∨ k = 2) : nI r = nI (sp_li k r) := by
  unfold sp_li
  rw [if_neg (by omega), if_neg (by omega), if_neg (by omega)]
theorem ft_le {f t : Nat} (hf : f < 10) (ht : t ≤ 4) : f * t ≤ 36 := Nat.le_trans (Nat.mul_le_mul (show f ≤ 9 by omega) ht) (by decide)
theorem fl_1 {f r t c : Nat} (hf : f < 10) (ht : t ≤ 4) (hc : c ≤ 40) : (if (0 : Int32) < 2 * nI f * nI t - nI c then 2 * nI f * nI t - nI c else 0) = nI (sp_fl 1 f r t c) := by
  have h := ft_le hf ht
  rw [n_2, pk_mul, pk_mul, ni_sub0 (by rw [Nat.mul_assoc]; omega) (by omega)]
  rfl
theorem fl_2 {f r t c : Nat} (hf : f < 10) (ht : t ≤ 4) (hc : c ≤ 40) : (if (0 : Int32) < nI f * (if (1 : Int32) < nI t then 1 else nI t) - nI c then nI f * (if (1 : Int32) < nI t then 1 else nI t) - nI c else 0) = nI (sp_fl 2 f r t c) := by
  have h : f * min t 1 ≤ 9 := Nat.le_trans (Nat.mul_le_mul (show f ≤ 9 by omega) (Nat.min_le_right t 1)) (by decide)
  rw [n_1, ni_min (by omega) (by decide), pk_mul, ni_sub0 (by omega) (by omega)]
  rfl
theorem fl_4 {f r t c : Nat} (hf : f < 10) (ht : t ≤ 4) (hc : c ≤ 40) (h4 : nI t = 4) : (if (0 : Int32) < 2 * nI f * nI t - nI c then 2 * nI f * nI t - nI c else 0) + 5 = nI (sp_fl 4 f r t c) := by
  have h := ft_le hf ht
  have e : t = 4 := (nI_eq (by omega) (by decide)).mp h4
  subst e
  rw [n_2, pk_mul, pk_mul, ni_sub0 (by rw [Nat.mul_assoc]; omega) (by omega), n_5, nI_add]
  rfl
theorem fl_4n {f r t c : Nat} (hf : f < 10) (ht : t ≤ 4) (hc : c ≤ 40) (h4 : ¬ nI t = 4) : (if (0 : Int32) < 2 * nI f * nI t - nI c then 2 * nI f * nI t - nI c else 0) + 0 = nI (sp_fl 4 f r t c) := by
  have h := ft_le hf ht
  have e : t ≠ 4 := fun e => h4 (by rw [e]; rfl)
  rw [n_2, pk_mul, pk_mul, ni_sub0 (by rw [Nat.mul_assoc]; omega) (by omega), n_0, nI_add]
  unfold sp_fl
  rw [if_neg (by decide), if_neg (by decide), if_pos rfl, if_neg e]
theorem fl_5 {f r t c : Nat} (hf : f < 10) (hr : r < 10) (ht : t ≤ 4) (hc : c ≤ 40) : (if (0 : Int32) < nI f * nI t - nI c - nI r then nI f * nI t - nI c - nI r else 0) = nI (sp_fl 5 f r t c) := by
  have h := ft_le hf ht
  have e : nI f * nI t - nI c - nI r = nI (f * t) - nI (c + r) := by rw [pk_mul, ← nI_add]; exact Int32.toBitVec_inj.mp (by simp only [Int32.toBitVec_sub, Int32.toBitVec_add]; rw [BitVec.sub_sub])
  rw [e, ni_sub0 (by omega) (by omega)]
  unfold sp_fl
  rw [if_neg (by decide), if_neg (by decide), if_neg (by decide), if_pos rfl, Nat.sub_sub]
theorem fl_o {f r t c k : Nat} (hf : f < 10) (ht : t ≤ 4) (hc : c ≤ 40) (hk : k = 0 ∨ k = 3) : (if (0 : Int32) < nI f * nI t - nI c then nI f * nI t - nI c else 0) = nI (sp_fl k f r t c) := by
  have h := ft_le hf ht
  rw [pk_mul, ni_sub0 (by omega) (by omega)]
  unfold sp_fl
  rw [if_neg (by omega), if_neg (by omega), if_neg (by omega), if_neg (by omega)]
theorem cl_min {c u : Nat} (hc : c ≤ 40) (hu : u ≤ 24) : (if nI c + nI u < 40 then nI c + nI u else 40) = nI (min 40 (c + u)) := by
  rw [nI_add, n_40, ni_min (by decide) (by omega)]
