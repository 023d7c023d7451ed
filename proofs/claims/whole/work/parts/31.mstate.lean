/-! The reference: its one object, its arrays, the slots -/
abbrev mxT : Type := Int32 × Int32 × Int32 × Int32 × Int64 × Int64 × Int32
abbrev o5 (x : mxT) (tu : Int32) : mh_E := mh_ob 5 [.ref 1, .ref 2, .ref 3, .ref 4, .int x.1, .ref 5, .ref 6, .ref 7, .ref 8, .ref 9, .ref 10, .int x.2.1, .ref 11, .int x.2.2.1, .ref 12, .int x.2.2.2.1, .long x.2.2.2.2.1, .long x.2.2.2.2.2.1, .int x.2.2.2.2.2.2, .ref 13, .int tu, .ref 14]
abbrev hM (h : mh_H) (x : mxT) (sl : Nat → Int32) (tu : Int32) : mh_H := mh_up (mh_up h 11 (mh_ia 0 1020 sl)) 0 (o5 x tu)
section MH
variable {h : mh_H} {x : mxT} {sl sl' : Nat → Int32} {tu : Int32}
theorem hM_n {k : Nat} (hk : k ≠ 0 ∧ k ≠ 11) : hM h x sl tu k = h k := (mh_up_n hk.1).trans (mh_up_n hk.2)
theorem hM_0 : hM h x sl tu 0 = o5 x tu := mh_up_s
theorem hM_11 : hM h x sl tu 11 = mh_ia 0 1020 sl := (mh_up_n (by decide)).trans mh_up_s
theorem hM_sl : mh_up (hM h x sl tu) 11 (mh_ia 0 1020 sl') = hM h x sl' tu := by
  unfold hM
  rw [mh_up_cm (k := 0) (j := 11) (by decide), mh_up_uu]
theorem hM_a {a : Nat} {e : mh_E} (hk : a ≠ 0 ∧ a ≠ 11) : mh_up (hM h x sl tu) a e = hM (mh_up h a e) x sl tu := by
  unfold hM
  rw [mh_up_cm (k := 0) (j := a) (Ne.symm hk.1), mh_up_cm (k := 11) (j := a) (Ne.symm hk.2)]
theorem hM_id (h0 : h 0 = o5 x tu) (h1 : h 11 = mh_ia 0 1020 sl) : hM h x sl tu = h := by
  unfold hM
  rw [mh_up_id h1, mh_up_id h0]
end MH
section MR
variable {y z : mt_I} {dom : List Nat} {d pc : Nat} {L : List (Option Value)} {st : List Value} {h : mh_H} {Q : Option Value → mh_H → Prop} {x : mxT} {sl : Nat → Int32} {tu : Int32}
theorem bx_iadd {a b : Nat} (hd : decode y.2.1 pc = .ok (.iadd, 1)) (K : At y dom d (pc + 1) L (.int (nI (a + b)) :: st) h Q) : At y dom d pc L (.int (nI b) :: .int (nI a) :: st) h Q := ax_iadd hd (At.ti (nI_add a b) K)
theorem bx_imul {a b : Nat} (hd : decode y.2.1 pc = .ok (.imul, 1)) (K : At y dom d (pc + 1) L (.int (nI (a * b)) :: st) h Q) : At y dom d pc L (.int (nI b) :: .int (nI a) :: st) h Q := ax_imul hd (At.ti (pk_mul a b) K)
theorem bx_isub {a b : Nat} (hd : decode y.2.1 pc = .ok (.isub, 1)) (hb : b ≤ a) (K : At y dom d (pc + 1) L (.int (nI (a - b)) :: st) h Q) : At y dom d pc L (.int (nI b) :: .int (nI a) :: st) h Q := ax_isub hd (At.ti (pk_sub hb) K)
theorem bx_idiv {a b : Nat} (hd : decode y.2.1 pc = .ok (.idiv, 1)) (ha : a < 2 ^ 31) (h0 : 0 < b) (hb : b < 2 ^ 31) (K : At y dom d (pc + 1) L (.int (nI (a / b)) :: st) h Q) : At y dom d pc L (.int (nI b) :: .int (nI a) :: st) h Q := ax_idiv hd (nI_ne0 h0 hb) (At.ti (pk_div ha h0 hb) K)
theorem bx_irem {a b : Nat} (hd : decode y.2.1 pc = .ok (.irem, 1)) (ha : a < 2 ^ 31) (h0 : 0 < b) (hb : b < 2 ^ 31) (K : At y dom d (pc + 1) L (.int (nI (a % b)) :: st) h Q) : At y dom d pc L (.int (nI b) :: .int (nI a) :: st) h Q := ax_irem hd (nI_ne0 h0 hb) (At.ti (pk_rem ha h0 hb) K)
theorem bx_i2l {a : Nat} (hd : decode y.2.1 pc = .ok (.i2l, 1)) (ha : a < 2 ^ 31) (K : At y dom d (pc + 1) L (.long (lN a) :: st) h Q) : At y dom d pc L (.int (nI a) :: st) h Q := ax_i2l hd (At.tl (nI_l ha) K)
theorem bx_ladd {a b : Nat} (hd : decode y.2.1 pc = .ok (.ladd, 1)) (K : At y dom d (pc + 1) L (.long (lN (a + b)) :: st) h Q) : At y dom d pc L (.long (lN b) :: .long (lN a) :: st) h Q := ax_ladd hd (At.tl (lN_add a b) K)
theorem bx_lmul {a b : Nat} (hd : decode y.2.1 pc = .ok (.lmul, 1)) (K : At y dom d (pc + 1) L (.long (lN (a * b)) :: st) h Q) : At y dom d pc L (.long (lN b) :: .long (lN a) :: st) h Q := ax_lmul hd (At.tl (lN_mul a b) K)
theorem bx_ldiv {a b : Nat} (hd : decode y.2.1 pc = .ok (.ldiv, 1)) (ha : a < 2 ^ 63) (h0 : 0 < b) (hb : b < 2 ^ 63) (K : At y dom d (pc + 1) L (.long (lN (a / b)) :: st) h Q) : At y dom d pc L (.long (lN b) :: .long (lN a) :: st) h Q := ax_ldiv hd (lN_ne hb (by omega)) (At.tl (pk_lDiv ha h0 hb) K)
theorem bx_lrem {a b : Nat} (hd : decode y.2.1 pc = .ok (.lrem, 1)) (ha : a < 2 ^ 63) (h0 : 0 < b) (hb : b < 2 ^ 63) (K : At y dom d (pc + 1) L (.long (lN (a % b)) :: st) h Q) : At y dom d pc L (.long (lN b) :: .long (lN a) :: st) h Q := ax_lrem hd (lN_ne hb (by omega)) (At.tl (pk_lRem ha h0 hb) K)
/-- a slot read -/
theorem bx_slld {k : Nat} {v : Int32} (hd : decode y.2.1 pc = .ok (.iaload, 1)) (hk : k < 1020) (hv : sl k = v) (K : At y dom d (pc + 1) L (.int v :: st) (hM h x sl tu) Q) : At y dom d pc L (.int (nI k) :: .ref 11 :: st) (hM h x sl tu) Q := ax_iald hd hM_11 (ni_in9 hk (by decide)) (At.ti (by rw [ni_cl (by omega)]; exact hv) K)
/-- a slot written -/
theorem bx_slst {k : Nat} {v : Int32} {sl' : Nat → Int32} (hd : decode y.2.1 pc = .ok (.iastore, 1)) (hk : k < 1020) (hv : upd sl k v = sl') (K : At y dom d (pc + 1) L st (hM h x sl' tu) Q) : At y dom d pc L (.int v :: .int (nI k) :: .ref 11 :: st) (hM h x sl tu) Q := ax_iast hd hM_11 (ni_in9 hk (by decide)) (At.hp (by rw [ni_cl (by omega), hv]; exact hM_sl) K)
theorem bx_iaload {a n k : Nat} {f : Nat → Int32} {v : Int32} (hd : decode y.2.1 pc = .ok (.iaload, 1)) (ha : h a = mh_ia 0 n f) (hk : k < n) (hn : n < 2 ^ 31) (hv : f k = v) (K : At y dom d (pc + 1) L (.int v :: st) h Q) : At y dom d pc L (.int (nI k) :: .ref a :: st) h Q := ax_iald hd ha (ni_in9 hk hn) (At.ti (by rw [ni_cl (by omega)]; exact hv) K)
theorem bx_baload {a n k : Nat} {f : Nat → Int32} {v : Int32} (hd : decode y.2.1 pc = .ok (.baload, 1)) (ha : h a = mh_ia 1 n f) (hk : k < n) (hn : n < 2 ^ 31) (hv : f k = v) (K : At y dom d (pc + 1) L (.int v :: st) h Q) : At y dom d pc L (.int (nI k) :: .ref a :: st) h Q := ax_bald hd ha (ni_in9 hk hn) (At.ti (by rw [ni_cl (by omega)]; exact hv) K)
theorem bx_iastore {a n k : Nat} {f f' : Nat → Int32} {v : Int32} (hd : decode y.2.1 pc = .ok (.iastore, 1)) (ha : h a = mh_ia 0 n f) (h0 : a ≠ 0 ∧ a ≠ 11) (hk : k < n) (hn : n < 2 ^ 31) (hv : upd f k v = f') (K : At y dom d (pc + 1) L st (hM (mh_up h a (mh_ia 0 n f')) x sl tu) Q) : At y dom d pc L (.int v :: .int (nI k) :: .ref a :: st) (hM h x sl tu) Q := ax_iast hd ((hM_n h0).trans ha) (ni_in9 hk hn) (At.hp (by rw [ni_cl (by omega), hv]; exact hM_a h0) K)
theorem bx_bastore {a n k : Nat} {f f' : Nat → Int32} {v : Int32} (hd : decode y.2.1 pc = .ok (.bastore, 1)) (ha : h a = mh_ia 1 n f) (h0 : a ≠ 0 ∧ a ≠ 11) (hk : k < n) (hn : n < 2 ^ 31) (hv : upd f k (vp_nar .byte v) = f') (K : At y dom d (pc + 1) L st (hM (mh_up h a (mh_ia 1 n f')) x sl tu) Q) : At y dom d pc L (.int v :: .int (nI k) :: .ref a :: st) (hM h x sl tu) Q := ax_bast hd ((hM_n h0).trans ha) (ni_in9 hk hn) (At.hp (by rw [ni_cl (by omega), hv]; exact hM_a h0) K)
theorem bx_pdays {idx : Nat} {v : Int32} (hf : mx_G y.1.cls idx 5 4 .int) (hd : decode y.2.1 pc = .ok (.putfield idx, 3)) (K : At y dom d (pc + 3) L st (hM h (v, x.2.1, x.2.2.1, x.2.2.2.1, x.2.2.2.2.1, x.2.2.2.2.2.1, x.2.2.2.2.2.2) sl tu) Q) : At y dom d pc L (.int v :: .ref 0 :: st) (hM h x sl tu) Q := ax_puti4u hf hd K
theorem bx_pnewDays {idx : Nat} {v : Int32} (hf : mx_G y.1.cls idx 5 11 .int) (hd : decode y.2.1 pc = .ok (.putfield idx, 3)) (K : At y dom d (pc + 3) L st (hM h (x.1, v, x.2.2.1, x.2.2.2.1, x.2.2.2.2.1, x.2.2.2.2.2.1, x.2.2.2.2.2.2) sl tu) Q) : At y dom d pc L (.int v :: .ref 0 :: st) (hM h x sl tu) Q := ax_puti11u hf hd K
theorem bx_pdeeds {idx : Nat} {v : Int32} (hf : mx_G y.1.cls idx 5 13 .int) (hd : decode y.2.1 pc = .ok (.putfield idx, 3)) (K : At y dom d (pc + 3) L st (hM h (x.1, x.2.1, v, x.2.2.2.1, x.2.2.2.2.1, x.2.2.2.2.2.1, x.2.2.2.2.2.2) sl tu) Q) : At y dom d pc L (.int v :: .ref 0 :: st) (hM h x sl tu) Q := ax_puti13u hf hd K
theorem bx_ptold {idx : Nat} {v : Int32} (hf : mx_G y.1.cls idx 5 15 .int) (hd : decode y.2.1 pc = .ok (.putfield idx, 3)) (K : At y dom d (pc + 3) L st (hM h (x.1, x.2.1, x.2.2.1, v, x.2.2.2.2.1, x.2.2.2.2.2.1, x.2.2.2.2.2.2) sl tu) Q) : At y dom d pc L (.int v :: .ref 0 :: st) (hM h x sl tu) Q := ax_puti15u hf hd K
theorem bx_pupper {idx : Nat} {v : Int64} (hf : mx_G y.1.cls idx 5 16 .long) (hd : decode y.2.1 pc = .ok (.putfield idx, 3)) (K : At y dom d (pc + 3) L st (hM h (x.1, x.2.1, x.2.2.1, x.2.2.2.1, v, x.2.2.2.2.2.1, x.2.2.2.2.2.2) sl tu) Q) : At y dom d pc L (.long v :: .ref 0 :: st) (hM h x sl tu) Q := ax_putl16u hf hd K
theorem bx_plower {idx : Nat} {v : Int64} (hf : mx_G y.1.cls idx 5 17 .long) (hd : decode y.2.1 pc = .ok (.putfield idx, 3)) (K : At y dom d (pc + 3) L st (hM h (x.1, x.2.1, x.2.2.1, x.2.2.2.1, x.2.2.2.2.1, v, x.2.2.2.2.2.2) sl tu) Q) : At y dom d pc L (.long v :: .ref 0 :: st) (hM h x sl tu) Q := ax_putl17u hf hd K
theorem bx_platest {idx : Nat} {v : Int32} (hf : mx_G y.1.cls idx 5 18 .int) (hd : decode y.2.1 pc = .ok (.putfield idx, 3)) (K : At y dom d (pc + 3) L st (hM h (x.1, x.2.1, x.2.2.1, x.2.2.2.1, x.2.2.2.2.1, x.2.2.2.2.2.1, v) sl tu) Q) : At y dom d pc L (.int v :: .ref 0 :: st) (hM h x sl tu) Q := ax_puti18u hf hd K
theorem bx_pturned {idx : Nat} {v : Int32} (hf : mx_G y.1.cls idx 5 20 .int) (hd : decode y.2.1 pc = .ok (.putfield idx, 3)) (K : At y dom d (pc + 3) L st (hM h x sl v) Q) : At y dom d pc L (.int v :: .ref 0 :: st) (hM h x sl tu) Q := ax_puti20u hf hd K
end MR
/-- six numbers of a slot -/
def s6 (sl : Nat → Int32) (b : Nat) (w : sp_W) (fi : Nat) (g : Int32) : Nat → Int32 := fun j => if j = b then nI w.1 else if j = b + 1 then nI w.2.1 else if j = b + 2 then nI w.2.2.1 else if j = b + 3 then g else if j = b + 4 then bb w.2.2.2.1 else if j = b + 5 then nI fi else sl j
def slR (sl : Nat → Int32) (b : Nat) (t : sp_W × Nat) : Prop := sl b = nI t.1.1 ∧ sl (b + 1) = nI t.1.2.1 ∧ sl (b + 2) = nI t.1.2.2.1 ∧ sl (b + 3) = nI t.1.2.2.2.2 ∧ sl (b + 4) = bb t.1.2.2.2.1 ∧ sl (b + 5) = nI t.2
section S6
variable {sl : Nat → Int32} {b fi : Nat} {w : sp_W} {g : Int32}
theorem s6_0 : s6 sl b w fi g b = nI w.1 := if_pos rfl
theorem s6_1 : s6 sl b w fi g (b + 1) = nI w.2.1 := by
  unfold s6
  rw [if_neg (by omega), if_pos rfl]
theorem s6_2 : s6 sl b w fi g (b + 2) = nI w.2.2.1 := by
  unfold s6
  rw [if_neg (by omega), if_neg (by omega), if_pos rfl]
theorem s6_3 : s6 sl b w fi g (b + 3) = g := by
  unfold s6
  rw [if_neg (by omega), if_neg (by omega), if_neg (by omega), if_pos rfl]
theorem s6_4 : s6 sl b w fi g (b + 4) = bb w.2.2.2.1 := by
  unfold s6
  rw [if_neg (by omega), if_neg (by omega), if_neg (by omega), if_neg (by omega), if_pos rfl]
theorem s6_5 : s6 sl b w fi g (b + 5) = nI fi := by
  unfold s6
  rw [if_neg (by omega), if_neg (by omega), if_neg (by omega), if_neg (by omega), if_neg (by omega), if_pos rfl]
theorem s6_n {j : Nat} (h : j < b ∨ b + 6 ≤ j) : s6 sl b w fi g j = sl j := by
  unfold s6
  rw [if_neg (by omega), if_neg (by omega), if_neg (by omega), if_neg (by omega), if_neg (by omega), if_neg (by omega)]
theorem s6_u {w' : sp_W} {fi' : Nat} {g' : Int32} : s6 (s6 sl b w fi g) b w' fi' g' = s6 sl b w' fi' g' := by
  funext j
  by_cases h : j < b ∨ b + 6 ≤ j
  · rw [s6_n h, s6_n h, s6_n h]
  · rcases (show j = b ∨ j = b + 1 ∨ j = b + 2 ∨ j = b + 3 ∨ j = b + 4 ∨ j = b + 5 by omega) with rfl | rfl | rfl | rfl | rfl | rfl
    · rw [s6_0, s6_0]
    · rw [s6_1, s6_1]
    · rw [s6_2, s6_2]
    · rw [s6_3, s6_3]
    · rw [s6_4, s6_4]
    · rw [s6_5, s6_5]
/-- a slot that agrees with these six everywhere is this one -/
theorem s6_e {f : Nat → Int32} (hn : ∀ j, j < b ∨ b + 6 ≤ j → f j = sl j) (h0 : f b = nI w.1) (h1 : f (b + 1) = nI w.2.1) (h2 : f (b + 2) = nI w.2.2.1) (h3 : f (b + 3) = g) (h4 : f (b + 4) = bb w.2.2.2.1) (h5 : f (b + 5) = nI fi) : f = s6 sl b w fi g := by
  funext j
  by_cases h : j < b ∨ b + 6 ≤ j
  · rw [s6_n h, hn j h]
  · rcases (show j = b ∨ j = b + 1 ∨ j = b + 2 ∨ j = b + 3 ∨ j = b + 4 ∨ j = b + 5 by omega) with rfl | rfl | rfl | rfl | rfl | rfl
    · rw [s6_0, h0]
    · rw [s6_1, h1]
    · rw [s6_2, h2]
    · rw [s6_3, h3]
    · rw [s6_4, h4]
    · rw [s6_5, h5]
theorem s6_id {t : sp_W × Nat} (h : slR sl b t) : sl = s6 sl b t.1 t.2 (nI t.1.2.2.2.2) := s6_e (fun _ _ => rfl) h.1 h.2.1 h.2.2.1 h.2.2.2.1 h.2.2.2.2.1 h.2.2.2.2.2
theorem s6_R : slR (s6 sl b w fi (nI w.2.2.2.2)) b (w, fi) := ⟨s6_0, s6_1, s6_2, s6_3, s6_4, s6_5⟩
theorem s6_Rn {c : Nat} {t : sp_W × Nat} (hc : c + 6 ≤ b ∨ b + 6 ≤ c) (h : slR sl c t) : slR (s6 sl b w fi g) c t := ⟨(s6_n (by omega)).trans h.1, (s6_n (by omega)).trans h.2.1, (s6_n (by omega)).trans h.2.2.1, (s6_n (by omega)).trans h.2.2.2.1, (s6_n (by omega)).trans h.2.2.2.2.1, (s6_n (by omega)).trans h.2.2.2.2.2⟩
theorem s6_u0 {n : Nat} : upd (s6 sl b w fi g) b (nI n) = s6 sl b (n, w.2.1, w.2.2.1, w.2.2.2.1, w.2.2.2.2) fi g := by
  refine s6_e (fun j hj => (pk_un (by omega)).trans (s6_n hj)) ?_ ?_ ?_ ?_ ?_ ?_
  · exact pk_us
  · exact (pk_un (by omega)).trans s6_1
  · exact (pk_un (by omega)).trans s6_2
  · exact (pk_un (by omega)).trans s6_3
  · exact (pk_un (by omega)).trans s6_4
  · exact (pk_un (by omega)).trans s6_5
theorem s6_u1 {n : Nat} : upd (s6 sl b w fi g) (b + 1) (nI n) = s6 sl b (w.1, n, w.2.2.1, w.2.2.2.1, w.2.2.2.2) fi g := by
  refine s6_e (fun j hj => (pk_un (by omega)).trans (s6_n hj)) ?_ ?_ ?_ ?_ ?_ ?_
  · exact (pk_un (by omega)).trans s6_0
  · exact pk_us
  · exact (pk_un (by omega)).trans s6_2
  · exact (pk_un (by omega)).trans s6_3
  · exact (pk_un (by omega)).trans s6_4
  · exact (pk_un (by omega)).trans s6_5
theorem s6_u2 {n : Nat} : upd (s6 sl b w fi g) (b + 2) (nI n) = s6 sl b (w.1, w.2.1, n, w.2.2.2.1, w.2.2.2.2) fi g := by
  refine s6_e (fun j hj => (pk_un (by omega)).trans (s6_n hj)) ?_ ?_ ?_ ?_ ?_ ?_
  · exact (pk_un (by omega)).trans s6_0
  · exact (pk_un (by omega)).trans s6_1
  · exact pk_us
  · exact (pk_un (by omega)).trans s6_3
  · exact (pk_un (by omega)).trans s6_4
  · exact (pk_un (by omega)).trans s6_5
theorem s6_u3 {n : Int32} : upd (s6 sl b w fi g) (b + 3) n = s6 sl b w fi n := by
  refine s6_e (fun j hj => (pk_un (by omega)).trans (s6_n hj)) ?_ ?_ ?_ ?_ ?_ ?_
  · exact (pk_un (by omega)).trans s6_0
  · exact (pk_un (by omega)).trans s6_1
  · exact (pk_un (by omega)).trans s6_2
  · exact pk_us
  · exact (pk_un (by omega)).trans s6_4
  · exact (pk_un (by omega)).trans s6_5
theorem s6_u4 {n : Bool} : upd (s6 sl b w fi g) (b + 4) (bb n) = s6 sl b (w.1, w.2.1, w.2.2.1, n, w.2.2.2.2) fi g := by
  refine s6_e (fun j hj => (pk_un (by omega)).trans (s6_n hj)) ?_ ?_ ?_ ?_ ?_ ?_
  · exact (pk_un (by omega)).trans s6_0
  · exact (pk_un (by omega)).trans s6_1
  · exact (pk_un (by omega)).trans s6_2
  · exact (pk_un (by omega)).trans s6_3
  · exact pk_us
  · exact (pk_un (by omega)).trans s6_5
theorem s6_u5 {n : Nat} : upd (s6 sl b w fi g) (b + 5) (nI n) = s6 sl b w n g := by
  refine s6_e (fun j hj => (pk_un (by omega)).trans (s6_n hj)) ?_ ?_ ?_ ?_ ?_ ?_
  · exact (pk_un (by omega)).trans s6_0
  · exact (pk_un (by omega)).trans s6_1
  · exact (pk_un (by omega)).trans s6_2
  · exact (pk_un (by omega)).trans s6_3
  · exact (pk_un (by omega)).trans s6_4
  · exact pk_us
end S6
def dayR (D : sp_D) (so fl dr : Nat → Int32) : Prop := ∀ k, k < D.1 → so k = nI (D.2.1 k) ∧ fl k = nI (D.2.2.1 k) ∧ dr k = nI (D.2.2.2 k)
def dayH (D : sp_D) (so fl dr : Nat → Int32) (h : mh_H) : Prop := h 5 = mh_ia 0 9 so ∧ h 6 = mh_ia 0 9 fl ∧ h 7 = mh_ia 0 9 dr ∧ dayR D so fl dr
abbrev xs (s : sg) (nd : Int32) : mxT := (nI (s_D s).1, nd, nI (s_ds s).length, s_ask s, s_up s, s_lo s, s_fin s)
def mRw (rz : Nat → Int32) (rc : Nat → Nat → Int32) (h : mh_H) : Prop := h 1 = mh_ia 0 6 rz ∧ ∃ f, h 2 = mh_ia 0 240 f ∧ ∀ r, r < 6 → ∀ i, i < (rz r).toNatClampNeg → f (40 * r + i) = rc r i
def mTx (tz : Nat → Int32) (tc : Nat → Nat → Int32) (h : mh_H) : Prop := h 3 = mh_ia 0 4 tz ∧ ∃ f, h 4 = mh_ia 1 240 f ∧ ∀ r, r < 4 → ∀ i, i < (tz r).toNatClampNeg → f (60 * r + i) = tc r i
def mNw (h : mh_H) : Prop := ∃ f g k, h 8 = mh_ia 0 10 f ∧ h 9 = mh_ia 0 10 g ∧ h 10 = mh_ia 0 10 k
def slP (D : sp_D) (ds : List (Nat × Nat)) (kp : Nat → Option (List (Nat × Nat))) (sl : Nat → Int32) : Prop := (∀ j, j ≤ ds.length → slR sl (6 * j) (rp D (ds.take j))) ∧ ∀ k, k < 3 → ∀ e, kp k = some e → ∀ j, j ≤ e.length → slR sl (246 * (k + 1) + 6 * j) (rp D (e.take j))
def MB (s : sg) (h : mh_H) (sl : Nat → Int32) : Prop := mRw (s_rz s) (s_rc s) h ∧ mTx (s_tz s) (s_tc s) h ∧ (∃ so fl dr, dayH (s_D s) so fl dr h) ∧ mNw h ∧ slP (s_D s) (s_ds s) (s_kp s) sl ∧ h 12 = mh_ia 0 3 (fun k => kz (s_kp s k)) ∧ h 13 = mh_ia 0 6 (s_fc s) ∧ ∃ wo, h 14 = mh_ia 0 216 wo
def MP (s : sg) (H : mh_H) : Prop := ∃ h nd sl tu, H = hM h (xs s nd) sl tu ∧ MB s h sl
theorem fin_m {P : Int32 × sg} {v : Int32} {s' : sg} {h' : mh_H} (e : P = (v, s')) (c : MP s' h') : mx_Ri (fun v' h' => v' = P.1 ∧ MP P.2 h') (some (.int v)) h' := ⟨v, rfl, by rw [e], by rw [e]; exact c⟩
theorem MB.mp {s : sg} {h : mh_H} {nd tu : Int32} {sl : Nat → Int32} (m : MB s h sl) : MP s (hM h (xs s nd) sl tu) := ⟨h, nd, sl, tu, rfl, m⟩
theorem slP_t {D : sp_D} {ds : List (Nat × Nat)} {kp : Nat → Option (List (Nat × Nat))} {sl : Nat → Int32} {w : sp_W} {fi : Nat} {g : Int32} (h1 : ds.length ≤ 40) (h2 : ∀ k, k < 3 → ∀ e, kp k = some e → e.length ≤ 40) (h : slP D ds kp sl) : slP D ds kp (s6 sl 984 w fi g) := ⟨fun j hj => s6_Rn (by omega) (h.1 j hj), fun k hk e he j hj => s6_Rn (by have := h2 k hk e he; omega) (h.2 k hk e he j hj)⟩
theorem MB.t {s : sg} {h : mh_H} {sl : Nat → Int32} {w : sp_W} {fi : Nat} {g : Int32} (hv : IV s) (m : MB s h sl) : MB s h (s6 sl 984 w fi g) := ⟨m.1, m.2.1, m.2.2.1, m.2.2.2.1, slP_t hv.2.2.2.1.1 (fun k hk e he => (hv.2.2.2.2 k hk e he).1) m.2.2.2.2.1, m.2.2.2.2.2⟩
theorem MB.now {s : sg} {h : mh_H} {sl : Nat → Int32} (m : MB s h sl) : slR sl (6 * (s_ds s).length) (rp (s_D s) (s_ds s)) := by
  have := m.2.2.2.2.1.1 (s_ds s).length (Nat.le_refl _)
  rwa [List.take_length] at this
