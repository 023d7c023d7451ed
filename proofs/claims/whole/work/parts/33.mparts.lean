section MU
variable {s : sg} {h h' : mh_H} {sl : Nat → Int32} {a : Nat} {e : mh_E}
theorem mRw_k {rz : Nat → Int32} {rc : Nat → Nat → Int32} (he : ∀ k, k = 1 ∨ k = 2 → h' k = h k) (m : mRw rz rc h) : mRw rz rc h' := by
  obtain ⟨m1, f, m2, m3⟩ := m
  exact ⟨(he 1 (by decide)).trans m1, f, (he 2 (by decide)).trans m2, m3⟩
theorem mTx_k {rz : Nat → Int32} {rc : Nat → Nat → Int32} (he : ∀ k, k = 3 ∨ k = 4 → h' k = h k) (m : mTx rz rc h) : mTx rz rc h' := by
  obtain ⟨m1, f, m2, m3⟩ := m
  exact ⟨(he 3 (by decide)).trans m1, f, (he 4 (by decide)).trans m2, m3⟩
theorem dayH_k {D : sp_D} {so fl dr : Nat → Int32} (he : ∀ k, k = 5 ∨ k = 6 ∨ k = 7 → h' k = h k) (m : dayH D so fl dr h) : dayH D so fl dr h' := ⟨(he 5 (by decide)).trans m.1, (he 6 (by decide)).trans m.2.1, (he 7 (by decide)).trans m.2.2.1, m.2.2.2⟩
theorem dayX_k {D : sp_D} (he : ∀ k, k = 5 ∨ k = 6 ∨ k = 7 → h' k = h k) (m : ∃ so fl dr, dayH D so fl dr h) : ∃ so fl dr, dayH D so fl dr h' := by
  obtain ⟨so, fl, dr, m⟩ := m
  exact ⟨so, fl, dr, dayH_k he m⟩
theorem mNw_k (he : ∀ k, k = 8 ∨ k = 9 ∨ k = 10 → h' k = h k) (m : mNw h) : mNw h' := by
  obtain ⟨f, g, k, m1, m2, m3⟩ := m
  exact ⟨f, g, k, (he 8 (by decide)).trans m1, (he 9 (by decide)).trans m2, (he 10 (by decide)).trans m3⟩
theorem wo_k (he : h' 14 = h 14) (m : ∃ wo, h 14 = mh_ia 0 216 wo) : ∃ wo, h' 14 = mh_ia 0 216 wo := by
  obtain ⟨wo, m⟩ := m
  exact ⟨wo, he.trans m⟩
theorem MB.fnd {f : Nat} (m : MB s h sl) : MB (u_fnd s f) (mh_up h 13 (mh_ia 0 6 (upd (s_fc s) f (s_fc s f + 1)))) sl := by
  obtain ⟨m1, m2, m3, m4, m5, m6, m7, m8⟩ := m
  exact ⟨mRw_k (fun k hk => mh_up_n (by omega)) m1, mTx_k (fun k hk => mh_up_n (by omega)) m2, dayX_k (fun k hk => mh_up_n (by omega)) m3, mNw_k (fun k hk => mh_up_n (by omega)) m4, m5, (mh_up_n (by decide)).trans m6, mh_up_s, wo_k (mh_up_n (by decide)) m8⟩
theorem MB.ask {v : Int32} (m : MB s h sl) : MB (u_ask s v) h sl := m
theorem MB.tell {a b : Int64} (m : MB s h sl) : MB (u_tell s a b) h sl := m
theorem MB.rows {z : Nat → Int32} {c : Nat → Nat → Int32} {f : Nat → Int32} (m : MB s h sl) (he : ∀ k, k ≠ 1 → k ≠ 2 → h' k = h k) (h1 : h' 1 = mh_ia 0 6 z) (h2 : h' 2 = mh_ia 0 240 f) (hf : ∀ r, r < 6 → ∀ i, i < (z r).toNatClampNeg → f (40 * r + i) = c r i) : MB (u_rows s z c) h' sl := by
  obtain ⟨m1, m2, m3, m4, m5, m6, m7, m8⟩ := m
  exact ⟨⟨h1, f, h2, hf⟩, mTx_k (fun k hk => he k (by omega) (by omega)) m2, dayX_k (fun k hk => he k (by omega) (by omega)) m3, mNw_k (fun k hk => he k (by omega) (by omega)) m4, m5, (he _ (by decide) (by decide)).trans m6, (he _ (by decide) (by decide)).trans m7, wo_k (he _ (by decide) (by decide)) m8⟩
theorem MB.texts {z : Nat → Int32} {c : Nat → Nat → Int32} {f : Nat → Int32} (m : MB s h sl) (he : ∀ k, k ≠ 3 → k ≠ 4 → h' k = h k) (h1 : h' 3 = mh_ia 0 4 z) (h2 : h' 4 = mh_ia 1 240 f) (hf : ∀ r, r < 4 → ∀ i, i < (z r).toNatClampNeg → f (60 * r + i) = c r i) : MB (u_texts s z c) h' sl := by
  obtain ⟨m1, m2, m3, m4, m5, m6, m7, m8⟩ := m
  exact ⟨mRw_k (fun k hk => he k (by omega) (by omega)) m1, ⟨h1, f, h2, hf⟩, dayX_k (fun k hk => he k (by omega) (by omega)) m3, mNw_k (fun k hk => he k (by omega) (by omega)) m4, m5, (he _ (by decide) (by decide)).trans m6, (he _ (by decide) (by decide)).trans m7, wo_k (he _ (by decide) (by decide)) m8⟩
end MU
section MV
variable {y z : mt_I} {dom : List Nat} {d pc : Nat} {L : List (Option Value)} {st : List Value} {h : mh_H} {Q : Option Value → mh_H → Prop} {x : mxT} {sl : Nat → Int32} {tu : Int32}
theorem bx_iastoreu {a n k : Nat} {f f' : Nat → Int32} {v : Int32} (hd : decode y.2.1 pc = .ok (.iastore, 1)) (h0 : a ≠ 0 ∧ a ≠ 11) (hk : k < n) (hn : n < 2 ^ 31) (hv : upd f k v = f') (K : At y dom d (pc + 1) L st (hM (mh_up h a (mh_ia 0 n f')) x sl tu) Q) : At y dom d pc L (.int v :: .int (nI k) :: .ref a :: st) (hM (mh_up h a (mh_ia 0 n f)) x sl tu) Q := bx_iastore (h := mh_up h a (mh_ia 0 n f)) hd mh_up_s h0 hk hn hv (At.hp (by rw [mh_up_uu]) K)
theorem bx_bastoreu {a n k : Nat} {f f' : Nat → Int32} {v : Int32} (hd : decode y.2.1 pc = .ok (.bastore, 1)) (h0 : a ≠ 0 ∧ a ≠ 11) (hk : k < n) (hn : n < 2 ^ 31) (hv : upd f k (vp_nar .byte v) = f') (K : At y dom d (pc + 1) L st (hM (mh_up h a (mh_ia 1 n f')) x sl tu) Q) : At y dom d pc L (.int v :: .int (nI k) :: .ref a :: st) (hM (mh_up h a (mh_ia 1 n f)) x sl tu) Q := bx_bastore (h := mh_up h a (mh_ia 1 n f)) hd mh_up_s h0 hk hn hv (At.hp (by rw [mh_up_uu]) K)
theorem hM_ex {a : Nat} {e : mh_E} (he : h a = e) : hM h x sl tu = hM (mh_up h a e) x sl tu := by rw [mh_up_id he]
end MV
set_option maxHeartbeats 4000000 in
set_option maxRecDepth 100000 in
theorem c_X5_finds (dom : List Nat) (h : mh_H) (s : sg) (nd : Int32) (sl : Nat → Int32) (tu : Int32) (f : Nat) (hf : f < 6) (hm : MB s h sl) : Mt mX5_finds dom 0 [.ref 0, .int (nI f)] (hM h (xs s nd) sl tu) (mx_Ri (fun v' h' => v' = -3 ∧ MP (u_fnd s f) h')) := by
  refine Mt.of (L := [some (.ref 0), some (.int (nI f))]) rfl (Nat.le_of_ble_eq_true rfl) rfl ?_
  refine ax_aload_n (pc := 0) dX5_finds_0 rfl ?_
  refine ax_iload_n (pc := 1) dX5_finds_1 rfl ?_
  refine bx_platest gX5_57 dX5_finds_2 ?_
  refine ax_aload_n (pc := 5) dX5_finds_5 rfl ?_
  refine ax_getf (pc := 6) fX5_51 dX5_finds_6 (by exact hM_0) rfl ?_
  refine ax_iload_n (pc := 9) dX5_finds_9 rfl ?_
  refine ax_dup2 (pc := 10) dX5_finds_10 rfl rfl ?_
  refine bx_iaload dX5_finds_11 ((hM_n (by decide)).trans hm.2.2.2.2.2.2.1) hf (by decide) rfl ?_
  refine ax_iconst (pc := 12) (v := 1) dX5_finds_12 (by decide) ?_
  refine ax_iadd (pc := 13) dX5_finds_13 ?_
  refine bx_iastore dX5_finds_14 hm.2.2.2.2.2.2.1 (by decide) hf (by decide) rfl ?_
  refine ax_bipush (pc := 15) (v := -3) dX5_finds_15 (by decide) ?_
  refine ax_iret (pc := 17) dX5_finds_17 rfl ?_
  exact ⟨_, rfl, rfl, MB.mp (s := u_fnd s f) hm.fnd⟩
def bz (f : Nat → Int32) (r n : Nat) : Nat → Int32 := fun i => if 40 * r ≤ i ∧ i < 40 * r + n then 0 else f i
theorem bz_0 {f : Nat → Int32} {r : Nat} : bz f r 0 = f := by
  funext i
  exact if_neg (by omega)
theorem bz_s {f : Nat → Int32} {r n : Nat} : upd (bz f r n) (40 * r + n) 0 = bz f r (n + 1) := by
  funext i
  unfold upd bz
  by_cases h : i = 40 * r + n
  · rw [if_pos h, if_pos (by omega)]
  · rw [if_neg h]
    by_cases h2 : 40 * r ≤ i ∧ i < 40 * r + n
    · rw [if_pos h2, if_pos (by omega)]
    · rw [if_neg h2, if_neg (by omega)]
def bgH (h : mh_H) (z f : Nat → Int32) (r : Nat) (n : Int32) (j : Nat) : mh_H := mh_up (mh_up h 1 (mh_ia 0 6 (upd z r n))) 2 (mh_ia 0 240 (bz f r j))
theorem MB.begins {s : sg} {h : mh_H} {sl f : Nat → Int32} {r m : Nat} {q : Nat → Int32} (hm : MB s h sl) (hv : IV s) (hr : r < 6) (hq : m ≤ 40) (h2 : h 2 = mh_ia 0 240 f) (hf : ∀ r, r < 6 → ∀ i, i < (s_rz s r).toNatClampNeg → f (40 * r + i) = s_rc s r i) (h0 : ∀ i, i < m → q i = 0) : MB (u_rows s (va_fn (s_rz s) r (nI m)) (va_fn (s_rc s) r q)) (bgH h (s_rz s) f r (nI m) 40) sl := by
  refine MB.rows hm (fun k h1 h2 => (mh_up_n h2).trans (mh_up_n h1)) ((mh_up_n (by decide)).trans mh_up_s) mh_up_s ?_
  intro r' hr' i hi
  by_cases h : r' = r
  · subst h
    rw [va_fn_s] at hi
    rw [ni_cl (by omega)] at hi
    rw [va_fn_s, h0 i hi]
    exact if_pos (by omega)
  · rw [va_fn_n h] at hi
    rw [va_fn_n h]
    have : (s_rz s r').toNatClampNeg ≤ 40 := by
      rcases hv.1 r' hr' with e | ⟨m', h1, e⟩
      · rw [e]; decide
      · rw [e, ni_cl (by omega)]; exact h1
    refine Eq.trans (if_neg ?_) (hf r' hr' i hi)
    omega
set_option maxHeartbeats 4000000 in
set_option maxRecDepth 100000 in
theorem l_X5_begins (dom : List Nat) (h : mh_H) (x : mxT) (sl : Nat → Int32) (tu : Int32) (z f : Nat → Int32) (r : Nat) (n : Int32) (hr : r < 6) : ∀ (nn j : Nat), j + nn = 40 → At mX5_begins dom 0 9 [some (.ref 0), some (.int (nI r)), some (.int n), some (.int (nI j))] [] (hM (bgH h z f r n j) x sl tu) (mx_Rv (fun h' => h' = hM (bgH h z f r n 40) x sl tu)) := by
  intro nn
  induction nn with
  | zero =>
    intro j hj
    have hj : j = 40 := by omega
    subst hj
    refine ax_iload_n (pc := 9) dX5_begins_9 rfl ?_
    refine ax_bipush (pc := 10) (v := nI 40) dX5_begins_10 (by decide) ?_
    refine ax_icmpge (pc := 12) (tgt := 33) dX5_begins_12 (by decide) (fun _ => ?_) (fun q => absurd (by decide) q)
    refine ax_vret (pc := 33) dX5_begins_33 rfl ?_
    exact ⟨rfl, rfl⟩
  | succ nn ih =>
    intro j hj
    have hlt : j < 40 := by omega
    refine ax_iload_n (pc := 9) dX5_begins_9 rfl ?_
    refine ax_bipush (pc := 10) (v := nI 40) dX5_begins_10 (by decide) ?_
    refine ax_icmpge (pc := 12) (tgt := 33) dX5_begins_12 (by decide) (fun q => absurd q (by rw [nI_leI (by decide) (by omega)]; omega)) (fun _ => ?_)
    refine ax_aload_n (pc := 15) dX5_begins_15 rfl ?_
    refine ax_getf (pc := 16) fX5_13 dX5_begins_16 (by exact hM_0) rfl ?_
    refine ax_bipush (pc := 19) (v := nI 40) dX5_begins_19 (by decide) ?_
    refine ax_iload_n (pc := 21) dX5_begins_21 rfl ?_
    refine bx_imul dX5_begins_22  ?_
    refine ax_iload_n (pc := 23) dX5_begins_23 rfl ?_
    refine bx_iadd dX5_begins_24  ?_
    refine ax_iconst (pc := 25) (v := nI 0) dX5_begins_25 (by decide) ?_
    refine bx_iastoreu dX5_begins_26 (by decide) (by omega) (by decide) bz_s ?_
    refine ax_inc3p1 (pc := 27) dX5_begins_27 rfl (by decide) ?_
    refine ax_goto (pc := 30) (tgt := 9) dX5_begins_30 (by decide) ?_
    rw [nI_1]
    exact ih (j + 1) (by omega)
set_option maxHeartbeats 4000000 in
set_option maxRecDepth 100000 in
theorem c_X5_begins (dom : List Nat) (h : mh_H) (x : mxT) (sl : Nat → Int32) (tu : Int32) (z f : Nat → Int32) (r : Nat) (n : Int32) (hr : r < 6) (h1 : h 1 = mh_ia 0 6 z) (h2 : h 2 = mh_ia 0 240 f) : Mt mX5_begins dom 0 [.ref 0, .int (nI r), .int n] (hM h x sl tu) (mx_Rv (fun h' => h' = hM (bgH h z f r n 40) x sl tu)) := by
  refine Mt.of (L := [some (.ref 0), some (.int (nI r)), some (.int n), none]) rfl (Nat.le_of_ble_eq_true rfl) rfl ?_
  refine ax_aload_n (pc := 0) dX5_begins_0 rfl ?_
  refine ax_getf (pc := 1) fX5_7 dX5_begins_1 (by exact hM_0) rfl ?_
  refine ax_iload_n (pc := 4) dX5_begins_4 rfl ?_
  refine ax_iload_n (pc := 5) dX5_begins_5 rfl ?_
  refine bx_iastore dX5_begins_6 h1 (by decide) hr (by decide) rfl ?_
  refine ax_iconst (pc := 7) (v := nI 0) dX5_begins_7 (by decide) ?_
  refine ax_istore3 (pc := 8) dX5_begins_8 rfl (by decide) ?_
  refine At.hp (hM_ex (a := 2) (e := mh_ia 0 240 (bz f r 0)) ((mh_up_n (by decide)).trans (by rw [bz_0]; exact h2))) ?_
  exact l_X5_begins dom h x sl tu z f r n hr 40 0 (by omega)
def cpS (sl : Nat → Int32) (b c j : Nat) : Nat → Int32 := fun i => if c ≤ i ∧ i < c + j then sl (b + (i - c)) else sl i
theorem cpS_0 {sl : Nat → Int32} {b c : Nat} : cpS sl b c 0 = sl := by
  funext i
  exact if_neg (by omega)
theorem cpS_b {sl : Nat → Int32} {b c j n : Nat} (hj : j < n) (hbc : b + n ≤ c ∨ c + n ≤ b) : cpS sl b c j (b + j) = sl (b + j) := if_neg (by omega)
theorem cpS_s {sl : Nat → Int32} {b c j : Nat} : upd (cpS sl b c j) (c + j) (sl (b + j)) = cpS sl b c (j + 1) := by
  funext i
  unfold upd cpS
  by_cases h : i = c + j
  · rw [if_pos h, if_pos (by omega)]
    congr 1; omega
  · rw [if_neg h]
    by_cases h2 : c ≤ i ∧ i < c + j
    · rw [if_pos h2, if_pos (by omega)]
    · rw [if_neg h2, if_neg (by omega)]
theorem cpS_6 {sl : Nat → Int32} {b c : Nat} {t : sp_W × Nat} (h : slR sl b t) : cpS sl b c 6 = s6 sl c t.1 t.2 (nI t.1.2.2.2.2) := by
  refine s6_e (fun j hj => if_neg (by omega)) ?_ ?_ ?_ ?_ ?_ ?_
  · exact (if_pos (by omega)).trans (Eq.trans (congrArg sl (by omega)) h.1)
  · exact (if_pos (by omega)).trans (Eq.trans (congrArg sl (by omega)) h.2.1)
  · exact (if_pos (by omega)).trans (Eq.trans (congrArg sl (by omega)) h.2.2.1)
  · exact (if_pos (by omega)).trans (Eq.trans (congrArg sl (by omega)) h.2.2.2.1)
  · exact (if_pos (by omega)).trans (Eq.trans (congrArg sl (by omega)) h.2.2.2.2.1)
  · exact (if_pos (by omega)).trans (Eq.trans (congrArg sl (by omega)) h.2.2.2.2.2)
set_option maxHeartbeats 4000000 in
set_option maxRecDepth 100000 in
theorem l_X5_copies (dom : List Nat) (h : mh_H) (x : mxT) (sl : Nat → Int32) (tu : Int32) (b c : Nat) (hb : b + 6 ≤ 1020) (hc : c + 6 ≤ 1020) (hbc : b + 6 ≤ c ∨ c + 6 ≤ b) : ∀ (nn j : Nat), j + nn = 6 → At mX5_copies dom 0 2 [some (.ref 0), some (.int (nI b)), some (.int (nI c)), some (.int (nI j))] [] (hM h x (cpS sl b c j) tu) (mx_Rv (fun h' => h' = hM h x (cpS sl b c 6) tu)) := by
  intro nn
  induction nn with
  | zero =>
    intro j hj
    have hj : j = 6 := by omega
    subst hj
    refine ax_iload_n (pc := 2) dX5_copies_2 rfl ?_
    refine ax_bipush (pc := 3) (v := nI 6) dX5_copies_3 (by decide) ?_
    refine ax_icmpge (pc := 5) (tgt := 30) dX5_copies_5 (by decide) (fun _ => ?_) (fun q => absurd (by decide) q)
    refine ax_vret (pc := 30) dX5_copies_30 rfl ?_
    exact ⟨rfl, rfl⟩
  | succ nn ih =>
    intro j hj
    have hlt : j < 6 := by omega
    refine ax_iload_n (pc := 2) dX5_copies_2 rfl ?_
    refine ax_bipush (pc := 3) (v := nI 6) dX5_copies_3 (by decide) ?_
    refine ax_icmpge (pc := 5) (tgt := 30) dX5_copies_5 (by decide) (fun q => absurd q (by rw [nI_leI (by decide) (by omega)]; omega)) (fun _ => ?_)
    refine ax_aload_n (pc := 8) dX5_copies_8 rfl ?_
    refine ax_getf (pc := 9) fX5_41 dX5_copies_9 (by exact hM_0) rfl ?_
    refine ax_iload_n (pc := 12) dX5_copies_12 rfl ?_
    refine ax_iload_n (pc := 13) dX5_copies_13 rfl ?_
    refine bx_iadd dX5_copies_14  ?_
    refine ax_aload_n (pc := 15) dX5_copies_15 rfl ?_
    refine ax_getf (pc := 16) fX5_41 dX5_copies_16 (by exact hM_0) rfl ?_
    refine ax_iload_n (pc := 19) dX5_copies_19 rfl ?_
    refine ax_iload_n (pc := 20) dX5_copies_20 rfl ?_
    refine bx_iadd dX5_copies_21  ?_
    refine bx_slld dX5_copies_22 (by omega) (cpS_b hlt hbc) ?_
    refine bx_slst dX5_copies_23 (by omega) cpS_s ?_
    refine ax_inc3p1 (pc := 24) dX5_copies_24 rfl (by decide) ?_
    refine ax_goto (pc := 27) (tgt := 2) dX5_copies_27 (by decide) ?_
    rw [nI_1]
    exact ih (j + 1) (by omega)
set_option maxHeartbeats 4000000 in
set_option maxRecDepth 100000 in
theorem c_X5_copies (dom : List Nat) (h : mh_H) (x : mxT) (sl : Nat → Int32) (tu : Int32) (b c : Nat) (hb : b + 6 ≤ 1020) (hc : c + 6 ≤ 1020) (hbc : b + 6 ≤ c ∨ c + 6 ≤ b) (t : sp_W × Nat) (hR : slR sl b t) : Mt mX5_copies dom 0 [.ref 0, .int (nI b), .int (nI c)] (hM h x sl tu) (mx_Rv (fun h' => h' = hM h x (s6 sl c t.1 t.2 (nI t.1.2.2.2.2)) tu)) := by
  refine Mt.of (L := [some (.ref 0), some (.int (nI b)), some (.int (nI c)), none]) rfl (Nat.le_of_ble_eq_true rfl) rfl ?_
  refine ax_iconst (pc := 0) (v := nI 0) dX5_copies_0 (by decide) ?_
  refine ax_istore3 (pc := 1) dX5_copies_1 rfl (by decide) ?_
  rw [← cpS_6 (c := c) hR]
  refine At.hp (show hM h x sl tu = hM h x (cpS sl b c 0) tu by rw [cpS_0]) ?_
  exact l_X5_copies dom h x sl tu b c hb hc hbc 6 0 (by omega)
set_option maxHeartbeats 4000000 in
set_option maxRecDepth 100000 in
theorem c_X5_tries (dom : List Nat) (h : mh_H) (x : mxT) (sl : Nat → Int32) (tu : Int32) (n : Nat) (t : sp_W × Nat) (hx : x.2.2.1 = nI n) (hR : slR sl (6 * n) t) (hn : n ≤ 40) : Mt mX5_tries dom 1 [.ref 0] (hM h x sl tu) (mx_Rv (fun h' => h' = hM h x (s6 sl 984 t.1 t.2 (nI t.1.2.2.2.2)) tu)) := by
  refine Mt.of (L := [some (.ref 0)]) rfl (Nat.le_of_ble_eq_true rfl) rfl ?_
  refine ax_aload_n (pc := 0) dX5_tries_0 rfl ?_
  refine ax_aload_n (pc := 1) dX5_tries_1 rfl ?_
  refine ax_eVi0 (pc := 2) vX5_123 dX5_tries_2 (by decide) (by exact hM_0) (Nat.le_of_ble_eq_true rfl) (c_X5_now _ h x sl tu n hx) ?_
  refine ax_sipush (pc := 5) (v := nI 984) dX5_tries_5 (by decide) ?_
  refine ax_eVv2 (pc := 8) vX5_150 dX5_tries_8 (by decide) (by exact hM_0) (Nat.le_of_ble_eq_true rfl) (c_X5_copies _ h x sl tu (6 * n) 984 (by omega) (by omega) (by omega) t hR) ?_
  refine ax_vret (pc := 11) dX5_tries_11 rfl ?_
  exact ⟨rfl, rfl⟩
set_option maxHeartbeats 4000000 in
set_option maxRecDepth 100000 in
theorem c_X5_deed (dom : List Nat) (h : mh_H) (x : mxT) (sl : Nat → Int32) (tu : Int32) (n : Nat) (t : sp_W × Nat) (hx : x.2.2.1 = nI n) (hR : slR sl (6 * n) t) (hn : n < 40) : Mt mX5_deed dom 1 [.ref 0] (hM h x sl tu) (mx_Ri (fun v' h' => v' = nI (6 * (n + 1)) ∧ h' = hM h (x.1, x.2.1, nI (n + 1), x.2.2.2.1, x.2.2.2.2.1, x.2.2.2.2.2.1, x.2.2.2.2.2.2) (s6 sl (6 * (n + 1)) t.1 t.2 (nI t.1.2.2.2.2)) tu)) := by
  refine Mt.of (L := [some (.ref 0)]) rfl (Nat.le_of_ble_eq_true rfl) rfl ?_
  refine ax_aload_n (pc := 0) dX5_deed_0 rfl ?_
  refine ax_aload_n (pc := 1) dX5_deed_1 rfl ?_
  refine ax_eVi0 (pc := 2) vX5_123 dX5_deed_2 (by decide) (by exact hM_0) (Nat.le_of_ble_eq_true rfl) (c_X5_now _ h x sl tu n hx) ?_
  refine ax_aload_n (pc := 5) dX5_deed_5 rfl ?_
  refine ax_eVi0 (pc := 6) vX5_123 dX5_deed_6 (by decide) (by exact hM_0) (Nat.le_of_ble_eq_true rfl) (c_X5_now _ h x sl tu n hx) ?_
  refine ax_bipush (pc := 9) (v := nI 6) dX5_deed_9 (by decide) ?_
  refine bx_iadd dX5_deed_11  ?_
  rw [show 6 * n + 6 = 6 * (n + 1) by omega]
  refine ax_eVv2 (pc := 12) vX5_150 dX5_deed_12 (by decide) (by exact hM_0) (Nat.le_of_ble_eq_true rfl) (c_X5_copies _ h x sl tu (6 * n) (6 * (n + 1)) (by omega) (by omega) (by omega) t hR) ?_
  refine ax_aload_n (pc := 15) dX5_deed_15 rfl ?_
  refine ax_dup (pc := 16) dX5_deed_16 rfl ?_
  refine ax_getf (pc := 17) fX5_100 dX5_deed_17 (by exact hM_0) rfl ?_
  refine At.ti hx ?_
  refine ax_iconst (pc := 20) (v := nI 1) dX5_deed_20 (by decide) ?_
  refine bx_iadd dX5_deed_21  ?_
  refine bx_pdeeds gX5_100 dX5_deed_22 ?_
  refine ax_aload_n (pc := 25) dX5_deed_25 rfl ?_
  refine ax_eVi0 (pc := 26) vX5_123 dX5_deed_26 (by decide) (by exact hM_0) (Nat.le_of_ble_eq_true rfl) (c_X5_now _ h (x.1, x.2.1, nI (n + 1), x.2.2.2.1, x.2.2.2.2.1, x.2.2.2.2.2.1, x.2.2.2.2.2.2) _ tu (n + 1) rfl) ?_
  refine ax_iret (pc := 29) dX5_deed_29 rfl ?_
  exact ⟨_, rfl, rfl, rfl⟩
set_option maxHeartbeats 4000000 in
set_option maxRecDepth 100000 in
theorem l_X5_many (dom : List Nat) (h : mh_H) (x : mxT) (sl : Nat → Int32) (D : sp_D) (so fl dr : Nat → Int32) (hd : dayH D so fl dr h) (fi : Nat) (w : sp_W) (hD0 : sp_D0 D) (hW0 : sp_W0 D.1 w) (hfi : fi < 512) (hx : x.1 = nI D.1) (m : Nat) (hm : m ≤ 60) : ∀ (nn j : Nat), j + nn = m → ∀ (g tu : Int32), At mX5_many dom 4 4 [some (.ref 0), some (.int (nI m)), some (.int (nI (wi D fi w j).2.2.2.2)), some (.int (nI j))] [] (hM h x (s6 sl 984 (wi D fi w j) fi g) tu) (mx_Ri (fun v' h' => v' = nI (wi D fi w m).2.2.2.2 ∧ ∃ g' tu', h' = hM h x (s6 sl 984 (wi D fi w m) fi g') tu')) := by
  intro nn
  induction nn with
  | zero =>
    intro j hj g tu
    have hj : j = m := by omega
    subst hj
    refine ax_iload_n (pc := 4) dX5_many_4 rfl ?_
    refine ax_iload_n (pc := 5) dX5_many_5 rfl ?_
    refine ax_icmpge (pc := 6) (tgt := 26) dX5_many_6 (by decide) (fun _ => ?_) (fun q => absurd (nI_le (Nat.le_refl _) (by omega)) q)
    refine ax_iload_n (pc := 26) dX5_many_26 rfl ?_
    refine ax_iret (pc := 27) dX5_many_27 rfl ?_
    exact ⟨_, rfl, rfl, _, _, rfl⟩
  | succ nn ih =>
    intro j hj g tu
    have hlt : j < m := by omega
    refine ax_iload_n (pc := 4) dX5_many_4 rfl ?_
    refine ax_iload_n (pc := 5) dX5_many_5 rfl ?_
    refine ax_icmpge (pc := 6) (tgt := 26) dX5_many_6 (by decide) (fun q => absurd q (nI_ge hlt (by omega))) (fun _ => ?_)
    refine ax_iload_n (pc := 9) dX5_many_9 rfl ?_
    refine ax_aload_n (pc := 10) dX5_many_10 rfl ?_
    refine ax_sipush (pc := 11) (v := nI 984) dX5_many_11 (by decide) ?_
    refine ax_iconst (pc := 14) (v := 0) dX5_many_14 (by decide) ?_
    refine ax_eVi2 (pc := 15) vX5_156 dX5_many_15 (by decide) (by exact hM_0) (Nat.le_of_ble_eq_true rfl) (c_X5_steps _ h x sl tu D so fl dr hd 984 fi (wi D fi w j) g (by decide) hD0 (wi_ok hD0 hW0 j) hfi hx) ?_
    refine bx_iadd dX5_many_18  ?_
    refine ax_istore2 (pc := 19) dX5_many_19 rfl (by decide) ?_
    refine ax_inc3p1 (pc := 20) dX5_many_20 rfl (by decide) ?_
    refine ax_goto (pc := 23) (tgt := 4) dX5_many_23 (by decide) ?_
    rw [nI_1]
    exact ih (j + 1) (by omega) _ _
set_option maxHeartbeats 4000000 in
set_option maxRecDepth 100000 in
theorem c_X5_many (dom : List Nat) (h : mh_H) (x : mxT) (sl : Nat → Int32) (D : sp_D) (so fl dr : Nat → Int32) (hd : dayH D so fl dr h) (fi : Nat) (w : sp_W) (hD0 : sp_D0 D) (hW0 : sp_W0 D.1 w) (hfi : fi < 512) (hx : x.1 = nI D.1) (hw0 : w.2.2.2.2 = 0) (m : Nat) (hm : m ≤ 60) (g tu : Int32) : Mt mX5_many dom 4 [.ref 0, .int (nI m)] (hM h x (s6 sl 984 w fi g) tu) (mx_Ri (fun v' h' => v' = nI (wi D fi w m).2.2.2.2 ∧ ∃ g' tu', h' = hM h x (s6 sl 984 (wi D fi w m) fi g') tu')) := by
  refine Mt.of (L := [some (.ref 0), some (.int (nI m)), none, none]) rfl (Nat.le_of_ble_eq_true rfl) rfl ?_
  refine ax_iconst (pc := 0) (v := nI 0) dX5_many_0 (by decide) ?_
  refine ax_istore2 (pc := 1) dX5_many_1 rfl (by decide) ?_
  refine ax_iconst (pc := 2) (v := nI 0) dX5_many_2 (by decide) ?_
  refine ax_istore3 (pc := 3) dX5_many_3 rfl (by decide) ?_
  have K := l_X5_many dom h x sl D so fl dr hd fi w hD0 hW0 hfi hx m hm m 0 (by omega) g tu
  rw [show (wi D fi w 0).2.2.2.2 = 0 from hw0] at K
  exact K
