theorem tx_57 : Cond.classLink RL 7 RX4 ∈ tb_w := tb_in (List.mem_of_getElem? (i := 57) (by decide +kernel)) (by first | rfl | decide +kernel)
theorem tx_59 : Cond.methodLink RL 9 yX4_init ∈ tb_w := tb_in (List.mem_of_getElem? (i := 59) (by decide +kernel)) (by first | rfl | decide +kernel)
theorem tx_629 : Cond.classLink RL 10 RX5 ∈ tb_w := tb_in (List.mem_of_getElem? (i := 629) (by decide +kernel)) (by first | rfl | decide +kernel)
theorem tx_631 : Cond.methodLink RL 12 yX5_init ∈ tb_w := tb_in (List.mem_of_getElem? (i := 631) (by decide +kernel)) (by first | rfl | decide +kernel)
def nx_J (z : mt_I) (idx : Nat) : Prop := Cond.methodLink RL idx z.1 ∈ tb_w ∧ z.1.name = "<init>" ∧ Cond.instanceMethod z.1 ∈ tb_w ∧ Cond.initialized z.1.cls ∈ tb_w ∧ Cond.code z.1 z.2.1 z.2.2.1 none ∈ tb_w ∧ z.2.2.2 = none ∧ (z.1.cls ≠ "java/lang/invoke/MethodHandle" ∧ z.1.cls ≠ "java/lang/invoke/VarHandle" ∧ (parseMethodDescriptor z.1.desc).map (fun d => d.parameters.length) = some 0) ∧ z.2.2.1 ≤ 41
theorem nwL_7 : nx_N RL 7 4 14 [.null, .null, .null, .null, .null, .null, .null, .null, .null, .int 0, .long 0, .long 0, .int 0, .null] := ⟨RX4, TX4, tyX4, rfl, wsX4_tb, tyX4_ok, tx_57, tx_58, tx_48, fun j hj => by rcases (show j = 0 ∨ j = 1 ∨ j = 2 ∨ j = 3 ∨ j = 4 ∨ j = 5 ∨ j = 6 ∨ j = 7 ∨ j = 8 ∨ j = 9 ∨ j = 10 ∨ j = 11 ∨ j = 12 ∨ j = 13 by omega) with rfl | rfl | rfl | rfl | rfl | rfl | rfl | rfl | rfl | rfl | rfl | rfl | rfl | rfl <;> rfl, fun _ => rfl⟩
theorem njL_9 : nx_J mX4_init 9 := ⟨tx_59, rfl, tx_60, tx_48, tx_61, rfl, ⟨by decide +kernel, by decide +kernel, by decide +kernel⟩, by decide⟩
theorem nwL_10 : nx_N RL 10 5 22 [.null, .null, .null, .null, .int 0, .null, .null, .null, .null, .null, .null, .int 0, .null, .int 0, .null, .int 0, .long 0, .long 0, .int 0, .null, .int 0, .null] := ⟨RX5, TX5, tyX5, rfl, wsX5_tb, tyX5_ok, tx_629, tx_630, tx_53, fun j hj => by rcases (show j = 0 ∨ j = 1 ∨ j = 2 ∨ j = 3 ∨ j = 4 ∨ j = 5 ∨ j = 6 ∨ j = 7 ∨ j = 8 ∨ j = 9 ∨ j = 10 ∨ j = 11 ∨ j = 12 ∨ j = 13 ∨ j = 14 ∨ j = 15 ∨ j = 16 ∨ j = 17 ∨ j = 18 ∨ j = 19 ∨ j = 20 ∨ j = 21 by omega) with rfl | rfl | rfl | rfl | rfl | rfl | rfl | rfl | rfl | rfl | rfl | rfl | rfl | rfl | rfl | rfl | rfl | rfl | rfl | rfl | rfl | rfl <;> rfl, fun _ => rfl⟩
theorem njL_12 : nx_J mX5_init 12 := ⟨tx_631, rfl, tx_632, tx_53, tx_633, rfl, ⟨by decide +kernel, by decide +kernel, by decide +kernel⟩, by decide⟩
set_option maxRecDepth 100000 in
theorem lw_K {s : State} {b : Nat} (hts : ∀ w ∈ lw_tbl, w.before #[Value.ref b] s = true) : ∃ (D : va_G) (dA : Nat → ClassId), mh_K D dA s ∧ nx_K s := by
  have ht : ∀ w ∈ tb_w, w.before #[Value.ref b] s = true := fun w hw => hts w (List.mem_filter.mp hw).1
  obtain ⟨c0, i0, k0⟩ := u_known (C := RX0) (T := TX0) (N := 5) (n := 5) ht wsX0_tb (ht _ tx_68)
  obtain ⟨c1, i1, k1⟩ := u_known (C := RX1) (T := TX1) (N := 3) (n := 3) ht wsX1_tb (ht _ tx_123)
  obtain ⟨c2, i2, k2⟩ := u_known (C := RX2) (T := TX2) (N := 2) (n := 2) ht wsX2_tb (ht _ tx_143)
  obtain ⟨c3, i3, k3⟩ := u_known (C := RX3) (T := TX3) (N := 5) (n := 5) ht wsX3_tb (ht _ tx_96)
  obtain ⟨c4, i4, k4⟩ := u_known (C := RX4) (T := TX4) (N := 14) (n := 14) ht wsX4_tb (ht _ tx_58)
  obtain ⟨c5, i5, k5⟩ := u_known (C := RX5) (T := TX5) (N := 22) (n := 22) ht wsX5_tb (ht _ tx_630)
  obtain ⟨cI, kI, pI, hI1, hI2, hI3⟩ := Cond.arrayClass_spec (ht _ tx_94)
  obtain ⟨cB, kB, pB, hB1, hB2, hB3⟩ := Cond.arrayClass_spec (ht _ tx_702)
  have hS0 : (Cond.arrayOver (.object "LeatDays$Strip")).before #[Value.ref b] s = true := hts _ (List.mem_of_getElem? (i := 66) (by decide +kernel))
  obtain ⟨pS, cS, kS, hS1, -, hS2, hS3, hS4⟩ := Cond.arrayOver_spec hS0
  have hD0 : (Cond.arrayOver (.object "LeatDays$Deeds")).before #[Value.ref b] s = true := hts _ (List.mem_of_getElem? (i := 141) (by decide +kernel))
  obtain ⟨pD, cD, kD, hD1, -, hD2, hD3, hD4⟩ := Cond.arrayOver_spec hD0
  have hW0 : (Cond.arrayOver (.object "LeatDays$Wheel")).before #[Value.ref b] s = true := hts _ (List.mem_of_getElem? (i := 142) (by decide +kernel))
  obtain ⟨pW, cW, kW, hW1, -, hW2, hW3, hW4⟩ := Cond.arrayOver_spec hW0
  refine ⟨(fun k => if k = 0 then c0 else if k = 1 then c1 else if k = 2 then c2 else if k = 3 then c3 else if k = 4 then c4 else c5, fun k => if k = 0 then i0 else if k = 1 then i1 else if k = 2 then i2 else if k = 3 then i3 else if k = 4 then i4 else i5), fun t => if t = 0 then cI else if t = 1 then cB else if t = 2 then cS else if t = 3 then cD else cW, ⟨⟨?_, ?_⟩, ?_⟩, ?_, ?_⟩
  · intro k q hq
    match k, hq with
    | 0, hq => cases hq; exact k0
    | 1, hq => cases hq; exact k1
    | 2, hq => cases hq; exact k2
    | 3, hq => cases hq; exact k3
    | 4, hq => cases hq; exact k4
    | 5, hq => cases hq; exact k5
    | k + 6, hq => simp [vwCl] at hq
  · intro k q hq
    match k, hq with
    | 0, hq => have hq := Option.some.inj ((mh_tys_at _ (t := 0) (by decide)).symm.trans hq); subst hq; exact ⟨fun n z => ⟨fun k h => (by cases h), kI, hI2, pI, hI3⟩, hI1⟩
    | 1, hq => have hq := Option.some.inj ((mh_tys_at _ (t := 1) (by decide)).symm.trans hq); subst hq; exact ⟨fun n z => ⟨fun k h => (by cases h), kB, hB2, pB, hB3⟩, hB1⟩
    | 2, hq => have hq := Option.some.inj ((mh_tys_at _ (t := 2) (by decide)).symm.trans hq); subst hq; exact ⟨fun n z => ⟨fun k h => (by cases h), kS, hS2, pS, hS3⟩, kS, pS, hS2, hS3, hS1, hS4⟩
    | 3, hq => have hq := Option.some.inj ((mh_tys_at _ (t := 3) (by decide)).symm.trans hq); subst hq; exact ⟨fun n z => ⟨fun k h => (by cases h), kD, hD2, pD, hD3⟩, kD, pD, hD2, hD3, hD1, hD4⟩
    | 4, hq => have hq := Option.some.inj ((mh_tys_at _ (t := 4) (by decide)).symm.trans hq); subst hq; exact ⟨fun n z => ⟨fun k h => (by cases h), kW, hW2, pW, hW3⟩, kW, pW, hW2, hW3, hW1, hW4⟩
    | k + 5, hq => simp [mh_tys] at hq
  · intro q hq
    simp only [mh_nest, List.mem_cons, List.not_mem_nil, or_false] at hq
    rcases hq with rfl | rfl
    · exact va_Nw.of (A := #[Value.ref b]) rfl (hts _ (List.mem_of_getElem? (i := 290) (by decide +kernel)))
    · exact va_Nw.of (A := #[Value.ref b]) rfl (hts _ (List.mem_of_getElem? (i := 608) (by decide +kernel)))
  · intro q hq
    simp only [nx_nest, List.mem_cons, List.not_mem_nil, or_false] at hq
    rcases hq with rfl | rfl | rfl | rfl
    · exact va_Nw.of (A := #[Value.ref b]) rfl (hts _ (List.mem_of_getElem? (i := 69) (by decide +kernel)))
    · exact va_Nw.of (A := #[Value.ref b]) rfl (hts _ (List.mem_of_getElem? (i := 97) (by decide +kernel)))
    · exact va_Nw.of (A := #[Value.ref b]) rfl (hts _ (List.mem_of_getElem? (i := 124) (by decide +kernel)))
    · exact va_Nw.of (A := #[Value.ref b]) rfl (hts _ (List.mem_of_getElem? (i := 144) (by decide +kernel)))
  · intro C hC
    simp only [nx_arr, List.mem_cons, List.not_mem_nil, or_false] at hC
    rcases hC with rfl | rfl | rfl
    · exact va_AO.of hS0
    · exact va_AO.of hD0
    · exact va_AO.of hW0
set_option maxHeartbeats 4000000 in
theorem lx_make {z : mt_I} {pc idx idx2 ci N ms : Nat} {fs : List Value} {ordl : List Nat} {Q : mh_H → Prop} {D : va_G} {dA : Nat → ClassId} {p : Program} {l : Launch} {e : Env} {s : State} {m : MethodId} {b : Nat} {below : List Frame} {meth : Method} {c : Code} {H : Heap} {locs : List Loc} {ls : Array Slot} {k n : Nat} {Z : State → Prop}
    (hC : mx_C mL D dA p s m #[Value.ref b] meth c) (hK : nx_K s) (hS : va_S (lx_A s.heap.size) s.heap H locs) (hl : ls.size = 4) (hf : nx_N RL idx ci N fs) (hi : nx_J z idx2) (hM : Nm z [0] ordl ms 2 [.ref 0] (mh_up (fun _ => mh_ob 99 []) 0 (mh_ob ci fs)) Q)
    (hfr : ∀ i, i < ordl.length → ∀ j, ordl[i]? = some j → List.idxOf j (0 :: ordl) = i + 1) (hk : k + 1 + ordl.length ≤ 600000) (hn : n + N + ms ≤ 7302250) (hd0 : decode code pc = .ok (.new idx, 3)) (hd1 : decode code (pc + 3) = .ok (.dup, 1)) (hd2 : decode code (pc + 3 + 1) = .ok (.invokespecial idx2, 3))
    (K : ∀ (ad : Nat → Nat) (h' : mh_H) (H1 : Heap) (locs1 : List Loc), Q h' → mx_P ([0] ++ ordl) ad D dA h' H1 → (∀ q, mh_A ([0] ++ ordl) ad q → H.size ≤ q) → (∀ q, q < H.size → H1[q]? = H[q]?) → va_S (lx_A s.heap.size) s.heap H1 locs1 → W p l e room_1 s m #[Value.ref b] below meth c H1 locs1 (k + 1 + ordl.length) (n + N + ms) Z (F0 m (pc + 3 + 1 + 3) ls [.ref (ad 0)])) :
    W p l e room_1 s m #[Value.ref b] below meth c H locs k n Z (F0 m pc ls []) := by
  obtain ⟨C, T, ty, h1, h2, h3, h4, h5, h6, h7, h8⟩ := hf
  obtain ⟨s1, s2, s3, s4, s5, s6, s7, s8⟩ := hi
  have hKn := hC.2.2.2.2.2.2.2.1.1 ci _ h1
  refine W.newcK hC.1 hC.2.1 hC.2.2.2.2.1 (hC.2.2.2.2.2.1 _ h4) (hC.2.2.2.2.2.1 _ h5) (hC.2.2.2.2.2.1 _ h6) rfl hd0 (by show k + 1 ≤ 600000; omega) (by show n + N ≤ 7302250; omega) hKn.2.1 rfl fun H1 kC hkC e1 z1 o1 => ?_
  show W p l e room_1 s m #[Value.ref b] below meth c H1 locs (k + 1) (n + N) Z (F0 m (pc + 3) ls [.ref H.size])
  refine lv_dup hC.1 hC.2.1 hd1 rfl ?_
  obtain ⟨ad, had⟩ : ∃ ad : Nat → Nat, ∀ j, ad j = H.size + List.idxOf j (0 :: ordl) := ⟨_, fun _ => rfl⟩
  have ha0 : ad 0 = H.size := by rw [had, List.idxOf_cons_self, Nat.add_zero]
  have hP0 : mx_P [] ad D dA (fun _ => mh_ob 99 []) H := ⟨fun k q h => by simp [mh_w] at h, ⟨fun i j p q h => by simp [mh_w] at h, fun k q h => by simp [mh_w] at h⟩, fun k _ => rfl⟩
  have hP1 : mx_P [0] ad D dA (mh_up (fun _ => mh_ob 99 []) 0 (mh_ob ci fs)) H1 := nx_add (dom := []) hP0 ha0 (by
    show ∃ r : vw_C, vwCl[ci]? = some r ∧ t_OB (ad 0) (D.1 ci) r.2.2 (D.2 ci) H1 (vp_V (fs.map (mh_v ad)))
    rw [h8, ha0]
    exact ⟨_, h1, (u_born ty hC.2.2.2.2.2.1 h2 hKn hkC e1 h3).to h7⟩) o1
  have hfr1 : nx_fr ad (H.size + 1) ordl := fun i j hj => by
    rw [had, hfr i (List.getElem?_eq_some_iff.mp hj).1 j hj]
    omega
  have hG : GoodIn tb_w (mx_ws z) := by
    intro w hw
    have : w ∈ tb_w := by
      simp only [mx_ws, List.mem_cons] at hw
      rcases hw with rfl | hw
      · rw [s6]; exact s5
      · exact hw
    exact ⟨this, tb_good this⟩
  rw [← ha0]
  have hr := va_runI (g := F0 m (pc + 3 + 1) ls [.ref (ad 0), .ref (ad 0)]) (b := ad 0) (As := []) (rest := [.ref (ad 0)]) (locs := locs) (below := below) (meth := meth) (e := e) (cells := k + 1) (slots := n + N) (R := room_1) (H := H1) (p := p) (l := l) (s := s) (m := m) (args := #[Value.ref b]) (c := c) (maxL := z.2.2.1) (bytes := z.2.1) (n := 0) (index := idx2) ⟨hC.1, hC.2.1, hC.2.2.2.1, hC.2.2.2.2.1, hC.2.2.2.2.2.1⟩ (hM ad D dA l (H.size + 1)) (cwI 0 hC.2.2.2.2.2.1 hG (by rw [← s6]; rfl) rfl rfl (hC.2.2.2.2.2.1 _ s4) (hC.2.2.2.2.2.1 _ s1) (hC.2.2.2.2.2.1 _ s3) s2 s7 ⟨by show 2 + 1 ≤ 2048; decide, by show 8 + (z.2.2.1 + 11) + 60 * 2 ≤ 84000; omega⟩) ⟨nx_blind, fun U hU hW => ⟨rfl, ⟨by rw [hU]; exact hP1, hC.2.2.2.2.2.2.2.warm hW, hK.warm hW⟩, by rw [hU, z1], hfr1⟩⟩ rfl rfl hl rfl (lv_room (Nat.le_of_ble_eq_true rfl)) hd2 ⟨hk, hn⟩
  intro T hT X
  obtain ⟨v, st₀, t, T', Lo, g0, X', hL, f1, f2, ⟨⟨h', hv, hq, hw, hsz⟩, hz, hkk⟩, stp⟩ := hr T hT X
  cases hv
  rw [g0] at hz hkk hsz
  have hle : s.heap.size ≤ H.size := hS.1
  have hsub : ∀ q, nx_A [0] ad H1.size q → H.size ≤ q := fun q hq => by
    rcases hq with ⟨j, hj, rfl⟩ | hq
    · rw [had]; omega
    · omega
  have hsub2 : ∀ q, nx_A [0] ad (H.size + 1) q → H.size ≤ q := fun q hq => hsub q (by rw [z1]; exact hq)
  have ho : ∀ q, q < H.size → T'.heap[q]? = H[q]? := fun q hq => by
    rw [f1, hkk q (by omega) (fun z => absurd (hsub q z) (by omega))]
    exact o1 q hq
  obtain ⟨t2, a1, b1⟩ := K ad h' T'.heap (locs ++ Lo) hq (by rw [f1]; exact hw) (fun q ⟨j, _, hj⟩ => by rw [hj, had]; omega) ho ⟨by rw [f1]; omega, fun q h1 h2 => (ho q (by omega)).trans (hS.2.1 q h1 h2), fun q hq => by
      rcases List.mem_append.mp hq with h | h
      · exact hS.2.2 q h
      · exact Nat.le_trans hle (hsub2 _ (hL q h))⟩ T' rfl X'
  exact ⟨t2, stp t2 a1, b1⟩
theorem lw_in {N i : Nat} (hN : N ≤ 3072) (hi : i ≤ N + 6) (c : ¬ nI N - 6 < nI i) : i + 6 ≤ N := by
  by_cases h6 : 6 ≤ N
  · rw [n_6, nI_s h6, nI_ltI (by omega) (by omega)] at c
    omega
  · exfalso
    apply c
    refine Int32.lt_of_lt_of_le (b := 0) ?_ (nI_pos' (by omega))
    rcases (show N = 0 ∨ N = 1 ∨ N = 2 ∨ N = 3 ∨ N = 4 ∨ N = 5 by omega) with rfl | rfl | rfl | rfl | rfl | rfl <;> decide
set_option maxHeartbeats 4000000 in
set_option maxRecDepth 100000 in
theorem lw_loop {N : Nat} {sc : Nat → Int32} (hN : N ≤ 3072) : ∀ (n i : Nat) (s : sg) (hX hM' : mh_H), i ≤ N + 6 → N + 6 < i + 6 * n → IV s → CP s hX → MP s hM' → Lt N sc i 18 [] hX hM' := by
  intro n
  induction n with
  | zero =>
    intro i s hX hM' h1 h2
    exact absurd h2 (by omega)
  | succ n ih =>
    intro i s hX hM' h1 h2 hv hc hm
    refine lt_i3 (pc := 18) dL_law_18 ?_
    refine lt_a0 (pc := 19) dL_law_19 ?_
    refine lt_slen (pc := 20) dL_law_20 ?_
    refine lt_bipush (pc := 21) (v := 6) dL_law_21 (by decide) ?_
    refine lt_isub (pc := 23) dL_law_23 ?_
    refine lt_gt (pc := 24) (tgt := 1331) dL_law_24 (by decide) (fun _ => lt_exit (pc := 1331) dL_law_1331 dL_law_1332) (fun c24 => ?_)
    have hi : i + 6 ≤ N := lw_in hN h1 c24
    refine lt_a0 (pc := 27) dL_law_27 ?_
    refine lt_i3 (pc := 28) dL_law_28 ?_
    refine lt_sld (pc := 29) dL_law_29 (by omega) (by omega) ?_
    refine lt_bipush (pc := 30) (v := 63) dL_law_30 (by decide) ?_
    refine lt_iand (pc := 32) dL_law_32 ?_
    have KK : ∀ (s' : sg) (g1 g2 : mh_H), IV s' → CP s' g1 → MP s' g2 → Lt N sc i 1325 [] g1 g2 := fun s' g1 g2 a b c => lt_next (pc := 1325) dL_law_1325 dL_law_1328 (by decide) (ih (i + 6) s' g1 g2 (by omega) (by omega) a b c)
    generalize sc i &&& 63 = x
    by_cases hx : x.toInt < 0 ∨ 41 < x.toInt
    · exact lt_swOut (pc := 33) (tgt := 1325) dL_law_33 hx (by decide) (KK s _ _ hv hc hm)
    · obtain ⟨v, hv0⟩ : ∃ v : Nat, x.toInt = (v : Int) := ⟨x.toInt.toNat, by omega⟩
      have hv41 : v ≤ 41 := by omega
      rcases (show v = 0 ∨ v = 1 ∨ v = 2 ∨ v = 3 ∨ v = 4 ∨ v = 5 ∨ v = 6 ∨ v = 7 ∨ v = 8 ∨ v = 9 ∨ v = 10 ∨ v = 11 ∨ v = 12 ∨ v = 13 ∨ v = 14 ∨ v = 15 ∨ v = 16 ∨ v = 17 ∨ v = 18 ∨ v = 19 ∨ v = 20 ∨ v = 21 ∨ v = 22 ∨ v = 23 ∨ v = 24 ∨ v = 25 ∨ v = 26 ∨ v = 27 ∨ v = 28 ∨ v = 29 ∨ v = 30 ∨ v = 31 ∨ v = 32 ∨ v = 33 ∨ v = 34 ∨ v = 35 ∨ v = 36 ∨ v = 37 ∨ v = 38 ∨ v = 39 ∨ v = 40 ∨ v = 41 by omega) with rfl | rfl | rfl | rfl | rfl | rfl | rfl | rfl | rfl | rfl | rfl | rfl | rfl | rfl | rfl | rfl | rfl | rfl | rfl | rfl | rfl | rfl | rfl | rfl | rfl | rfl | rfl | rfl | rfl | rfl | rfl | rfl | rfl | rfl | rfl | rfl | rfl | rfl | rfl | rfl | rfl | rfl
      · exact lt_swIn (pc := 33) (tgt := 216) dL_law_33 hv0 (by decide) rfl (by decide) (lw_c0 hN hi hv hc hm KK)
      · exact lt_swIn (pc := 33) (tgt := 249) dL_law_33 hv0 (by decide) rfl (by decide) (lw_c1 hN hi hv hc hm KK)
      · exact lt_swIn (pc := 33) (tgt := 292) dL_law_33 hv0 (by decide) rfl (by decide) (lw_c2 hN hi hv hc hm KK)
      · exact lt_swIn (pc := 33) (tgt := 325) dL_law_33 hv0 (by decide) rfl (by decide) (lw_c3 hN hi hv hc hm KK)
      · exact lt_swIn (pc := 33) (tgt := 348) dL_law_33 hv0 (by decide) rfl (by decide) (lw_c4 hN hi hv hc hm KK)
      · exact lt_swIn (pc := 33) (tgt := 411) dL_law_33 hv0 (by decide) rfl (by decide) (lw_c5 hN hi hv hc hm KK)
      · exact lt_swIn (pc := 33) (tgt := 434) dL_law_33 hv0 (by decide) rfl (by decide) (lw_c6 hN hi hv hc hm KK)
      · exact lt_swIn (pc := 33) (tgt := 467) dL_law_33 hv0 (by decide) rfl (by decide) (lw_c7 hN hi hv hc hm KK)
      · exact lt_swIn (pc := 33) (tgt := 510) dL_law_33 hv0 (by decide) rfl (by decide) (lw_c8 hN hi hv hc hm KK)
      · exact lt_swIn (pc := 33) (tgt := 533) dL_law_33 hv0 (by decide) rfl (by decide) (lw_c9 hN hi hv hc hm KK)
      · exact lt_swIn (pc := 33) (tgt := 556) dL_law_33 hv0 (by decide) rfl (by decide) (lw_c10 hN hi hv hc hm KK)
      · exact lt_swIn (pc := 33) (tgt := 589) dL_law_33 hv0 (by decide) rfl (by decide) (lw_c11 hN hi hv hc hm KK)
      · exact lt_swIn (pc := 33) (tgt := 622) dL_law_33 hv0 (by decide) rfl (by decide) (lw_c12 hN hi hv hc hm KK)
      · exact lt_swIn (pc := 33) (tgt := 665) dL_law_33 hv0 (by decide) rfl (by decide) (lw_c13 hN hi hv hc hm KK)
      · exact lt_swIn (pc := 33) (tgt := 678) dL_law_33 hv0 (by decide) rfl (by decide) (lw_c14 hN hi hv hc hm KK)
      · exact lt_swIn (pc := 33) (tgt := 701) dL_law_33 hv0 (by decide) rfl (by decide) (lw_c15 hN hi hv hc hm KK)
      · exact lt_swIn (pc := 33) (tgt := 714) dL_law_33 hv0 (by decide) rfl (by decide) (lw_c16 hN hi hv hc hm KK)
      · exact lt_swIn (pc := 33) (tgt := 737) dL_law_33 hv0 (by decide) rfl (by decide) (lw_c17 hN hi hv hc hm KK)
      · exact lt_swIn (pc := 33) (tgt := 760) dL_law_33 hv0 (by decide) rfl (by decide) (lw_c18 hN hi hv hc hm KK)
      · exact lt_swIn (pc := 33) (tgt := 783) dL_law_33 hv0 (by decide) rfl (by decide) (lw_c19 hN hi hv hc hm KK)
      · exact lt_swIn (pc := 33) (tgt := 806) dL_law_33 hv0 (by decide) rfl (by decide) (lw_c20 hN hi hv hc hm KK)
      · exact lt_swIn (pc := 33) (tgt := 829) dL_law_33 hv0 (by decide) rfl (by decide) (lw_c21 hN hi hv hc hm KK)
      · exact lt_swIn (pc := 33) (tgt := 842) dL_law_33 hv0 (by decide) rfl (by decide) (lw_c22 hN hi hv hc hm KK)
      · exact lt_swIn (pc := 33) (tgt := 875) dL_law_33 hv0 (by decide) rfl (by decide) (lw_c23 hN hi hv hc hm KK)
      · exact lt_swIn (pc := 33) (tgt := 898) dL_law_33 hv0 (by decide) rfl (by decide) (lw_c24 hN hi hv hc hm KK)
      · exact lt_swIn (pc := 33) (tgt := 931) dL_law_33 hv0 (by decide) rfl (by decide) (lw_c25 hN hi hv hc hm KK)
      · exact lt_swIn (pc := 33) (tgt := 964) dL_law_33 hv0 (by decide) rfl (by decide) (lw_c26 hN hi hv hc hm KK)
      · exact lt_swIn (pc := 33) (tgt := 987) dL_law_33 hv0 (by decide) rfl (by decide) (lw_c27 hN hi hv hc hm KK)
      · exact lt_swIn (pc := 33) (tgt := 1010) dL_law_33 hv0 (by decide) rfl (by decide) (lw_c28 hN hi hv hc hm KK)
      · exact lt_swIn (pc := 33) (tgt := 1043) dL_law_33 hv0 (by decide) rfl (by decide) (lw_c29 hN hi hv hc hm KK)
      · exact lt_swIn (pc := 33) (tgt := 1076) dL_law_33 hv0 (by decide) rfl (by decide) (lw_c30 hN hi hv hc hm KK)
      · exact lt_swIn (pc := 33) (tgt := 1099) dL_law_33 hv0 (by decide) rfl (by decide) (lw_c31 hN hi hv hc hm KK)
      · exact lt_swIn (pc := 33) (tgt := 1122) dL_law_33 hv0 (by decide) rfl (by decide) (lw_c32 hN hi hv hc hm KK)
      · exact lt_swIn (pc := 33) (tgt := 1155) dL_law_33 hv0 (by decide) rfl (by decide) (lw_c33 hN hi hv hc hm KK)
      · exact lt_swIn (pc := 33) (tgt := 1178) dL_law_33 hv0 (by decide) rfl (by decide) (lw_c34 hN hi hv hc hm KK)
      · exact lt_swIn (pc := 33) (tgt := 1211) dL_law_33 hv0 (by decide) rfl (by decide) (lw_c35 hN hi hv hc hm KK)
      · exact lt_swIn (pc := 33) (tgt := 1224) dL_law_33 hv0 (by decide) rfl (by decide) (lw_c36 hN hi hv hc hm KK)
      · exact lt_swIn (pc := 33) (tgt := 1238) dL_law_33 hv0 (by decide) rfl (by decide) (lw_c37 hN hi hv hc hm KK)
      · exact lt_swIn (pc := 33) (tgt := 1252) dL_law_33 hv0 (by decide) rfl (by decide) (lw_c38 hN hi hv hc hm KK)
      · exact lt_swIn (pc := 33) (tgt := 1275) dL_law_33 hv0 (by decide) rfl (by decide) (lw_c39 hN hi hv hc hm KK)
      · exact lt_swIn (pc := 33) (tgt := 1288) dL_law_33 hv0 (by decide) rfl (by decide) (lw_c40 hN hi hv hc hm KK)
      · exact lt_swIn (pc := 33) (tgt := 1311) dL_law_33 hv0 (by decide) rfl (by decide) (lw_c41 hN hi hv hc hm KK)
