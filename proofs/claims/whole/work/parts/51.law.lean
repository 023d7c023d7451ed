def R_law : String := "LeatDaysLaw"
def lw_P (b : Addr) (xs : List Int32) (args : Array Value) (s : State) : Prop := args = #[.ref b] ∧ s.IntsAt b xs ∧ xs.length ≤ 3072 ∧ (Jvm.Cond.and given_1 narrow_1).before args s = true
def lw_Q (_ : Array Value) (s : State) (o : Outcome) (t : State) : Prop := o = .returned (some (.int 1)) ∧ Framed s o t [] 600000 7302250
def lw_Z (below : List Frame) (a : Array Value) (s : State) : State → Prop := fun t => ∃ o, t.status = .running ∧ Ended t below o ∧ lw_Q a s o t
/-- the law's own end, with 1 on the stack, nothing written that was there before, its room as the claim has it -/
theorem lw_ret {p : Program} {l : Launch} {e : Env} {s : State} {m : MethodId} {below : List Frame} {meth : Method} {c : Code} {b : Nat} (hx : p.tables.exec = Jvm.exec) (hb : c.code = code) (hr : meth.sig.returnType = ret) (hlocks : meth.locks = false) {pc : Nat} {H : Heap} {ls : Array Slot} (hdg : decode code pc = .ok (.ireturn, 1)) : W p l e room_1 s m #[Value.ref b] below meth c H [] 600000 7302250 (lw_Z below #[Value.ref b] s) (F0 m pc ls [.int 1]) := by
  intro T hT X
  obtain ⟨fs, hret, hrun, hended, hW, hframe⟩ := X.leave (v := some (.int 1)) (hlocks := hlocks) (fun h => by rw [hr] at h; cases h)
  have hmeth' : T.vm.method? m = some meth := X.method'
  refine ⟨T.setFrames fs, ?_, .returned (some (.int 1)), hrun, hended, rfl, ⟨_, rfl⟩, hW, hframe⟩
  jvm_step X.here [X.here.top, hx, hb, hdg, hmeth', hr, ret, narrow_b1]
  (try refine ⟨rfl, ?_⟩); (try refine ⟨rfl, ?_⟩)
  first | (intro acts; rw [hret _ acts rfl rfl rfl]) | rw [hret _ _ rfl rfl rfl]
  exact Steps.refl _
/-- what holds at the law's entry: the machine, the code, the tables' words (any of lw_tbl by 'hts w (by decide +kernel)'), the script of L ints xs at the cell b, what the Statement gives of the start (any of its parts by flat_of_before) -/
def lw_At (p : Program) (s : State) (m : MethodId) (meth : Method) (c : Code) (b L : Nat) (xs : Nat → Int32) : Prop :=
  p.tables.exec = Jvm.exec ∧ c.code = code ∧ meth.sig.returnType = ret ∧ c.maxLocals = 4 ∧ s.vm.findClass R_law = some m.cls ∧ (∀ w ∈ lw_tbl, w.before #[Value.ref b] s = true) ∧ va_X b L xs s s.heap ∧ b < s.heap.size ∧ meth.locks = false ∧ (Jvm.Cond.and given_1 narrow_1).before #[Value.ref b] s = true
/-! The law's judgement: the two worlds side by side, the script, the place i -/
abbrev mL : mt_I := (⟨RL, "law", "([I)Z"⟩, code, 4, ret)
abbrev dX : List Nat := [0] ++ oXl
abbrev dM : List Nat := [0] ++ oMl
def lx_ad (b : Nat) (aX aM : Nat → Nat) : Nat → Nat := fun k => if k = 0 then b else if k = 1 then aX 0 else aM 0
def lx_P (aX aM : Nat → Nat) (D : va_G) (dA : Nat → ClassId) (hX hM : mh_H) (sz : Nat) (H : Heap) : Prop := mx_P dX aX D dA hX H ∧ mx_P dM aM D dA hM H ∧ (∀ q, mh_A dX aX q → sz ≤ q) ∧ (∀ q, mh_A dM aM q → sz ≤ q) ∧ ∀ q, mh_A dX aX q → ¬ mh_A dM aM q
def lx_A (sz : Nat) : Nat → Prop := fun q => sz ≤ q
def lx_L (b : Nat) (aX aM : Nat → Nat) (i : Nat) : List (Nat × Value) := [(0, .ref b), (1, .ref (aX 0)), (2, .ref (aM 0)), (3, .int (nI i))]
def Lt (N : Nat) (sc : Nat → Int32) (i pc : Nat) (st : List Value) (hX hM : mh_H) : Prop :=
  ∀ (aX aM : Nat → Nat) (D : va_G) (dA : Nat → ClassId) (p : Program) (l : Launch) (e : Env) (s : State) (m : MethodId) (b : Nat) (below : List Frame) (meth : Method) (c : Code) (H : Heap) (locs : List Loc) (ls : Array Slot),
    mx_C mL D dA p s m #[Value.ref b] meth c → (va_X b N sc s s.heap ∧ b < s.heap.size) → lx_P aX aM D dA hX hM s.heap.size H → va_S (lx_A s.heap.size) s.heap H locs → lv_has ls 4 (lx_L b aX aM i) →
    W p l e room_1 s m #[Value.ref b] below meth c H locs 68 2903 (lw_Z below #[Value.ref b] s) (F0 m pc ls (st.map (mh_v (lx_ad b aX aM))))
section LT
variable {z : mt_I} {N i pc : Nat} {sc : Nat → Int32} {st : List Value} {hX hM : mh_H}
theorem lx_K {dom dom' : List Nat} {ad ad' : Nat → Nat} {D : va_G} {dA : Nat → ClassId} {h : mh_H} {H H1 : Heap} (hP : mx_P dom ad D dA h H) (hd : ∀ q, mh_A dom ad q → ¬ mh_A dom' ad' q) (ho : ∀ q, q < H.size → ¬ mh_A dom' ad' q → H1[q]? = H[q]?) : mx_P dom ad D dA h H1 := ⟨hP.1.kept (fun k q hk => ho q.1 (hP.1 k q hk).lt (hd _ (hP.2.1.2 k q hk))), hP.2⟩
theorem lt_a0 (hd : decode code pc = .ok (.aload_n 0, 1)) (K : Lt N sc i (pc + 1) (.ref 0 :: st) hX hM) : Lt N sc i pc st hX hM := fun aX aM D dA p l e s m b below meth c H locs ls hC hB hP hS hl => lv_aload_n hC.1 hC.2.1 hd rfl (lv_at hl 0 rfl) (K aX aM D dA p l e s m b below meth c H locs ls hC hB hP hS hl)
theorem lt_a1 (hd : decode code pc = .ok (.aload_n 1, 1)) (K : Lt N sc i (pc + 1) (.ref 1 :: st) hX hM) : Lt N sc i pc st hX hM := fun aX aM D dA p l e s m b below meth c H locs ls hC hB hP hS hl => lv_aload_n hC.1 hC.2.1 hd rfl (lv_at hl 1 rfl) (K aX aM D dA p l e s m b below meth c H locs ls hC hB hP hS hl)
theorem lt_a2 (hd : decode code pc = .ok (.aload_n 2, 1)) (K : Lt N sc i (pc + 1) (.ref 2 :: st) hX hM) : Lt N sc i pc st hX hM := fun aX aM D dA p l e s m b below meth c H locs ls hC hB hP hS hl => lv_aload_n hC.1 hC.2.1 hd rfl (lv_at hl 2 rfl) (K aX aM D dA p l e s m b below meth c H locs ls hC hB hP hS hl)
theorem lt_i3 (hd : decode code pc = .ok (.iload_n 3, 1)) (K : Lt N sc i (pc + 1) (.int (nI i) :: st) hX hM) : Lt N sc i pc st hX hM := fun aX aM D dA p l e s m b below meth c H locs ls hC hB hP hS hl => lv_iload_n hC.1 hC.2.1 hd rfl (lv_at hl 3 rfl) (K aX aM D dA p l e s m b below meth c H locs ls hC hB hP hS hl)
theorem lt_iconst {v0 : Int} {v : Int32} (hd : decode code pc = .ok (.iconst v0, 1)) (hv : Int32.ofInt v0 = v) (K : Lt N sc i (pc + 1) (.int v :: st) hX hM) : Lt N sc i pc st hX hM := fun aX aM D dA p l e s m b below meth c H locs ls hC hB hP hS hl => lv_iconst hC.1 hC.2.1 hd hv (K aX aM D dA p l e s m b below meth c H locs ls hC hB hP hS hl)
theorem lt_bipush {v0 : Int} {v : Int32} (hd : decode code pc = .ok (.bipush v0, 2)) (hv : (Int8.ofInt v0).toInt32 = v) (K : Lt N sc i (pc + 2) (.int v :: st) hX hM) : Lt N sc i pc st hX hM := fun aX aM D dA p l e s m b below meth c H locs ls hC hB hP hS hl => lv_bipush hC.1 hC.2.1 hd hv (K aX aM D dA p l e s m b below meth c H locs ls hC hB hP hS hl)
theorem lt_iadd {a b v : Int32} (hd : decode code pc = .ok (.iadd, 1)) (hv : a + b = v) (K : Lt N sc i (pc + 1) (.int v :: st) hX hM) : Lt N sc i pc (.int b :: .int a :: st) hX hM := fun aX aM D dA p l e s m b below meth c H locs ls hC hB hP hS hl => lv_iadd hC.1 hC.2.1 hd (hv ▸ K aX aM D dA p l e s m b below meth c H locs ls hC hB hP hS hl)
theorem lt_isub {a b : Int32} (hd : decode code pc = .ok (.isub, 1)) (K : Lt N sc i (pc + 1) (.int (a - b) :: st) hX hM) : Lt N sc i pc (.int b :: .int a :: st) hX hM := fun aX aM D dA p l e s m b below meth c H locs ls hC hB hP hS hl => lv_isub hC.1 hC.2.1 hd (K aX aM D dA p l e s m b below meth c H locs ls hC hB hP hS hl)
theorem lt_iand {a b : Int32} (hd : decode code pc = .ok (.iand, 1)) (K : Lt N sc i (pc + 1) (.int (a &&& b) :: st) hX hM) : Lt N sc i pc (.int b :: .int a :: st) hX hM := fun aX aM D dA p l e s m b below meth c H locs ls hC hB hP hS hl => lv_iand hC.1 hC.2.1 hd (K aX aM D dA p l e s m b below meth c H locs ls hC hB hP hS hl)
theorem lx_nb {sz b : Nat} (h : b < sz) : ¬ lx_A sz b := Nat.not_le.mpr h
theorem lt_sld {j : Nat} (hd : decode code pc = .ok (.iaload, 1)) (hj : j < N) (hN : N < 2 ^ 31) (K : Lt N sc i (pc + 1) (.int (sc j) :: st) hX hM) : Lt N sc i pc (.int (nI j) :: .ref 0 :: st) hX hM := fun aX aM D dA p l e s m b below meth c H locs ls hC hB hP hS hl => by
  refine va_sld (i := nI j) hC.1 hC.2.1 hB.1 hB.2 (lx_nb hB.2) hS (vp_in_nI hj hN) hd ?_
  rw [ni_cl (Nat.lt_trans hj hN)]
  exact K aX aM D dA p l e s m b below meth c H locs ls hC hB hP hS hl
theorem lt_slen (hd : decode code pc = .ok (.arraylength, 1)) (K : Lt N sc i (pc + 1) (.int (nI N) :: st) hX hM) : Lt N sc i pc (.ref 0 :: st) hX hM := fun aX aM D dA p l e s m b below meth c H locs ls hC hB hP hS hl => va_slen hC.1 hC.2.1 hB.1 hB.2 (lx_nb hB.2) hS hd (K aX aM D dA p l e s m b below meth c H locs ls hC hB hP hS hl)
/-- the number at i + q of the script -/
theorem lt_arg {q : Nat} {v0 : Int} (hd0 : decode code pc = .ok (.aload_n 0, 1)) (hd1 : decode code (pc + 1) = .ok (.iload_n 3, 1)) (hd2 : decode code (pc + 1 + 1) = .ok (.iconst v0, 1)) (hd3 : decode code (pc + 1 + 1 + 1) = .ok (.iadd, 1)) (hd4 : decode code (pc + 1 + 1 + 1 + 1) = .ok (.iaload, 1)) (hv : Int32.ofInt v0 = nI q) (hj : i + q < N) (hN : N < 2 ^ 31) (K : Lt N sc i (pc + 5) (.int (sc (i + q)) :: st) hX hM) : Lt N sc i pc st hX hM := lt_a0 hd0 (lt_i3 hd1 (lt_iconst hd2 hv (lt_iadd hd3 (nI_add i q) (lt_sld hd4 hj hN K))))
theorem lt_eq {a b : Int32} {off : Int} {tgt : Nat} (hd : decode code pc = .ok (.if_icmp .eq off, 3)) (ht : (pc : Int) + off = (tgt : Int)) (hab : a = b) (K : Lt N sc i tgt st hX hM) : Lt N sc i pc (.int b :: .int a :: st) hX hM := fun aX aM D dA p l e s m b below meth c H locs ls hC hB hP hS hl => lv_icmp_eq hC.1 hC.2.1 hd ht (fun _ => K aX aM D dA p l e s m b below meth c H locs ls hC hB hP hS hl) (fun q => absurd hab q)
theorem lt_gt {a b : Int32} {off : Int} {tgt : Nat} (hd : decode code pc = .ok (.if_icmp .gt off, 3)) (ht : (pc : Int) + off = (tgt : Int)) (KT : b < a → Lt N sc i tgt st hX hM) (KF : ¬ b < a → Lt N sc i (pc + 3) st hX hM) : Lt N sc i pc (.int b :: .int a :: st) hX hM := fun aX aM D dA p l e s m b below meth c H locs ls hC hB hP hS hl => lv_icmp_gt hC.1 hC.2.1 hd ht (fun q => KT q aX aM D dA p l e s m b below meth c H locs ls hC hB hP hS hl) (fun q => KF q aX aM D dA p l e s m b below meth c H locs ls hC hB hP hS hl)
theorem lt_leq {a : Int64} {off : Int} {tgt : Nat} (hd : decode code pc = .ok (.lcmp, 1)) (hd1 : decode code (pc + 1) = .ok (.ifCond .eq off, 3)) (ht : ((pc + 1 : Nat) : Int) + off = (tgt : Int)) (K : Lt N sc i tgt st hX hM) : Lt N sc i pc (.long a :: .long a :: st) hX hM := fun aX aM D dA p l e s m b below meth c H locs ls hC hB hP hS hl => W.lcmp hC.1 hC.2.1 hd (lv_if_eq hC.1 hC.2.1 hd1 ht (fun _ => K aX aM D dA p l e s m b below meth c H locs ls hC hB hP hS hl) (fun q => absurd (by unfold lg_cmp; simp) q))
theorem lt_next (hd0 : decode code pc = .ok (.iinc 3 6, 3)) (hd1 : decode code (pc + 3) = .ok (.goto (-1310), 3)) (ht : ((pc + 3 : Nat) : Int) + (-1310) = ((18 : Nat) : Int)) (K : Lt N sc (i + 6) 18 [] hX hM) : Lt N sc i pc [] hX hM := fun aX aM D dA p l e s m b below meth c H locs ls hC hB hP hS hl => by
  refine lv_iinc (v := nI (i + 6)) (lv' := [(3, .int (nI (i + 6))), (0, .ref b), (1, .ref (aX 0)), (2, .ref (aM 0))]) hC.1 hC.2.1 hd0 hl (k := 3) rfl (nI_add i 6) (by decide) rfl (fun ls hl => ?_)
  refine lv_goto (tgt := 18) hC.1 hC.2.1 hd1 ht ?_
  exact K aX aM D dA p l e s m b below meth c H locs ls hC hB hP hS (lv_sub hl [1, 2, 3, 0] rfl)
theorem lt_swIn {v tgt : Nat} {x : Int32} {off : Int} {dflt hi : Int} {offs : Array Int} {len : Nat} (hd : decode code pc = .ok (.tableswitch dflt 0 hi offs, len)) (hx : x.toInt = (v : Int)) (hv : (v : Int) ≤ hi) (ho : offs[v]? = some off) (ht : (pc : Int) + off = (tgt : Int)) (K : Lt N sc i tgt st hX hM) : Lt N sc i pc (.int x :: st) hX hM := fun aX aM D dA p l e s m b below meth c H locs ls hC hB hP hS hl => lv_tableIn hC.1 hC.2.1 hd (by rw [hx]; omega) (by rw [hx]; omega) (by rw [hx, Int.sub_zero, Int.toNat_natCast]; exact ho) ht (K aX aM D dA p l e s m b below meth c H locs ls hC hB hP hS hl)
theorem lt_swOut {tgt : Nat} {x : Int32} {dflt hi : Int} {offs : Array Int} {len : Nat} (hd : decode code pc = .ok (.tableswitch dflt 0 hi offs, len)) (hx : x.toInt < 0 ∨ hi < x.toInt) (ht : (pc : Int) + dflt = (tgt : Int)) (K : Lt N sc i tgt st hX hM) : Lt N sc i pc (.int x :: st) hX hM := fun aX aM D dA p l e s m b below meth c H locs ls hC hB hP hS hl => lv_tableOut hC.1 hC.2.1 hd hx ht (K aX aM D dA p l e s m b below meth c H locs ls hC hB hP hS hl)
theorem lt_exit (hd0 : decode code pc = .ok (.iconst 1, 1)) (hd1 : decode code (pc + 1) = .ok (.ireturn, 1)) : Lt N sc i pc [] hX hM := fun aX aM D dA p l e s m b below meth c H locs ls hC hB hP hS hl => by
  refine lv_iconst (v := 1) hC.1 hC.2.1 hd0 (by decide) ?_
  refine va_forget (fun q hq => hS.2.2 q hq) ?_
  refine W.widen (k := 600000) (n := 7302250) (Nat.le_of_ble_eq_true rfl) (Nat.le_of_ble_eq_true rfl) ?_
  exact lw_ret hC.1 hC.2.1 hC.2.2.1 hC.2.2.2.2.2.2.1 hd1
/-- a call on one of the two worlds -/
theorem lx_call {ad : Nat → Nat} {dom : List Nat} {D : va_G} {dA : Nat → ClassId} {p : Program} {l : Launch} {e : Env} {s : State} {m : MethodId} {args : Array Value} {below : List Frame} {meth : Method} {c : Code} {H : Heap} {locs : List Loc} {ls : Array Slot} {R : Room} {k n : Nat} {st0 rest : List Value} {Qc : Option Value → mh_H → Prop} {a : Array Value} {Z : State → Prop} {A : Nat → Prop}
    (hr : va_Run p l e R s m args below meth c H locs k n 0 0 (F0 m pc ls st0) rest (mx_Q dom ad D dA Qc a) (mh_A dom ad)) (hS : va_S A s.heap H locs) (hA : ∀ q, mh_A dom ad q → A q)
    (K : ∀ (r : Option Value) (h' : mh_H) (H1 : Heap) (locs1 : List Loc), Qc r h' → mx_P dom ad D dA h' H1 → (∀ q, q < H.size → ¬ mh_A dom ad q → H1[q]? = H[q]?) → va_S A s.heap H1 locs1 → W p l e R s m args below meth c H1 locs1 k n Z (F0 m (pc + 3) ls ((r.map (mh_v ad)).toList ++ rest))) : W p l e R s m args below meth c H locs k n Z (F0 m pc ls st0) := by
  intro T hT X
  obtain ⟨v, st₀, t, T', L, h0, X', hL, e1, e2, ⟨⟨r, h', hv, hq, hw⟩, hz, hk⟩, st⟩ := hr T hT X
  cases hv
  rw [h0] at hz hk
  obtain ⟨t2, a1, b1⟩ := K r h' T'.heap (locs ++ L) hq (by rw [e1]; exact hw) (fun q h1 h2 => by rw [e1]; exact hk q h1 h2) ⟨Nat.le_trans hS.1 (by rw [e1]; exact hz), fun q h1 h2 => by rw [e1, hk q (Nat.lt_of_lt_of_le h1 hS.1) (fun z => h2 (hA q z))]; exact hS.2.1 q h1 h2, fun q hq => by
      rcases List.mem_append.mp hq with h | h
      · exact hS.2.2 q h
      · exact hA _ (hL q h)⟩ T' rfl X'
  exact ⟨t2, st t2 a1, b1⟩
theorem lx_run {ad : Nat → Nat} {dom : List Nat} {D : va_G} {dA : Nat → ClassId} {h : mh_H} {p : Program} {l : Launch} {e : Env} {s : State} {m : MethodId} {args : Array Value} {below : List Frame} {meth : Method} {c : Code} {H : Heap} {locs : List Loc} {ls : Array Slot} {idx ci q d' : Nat} {As rest fs st0 : List Value} {Qc : Option Value → mh_H → Prop} (hC : mx_C mL D dA p s m args meth c) (hP : mx_P dom ad D dA h H) (hl : ls.size = 4) (hs : mx_V RL z idx ci q) (hd : decode code pc = .ok (.invokevirtual idx, 3)) (hdd : d' ≤ 100) (ha : h 0 = mh_ob ci fs) (hn : As.length = q) (hAs : As.map (mh_v ad) = As) (hcat : (rest.map fun v => v.category).sum ≤ 8) (hst : st0 = As.reverse ++ .ref (ad 0) :: rest) (hM : Mt z dom d' (.ref 0 :: As) h Qc) : va_Run p l e room_1 s m args below meth c H locs 68 2903 0 0 (F0 m pc ls st0) rest (mx_Q dom ad D dA Qc (Value.ref (ad 0) :: As).toArray) (mh_A dom ad) := by
  obtain ⟨s1, s2, s3, s4, s5, s6, s7, s8, w, s9, s10⟩ := hs
  obtain ⟨q0, g1, g2⟩ := mx_ob hP ha s8
  have hG : GoodIn tb_w (wsV RL idx z.1.cls z.1 (mx_ws z)) := by
    intro w hw
    have : w ∈ tb_w := by
      simp only [wsV, mx_ws, List.mem_append, List.mem_cons, List.not_mem_nil, or_false] at hw
      rcases hw with (rfl | rfl | rfl | rfl) | (rfl | hw)
      · exact s1
      · exact s2
      · exact s3
      · exact s4
      · exact s5
      · exact hw
    exact ⟨this, tb_good this⟩
  have hrecv := va_recv hC.2.2.2.2.2.2.2.1 hP.1 (ci := ci) (q0 := q0) s9 g2
  rw [s10] at hrecv
  have hM1 := hM ad D dA l
  rw [List.map_cons, hAs] at hM1
  exact va_runV (g := F0 m pc ls st0) (As := As) (rest := rest) (b := ad 0) ⟨hC.1, hC.2.1, hC.2.2.2.1, hC.2.2.2.2.1, hC.2.2.2.2.2.1⟩ hM1 (cwV q hC.2.2.2.2.2.1 hG rfl rfl rfl ⟨rfl, s6⟩ ⟨by show d' + 1 ≤ 2048; omega, by show 8 + (z.2.2.1 + 11) + 60 * d' ≤ 84000; omega⟩) ⟨mx_blind, hrecv, fun U hU hW => ⟨rfl, by rw [hU]; exact hP, hC.2.2.2.2.2.2.2.warm hW⟩⟩ rfl hn hl hst (lv_room hcat) hd ⟨Nat.le_of_ble_eq_true rfl, Nat.le_of_ble_eq_true rfl⟩
theorem lt_cX {idx q d' : Nat} {As fs rest : List Value} {Qc : Option Value → mh_H → Prop} (hs : mx_V RL z idx 4 q) (hd : decode code pc = .ok (.invokevirtual idx, 3)) (hdd : d' ≤ 100) (ha : hX 0 = mh_ob 4 fs) (hn : As.length = q) (hAs : ∀ ad, As.map (mh_v ad) = As) (hcat : (rest.map fun v => v.category).sum ≤ 8) (hM1 : Mt z dX d' (.ref 0 :: As) hX Qc) (hr : ∀ r h', Qc r h' → ∀ ad, r.map (mh_v ad) = r) (K : ∀ r h', Qc r h' → Lt N sc i (pc + 3) (r.toList ++ rest) h' hM) : Lt N sc i pc (As.reverse ++ .ref 1 :: rest) hX hM := fun aX aM D dA p l e s m b below meth c H locs ls hC hB hP hS hl => by
  refine lx_call (lx_run hC hP.1 hl.1 hs hd hdd ha hn (hAs aX) (rest := rest.map (mh_v (lx_ad b aX aM))) (by rw [mx_cat]; exact hcat) (by rw [List.map_append, List.map_reverse, hAs]; rfl) hM1) hS hP.2.2.1 (fun r h' H1 locs1 hq hP1 ho hS1 => ?_)
  have K1 := K r h' hq aX aM D dA p l e s m b below meth c H1 locs1 ls hC hB ⟨hP1, lx_K hP.2.1 (fun q h1 h2 => hP.2.2.2.2 q h2 h1) ho, hP.2.2⟩ hS1 hl
  rw [hr r h' hq]
  rw [List.map_append, show (r.toList).map (mh_v (lx_ad b aX aM)) = r.toList by
    have := hr r h' hq (lx_ad b aX aM)
    cases r with
    | none => rfl
    | some v => exact congrArg Option.toList this] at K1
  exact K1
theorem lt_cM {idx q d' : Nat} {As fs rest : List Value} {Qc : Option Value → mh_H → Prop} (hs : mx_V RL z idx 5 q) (hd : decode code pc = .ok (.invokevirtual idx, 3)) (hdd : d' ≤ 100) (ha : hM 0 = mh_ob 5 fs) (hn : As.length = q) (hAs : ∀ ad, As.map (mh_v ad) = As) (hcat : (rest.map fun v => v.category).sum ≤ 8) (hM1 : Mt z dM d' (.ref 0 :: As) hM Qc) (hr : ∀ r h', Qc r h' → ∀ ad, r.map (mh_v ad) = r) (K : ∀ r h', Qc r h' → Lt N sc i (pc + 3) (r.toList ++ rest) hX h') : Lt N sc i pc (As.reverse ++ .ref 2 :: rest) hX hM := fun aX aM D dA p l e s m b below meth c H locs ls hC hB hP hS hl => by
  refine lx_call (lx_run hC hP.2.1 hl.1 hs hd hdd ha hn (hAs aM) (rest := rest.map (mh_v (lx_ad b aX aM))) (by rw [mx_cat]; exact hcat) (by rw [List.map_append, List.map_reverse, hAs]; rfl) hM1) hS hP.2.2.2.1 (fun r h' H1 locs1 hq hP1 ho hS1 => ?_)
  have K1 := K r h' hq aX aM D dA p l e s m b below meth c H1 locs1 ls hC hB ⟨lx_K hP.1 hP.2.2.2.2 ho, hP1, hP.2.2⟩ hS1 hl
  rw [hr r h' hq]
  rw [List.map_append, show (r.toList).map (mh_v (lx_ad b aX aM)) = r.toList by
    have := hr r h' hq (lx_ad b aX aM)
    cases r with
    | none => rfl
    | some v => exact congrArg Option.toList this] at K1
  exact K1
theorem lx_ri {P : Int32 → mh_H → Prop} : ∀ r h', mx_Ri P r h' → ∀ ad : Nat → Nat, r.map (mh_v ad) = r := fun r h' ⟨v, e, _⟩ ad => by rw [e]; rfl
theorem lx_rl {P : Int64 → mh_H → Prop} : ∀ r h', mx_Rl P r h' → ∀ ad : Nat → Nat, r.map (mh_v ad) = r := fun r h' ⟨v, e, _⟩ ad => by rw [e]; rfl
theorem lt_cXi0 {idx d' : Nat} {fs rest : List Value} {P : Int32 → mh_H → Prop} (hs : mx_V RL z idx 4 0) (hd : decode code pc = .ok (.invokevirtual idx, 3)) (hdd : d' ≤ 100) (ha : hX 0 = mh_ob 4 fs) (hcat : (rest.map fun v => v.category).sum ≤ 8) (hM1 : Mt z dX d' [.ref 0] hX (mx_Ri P)) (K : ∀ v h', P v h' → Lt N sc i (pc + 3) (.int v :: rest) h' hM) : Lt N sc i pc (.ref 1 :: rest) hX hM := lt_cX (As := []) hs hd hdd ha rfl (fun _ => rfl) hcat hM1 lx_ri (fun r h' hq => by
  obtain ⟨v, rfl, hq⟩ := hq
  exact K v h' hq)
theorem lt_cXl0 {idx d' : Nat} {fs rest : List Value} {P : Int64 → mh_H → Prop} (hs : mx_V RL z idx 4 0) (hd : decode code pc = .ok (.invokevirtual idx, 3)) (hdd : d' ≤ 100) (ha : hX 0 = mh_ob 4 fs) (hcat : (rest.map fun v => v.category).sum ≤ 8) (hM1 : Mt z dX d' [.ref 0] hX (mx_Rl P)) (K : ∀ v h', P v h' → Lt N sc i (pc + 3) (.long v :: rest) h' hM) : Lt N sc i pc (.ref 1 :: rest) hX hM := lt_cX (As := []) hs hd hdd ha rfl (fun _ => rfl) hcat hM1 lx_rl (fun r h' hq => by
  obtain ⟨v, rfl, hq⟩ := hq
  exact K v h' hq)
theorem lt_cXi1 {idx d' : Nat} {fs rest : List Value} {x0 : Int32} {P : Int32 → mh_H → Prop} (hs : mx_V RL z idx 4 1) (hd : decode code pc = .ok (.invokevirtual idx, 3)) (hdd : d' ≤ 100) (ha : hX 0 = mh_ob 4 fs) (hcat : (rest.map fun v => v.category).sum ≤ 8) (hM1 : Mt z dX d' [.ref 0, .int x0] hX (mx_Ri P)) (K : ∀ v h', P v h' → Lt N sc i (pc + 3) (.int v :: rest) h' hM) : Lt N sc i pc (.int x0 :: .ref 1 :: rest) hX hM := lt_cX (As := [.int x0]) hs hd hdd ha rfl (fun _ => rfl) hcat hM1 lx_ri (fun r h' hq => by
  obtain ⟨v, rfl, hq⟩ := hq
  exact K v h' hq)
theorem lt_cXi2 {idx d' : Nat} {fs rest : List Value} {x0 x1 : Int32} {P : Int32 → mh_H → Prop} (hs : mx_V RL z idx 4 2) (hd : decode code pc = .ok (.invokevirtual idx, 3)) (hdd : d' ≤ 100) (ha : hX 0 = mh_ob 4 fs) (hcat : (rest.map fun v => v.category).sum ≤ 8) (hM1 : Mt z dX d' [.ref 0, .int x0, .int x1] hX (mx_Ri P)) (K : ∀ v h', P v h' → Lt N sc i (pc + 3) (.int v :: rest) h' hM) : Lt N sc i pc (.int x1 :: .int x0 :: .ref 1 :: rest) hX hM := lt_cX (As := [.int x0, .int x1]) hs hd hdd ha rfl (fun _ => rfl) hcat hM1 lx_ri (fun r h' hq => by
  obtain ⟨v, rfl, hq⟩ := hq
  exact K v h' hq)
theorem lt_cXi3 {idx d' : Nat} {fs rest : List Value} {x0 x1 x2 : Int32} {P : Int32 → mh_H → Prop} (hs : mx_V RL z idx 4 3) (hd : decode code pc = .ok (.invokevirtual idx, 3)) (hdd : d' ≤ 100) (ha : hX 0 = mh_ob 4 fs) (hcat : (rest.map fun v => v.category).sum ≤ 8) (hM1 : Mt z dX d' [.ref 0, .int x0, .int x1, .int x2] hX (mx_Ri P)) (K : ∀ v h', P v h' → Lt N sc i (pc + 3) (.int v :: rest) h' hM) : Lt N sc i pc (.int x2 :: .int x1 :: .int x0 :: .ref 1 :: rest) hX hM := lt_cX (As := [.int x0, .int x1, .int x2]) hs hd hdd ha rfl (fun _ => rfl) hcat hM1 lx_ri (fun r h' hq => by
  obtain ⟨v, rfl, hq⟩ := hq
  exact K v h' hq)
theorem lt_cXi5 {idx d' : Nat} {fs rest : List Value} {x0 x1 x2 x3 x4 : Int32} {P : Int32 → mh_H → Prop} (hs : mx_V RL z idx 4 5) (hd : decode code pc = .ok (.invokevirtual idx, 3)) (hdd : d' ≤ 100) (ha : hX 0 = mh_ob 4 fs) (hcat : (rest.map fun v => v.category).sum ≤ 8) (hM1 : Mt z dX d' [.ref 0, .int x0, .int x1, .int x2, .int x3, .int x4] hX (mx_Ri P)) (K : ∀ v h', P v h' → Lt N sc i (pc + 3) (.int v :: rest) h' hM) : Lt N sc i pc (.int x4 :: .int x3 :: .int x2 :: .int x1 :: .int x0 :: .ref 1 :: rest) hX hM := lt_cX (As := [.int x0, .int x1, .int x2, .int x3, .int x4]) hs hd hdd ha rfl (fun _ => rfl) hcat hM1 lx_ri (fun r h' hq => by
  obtain ⟨v, rfl, hq⟩ := hq
  exact K v h' hq)
theorem lt_cMi0 {idx d' : Nat} {fs rest : List Value} {P : Int32 → mh_H → Prop} (hs : mx_V RL z idx 5 0) (hd : decode code pc = .ok (.invokevirtual idx, 3)) (hdd : d' ≤ 100) (ha : hM 0 = mh_ob 5 fs) (hcat : (rest.map fun v => v.category).sum ≤ 8) (hM1 : Mt z dM d' [.ref 0] hM (mx_Ri P)) (K : ∀ v h', P v h' → Lt N sc i (pc + 3) (.int v :: rest) hX h') : Lt N sc i pc (.ref 2 :: rest) hX hM := lt_cM (As := []) hs hd hdd ha rfl (fun _ => rfl) hcat hM1 lx_ri (fun r h' hq => by
  obtain ⟨v, rfl, hq⟩ := hq
  exact K v h' hq)
theorem lt_cMl0 {idx d' : Nat} {fs rest : List Value} {P : Int64 → mh_H → Prop} (hs : mx_V RL z idx 5 0) (hd : decode code pc = .ok (.invokevirtual idx, 3)) (hdd : d' ≤ 100) (ha : hM 0 = mh_ob 5 fs) (hcat : (rest.map fun v => v.category).sum ≤ 8) (hM1 : Mt z dM d' [.ref 0] hM (mx_Rl P)) (K : ∀ v h', P v h' → Lt N sc i (pc + 3) (.long v :: rest) hX h') : Lt N sc i pc (.ref 2 :: rest) hX hM := lt_cM (As := []) hs hd hdd ha rfl (fun _ => rfl) hcat hM1 lx_rl (fun r h' hq => by
  obtain ⟨v, rfl, hq⟩ := hq
  exact K v h' hq)
theorem lt_cMi1 {idx d' : Nat} {fs rest : List Value} {x0 : Int32} {P : Int32 → mh_H → Prop} (hs : mx_V RL z idx 5 1) (hd : decode code pc = .ok (.invokevirtual idx, 3)) (hdd : d' ≤ 100) (ha : hM 0 = mh_ob 5 fs) (hcat : (rest.map fun v => v.category).sum ≤ 8) (hM1 : Mt z dM d' [.ref 0, .int x0] hM (mx_Ri P)) (K : ∀ v h', P v h' → Lt N sc i (pc + 3) (.int v :: rest) hX h') : Lt N sc i pc (.int x0 :: .ref 2 :: rest) hX hM := lt_cM (As := [.int x0]) hs hd hdd ha rfl (fun _ => rfl) hcat hM1 lx_ri (fun r h' hq => by
  obtain ⟨v, rfl, hq⟩ := hq
  exact K v h' hq)
theorem lt_cMi2 {idx d' : Nat} {fs rest : List Value} {x0 x1 : Int32} {P : Int32 → mh_H → Prop} (hs : mx_V RL z idx 5 2) (hd : decode code pc = .ok (.invokevirtual idx, 3)) (hdd : d' ≤ 100) (ha : hM 0 = mh_ob 5 fs) (hcat : (rest.map fun v => v.category).sum ≤ 8) (hM1 : Mt z dM d' [.ref 0, .int x0, .int x1] hM (mx_Ri P)) (K : ∀ v h', P v h' → Lt N sc i (pc + 3) (.int v :: rest) hX h') : Lt N sc i pc (.int x1 :: .int x0 :: .ref 2 :: rest) hX hM := lt_cM (As := [.int x0, .int x1]) hs hd hdd ha rfl (fun _ => rfl) hcat hM1 lx_ri (fun r h' hq => by
  obtain ⟨v, rfl, hq⟩ := hq
  exact K v h' hq)
theorem lt_cMi3 {idx d' : Nat} {fs rest : List Value} {x0 x1 x2 : Int32} {P : Int32 → mh_H → Prop} (hs : mx_V RL z idx 5 3) (hd : decode code pc = .ok (.invokevirtual idx, 3)) (hdd : d' ≤ 100) (ha : hM 0 = mh_ob 5 fs) (hcat : (rest.map fun v => v.category).sum ≤ 8) (hM1 : Mt z dM d' [.ref 0, .int x0, .int x1, .int x2] hM (mx_Ri P)) (K : ∀ v h', P v h' → Lt N sc i (pc + 3) (.int v :: rest) hX h') : Lt N sc i pc (.int x2 :: .int x1 :: .int x0 :: .ref 2 :: rest) hX hM := lt_cM (As := [.int x0, .int x1, .int x2]) hs hd hdd ha rfl (fun _ => rfl) hcat hM1 lx_ri (fun r h' hq => by
  obtain ⟨v, rfl, hq⟩ := hq
  exact K v h' hq)
theorem lt_cMi5 {idx d' : Nat} {fs rest : List Value} {x0 x1 x2 x3 x4 : Int32} {P : Int32 → mh_H → Prop} (hs : mx_V RL z idx 5 5) (hd : decode code pc = .ok (.invokevirtual idx, 3)) (hdd : d' ≤ 100) (ha : hM 0 = mh_ob 5 fs) (hcat : (rest.map fun v => v.category).sum ≤ 8) (hM1 : Mt z dM d' [.ref 0, .int x0, .int x1, .int x2, .int x3, .int x4] hM (mx_Ri P)) (K : ∀ v h', P v h' → Lt N sc i (pc + 3) (.int v :: rest) hX h') : Lt N sc i pc (.int x4 :: .int x3 :: .int x2 :: .int x1 :: .int x0 :: .ref 2 :: rest) hX hM := lt_cM (As := [.int x0, .int x1, .int x2, .int x3, .int x4]) hs hd hdd ha rfl (fun _ => rfl) hcat hM1 lx_ri (fun r h' hq => by
  obtain ⟨v, rfl, hq⟩ := hq
  exact K v h' hq)
end LT
