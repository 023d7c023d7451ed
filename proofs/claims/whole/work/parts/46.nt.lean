/-! Constructors: the judgement of a method that makes cells. Where each new cell will lie is said ahead: ord, the small addresses in the order of their making. -/
def nx_nest : List (String × Nat × MethodName × String) := [(RX4, 20, yX0_init, RX4), (RX4, 27, yX3_init, RX4), (RX4, 34, yX1_init, RX4), (RX4, 71, yX2_init, RX4)]
def nx_arr : List String := ["LeatDays$Strip", "LeatDays$Deeds", "LeatDays$Wheel"]
def nx_K (s : State) : Prop := (∀ q ∈ nx_nest, va_Nw (.methodLinkNest q.1 q.2.1 q.2.2.1 q.2.2.2) s) ∧ ∀ C ∈ nx_arr, va_AO C s
theorem nx_K.warm {s U : State} (hW : s.WarmedH U.vm) (h : nx_K s) : nx_K U := ⟨fun q hq => va_Nw.warmM hW (h.1 q hq), fun C hC => va_AO.moved hW.alike (h.2 C hC)⟩
theorem nx_K.same {s U : State} (hW : s.vm = U.vm) (h : nx_K s) : nx_K U := ⟨fun q hq => va_Nw.same rfl hW (h.1 q hq), fun C hC => va_AO.moved (hW ▸ Vm.Alike.refl s.vm) (h.2 C hC)⟩
def nx_fr (ad : Nat → Nat) (sz : Nat) (ord : List Nat) : Prop := ∀ (i k : Nat), ord[i]? = some k → ad k = sz + i
section FR
variable {ad : Nat → Nat} {sz k : Nat} {ord o1 o2 : List Nat}
theorem nx_fr.hd (h : nx_fr ad sz (k :: ord)) : ad k = sz := h 0 k rfl
theorem nx_fr.tl (h : nx_fr ad sz (k :: ord)) : nx_fr ad (sz + 1) ord := fun i j hj => (h (i + 1) j hj).trans (by omega)
theorem nx_fr.l (h : nx_fr ad sz (o1 ++ o2)) : nx_fr ad sz o1 := fun i k hk => h i k (by rw [List.getElem?_append_left (List.getElem?_eq_some_iff.mp hk).1]; exact hk)
theorem nx_fr.r (h : nx_fr ad sz (o1 ++ o2)) : nx_fr ad (sz + o1.length) o2 := fun i k hk => (h (o1.length + i) k (by rw [List.getElem?_append_right (Nat.le_add_right _ _), Nat.add_sub_cancel_left]; exact hk)).trans (by omega)
theorem nx_fr.ge (h : nx_fr ad sz ord) {j : Nat} (hj : j ∈ ord) : sz ≤ ad j := by
  obtain ⟨i, hi⟩ := List.getElem?_of_mem hj
  rw [h i j hi]
  omega
end FR
def nx_A (dom0 : List Nat) (ad : Nat → Nat) (sz : Nat) : Nat → Prop := fun q => mh_A dom0 ad q ∨ sz ≤ q
def nx_rm (d mc ms : Nat) : Room := { frames := d, cells := mc, slots := ms, locals := 60 * d }
def nx_Q (dom0 ord0 : List Nat) (ad : Nat → Nat) (D : va_G) (dA : Nat → ClassId) (Q : mh_H → Prop) : Array Value → State → Outcome → State → Prop := fun _ st oc t => (∃ h' : mh_H, oc = .returned none ∧ Q h' ∧ mx_P (dom0 ++ ord0) ad D dA h' t.heap ∧ t.heap.size = st.heap.size + ord0.length) ∧ va_F (nx_A dom0 ad st.heap.size) st t
def nx_C (y : mt_I) (D : va_G) (dA : Nat → ClassId) (p : Program) (s : State) (m : MethodId) (args : Array Value) (meth : Method) (c : Code) : Prop := mx_C y D dA p s m args meth c ∧ meth.name = "<init>" ∧ nx_K s
def nx_P (dom0 dom ord : List Nat) (k : Nat) (ad : Nat → Nat) (D : va_G) (dA : Nat → ClassId) (h : mh_H) (sz : Nat) (H : Heap) : Prop := mx_P dom ad D dA h H ∧ (∀ j ∈ dom, nx_A dom0 ad sz (ad j)) ∧ H.size = sz + k ∧ nx_fr ad H.size ord
def Nt (y : mt_I) (dom0 ord0 : List Nat) (ms : Nat) (dom ord : List Nat) (k n d pc : Nat) (L : List (Option Value)) (st : List Value) (h : mh_H) (Q : mh_H → Prop) : Prop :=
  ∀ (ad : Nat → Nat) (D : va_G) (dA : Nat → ClassId) (p : Program) (l : Launch) (e : Env) (s : State) (m : MethodId) (args : Array Value) (below : List Frame) (meth : Method) (c : Code) (H : Heap) (locs : List Loc) (ls : Array Slot),
    nx_C y D dA p s m args meth c → nx_P dom0 dom ord k ad D dA h s.heap.size H → va_S (nx_A dom0 ad s.heap.size) s.heap H locs → lv_has ls y.2.2.1 (mh_lf ad 0 L) →
    W p l e (nx_rm d ord0.length ms) s m args below meth c H locs k n (MQ below (nx_Q dom0 ord0 ad D dA Q) args s ord0.length ms (nx_A dom0 ad s.heap.size)) (F0 m pc ls (st.map (mh_v ad)))
def Nm (y : mt_I) (dom ord : List Nat) (ms d : Nat) (av : List Value) (h : mh_H) (Q : mh_H → Prop) : Prop :=
  ∀ (ad : Nat → Nat) (D : va_G) (dA : Nat → ClassId) (l : Launch) (sz : Nat), Met l y.1 (mx_ws y) (nx_rm d ord.length ms) (va_Pc (av.map (mh_v ad)) (fun U => (mx_P dom ad D dA h U.heap ∧ mh_K D dA U ∧ nx_K U) ∧ U.heap.size = sz ∧ nx_fr ad sz ord)) (nx_Q dom ord ad D dA Q) ord.length ms (nx_A dom ad sz)
theorem Nm.of {y : mt_I} {dom ord : List Nat} {ms d : Nat} {av : List Value} {h : mh_H} {Q : mh_H → Prop} {L : List (Option Value)} (hn : plainName y.1.cls = true) (hi : y.1.name = "<init>") (hs : (lg_sl av).length ≤ y.2.2.1) (hL : mt_pad y.2.2.1 av = L) (K : Nt y dom ord ms dom ord 0 0 d 0 L [] h Q) : Nm y dom ord ms d av h Q := by
  intro ad D dA l sz
  refine Met.ofW (cc := y.2.1) (maxL := y.2.2.1) (ret := y.2.2.2) (ws' := tb_w) hn rfl ?_
  intro p e s m args below meth c s₁ B hml hv
  obtain ⟨rfl, ⟨hP, hK, hN⟩, rfl, hfr⟩ := hv
  have hts := atoms_spec (ws := mx_ws y) B.pre
  have hl := lv_entry (av.map (mh_v ad)) (n := y.2.2.1) (by rw [mt_sl]; exact hs)
  rw [lg_entry_eq]
  refine K ad D dA p l e s m _ below meth c s.heap [] _ ⟨⟨B.exec, B.bytes, B.returns, hml, findClass_of_methodNamed B.named, fun w hw => hts w (List.mem_cons_of_mem _ hw), B.notSynchronized, hK⟩, ((name_of_methodNamed B.named B.method).1.trans hi), hN⟩ ⟨hP, fun j hj => Or.inl ⟨j, hj, rfl⟩, rfl, hfr⟩ va_S.rf ?_
  refine ⟨hl.1, hl.2.1, fun q hq => hl.2.2 q ?_⟩
  rw [← hL] at hq
  exact mt_pad_in ad av _ 0 q hq
theorem nx_D {dom dom0 : List Nat} {ad : Nat → Nat} {D : va_G} {dA : Nat → ClassId} {h : mh_H} {H : Heap} {sz : Nat} (hP : mx_P dom ad D dA h H) (hj : ∀ j ∈ dom, nx_A dom0 ad sz (ad j)) : va_D (nx_A dom0 ad sz) (mh_w dom ad dA h) := ⟨hP.2.1.1, fun k q hk => by
  rw [mh_w, List.getElem?_map] at hk
  cases hd : dom[k]? with
  | none => rw [hd] at hk; cases hk
  | some j => rw [hd] at hk; cases hk; exact hj j (List.mem_of_getElem? hd)⟩
theorem nx_lt {dom : List Nat} {ad : Nat → Nat} {D : va_G} {dA : Nat → ClassId} {h : mh_H} {H : Heap} (hP : mx_P dom ad D dA h H) {j : Nat} (hj : j ∈ dom) : ad j < H.size := by
  obtain ⟨q0, h1, h2⟩ := mh_at (ad := ad) (dA := dA) (h := h) hj
  exact (hP.1 q0 _ h2).lt
theorem nx_add {dom : List Nat} {ad : Nat → Nat} {D : va_G} {dA : Nat → ClassId} {h : mh_H} {H H1 : Heap} {a : Nat} {e : mh_E} (hP : mx_P dom ad D dA h H) (ha : ad a = H.size) (hat : va_at D vwCl (ad a, mh_e ad dA e) H1) (ho : ∀ q, q < H.size → H1[q]? = H[q]?) : mx_P (dom ++ [a]) ad D dA (mh_up h a e) H1 := by
  have hn : ∀ j ∈ dom, j ≠ a := fun j hj z => by
    have := nx_lt hP hj
    rw [z, ha] at this
    omega
  have hw : mh_w (dom ++ [a]) ad dA (mh_up h a e) = mh_w dom ad dA h ++ [(ad a, mh_e ad dA e)] := by
    unfold mh_w
    rw [List.map_append, List.map_cons, List.map_nil, mh_up_s]
    congr 1
    exact List.map_congr_left (fun j hj => by rw [mh_up_n (hn j hj)])
  refine ⟨?_, ?_, fun k hk => ?_⟩
  · rw [hw]
    refine (hP.1.kept (fun k q hk => ho q.1 (hP.1 k q hk).lt)).app (fun k x hx => ?_)
    have hz : k < 1 := (List.getElem?_eq_some_iff.mp hx).1
    rw [show k = 0 by omega] at hx
    cases hx
    exact hat
  · rw [hw]
    refine (hP.2.1.weaken (B := mh_A (dom ++ [a]) ad) (fun k q hk hq => ?_)).push hP.1 ha ⟨a, List.mem_append_right _ List.mem_cons_self, rfl⟩
    obtain ⟨j, hj, e⟩ := hq
    exact ⟨j, List.mem_append_left _ hj, e⟩
  · have h1 : k ∉ dom := fun z => hk (List.mem_append_left _ z)
    have h2 : k ≠ a := fun z => hk (List.mem_append_right _ (by rw [z]; exact List.mem_cons_self))
    rw [mh_up_n h2]
    exact hP.2.2 k h1
theorem nx_sub {dom dom0 : List Nat} {ad : Nat → Nat} {sz zz : Nat} (hj : ∀ j ∈ dom, nx_A dom0 ad sz (ad j)) (hle : sz ≤ zz) : ∀ q, nx_A dom ad zz q → nx_A dom0 ad sz q := by
  intro q hq
  rcases hq with ⟨j, h1, rfl⟩ | h
  · exact hj j h1
  · exact Or.inr (Nat.le_trans hle h)
theorem nx_new {dom0 dom ord : List Nat} {k a : Nat} {ad : Nat → Nat} {D : va_G} {dA : Nat → ClassId} {h : mh_H} {sz : Nat} {H H1 : Heap} {e : mh_E} (hP : nx_P dom0 dom (a :: ord) k ad D dA h sz H) (hat : va_at D vwCl (ad a, mh_e ad dA e) H1) (hz : H1.size = H.size + 1) (ho : ∀ q, q < H.size → H1[q]? = H[q]?) : nx_P dom0 (dom ++ [a]) ord (k + 1) ad D dA (mh_up h a e) sz H1 := by
  obtain ⟨h1, h2, h3, h4⟩ := hP
  have ha := h4.hd
  refine ⟨nx_add h1 ha hat ho, fun j hj => ?_, by omega, by rw [hz]; exact h4.tl⟩
  rcases List.mem_append.mp hj with z | z
  · exact h2 j z
  · rw [List.mem_singleton.mp z, ha]
    exact Or.inr (by omega)
theorem nx_S1 {A : Nat → Prop} {H0 H H1 : Heap} {locs : List Loc} (hS : va_S A H0 H locs) (hz : H1.size = H.size + 1) (ho : ∀ q, q < H.size → H1[q]? = H[q]?) : va_S A H0 H1 locs := ⟨Nat.le_trans hS.1 (by omega), fun x h1 h2 => (ho x (Nat.lt_of_lt_of_le h1 hS.1)).trans (hS.2.1 x h1 h2), hS.2.2⟩
/-- a cell of the world changed -/
theorem nx_upd {dom0 dom ord : List Nat} {k a q0 : Nat} {ad : Nat → Nat} {D : va_G} {dA : Nat → ClassId} {h : mh_H} {sz : Nat} {H H1 : Heap} {e0 : va_E} (hP : nx_P dom0 dom ord k ad D dA h sz H) (hk : dom[q0]? = some a) (hw : (mh_w dom ad dA h)[q0]? = some (ad a, e0)) (e : mh_E) (h1 : va_P D vwCl ((mh_w dom ad dA h).set q0 (ad a, mh_e ad dA e)) H1) (hz : H1.size = H.size) : nx_P dom0 dom ord k ad D dA (mh_up h a e) sz H1 := ⟨mx_new hP.1 hk e h1 (hP.1.2.1.set hw), hP.2.1, by rw [hz]; exact hP.2.2.1, by rw [hz]; exact hP.2.2.2⟩
