/-! The packaged judgement. A small heap h : Nat → cell over a list of small addresses dom; small addresses are carried to the machine's by ad. -/
def tb_w : List Cond := lw_tbl.filter goodWord
abbrev mh_E : Type := (Nat × Nat × (Nat → Int32)) ⊕ ((Nat × Nat × (Nat → Option Nat)) ⊕ (Nat × List Value))
abbrev mh_ia (t n : Nat) (f : Nat → Int32) : mh_E := Sum.inl (t, n, f)
abbrev mh_ra (t n : Nat) (g : Nat → Option Nat) : mh_E := Sum.inr (Sum.inl (t, n, g))
abbrev mh_ob (k : Nat) (fs : List Value) : mh_E := Sum.inr (Sum.inr (k, fs))
abbrev mh_H : Type := Nat → mh_E
def mh_up (h : mh_H) (k : Nat) (e : mh_E) : mh_H := fun j => if j = k then e else h j
theorem mh_up_s {h : mh_H} {k : Nat} {e : mh_E} : mh_up h k e k = e := if_pos rfl
theorem mh_up_n {h : mh_H} {k j : Nat} {e : mh_E} (n : j ≠ k) : mh_up h k e j = h j := if_neg n
def mh_v (ad : Nat → Nat) (v : Value) : Value := match v with
  | .ref k => .ref (ad k)
  | v => v
theorem mh_v_cat (ad : Nat → Nat) (v : Value) : (mh_v ad v).category = v.category := by cases v <;> rfl
def mh_e (ad : Nat → Nat) (dA : Nat → ClassId) (e : mh_E) : va_E := match e with
  | Sum.inl (t, n, f) => .inl (dA t, n, .inl f)
  | Sum.inr (Sum.inl (t, n, g)) => .inl (dA t, n, .inr (.inr (.inr (.inr (fun j => (g j).map ad)))))
  | Sum.inr (Sum.inr (k, fs)) => .inr (k, fs.map (mh_v ad))
def mh_w (dom : List Nat) (ad : Nat → Nat) (dA : Nat → ClassId) (h : mh_H) : va_W := dom.map (fun k => (ad k, mh_e ad dA (h k)))
def mh_A (dom : List Nat) (ad : Nat → Nat) : Nat → Prop := fun q => ∃ k, k ∈ dom ∧ q = ad k
def mh_ty : Nat → FieldType := fun t => match t with
  | 0 => .int
  | 1 => .byte
  | 2 => .object "LeatDays$Strip"
  | 3 => .object "LeatDays$Deeds"
  | _ => .object "LeatDays$Wheel"
def mh_tys (dA : Nat → ClassId) : List (ClassId × FieldType) := [(dA 0, mh_ty 0), (dA 1, mh_ty 1), (dA 2, mh_ty 2), (dA 3, mh_ty 3), (dA 4, mh_ty 4)]
def mh_nest : List (String × Nat × MethodName × String) := [(RX0, 34, yX4_kindByLetter, RX4), (RX0, 50, yX4_isOfKind, RX4)]
def mh_K (D : va_G) (dA : Nat → ClassId) (s : State) : Prop := va_K D vwCl (mh_tys dA) s ∧ ∀ q ∈ mh_nest, va_Nw (.methodLinkNest q.1 q.2.1 q.2.2.1 q.2.2.2) s
theorem mh_K.warm {D : va_G} {dA : Nat → ClassId} {s U : State} (hW : s.WarmedH U.vm) (h : mh_K D dA s) : mh_K D dA U := ⟨va_K.moved hW.alike h.1, fun q hq => va_Nw.warmM hW (h.2 q hq)⟩
theorem mh_K.same {D : va_G} {dA : Nat → ClassId} {s U : State} (hW : s.vm = U.vm) (h : mh_K D dA s) : mh_K D dA U := ⟨va_K.moved (hW ▸ Vm.Alike.refl s.vm) h.1, fun q hq => va_Nw.same rfl hW (h.2 q hq)⟩
def mx_P (dom : List Nat) (ad : Nat → Nat) (D : va_G) (dA : Nat → ClassId) (h : mh_H) (H : Heap) : Prop := va_P D vwCl (mh_w dom ad dA h) H ∧ va_D (mh_A dom ad) (mh_w dom ad dA h) ∧ ∀ k, k ∉ dom → h k = mh_ob 99 []
def mx_C (y : mt_I) (D : va_G) (dA : Nat → ClassId) (p : Program) (s : State) (m : MethodId) (args : Array Value) (meth : Method) (c : Code) : Prop :=
  p.tables.exec = Jvm.exec ∧ c.code = y.2.1 ∧ meth.sig.returnType = y.2.2.2 ∧ c.maxLocals = y.2.2.1 ∧ s.vm.findClass y.1.cls = some m.cls ∧ (∀ w ∈ tb_w, w.before args s = true) ∧ meth.locks = false ∧ mh_K D dA s
def mx_rm (d : Nat) : Room := { frames := d, cells := 0, slots := 0, locals := 60 * d }
def mx_Q (dom : List Nat) (ad : Nat → Nat) (D : va_G) (dA : Nat → ClassId) (Q : Option Value → mh_H → Prop) : Array Value → State → Outcome → State → Prop := fun _ st oc t => (∃ (r : Option Value) (h' : mh_H), oc = .returned (r.map (mh_v ad)) ∧ Q r h' ∧ mx_P dom ad D dA h' t.heap) ∧ va_F (mh_A dom ad) st t
def mh_lf (ad : Nat → Nat) : Nat → List (Option Value) → List (Nat × Value)
  | _, [] => []
  | i, none :: t => mh_lf ad (i + 1) t
  | i, some v :: t => (i, mh_v ad v) :: mh_lf ad (i + 1) t
def At (y : mt_I) (dom : List Nat) (d pc : Nat) (L : List (Option Value)) (st : List Value) (h : mh_H) (Q : Option Value → mh_H → Prop) : Prop :=
  ∀ (ad : Nat → Nat) (D : va_G) (dA : Nat → ClassId) (p : Program) (l : Launch) (e : Env) (s : State) (m : MethodId) (args : Array Value) (below : List Frame) (meth : Method) (c : Code) (H : Heap) (locs : List Loc) (ls : Array Slot),
    mx_C y D dA p s m args meth c → mx_P dom ad D dA h H → va_S (mh_A dom ad) s.heap H locs → lv_has ls y.2.2.1 (mh_lf ad 0 L) →
    W p l e (mx_rm d) s m args below meth c H locs 0 0 (MQ below (mx_Q dom ad D dA Q) args s 0 0 (mh_A dom ad)) (F0 m pc ls (st.map (mh_v ad)))
def mx_ws (y : mt_I) : List Cond := Cond.code y.1 y.2.1 y.2.2.1 y.2.2.2 :: tb_w
def Mt (y : mt_I) (dom : List Nat) (d : Nat) (av : List Value) (h : mh_H) (Q : Option Value → mh_H → Prop) : Prop :=
  ∀ (ad : Nat → Nat) (D : va_G) (dA : Nat → ClassId) (l : Launch), Met l y.1 (mx_ws y) (mx_rm d) (va_Pc (av.map (mh_v ad)) (fun U => mx_P dom ad D dA h U.heap ∧ mh_K D dA U)) (mx_Q dom ad D dA Q) 0 0 (mh_A dom ad)
-- locals
theorem mh_lf_in (ad : Nat → Nat) : ∀ (L : List (Option Value)) (i : Nat) (q : Nat × Value), q ∈ mh_lf ad i L ↔ ∃ (j : Nat) (v : Value), L[j]? = some (some v) ∧ q = (i + j, mh_v ad v)
  | [], i, q => by simp [mh_lf]
  | none :: t, i, q => by
    rw [mh_lf, mh_lf_in ad t (i + 1) q]
    constructor
    · rintro ⟨j, v, h1, h2⟩
      exact ⟨j + 1, v, by simpa using h1, by rw [h2]; simp only [Prod.mk.injEq, and_true]; omega⟩
    · rintro ⟨j, v, h1, h2⟩
      cases j with
      | zero => simp at h1
      | succ j => exact ⟨j, v, by simpa using h1, by rw [h2]; simp only [Prod.mk.injEq, and_true]; omega⟩
  | some w :: t, i, q => by
    rw [mh_lf, List.mem_cons, mh_lf_in ad t (i + 1) q]
    constructor
    · rintro (h | ⟨j, v, h1, h2⟩)
      · exact ⟨0, w, rfl, by rw [h]; rfl⟩
      · exact ⟨j + 1, v, by simpa using h1, by rw [h2]; simp only [Prod.mk.injEq, and_true]; omega⟩
    · rintro ⟨j, v, h1, h2⟩
      cases j with
      | zero => simp at h1; subst h1; exact Or.inl h2
      | succ j => exact Or.inr ⟨j, v, by simpa using h1, by rw [h2]; simp only [Prod.mk.injEq, and_true]; omega⟩
theorem mh_get {ad : Nat → Nat} {ls : Array Slot} {n i : Nat} {L : List (Option Value)} {v : Value} (h : lv_has ls n (mh_lf ad 0 L)) (hi : L[i]? = some (some v)) : ls[i]? = some (.val (mh_v ad v)) :=
  h.2.2 (i, mh_v ad v) ((mh_lf_in ad L 0 _).mpr ⟨i, v, hi, by simp⟩)
/-- a store of one word at i: what lay in front as a long is gone -/
def mh_s1 (L : List (Option Value)) (i : Nat) (v : Value) : List (Option Value) := (match i with
  | 0 => L
  | k + 1 => match L[k]? with
    | some (some (.long _)) => L.set k none
    | some (some (.double _)) => L.set k none
    | _ => L).set i (some v)
theorem mh_s1_get {L : List (Option Value)} {i j : Nat} {v w : Value} (h : (mh_s1 L i v)[j]? = some (some w)) : (j = i ∧ w = v) ∨ (j ≠ i ∧ L[j]? = some (some w) ∧ ¬ (j + 1 = i ∧ w.category = 2)) := by
  unfold mh_s1 at h
  by_cases hj : j = i
  · subst hj
    rw [List.getElem?_set] at h
    simp at h
    obtain ⟨-, h⟩ := h
    exact Or.inl ⟨rfl, h.symm⟩
  · rw [List.getElem?_set_ne (fun q => hj q.symm)] at h
    refine Or.inr ⟨hj, ?_⟩
    cases i with
    | zero => exact ⟨h, fun q => by omega⟩
    | succ k =>
      dsimp only at h
      by_cases hk : j = k
      · subst hk
        split at h
        · rw [List.getElem?_set] at h; simp at h
        · rw [List.getElem?_set] at h; simp at h
        · rename_i h1 h2
          refine ⟨h, fun q => ?_⟩
          cases w <;> simp [Value.category] at q
          · exact h1 _ h
          · exact h2 _ h
      · refine ⟨?_, fun q => hk (by omega)⟩
        split at h
        · rwa [List.getElem?_set_ne (fun q => hk q.symm)] at h
        · rwa [List.getElem?_set_ne (fun q => hk q.symm)] at h
        · exact h
theorem mh_put1 {ad : Nat → Nat} {ls : Array Slot} {n i : Nat} {L : List (Option Value)} {v : Value} (h : lv_has ls n ((i, mh_v ad v) :: (mh_lf ad 0 L).filter (fun q => !(q.1 == i) && !(q.1 + 1 == i && q.2.category == 2)))) : lv_has ls n (mh_lf ad 0 (mh_s1 L i v)) := by
  refine ⟨h.1, h.2.1, fun q hq => h.2.2 q ?_⟩
  obtain ⟨j, w, h1, rfl⟩ := (mh_lf_in ad _ 0 q).mp hq
  rcases mh_s1_get h1 with ⟨rfl, rfl⟩ | ⟨hj, hw, hc⟩
  · simp
  · refine List.mem_cons_of_mem _ (List.mem_filter.mpr ⟨(mh_lf_in ad L 0 _).mpr ⟨j, w, hw, rfl⟩, ?_⟩)
    simp only [Nat.zero_add, mh_v_cat]
    simp [hj]
    exact Decidable.not_and_iff_or_not.mp hc
/-- a store of two words at i -/
def mh_s2 (L : List (Option Value)) (i : Nat) (v : Value) : List (Option Value) := (mh_s1 L i v).set (i + 1) none
theorem mh_put2 {ad : Nat → Nat} {ls : Array Slot} {n i : Nat} {L : List (Option Value)} {v : Value} (h : lv_has ls n ((i, mh_v ad v) :: (mh_lf ad 0 L).filter (fun q => !(q.1 == i) && (!(q.1 == i + 1) && !(q.1 + 1 == i && q.2.category == 2))))) : lv_has ls n (mh_lf ad 0 (mh_s2 L i v)) := by
  refine ⟨h.1, h.2.1, fun q hq => h.2.2 q ?_⟩
  obtain ⟨j, w, h1, rfl⟩ := (mh_lf_in ad _ 0 q).mp hq
  unfold mh_s2 at h1
  have hj1 : j ≠ i + 1 := by
    intro e
    subst e
    rw [List.getElem?_set] at h1
    simp at h1
  rw [List.getElem?_set_ne (fun q => hj1 q.symm)] at h1
  rcases mh_s1_get h1 with ⟨rfl, rfl⟩ | ⟨hj, hw, hc⟩
  · simp
  · refine List.mem_cons_of_mem _ (List.mem_filter.mpr ⟨(mh_lf_in ad L 0 _).mpr ⟨j, w, hw, rfl⟩, ?_⟩)
    simp only [Nat.zero_add, mh_v_cat]
    simp [hj, hj1]
    exact Decidable.not_and_iff_or_not.mp hc
def mt_pad : Nat → List Value → List (Option Value)
  | n, [] => List.replicate n none
  | n, v :: vs => if v.category = 2 then some v :: none :: mt_pad (n - 2) vs else some v :: mt_pad (n - 1) vs
theorem mt_pad_in (ad : Nat → Nat) : ∀ (av : List Value) (n i : Nat) (q : Nat × Value), q ∈ mh_lf ad i (mt_pad n av) → q ∈ lv_args i (av.map (mh_v ad))
  | [], n, i, q, h => by
    obtain ⟨j, v, h1, -⟩ := (mh_lf_in ad _ i q).mp h
    rw [mt_pad, List.getElem?_replicate] at h1
    split at h1 <;> simp at h1
  | v :: vs, n, i, q, h => by
    rw [List.map_cons, lv_args, mh_v_cat]
    rw [mt_pad] at h
    by_cases hc : v.category = 2
    · rw [if_pos hc] at h ⊢
      rw [mh_lf, mh_lf] at h
      rcases List.mem_cons.mp h with h | h
      · exact List.mem_cons.mpr (Or.inl h)
      · exact List.mem_cons_of_mem _ (mt_pad_in ad vs _ _ q h)
    · rw [if_neg hc] at h ⊢
      rw [mh_lf] at h
      rcases List.mem_cons.mp h with h | h
      · exact List.mem_cons.mpr (Or.inl h)
      · exact List.mem_cons_of_mem _ (mt_pad_in ad vs _ _ q h)
theorem mt_sl (ad : Nat → Nat) (av : List Value) : (lg_sl (av.map (mh_v ad))).length = (lg_sl av).length := by
  induction av with
  | nil => rfl
  | cons v vs ih =>
    simp only [lg_sl, List.map_cons, List.flatMap_cons, List.length_append, mh_v_cat] at ih ⊢
    rw [ih]
    split <;> rfl
-- the world
theorem mh_at {dom : List Nat} {ad : Nat → Nat} {dA : Nat → ClassId} {h : mh_H} {k : Nat} (hk : k ∈ dom) : ∃ q0 : Nat, dom[q0]? = some k ∧ (mh_w dom ad dA h)[q0]? = some (ad k, mh_e ad dA (h k)) := by
  obtain ⟨i, hi⟩ := List.getElem?_of_mem hk
  exact ⟨i, hi, by rw [mh_w, List.getElem?_map, hi]; rfl⟩
theorem mh_set {dom : List Nat} {ad : Nat → Nat} {dA : Nat → ClassId} {h : mh_H} {A : Nat → Prop} (hD : va_D A (mh_w dom ad dA h)) {q0 k : Nat} (hk : dom[q0]? = some k) (e : mh_E) : (mh_w dom ad dA h).set q0 (ad k, mh_e ad dA e) = mh_w dom ad dA (mh_up h k e) := by
  have hat : ∀ (i j : Nat) (g : mh_H), dom[i]? = some j → (mh_w dom ad dA g)[i]? = some (ad j, mh_e ad dA (g j)) := fun i j g hi => by rw [mh_w, List.getElem?_map, hi]; rfl
  apply List.ext_getElem?
  intro i
  by_cases hi : i = q0
  · subst hi
    rw [List.getElem?_set_self (by rw [mh_w, List.length_map]; exact (List.getElem?_eq_some_iff.mp hk).1), hat _ _ _ hk, mh_up_s]
  · rw [List.getElem?_set_ne (fun q => hi q.symm)]
    cases hj : dom[i]? with
    | none => rw [mh_w, mh_w, List.getElem?_map, List.getElem?_map, hj]; rfl
    | some j =>
      rw [hat _ _ _ hj, hat _ _ _ hj]
      have hne : j ≠ k := fun e => hi (hD.1 i q0 _ _ (hat _ _ h hj) (hat _ _ h hk) (by rw [e]))
      rw [mh_up_n hne]
theorem mx_dom {dom : List Nat} {ad : Nat → Nat} {D : va_G} {dA : Nat → ClassId} {h : mh_H} {H : Heap} (hP : mx_P dom ad D dA h H) {k : Nat} (hk : h k ≠ mh_ob 99 []) : k ∈ dom := by
  by_cases hd : k ∈ dom
  · exact hd
  · exact absurd (hP.2.2 k hd) hk
theorem mx_ob {dom : List Nat} {ad : Nat → Nat} {D : va_G} {dA : Nat → ClassId} {h : mh_H} {H : Heap} (hP : mx_P dom ad D dA h H) {k ci : Nat} {fs : List Value} (hk : h k = mh_ob ci fs) (hc : ci < 99) : ∃ q0 : Nat, dom[q0]? = some k ∧ (mh_w dom ad dA h)[q0]? = some (ad k, .inr (ci, fs.map (mh_v ad))) := by
  obtain ⟨q0, h1, h2⟩ := mh_at (ad := ad) (dA := dA) (h := h) (mx_dom hP (k := k) (by rw [hk]; intro e; injection e with e; injection e with e; injection e with e; omega))
  exact ⟨q0, h1, by rw [h2, hk]; rfl⟩
theorem mx_ia {dom : List Nat} {ad : Nat → Nat} {D : va_G} {dA : Nat → ClassId} {h : mh_H} {H : Heap} (hP : mx_P dom ad D dA h H) {k t n : Nat} {f : Nat → Int32} (hk : h k = mh_ia t n f) : ∃ q0 : Nat, dom[q0]? = some k ∧ (mh_w dom ad dA h)[q0]? = some (ad k, .inl (dA t, n, .inl f)) := by
  obtain ⟨q0, h1, h2⟩ := mh_at (ad := ad) (dA := dA) (h := h) (mx_dom hP (k := k) (by rw [hk]; intro e; cases e))
  exact ⟨q0, h1, by rw [h2, hk]; rfl⟩
theorem mx_ra {dom : List Nat} {ad : Nat → Nat} {D : va_G} {dA : Nat → ClassId} {h : mh_H} {H : Heap} (hP : mx_P dom ad D dA h H) {k t n : Nat} {g : Nat → Option Nat} (hk : h k = mh_ra t n g) : ∃ q0 : Nat, dom[q0]? = some k ∧ (mh_w dom ad dA h)[q0]? = some (ad k, .inl (dA t, n, .inr (.inr (.inr (.inr (fun j => (g j).map ad)))))) := by
  obtain ⟨q0, h1, h2⟩ := mh_at (ad := ad) (dA := dA) (h := h) (mx_dom hP (k := k) (by rw [hk]; intro e; injection e with e; cases e))
  exact ⟨q0, h1, by rw [h2, hk]; rfl⟩
theorem mx_new {dom : List Nat} {ad : Nat → Nat} {D : va_G} {dA : Nat → ClassId} {h : mh_H} {H H1 : Heap} (hP : mx_P dom ad D dA h H) {q0 k : Nat} (hk : dom[q0]? = some k) (e : mh_E) (h1 : va_P D vwCl ((mh_w dom ad dA h).set q0 (ad k, mh_e ad dA e)) H1) (h2 : va_D (mh_A dom ad) ((mh_w dom ad dA h).set q0 (ad k, mh_e ad dA e))) : mx_P dom ad D dA (mh_up h k e) H1 := by
  rw [mh_set hP.2.1 hk] at h1 h2
  refine ⟨h1, h2, fun j hj => ?_⟩
  rw [mh_up_n (fun q : j = k => hj (by rw [q]; exact List.mem_of_getElem? hk))]
  exact hP.2.2 j hj
theorem Mt.of {y : mt_I} {dom : List Nat} {d : Nat} {av : List Value} {h : mh_H} {Q : Option Value → mh_H → Prop} {L : List (Option Value)} (hn : plainName y.1.cls = true) (hs : (lg_sl av).length ≤ y.2.2.1) (hL : mt_pad y.2.2.1 av = L) (K : At y dom d 0 L [] h Q) : Mt y dom d av h Q := by
  intro ad D dA l
  refine Met.ofW (cc := y.2.1) (maxL := y.2.2.1) (ret := y.2.2.2) (ws' := tb_w) hn rfl ?_
  intro p e s m args below meth c s₁ B hml hv
  obtain ⟨rfl, hP, hK⟩ := hv
  have hts := atoms_spec (ws := mx_ws y) B.pre
  have hl := lv_entry (av.map (mh_v ad)) (n := y.2.2.1) (by rw [mt_sl]; exact hs)
  rw [lg_entry_eq]
  refine K ad D dA p l e s m _ below meth c s.heap [] _ ⟨B.exec, B.bytes, B.returns, hml, findClass_of_methodNamed B.named, fun w hw => hts w (List.mem_cons_of_mem _ hw), B.notSynchronized, hK⟩ hP va_S.rf ?_
  refine ⟨hl.1, hl.2.1, fun q hq => hl.2.2 q ?_⟩
  rw [← hL] at hq
  exact mt_pad_in ad av _ 0 q hq
section AX
variable {y z : mt_I} {dom : List Nat} {d pc : Nat} {L : List (Option Value)} {st : List Value} {h : mh_H} {Q : Option Value → mh_H → Prop}
theorem At.eq {L' : List (Option Value)} {st' : List Value} (hL : L = L') (hst : st = st') (K : At y dom d pc L' st' h Q) : At y dom d pc L st h Q := by subst hL; subst hst; exact K
theorem At.hp {h' : mh_H} (hh : h = h') (K : At y dom d pc L st h' Q) : At y dom d pc L st h Q := by subst hh; exact K
theorem At.ti {x x' : Int32} (hh : x = x') (K : At y dom d pc L (.int x' :: st) h Q) : At y dom d pc L (.int x :: st) h Q := by subst hh; exact K
theorem At.tl {x x' : Int64} (hh : x = x') (K : At y dom d pc L (.long x' :: st) h Q) : At y dom d pc L (.long x :: st) h Q := by subst hh; exact K
theorem At.mono {Q' : Option Value → mh_H → Prop} (hq : ∀ r h', Q r h' → Q' r h') (K : At y dom d pc L st h Q) : At y dom d pc L st h Q' := by
  intro ad D dA p l e s m args below meth c H locs ls hC hP hS hl T hT X
  obtain ⟨t, h1, o, b1, b2, ⟨⟨r, h', e1, e2, e3⟩, b4⟩, b5⟩ := K ad D dA p l e s m args below meth c H locs ls hC hP hS hl T hT X
  exact ⟨t, h1, o, b1, b2, ⟨⟨r, h', e1, hq r h' e2, e3⟩, b4⟩, b5⟩
theorem ax_iconst {n : Int} {v : Int32} (hd : decode y.2.1 pc = .ok (.iconst n, 1)) (hv : Int32.ofInt n = v) (K : At y dom d (pc + 1) L (.int v :: st) h Q) : At y dom d pc L (st) h Q := fun ad D dA p l e s m args below meth c H locs ls hC hP hS hl => lv_iconst hC.1 hC.2.1 hd hv (K ad D dA p l e s m args below meth c H locs ls hC hP hS hl)
theorem ax_bipush {n : Int} {v : Int32} (hd : decode y.2.1 pc = .ok (.bipush n, 2)) (hv : (Int8.ofInt n).toInt32 = v) (K : At y dom d (pc + 2) L (.int v :: st) h Q) : At y dom d pc L (st) h Q := fun ad D dA p l e s m args below meth c H locs ls hC hP hS hl => lv_bipush hC.1 hC.2.1 hd hv (K ad D dA p l e s m args below meth c H locs ls hC hP hS hl)
theorem ax_sipush {n : Int} {v : Int32} (hd : decode y.2.1 pc = .ok (.sipush n, 3)) (hv : (Int16.ofInt n).toInt32 = v) (K : At y dom d (pc + 3) L (.int v :: st) h Q) : At y dom d pc L (st) h Q := fun ad D dA p l e s m args below meth c H locs ls hC hP hS hl => lv_sipush hC.1 hC.2.1 hd hv (K ad D dA p l e s m args below meth c H locs ls hC hP hS hl)
theorem ax_lconst {n : Fin 2} {v : Int64} (hd : decode y.2.1 pc = .ok (.lconst n, 1)) (hv : Int64.ofNat (n : Nat) = v) (K : At y dom d (pc + 1) L (.long v :: st) h Q) : At y dom d pc L (st) h Q := fun ad D dA p l e s m args below meth c H locs ls hC hP hS hl => lv_lconst hC.1 hC.2.1 hd hv (K ad D dA p l e s m args below meth c H locs ls hC hP hS hl)
theorem ax_iload_n {k : Fin 4} {x : Int32} (hd : decode y.2.1 pc = .ok (.iload_n k, 1)) (hi : L[(k : Nat)]? = some (some (.int x))) (K : At y dom d (pc + 1) L (.int x :: st) h Q) : At y dom d pc L (st) h Q := fun ad D dA p l e s m args below meth c H locs ls hC hP hS hl => lv_iload_n hC.1 hC.2.1 hd rfl (mh_get hl hi) (K ad D dA p l e s m args below meth c H locs ls hC hP hS hl)
theorem ax_iload {k : Nat} {x : Int32} (hd : decode y.2.1 pc = .ok (.iload k, 2)) (hi : L[k]? = some (some (.int x))) (K : At y dom d (pc + 2) L (.int x :: st) h Q) : At y dom d pc L (st) h Q := fun ad D dA p l e s m args below meth c H locs ls hC hP hS hl => lv_iload hC.1 hC.2.1 hd (mh_get hl hi) (K ad D dA p l e s m args below meth c H locs ls hC hP hS hl)
theorem ax_lload_n {k : Fin 4} {x : Int64} (hd : decode y.2.1 pc = .ok (.lload_n k, 1)) (hi : L[(k : Nat)]? = some (some (.long x))) (K : At y dom d (pc + 1) L (.long x :: st) h Q) : At y dom d pc L (st) h Q := fun ad D dA p l e s m args below meth c H locs ls hC hP hS hl => lv_lload_n hC.1 hC.2.1 hd rfl (mh_get hl hi) (K ad D dA p l e s m args below meth c H locs ls hC hP hS hl)
theorem ax_lload {k : Nat} {x : Int64} (hd : decode y.2.1 pc = .ok (.lload k, 2)) (hi : L[k]? = some (some (.long x))) (K : At y dom d (pc + 2) L (.long x :: st) h Q) : At y dom d pc L (st) h Q := fun ad D dA p l e s m args below meth c H locs ls hC hP hS hl => lv_lload hC.1 hC.2.1 hd (mh_get hl hi) (K ad D dA p l e s m args below meth c H locs ls hC hP hS hl)
theorem ax_aload_n {k : Fin 4} {x : Nat} (hd : decode y.2.1 pc = .ok (.aload_n k, 1)) (hi : L[(k : Nat)]? = some (some (.ref x))) (K : At y dom d (pc + 1) L (.ref x :: st) h Q) : At y dom d pc L (st) h Q := fun ad D dA p l e s m args below meth c H locs ls hC hP hS hl => lv_aload_n hC.1 hC.2.1 hd rfl (mh_get hl hi) (K ad D dA p l e s m args below meth c H locs ls hC hP hS hl)
theorem ax_aload {k : Nat} {x : Nat} (hd : decode y.2.1 pc = .ok (.aload k, 2)) (hi : L[k]? = some (some (.ref x))) (K : At y dom d (pc + 2) L (.ref x :: st) h Q) : At y dom d pc L (st) h Q := fun ad D dA p l e s m args below meth c H locs ls hC hP hS hl => lv_aload hC.1 hC.2.1 hd (mh_get hl hi) (K ad D dA p l e s m args below meth c H locs ls hC hP hS hl)
theorem ax_istore_n {k : Fin 4} {x : Int32} {L' : List (Option Value)} (hd : decode y.2.1 pc = .ok (.istore_n k, 1)) (hb : (k : Nat) < y.2.2.1) (hL : mh_s1 L (k : Nat) (.int x) = L') (K : At y dom d (pc + 1) L' st h Q) : At y dom d pc L (.int x :: st) h Q := fun ad D dA p l e s m args below meth c H locs ls hC hP hS hl => lv_istore_n hC.1 hC.2.1 hd rfl hl hb rfl (fun ls hl => K ad D dA p l e s m args below meth c H locs ls hC hP hS (hL ▸ mh_put1 (v := .int x) hl))
theorem ax_istore {k : Nat} {x : Int32} {L' : List (Option Value)} (hd : decode y.2.1 pc = .ok (.istore k, 2)) (hb : k < y.2.2.1) (hL : mh_s1 L k (.int x) = L') (K : At y dom d (pc + 2) L' st h Q) : At y dom d pc L (.int x :: st) h Q := fun ad D dA p l e s m args below meth c H locs ls hC hP hS hl => lv_istore hC.1 hC.2.1 hd hl hb rfl (fun ls hl => K ad D dA p l e s m args below meth c H locs ls hC hP hS (hL ▸ mh_put1 (v := .int x) hl))
theorem ax_astore_n {k : Fin 4} {x : Nat} {L' : List (Option Value)} (hd : decode y.2.1 pc = .ok (.astore_n k, 1)) (hb : (k : Nat) < y.2.2.1) (hL : mh_s1 L (k : Nat) (.ref x) = L') (K : At y dom d (pc + 1) L' st h Q) : At y dom d pc L (.ref x :: st) h Q := fun ad D dA p l e s m args below meth c H locs ls hC hP hS hl => lv_astore_n hC.1 hC.2.1 hd rfl hl hb rfl (fun ls hl => K ad D dA p l e s m args below meth c H locs ls hC hP hS (hL ▸ mh_put1 (v := .ref x) hl))
theorem ax_astore {k : Nat} {x : Nat} {L' : List (Option Value)} (hd : decode y.2.1 pc = .ok (.astore k, 2)) (hb : k < y.2.2.1) (hL : mh_s1 L k (.ref x) = L') (K : At y dom d (pc + 2) L' st h Q) : At y dom d pc L (.ref x :: st) h Q := fun ad D dA p l e s m args below meth c H locs ls hC hP hS hl => lv_astore hC.1 hC.2.1 hd hl hb rfl (fun ls hl => K ad D dA p l e s m args below meth c H locs ls hC hP hS (hL ▸ mh_put1 (v := .ref x) hl))
theorem ax_lstore_n {k : Fin 4} {x : Int64} {L' : List (Option Value)} (hd : decode y.2.1 pc = .ok (.lstore_n k, 1)) (hb : (k : Nat) + 1 < y.2.2.1) (hL : mh_s2 L (k : Nat) (.long x) = L') (K : At y dom d (pc + 1) L' st h Q) : At y dom d pc L (.long x :: st) h Q := fun ad D dA p l e s m args below meth c H locs ls hC hP hS hl => lv_lstore_n hC.1 hC.2.1 hd rfl hl hb rfl (fun ls hl => K ad D dA p l e s m args below meth c H locs ls hC hP hS (hL ▸ mh_put2 (v := .long x) hl))
theorem ax_lstore {k : Nat} {x : Int64} {L' : List (Option Value)} (hd : decode y.2.1 pc = .ok (.lstore k, 2)) (hb : k + 1 < y.2.2.1) (hL : mh_s2 L k (.long x) = L') (K : At y dom d (pc + 2) L' st h Q) : At y dom d pc L (.long x :: st) h Q := fun ad D dA p l e s m args below meth c H locs ls hC hP hS hl => lv_lstore hC.1 hC.2.1 hd hl hb rfl (fun ls hl => K ad D dA p l e s m args below meth c H locs ls hC hP hS (hL ▸ mh_put2 (v := .long x) hl))
theorem ax_iinc {k : Nat} {n : Int} {x v : Int32} {L' : List (Option Value)} (hd : decode y.2.1 pc = .ok (.iinc k n, 3)) (hi : L[k]? = some (some (.int x))) (hb : k < y.2.2.1) (hv : x + Int32.ofInt n = v) (hL : mh_s1 L k (.int v) = L') (K : At y dom d (pc + 3) L' st h Q) : At y dom d pc L st h Q := by
  intro ad D dA p l e s m args below meth c H locs ls hC hP hS hl
  obtain ⟨q, hq⟩ := List.getElem?_of_mem ((mh_lf_in ad L 0 (k, .int x)).mpr ⟨k, .int x, hi, by simp [mh_v]⟩)
  exact lv_iinc hC.1 hC.2.1 hd hl hq hv hb rfl (fun ls hl => K ad D dA p l e s m args below meth c H locs ls hC hP hS (hL ▸ mh_put1 (v := .int v) hl))
theorem ax_iadd {a b : Int32} (hd : decode y.2.1 pc = .ok (.iadd, 1))  (K : At y dom d (pc + 1) L (.int (a + b) :: st) h Q) : At y dom d pc L (.int b :: .int a :: st) h Q := fun ad D dA p l e s m args below meth c H locs ls hC hP hS hl => lv_iadd hC.1 hC.2.1 hd (K ad D dA p l e s m args below meth c H locs ls hC hP hS hl)
theorem ax_isub {a b : Int32} (hd : decode y.2.1 pc = .ok (.isub, 1))  (K : At y dom d (pc + 1) L (.int (a - b) :: st) h Q) : At y dom d pc L (.int b :: .int a :: st) h Q := fun ad D dA p l e s m args below meth c H locs ls hC hP hS hl => lv_isub hC.1 hC.2.1 hd (K ad D dA p l e s m args below meth c H locs ls hC hP hS hl)
theorem ax_imul {a b : Int32} (hd : decode y.2.1 pc = .ok (.imul, 1))  (K : At y dom d (pc + 1) L (.int (a * b) :: st) h Q) : At y dom d pc L (.int b :: .int a :: st) h Q := fun ad D dA p l e s m args below meth c H locs ls hC hP hS hl => lv_imul hC.1 hC.2.1 hd (K ad D dA p l e s m args below meth c H locs ls hC hP hS hl)
theorem ax_iand {a b : Int32} (hd : decode y.2.1 pc = .ok (.iand, 1))  (K : At y dom d (pc + 1) L (.int (a &&& b) :: st) h Q) : At y dom d pc L (.int b :: .int a :: st) h Q := fun ad D dA p l e s m args below meth c H locs ls hC hP hS hl => lv_iand hC.1 hC.2.1 hd (K ad D dA p l e s m args below meth c H locs ls hC hP hS hl)
theorem ax_ior {a b : Int32} (hd : decode y.2.1 pc = .ok (.ior, 1))  (K : At y dom d (pc + 1) L (.int (a ||| b) :: st) h Q) : At y dom d pc L (.int b :: .int a :: st) h Q := fun ad D dA p l e s m args below meth c H locs ls hC hP hS hl => lv_ior hC.1 hC.2.1 hd (K ad D dA p l e s m args below meth c H locs ls hC hP hS hl)
theorem ax_ixor {a b : Int32} (hd : decode y.2.1 pc = .ok (.ixor, 1))  (K : At y dom d (pc + 1) L (.int (a ^^^ b) :: st) h Q) : At y dom d pc L (.int b :: .int a :: st) h Q := fun ad D dA p l e s m args below meth c H locs ls hC hP hS hl => lv_ixor hC.1 hC.2.1 hd (K ad D dA p l e s m args below meth c H locs ls hC hP hS hl)
theorem ax_ishl {a b : Int32} (hd : decode y.2.1 pc = .ok (.ishl, 1))  (K : At y dom d (pc + 1) L (.int (a <<< (b &&& 31)) :: st) h Q) : At y dom d pc L (.int b :: .int a :: st) h Q := fun ad D dA p l e s m args below meth c H locs ls hC hP hS hl => lv_ishl hC.1 hC.2.1 hd (K ad D dA p l e s m args below meth c H locs ls hC hP hS hl)
theorem ax_ishr {a b : Int32} (hd : decode y.2.1 pc = .ok (.ishr, 1))  (K : At y dom d (pc + 1) L (.int (a >>> (b &&& 31)) :: st) h Q) : At y dom d pc L (.int b :: .int a :: st) h Q := fun ad D dA p l e s m args below meth c H locs ls hC hP hS hl => lv_ishr hC.1 hC.2.1 hd (K ad D dA p l e s m args below meth c H locs ls hC hP hS hl)
theorem ax_iushr {a b : Int32} (hd : decode y.2.1 pc = .ok (.iushr, 1))  (K : At y dom d (pc + 1) L (.int ((a.toUInt32 >>> (b.toUInt32 &&& Int32.toUInt32 31)).toInt32) :: st) h Q) : At y dom d pc L (.int b :: .int a :: st) h Q := fun ad D dA p l e s m args below meth c H locs ls hC hP hS hl => lv_iushr hC.1 hC.2.1 hd rfl (K ad D dA p l e s m args below meth c H locs ls hC hP hS hl)
theorem ax_ladd {a b : Int64} (hd : decode y.2.1 pc = .ok (.ladd, 1))  (K : At y dom d (pc + 1) L (.long (a + b) :: st) h Q) : At y dom d pc L (.long b :: .long a :: st) h Q := fun ad D dA p l e s m args below meth c H locs ls hC hP hS hl => lv_ladd hC.1 hC.2.1 hd (K ad D dA p l e s m args below meth c H locs ls hC hP hS hl)
theorem ax_lsub {a b : Int64} (hd : decode y.2.1 pc = .ok (.lsub, 1))  (K : At y dom d (pc + 1) L (.long (a - b) :: st) h Q) : At y dom d pc L (.long b :: .long a :: st) h Q := fun ad D dA p l e s m args below meth c H locs ls hC hP hS hl => lv_lsub hC.1 hC.2.1 hd (K ad D dA p l e s m args below meth c H locs ls hC hP hS hl)
theorem ax_lmul {a b : Int64} (hd : decode y.2.1 pc = .ok (.lmul, 1))  (K : At y dom d (pc + 1) L (.long (a * b) :: st) h Q) : At y dom d pc L (.long b :: .long a :: st) h Q := fun ad D dA p l e s m args below meth c H locs ls hC hP hS hl => lv_lmul hC.1 hC.2.1 hd (K ad D dA p l e s m args below meth c H locs ls hC hP hS hl)
theorem ax_idiv {a b : Int32} (hd : decode y.2.1 pc = .ok (.idiv, 1)) (hne : ¬ b = 0) (K : At y dom d (pc + 1) L (.int (a / b) :: st) h Q) : At y dom d pc L (.int b :: .int a :: st) h Q := fun ad D dA p l e s m args below meth c H locs ls hC hP hS hl => lv_idiv hC.1 hC.2.1 hd hne (K ad D dA p l e s m args below meth c H locs ls hC hP hS hl)
theorem ax_irem {a b : Int32} (hd : decode y.2.1 pc = .ok (.irem, 1)) (hne : ¬ b = 0) (K : At y dom d (pc + 1) L (.int (a - a / b * b) :: st) h Q) : At y dom d pc L (.int b :: .int a :: st) h Q := fun ad D dA p l e s m args below meth c H locs ls hC hP hS hl => lv_irem hC.1 hC.2.1 hd hne (K ad D dA p l e s m args below meth c H locs ls hC hP hS hl)
theorem ax_ldiv {a b : Int64} (hd : decode y.2.1 pc = .ok (.ldiv, 1)) (hne : ¬ b = 0) (K : At y dom d (pc + 1) L (.long (a / b) :: st) h Q) : At y dom d pc L (.long b :: .long a :: st) h Q := fun ad D dA p l e s m args below meth c H locs ls hC hP hS hl => lv_ldiv hC.1 hC.2.1 hd hne (K ad D dA p l e s m args below meth c H locs ls hC hP hS hl)
theorem ax_lrem {a b : Int64} (hd : decode y.2.1 pc = .ok (.lrem, 1)) (hne : ¬ b = 0) (K : At y dom d (pc + 1) L (.long (a - a / b * b) :: st) h Q) : At y dom d pc L (.long b :: .long a :: st) h Q := fun ad D dA p l e s m args below meth c H locs ls hC hP hS hl => lv_lrem hC.1 hC.2.1 hd hne (K ad D dA p l e s m args below meth c H locs ls hC hP hS hl)
theorem ax_i2l {a : Int32} (hd : decode y.2.1 pc = .ok (.i2l, 1))  (K : At y dom d (pc + 1) L (.long a.toInt64 :: st) h Q) : At y dom d pc L (.int a :: st) h Q := fun ad D dA p l e s m args below meth c H locs ls hC hP hS hl => lv_i2l hC.1 hC.2.1 hd rfl (K ad D dA p l e s m args below meth c H locs ls hC hP hS hl)
theorem ax_l2i {a : Int64} (hd : decode y.2.1 pc = .ok (.l2i, 1))  (K : At y dom d (pc + 1) L (.int a.toInt32 :: st) h Q) : At y dom d pc L (.long a :: st) h Q := fun ad D dA p l e s m args below meth c H locs ls hC hP hS hl => lv_l2i hC.1 hC.2.1 hd rfl (K ad D dA p l e s m args below meth c H locs ls hC hP hS hl)
theorem ax_i2b {a : Int32} (hd : decode y.2.1 pc = .ok (.i2b, 1))  (K : At y dom d (pc + 1) L (.int a.toInt8.toInt32 :: st) h Q) : At y dom d pc L (.int a :: st) h Q := fun ad D dA p l e s m args below meth c H locs ls hC hP hS hl => lv_i2b hC.1 hC.2.1 hd rfl (K ad D dA p l e s m args below meth c H locs ls hC hP hS hl)
theorem ax_lcmp {a b : Int64} (hd : decode y.2.1 pc = .ok (.lcmp, 1))  (K : At y dom d (pc + 1) L (.int (lg_cmp a b) :: st) h Q) : At y dom d pc L (.long b :: .long a :: st) h Q := fun ad D dA p l e s m args below meth c H locs ls hC hP hS hl => W.lcmp hC.1 hC.2.1 hd (K ad D dA p l e s m args below meth c H locs ls hC hP hS hl)
theorem ax_dup {v : Value} (hd : decode y.2.1 pc = .ok (.dup, 1)) (hc : v.category = 1) (K : At y dom d (pc + 1) L (v :: v :: st) h Q) : At y dom d pc L (v :: st) h Q := fun ad D dA p l e s m args below meth c H locs ls hC hP hS hl => lv_dup hC.1 hC.2.1 hd (by rw [mh_v_cat]; exact hc) (K ad D dA p l e s m args below meth c H locs ls hC hP hS hl)
theorem ax_pop {v : Value} (hd : decode y.2.1 pc = .ok (.pop, 1)) (hc : v.category = 1) (K : At y dom d (pc + 1) L (st) h Q) : At y dom d pc L (v :: st) h Q := fun ad D dA p l e s m args below meth c H locs ls hC hP hS hl => lv_pop hC.1 hC.2.1 hd (by rw [mh_v_cat]; exact hc) (K ad D dA p l e s m args below meth c H locs ls hC hP hS hl)
theorem ax_dup2 {v w : Value} (hd : decode y.2.1 pc = .ok (.dup2, 1)) (hc : v.category = 1) (hc2 : w.category = 1) (K : At y dom d (pc + 1) L (v :: w :: v :: w :: st) h Q) : At y dom d pc L (v :: w :: st) h Q := fun ad D dA p l e s m args below meth c H locs ls hC hP hS hl => lv_dup2_11 hC.1 hC.2.1 hd (by rw [mh_v_cat]; exact hc) (by rw [mh_v_cat]; exact hc2) (K ad D dA p l e s m args below meth c H locs ls hC hP hS hl)
theorem ax_ifeq {x : Int32} {off : Int} {tgt : Nat} (hd : decode y.2.1 pc = .ok (.ifCond .eq off, 3)) (ht : (pc : Int) + off = (tgt : Int)) (KT : x = 0 → At y dom d tgt L st h Q) (KF : ¬ x = 0 → At y dom d (pc + 3) L st h Q) : At y dom d pc L (.int x :: st) h Q := fun ad D dA p l e s m args below meth c H locs ls hC hP hS hl => lv_if_eq hC.1 hC.2.1 hd ht (fun q => KT q ad D dA p l e s m args below meth c H locs ls hC hP hS hl) (fun q => KF q ad D dA p l e s m args below meth c H locs ls hC hP hS hl)
theorem ax_icmpeq {a b : Int32} {off : Int} {tgt : Nat} (hd : decode y.2.1 pc = .ok (.if_icmp .eq off, 3)) (ht : (pc : Int) + off = (tgt : Int)) (KT : a = b → At y dom d tgt L st h Q) (KF : ¬ a = b → At y dom d (pc + 3) L st h Q) : At y dom d pc L (.int b :: .int a :: st) h Q := fun ad D dA p l e s m args below meth c H locs ls hC hP hS hl => lv_icmp_eq hC.1 hC.2.1 hd ht (fun q => KT q ad D dA p l e s m args below meth c H locs ls hC hP hS hl) (fun q => KF q ad D dA p l e s m args below meth c H locs ls hC hP hS hl)
theorem ax_ifne {x : Int32} {off : Int} {tgt : Nat} (hd : decode y.2.1 pc = .ok (.ifCond .ne off, 3)) (ht : (pc : Int) + off = (tgt : Int)) (KT : ¬ x = 0 → At y dom d tgt L st h Q) (KF : x = 0 → At y dom d (pc + 3) L st h Q) : At y dom d pc L (.int x :: st) h Q := fun ad D dA p l e s m args below meth c H locs ls hC hP hS hl => lv_if_ne hC.1 hC.2.1 hd ht (fun q => KT q ad D dA p l e s m args below meth c H locs ls hC hP hS hl) (fun q => KF q ad D dA p l e s m args below meth c H locs ls hC hP hS hl)
theorem ax_icmpne {a b : Int32} {off : Int} {tgt : Nat} (hd : decode y.2.1 pc = .ok (.if_icmp .ne off, 3)) (ht : (pc : Int) + off = (tgt : Int)) (KT : ¬ a = b → At y dom d tgt L st h Q) (KF : a = b → At y dom d (pc + 3) L st h Q) : At y dom d pc L (.int b :: .int a :: st) h Q := fun ad D dA p l e s m args below meth c H locs ls hC hP hS hl => lv_icmp_ne hC.1 hC.2.1 hd ht (fun q => KT q ad D dA p l e s m args below meth c H locs ls hC hP hS hl) (fun q => KF q ad D dA p l e s m args below meth c H locs ls hC hP hS hl)
theorem ax_iflt {x : Int32} {off : Int} {tgt : Nat} (hd : decode y.2.1 pc = .ok (.ifCond .lt off, 3)) (ht : (pc : Int) + off = (tgt : Int)) (KT : x < 0 → At y dom d tgt L st h Q) (KF : ¬ x < 0 → At y dom d (pc + 3) L st h Q) : At y dom d pc L (.int x :: st) h Q := fun ad D dA p l e s m args below meth c H locs ls hC hP hS hl => lv_if_lt hC.1 hC.2.1 hd ht (fun q => KT q ad D dA p l e s m args below meth c H locs ls hC hP hS hl) (fun q => KF q ad D dA p l e s m args below meth c H locs ls hC hP hS hl)
theorem ax_icmplt {a b : Int32} {off : Int} {tgt : Nat} (hd : decode y.2.1 pc = .ok (.if_icmp .lt off, 3)) (ht : (pc : Int) + off = (tgt : Int)) (KT : a < b → At y dom d tgt L st h Q) (KF : ¬ a < b → At y dom d (pc + 3) L st h Q) : At y dom d pc L (.int b :: .int a :: st) h Q := fun ad D dA p l e s m args below meth c H locs ls hC hP hS hl => lv_icmp_lt hC.1 hC.2.1 hd ht (fun q => KT q ad D dA p l e s m args below meth c H locs ls hC hP hS hl) (fun q => KF q ad D dA p l e s m args below meth c H locs ls hC hP hS hl)
theorem ax_ifge {x : Int32} {off : Int} {tgt : Nat} (hd : decode y.2.1 pc = .ok (.ifCond .ge off, 3)) (ht : (pc : Int) + off = (tgt : Int)) (KT : 0 ≤ x → At y dom d tgt L st h Q) (KF : ¬ 0 ≤ x → At y dom d (pc + 3) L st h Q) : At y dom d pc L (.int x :: st) h Q := fun ad D dA p l e s m args below meth c H locs ls hC hP hS hl => lv_if_ge hC.1 hC.2.1 hd ht (fun q => KT q ad D dA p l e s m args below meth c H locs ls hC hP hS hl) (fun q => KF q ad D dA p l e s m args below meth c H locs ls hC hP hS hl)
theorem ax_icmpge {a b : Int32} {off : Int} {tgt : Nat} (hd : decode y.2.1 pc = .ok (.if_icmp .ge off, 3)) (ht : (pc : Int) + off = (tgt : Int)) (KT : b ≤ a → At y dom d tgt L st h Q) (KF : ¬ b ≤ a → At y dom d (pc + 3) L st h Q) : At y dom d pc L (.int b :: .int a :: st) h Q := fun ad D dA p l e s m args below meth c H locs ls hC hP hS hl => lv_icmp_ge hC.1 hC.2.1 hd ht (fun q => KT q ad D dA p l e s m args below meth c H locs ls hC hP hS hl) (fun q => KF q ad D dA p l e s m args below meth c H locs ls hC hP hS hl)
theorem ax_ifgt {x : Int32} {off : Int} {tgt : Nat} (hd : decode y.2.1 pc = .ok (.ifCond .gt off, 3)) (ht : (pc : Int) + off = (tgt : Int)) (KT : 0 < x → At y dom d tgt L st h Q) (KF : ¬ 0 < x → At y dom d (pc + 3) L st h Q) : At y dom d pc L (.int x :: st) h Q := fun ad D dA p l e s m args below meth c H locs ls hC hP hS hl => lv_if_gt hC.1 hC.2.1 hd ht (fun q => KT q ad D dA p l e s m args below meth c H locs ls hC hP hS hl) (fun q => KF q ad D dA p l e s m args below meth c H locs ls hC hP hS hl)
theorem ax_icmpgt {a b : Int32} {off : Int} {tgt : Nat} (hd : decode y.2.1 pc = .ok (.if_icmp .gt off, 3)) (ht : (pc : Int) + off = (tgt : Int)) (KT : b < a → At y dom d tgt L st h Q) (KF : ¬ b < a → At y dom d (pc + 3) L st h Q) : At y dom d pc L (.int b :: .int a :: st) h Q := fun ad D dA p l e s m args below meth c H locs ls hC hP hS hl => lv_icmp_gt hC.1 hC.2.1 hd ht (fun q => KT q ad D dA p l e s m args below meth c H locs ls hC hP hS hl) (fun q => KF q ad D dA p l e s m args below meth c H locs ls hC hP hS hl)
theorem ax_ifle {x : Int32} {off : Int} {tgt : Nat} (hd : decode y.2.1 pc = .ok (.ifCond .le off, 3)) (ht : (pc : Int) + off = (tgt : Int)) (KT : x ≤ 0 → At y dom d tgt L st h Q) (KF : ¬ x ≤ 0 → At y dom d (pc + 3) L st h Q) : At y dom d pc L (.int x :: st) h Q := fun ad D dA p l e s m args below meth c H locs ls hC hP hS hl => lv_if_le hC.1 hC.2.1 hd ht (fun q => KT q ad D dA p l e s m args below meth c H locs ls hC hP hS hl) (fun q => KF q ad D dA p l e s m args below meth c H locs ls hC hP hS hl)
theorem ax_icmple {a b : Int32} {off : Int} {tgt : Nat} (hd : decode y.2.1 pc = .ok (.if_icmp .le off, 3)) (ht : (pc : Int) + off = (tgt : Int)) (KT : a ≤ b → At y dom d tgt L st h Q) (KF : ¬ a ≤ b → At y dom d (pc + 3) L st h Q) : At y dom d pc L (.int b :: .int a :: st) h Q := fun ad D dA p l e s m args below meth c H locs ls hC hP hS hl => lv_icmp_le hC.1 hC.2.1 hd ht (fun q => KT q ad D dA p l e s m args below meth c H locs ls hC hP hS hl) (fun q => KF q ad D dA p l e s m args below meth c H locs ls hC hP hS hl)
theorem ax_goto {off : Int} {tgt : Nat} (hd : decode y.2.1 pc = .ok (.goto off, 3)) (ht : (pc : Int) + off = (tgt : Int)) (K : At y dom d tgt L st h Q) : At y dom d pc L st h Q := fun ad D dA p l e s m args below meth c H locs ls hC hP hS hl => lv_goto hC.1 hC.2.1 hd ht (K ad D dA p l e s m args below meth c H locs ls hC hP hS hl)
theorem ax_tswIn {dflt lo hi off : Int} {offs : Array Int} {len tgt : Nat} {x : Int32} (hd : decode y.2.1 pc = .ok (.tableswitch dflt lo hi offs, len)) (h1 : ¬ x.toInt < lo) (h2 : ¬ hi < x.toInt) (ho : offs[(x.toInt - lo).toNat]? = some off) (ht : (pc : Int) + off = (tgt : Int)) (K : At y dom d tgt L st h Q) : At y dom d pc L (.int x :: st) h Q := fun ad D dA p l e s m args below meth c H locs ls hC hP hS hl => lv_tableIn hC.1 hC.2.1 hd h1 h2 ho ht (K ad D dA p l e s m args below meth c H locs ls hC hP hS hl)
theorem ax_tswOut {dflt lo hi : Int} {offs : Array Int} {len tgt : Nat} {x : Int32} (hd : decode y.2.1 pc = .ok (.tableswitch dflt lo hi offs, len)) (hx : x.toInt < lo ∨ hi < x.toInt) (ht : (pc : Int) + dflt = (tgt : Int)) (K : At y dom d tgt L st h Q) : At y dom d pc L (.int x :: st) h Q := fun ad D dA p l e s m args below meth c H locs ls hC hP hS hl => lv_tableOut hC.1 hC.2.1 hd hx ht (K ad D dA p l e s m args below meth c H locs ls hC hP hS hl)
theorem ax_ldc {i : Nat} {v : Int32} (hd : decode y.2.1 pc = .ok (.ldc i, 2)) (hw : Cond.constant y.1.cls i v ∈ tb_w) (K : At y dom d (pc + 2) L (.int v :: st) h Q) : At y dom d pc L st h Q := fun ad D dA p l e s m args below meth c H locs ls hC hP hS hl => lv_ldc hC.1 hC.2.1 hC.2.2.2.2.1 (hC.2.2.2.2.2.1 _ hw) hd (K ad D dA p l e s m args below meth c H locs ls hC hP hS hl)
theorem ax_ldcw {i : Nat} {v : Int32} (hd : decode y.2.1 pc = .ok (.ldc_w i, 3)) (hw : Cond.constant y.1.cls i v ∈ tb_w) (K : At y dom d (pc + 3) L (.int v :: st) h Q) : At y dom d pc L st h Q := fun ad D dA p l e s m args below meth c H locs ls hC hP hS hl => lv_ldcw hC.1 hC.2.1 hC.2.2.2.2.1 (hC.2.2.2.2.2.1 _ hw) hd (K ad D dA p l e s m args below meth c H locs ls hC hP hS hl)
theorem ax_ldc2 {i : Nat} {v : Int64} (hd : decode y.2.1 pc = .ok (.ldc2_w i, 3)) (hw : Cond.constantLong y.1.cls i v ∈ tb_w) (K : At y dom d (pc + 3) L (.long v :: st) h Q) : At y dom d pc L st h Q := fun ad D dA p l e s m args below meth c H locs ls hC hP hS hl => lv_ldc2 hC.1 hC.2.1 hC.2.2.2.2.1 (hC.2.2.2.2.2.1 _ hw) hd (K ad D dA p l e s m args below meth c H locs ls hC hP hS hl)
theorem ax_iret {v : Int32} (hd : decode y.2.1 pc = .ok (.ireturn, 1)) (hr : y.2.2.2 = some .int) (hq : Q (some (.int v)) h) : At y dom d pc L [.int v] h Q := fun ad D dA p l e s m args below meth c H locs ls hC hP hS hl => W.iret hC.1 hC.2.1 (hC.2.2.1.trans hr) (fun t ht hW => ⟨⟨some (.int v), h, rfl, hq, by rw [ht]; exact hP⟩, hS.F ht⟩) hS.2.2 hd hC.2.2.2.2.2.2.1
theorem ax_zret {v : Int32} (hd : decode y.2.1 pc = .ok (.ireturn, 1)) (hr : y.2.2.2 = some .boolean) (hn : narrow .boolean (.int v) = .int v) (hq : Q (some (.int v)) h) : At y dom d pc L [.int v] h Q := fun ad D dA p l e s m args below meth c H locs ls hC hP hS hl => W.zret hC.1 hC.2.1 (hC.2.2.1.trans hr) hn (fun t ht hW => ⟨⟨some (.int v), h, rfl, hq, by rw [ht]; exact hP⟩, hS.F ht⟩) hS.2.2 hd hC.2.2.2.2.2.2.1
theorem ax_lret {v : Int64} (hd : decode y.2.1 pc = .ok (.lreturn, 1)) (hr : y.2.2.2 = some .long) (hq : Q (some (.long v)) h) : At y dom d pc L [.long v] h Q := fun ad D dA p l e s m args below meth c H locs ls hC hP hS hl => W.lret hC.1 hC.2.1 (hC.2.2.1.trans hr) (fun t ht hW => ⟨⟨some (.long v), h, rfl, hq, by rw [ht]; exact hP⟩, hS.F ht⟩) hS.2.2 hd hC.2.2.2.2.2.2.1
theorem ax_vret (hd : decode y.2.1 pc = .ok (.return_, 1)) (hr : y.2.2.2 = none) (hq : Q none h) : At y dom d pc L [] h Q := fun ad D dA p l e s m args below meth c H locs ls hC hP hS hl => W.vret hC.1 hC.2.1 (hC.2.2.1.trans hr) (fun t ht hW => ⟨⟨none, h, rfl, hq, by rw [ht]; exact hP⟩, hS.F ht⟩) hS.2.2 hd hC.2.2.2.2.2.2.1
end AX
