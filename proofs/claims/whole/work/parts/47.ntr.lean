/-! The rules of constructors -/
def nx_N (own : String) (idx ci N : Nat) (fs : List Value) : Prop := ∃ (C : String) (T : u_T) (ty : Nat → FieldType), vwCl[ci]? = some (C, T, N) ∧ (∀ w ∈ u_ws C T N, w ∈ tb_w) ∧ (∀ k, k < N → parseFieldDescriptor (T k).2.2.1 = some (ty k)) ∧ Cond.classLink own idx C ∈ tb_w ∧ Cond.instantiable C N ∈ tb_w ∧ Cond.initialized C ∈ tb_w ∧ (∀ j, j < N → defaultValue (ty j) = vp_V fs j) ∧ ∀ ad, fs.map (mh_v ad) = fs
def nx_F (own : String) (idx ci k : Nat) : Prop := ∃ (C : String) (T : u_T) (N : Nat) (ty0 : Nat → FieldType) (ty : FieldType), vwCl[ci]? = some (C, T, N) ∧ (∀ w ∈ u_ws C T N, w ∈ tb_w) ∧ k < N ∧ Cond.fieldLink own idx (T k).1 (T k).2.1 (T k).2.2.1 ∈ tb_w ∧ ci < 99 ∧ (∀ k, k < N → parseFieldDescriptor (T k).2.2.1 = some (ty0 k)) ∧ (∀ a, a < N → ∀ b, b < N → a ≠ b → (T a).2.1 ≠ (T b).2.1) ∧ (T k).2.2.2 = true ∧ (T k).1 = own ∧ parseFieldDescriptor (T k).2.2.1 = some ty ∧ (∀ b, narrow ty (.ref b) = .ref b) ∧ ∀ b, fits ty (.ref b) = true
def nx_I (own : String) (z : mt_I) (idx : Nat) : Prop := (∃ host, (own, idx, z.1, host) ∈ nx_nest) ∧ z.1.name = "<init>" ∧ Cond.instanceMethod z.1 ∈ tb_w ∧ Cond.initialized z.1.cls ∈ tb_w ∧ Cond.code z.1 z.2.1 z.2.2.1 none ∈ tb_w ∧ z.2.2.2 = none ∧ (z.1.cls ≠ "java/lang/invoke/MethodHandle" ∧ z.1.cls ≠ "java/lang/invoke/VarHandle" ∧ (parseMethodDescriptor z.1.desc).map (fun d => d.parameters.length) = some 0) ∧ z.2.2.1 ≤ 41
section NX
variable {y z : mt_I} {dom0 ord0 dom ord : List Nat} {ms k n d pc : Nat} {L : List (Option Value)} {st : List Value} {h : mh_H} {Q : mh_H → Prop}
theorem nx_sz {p : Program} {l : Launch} {e : Env} {R : Room} {s : State} {m : MethodId} {args : Array Value} {below : List Frame} {meth : Method} {c : Code} {H : Heap} {locs : List Loc} {g : JFrame} {Z : State → Prop} (K : H.size ≤ s.heap.size + k → W p l e R s m args below meth c H locs k n Z g) : W p l e R s m args below meth c H locs k n Z g := fun T hT X => K (by rw [← hT]; exact X.same.2.2.1) T hT X
theorem nx_S0 {A : Nat → Prop} {H0 H : Heap} {locs : List Loc} (hS : va_S A H0 H locs) : va_S A H H locs := ⟨Nat.le_refl _, fun _ _ _ => rfl, hS.2.2⟩
theorem nx_S2 {A : Nat → Prop} {H0 H H1 : Heap} {locs locs1 : List Loc} (hS : va_S A H0 H locs) (r : va_S A H H1 locs1) : va_S A H0 H1 locs1 := ⟨Nat.le_trans hS.1 r.1, fun q h1 h2 => (r.2.1 q (Nat.lt_of_lt_of_le h1 hS.1) h2).trans (hS.2.1 q h1 h2), r.2.2⟩
theorem nx_ze {dom0 dom ord : List Nat} {k : Nat} {ad : Nat → Nat} {D : va_G} {dA : Nat → ClassId} {h : mh_H} {sz : Nat} {A : Nat → Prop} {H H1 : Heap} {locs1 : List Loc} (hP : nx_P dom0 dom ord k ad D dA h sz H) (r : va_S A H H1 locs1) (hz : H1.size ≤ sz + k) : H1.size = H.size := Nat.le_antisymm (by rw [hP.2.2.1]; exact hz) r.1
theorem nt_iconst {v0 : Int} {v : Int32} (hd : decode y.2.1 pc = .ok (.iconst v0, 1)) (hv : Int32.ofInt v0 = v) (K : Nt y dom0 ord0 ms dom ord k n d (pc + 1) L (.int v :: st) h Q) : Nt y dom0 ord0 ms dom ord k n d pc L st h Q := fun ad D dA p l e s m args below meth c H locs ls hC hP hS hl => lv_iconst hC.1.1 hC.1.2.1 hd hv (K ad D dA p l e s m args below meth c H locs ls hC hP hS hl)
theorem nt_bipush {v0 : Int} {v : Int32} (hd : decode y.2.1 pc = .ok (.bipush v0, 2)) (hv : (Int8.ofInt v0).toInt32 = v) (K : Nt y dom0 ord0 ms dom ord k n d (pc + 2) L (.int v :: st) h Q) : Nt y dom0 ord0 ms dom ord k n d pc L st h Q := fun ad D dA p l e s m args below meth c H locs ls hC hP hS hl => lv_bipush hC.1.1 hC.1.2.1 hd hv (K ad D dA p l e s m args below meth c H locs ls hC hP hS hl)
theorem nt_sipush {v0 : Int} {v : Int32} (hd : decode y.2.1 pc = .ok (.sipush v0, 3)) (hv : (Int16.ofInt v0).toInt32 = v) (K : Nt y dom0 ord0 ms dom ord k n d (pc + 3) L (.int v :: st) h Q) : Nt y dom0 ord0 ms dom ord k n d pc L st h Q := fun ad D dA p l e s m args below meth c H locs ls hC hP hS hl => lv_sipush hC.1.1 hC.1.2.1 hd hv (K ad D dA p l e s m args below meth c H locs ls hC hP hS hl)
theorem nt_lconst {v0 : Fin 2} {v : Int64} (hd : decode y.2.1 pc = .ok (.lconst v0, 1)) (hv : Int64.ofNat (v0 : Nat) = v) (K : Nt y dom0 ord0 ms dom ord k n d (pc + 1) L (.long v :: st) h Q) : Nt y dom0 ord0 ms dom ord k n d pc L st h Q := fun ad D dA p l e s m args below meth c H locs ls hC hP hS hl => lv_lconst hC.1.1 hC.1.2.1 hd hv (K ad D dA p l e s m args below meth c H locs ls hC hP hS hl)
theorem nt_iload {i : Fin 4} {x : Int32} (hd : decode y.2.1 pc = .ok (.iload_n i, 1)) (hi : L[(i : Nat)]? = some (some (.int x))) (K : Nt y dom0 ord0 ms dom ord k n d (pc + 1) L (.int x :: st) h Q) : Nt y dom0 ord0 ms dom ord k n d pc L st h Q := fun ad D dA p l e s m args below meth c H locs ls hC hP hS hl => lv_iload_n hC.1.1 hC.1.2.1 hd rfl (mh_get hl hi) (K ad D dA p l e s m args below meth c H locs ls hC hP hS hl)
theorem nt_aload {i : Fin 4} {x : Nat} (hd : decode y.2.1 pc = .ok (.aload_n i, 1)) (hi : L[(i : Nat)]? = some (some (.ref x))) (K : Nt y dom0 ord0 ms dom ord k n d (pc + 1) L (.ref x :: st) h Q) : Nt y dom0 ord0 ms dom ord k n d pc L st h Q := fun ad D dA p l e s m args below meth c H locs ls hC hP hS hl => lv_aload_n hC.1.1 hC.1.2.1 hd rfl (mh_get hl hi) (K ad D dA p l e s m args below meth c H locs ls hC hP hS hl)
theorem nt_istore1 {l0 l1 : Option Value} {r : List (Option Value)} {x : Int32} (hd : decode y.2.1 pc = .ok (.istore_n 1, 1)) (hp : mh_nl l0 = true) (hb : 1 < y.2.2.1) (K : Nt y dom0 ord0 ms dom ord k n d (pc + 1) (l0 :: some (.int x) :: r) st h Q) : Nt y dom0 ord0 ms dom ord k n d pc (l0 :: l1 :: r) (.int x :: st) h Q := fun ad D dA p l e s m args below meth c H locs ls hC hP hS hl => lv_istore_n hC.1.1 hC.1.2.1 hd rfl hl hb rfl (fun ls hl => K ad D dA p l e s m args below meth c H locs ls hC hP hS (mh_s1_1 hp ▸ mh_put1 (v := .int x) hl))
theorem nt_inc1 {l0 : Option Value} {r : List (Option Value)} {x v : Int32} (hd : decode y.2.1 pc = .ok (.iinc 1 1, 3)) (hp : mh_nl l0 = true) (hb : 1 < y.2.2.1) (hv : x + 1 = v) (K : Nt y dom0 ord0 ms dom ord k n d (pc + 3) (l0 :: some (.int v) :: r) st h Q) : Nt y dom0 ord0 ms dom ord k n d pc (l0 :: some (.int x) :: r) st h Q := fun ad D dA p l e s m args below meth c H locs ls hC hP hS hl => by
  obtain ⟨q, hq⟩ : ∃ q, (mh_lf ad 0 (l0 :: some (Value.int x) :: r))[q]? = some (1, Value.int x) := List.getElem?_of_mem ((mh_lf_in ad _ 0 _).mpr ⟨1, Value.int x, rfl, rfl⟩)
  exact lv_iinc hC.1.1 hC.1.2.1 hd hl (k := q) hq hv hb rfl (fun ls hl => K ad D dA p l e s m args below meth c H locs ls hC hP hS (mh_s1_1 hp ▸ mh_put1 (v := .int v) hl))
theorem nt_dup {v : Value} (hd : decode y.2.1 pc = .ok (.dup, 1)) (hc : v.category = 1) (K : Nt y dom0 ord0 ms dom ord k n d (pc + 1) L (v :: v :: st) h Q) : Nt y dom0 ord0 ms dom ord k n d pc L (v :: st) h Q := fun ad D dA p l e s m args below meth c H locs ls hC hP hS hl => lv_dup hC.1.1 hC.1.2.1 hd (by rw [mh_v_cat]; exact hc) (K ad D dA p l e s m args below meth c H locs ls hC hP hS hl)
theorem nt_goto {off : Int} {tgt : Nat} (hd : decode y.2.1 pc = .ok (.goto off, 3)) (ht : (pc : Int) + off = (tgt : Int)) (K : Nt y dom0 ord0 ms dom ord k n d tgt L st h Q) : Nt y dom0 ord0 ms dom ord k n d pc L st h Q := fun ad D dA p l e s m args below meth c H locs ls hC hP hS hl => lv_goto hC.1.1 hC.1.2.1 hd ht (K ad D dA p l e s m args below meth c H locs ls hC hP hS hl)
theorem nt_geT {a b : Int32} {off : Int} {tgt : Nat} (hd : decode y.2.1 pc = .ok (.if_icmp .ge off, 3)) (ht : (pc : Int) + off = (tgt : Int)) (hab : b ≤ a) (K : Nt y dom0 ord0 ms dom ord k n d tgt L st h Q) : Nt y dom0 ord0 ms dom ord k n d pc L (.int b :: .int a :: st) h Q := fun ad D dA p l e s m args below meth c H locs ls hC hP hS hl => lv_icmp_ge hC.1.1 hC.1.2.1 hd ht (fun _ => K ad D dA p l e s m args below meth c H locs ls hC hP hS hl) (fun q => absurd hab q)
theorem nt_geF {a b : Int32} {off : Int} {tgt : Nat} (hd : decode y.2.1 pc = .ok (.if_icmp .ge off, 3)) (ht : (pc : Int) + off = (tgt : Int)) (hab : ¬ b ≤ a) (K : Nt y dom0 ord0 ms dom ord k n d (pc + 3) L st h Q) : Nt y dom0 ord0 ms dom ord k n d pc L (.int b :: .int a :: st) h Q := fun ad D dA p l e s m args below meth c H locs ls hC hP hS hl => lv_icmp_ge hC.1.1 hC.1.2.1 hd ht (fun q => absurd q hab) (fun _ => K ad D dA p l e s m args below meth c H locs ls hC hP hS hl)
theorem nt_getf {idx ci k0 a : Nat} {fs : List Value} {v : Value} (hf : mx_F y.1.cls idx ci k0) (hd : decode y.2.1 pc = .ok (.getfield idx, 3)) (ha : h a = mh_ob ci fs) (hv : fs[k0]? = some v) (K : Nt y dom0 ord0 ms dom ord k n d (pc + 3) L (v :: st) h Q) : Nt y dom0 ord0 ms dom ord k n d pc L (.ref a :: st) h Q := by
  intro ad D dA p l e s m args below meth c H locs ls hC hP hS hl
  obtain ⟨C, T, N, h1, h2, h3, h4, h5⟩ := hf
  obtain ⟨q0, g1, g2⟩ := mx_ob hP.1 ha h5
  exact va_get (D := D) (ci := ci) (v := mh_v ad v) (C := C) (T := T) (N := N) hC.1.1 hC.1.2.1 hC.1.2.2.2.2.2.1 h2 hC.1.2.2.2.2.1 hC.1.2.2.2.2.2.2.2.1 hP.1.1 q0 g2 h1 k0 h3 (hC.1.2.2.2.2.2.1 _ h4) (fun _ h => h) (by rw [List.getElem?_map, hv]; rfl) hd (K ad D dA p l e s m args below meth c H locs ls hC hP hS hl)
theorem nt_put {idx ci k0 a : Nat} {fs fs' : List Value} {v : Value} {ty : FieldType} (hf : mx_G y.1.cls idx ci k0 ty) (hd : decode y.2.1 pc = .ok (.putfield idx, 3)) (ha : h a = mh_ob ci fs) (hn : narrow ty v = v) (hfit : fits ty v = true) (hr : ∀ ad, mh_v ad v = v) (hk : k0 < fs.length) (hfs : fs.set k0 v = fs') (K : Nt y dom0 ord0 ms dom ord k n d (pc + 3) L st (mh_up h a (mh_ob ci fs')) Q) : Nt y dom0 ord0 ms dom ord k n d pc L (v :: .ref a :: st) h Q := by
  intro ad D dA p l e s m args below meth c H locs ls hC hP hS hl
  subst hfs
  obtain ⟨C, T, N, ty0, h1, h2, h3, h4, h5, h6, h7, h8, h9⟩ := hf
  obtain ⟨q0, g1, g2⟩ := mx_ob hP.1 ha h5
  show W _ _ _ _ _ _ _ _ _ _ _ _ _ _ _ (F0 m pc ls (mh_v ad v :: .ref (ad a) :: st.map (mh_v ad)))
  rw [hr ad]
  refine va_put (D := D) (ci := ci) (v := v) (ty := ty) (C := C) (T := T) (N := N) hC.1.1 hC.1.2.1 hC.1.2.2.2.2.2.1 h2 ty0 h6 h7 hC.1.2.2.2.2.1 hC.1.2.2.2.2.2.2.2.1 hP.1.1 (nx_D hP.1 hP.2.1) (nx_S0 hS) q0 g2 h1 k0 h3 (hC.1.2.2.2.2.2.1 _ h4) (fun _ h => h) h8 h9 hn hfit (by rw [List.length_map]; exact hk) hd (fun H1 locs1 e1 e2 hS1 => nx_sz (fun hz => ?_))
  have he : (ad a, (Sum.inr (ci, (fs.map (mh_v ad)).set k0 v) : va_E)) = (ad a, mh_e ad dA (mh_ob ci (fs.set k0 v))) := by
    show _ = (ad a, (Sum.inr (ci, (fs.set k0 v).map (mh_v ad)) : va_E))
    rw [List.map_set, hr ad]
  rw [he] at e1
  exact K ad D dA p l e s m args below meth c H1 locs1 ls hC (nx_upd hP g1 g2 _ e1 (nx_ze hP hS1 hz)) (nx_S2 hS hS1) hl
theorem nt_putF {idx ci k0 a b : Nat} {fs fs' : List Value} (hf : nx_F y.1.cls idx ci k0) (hd : decode y.2.1 pc = .ok (.putfield idx, 3)) (ha : h a = mh_ob ci fs) (hk : k0 < fs.length) (hfs : fs.set k0 (.ref b) = fs') (K : Nt y dom0 ord0 ms dom ord k n d (pc + 3) L st (mh_up h a (mh_ob ci fs')) Q) : Nt y dom0 ord0 ms dom ord k n d pc L (.ref b :: .ref a :: st) h Q := by
  intro ad D dA p l e s m args below meth c H locs ls hC hP hS hl
  subst hfs
  obtain ⟨C, T, N, ty0, ty, h1, h2, h3, h4, h5, h6, h7, h8, h9, h10, h11, h12⟩ := hf
  obtain ⟨q0, g1, g2⟩ := mx_ob hP.1 ha h5
  refine va_putF (D := D) (ci := ci) (v := .ref (ad b)) (ty := ty) (C := C) (T := T) (N := N) hC.1.1 hC.1.2.1 hC.1.2.2.2.2.2.1 h2 ty0 h6 h7 hC.1.2.2.2.2.1 hC.1.2.2.2.2.2.2.2.1 hP.1.1 (nx_D hP.1 hP.2.1) (nx_S0 hS) q0 g2 h1 k0 h3 (hC.1.2.2.2.2.2.1 _ h4) (fun _ h => h) h8 hC.2.1 h9 h10 (h11 _) (h12 _) (by rw [List.length_map]; exact hk) hd (fun H1 locs1 e1 e2 hS1 => nx_sz (fun hz => ?_))
  have he : (ad a, (Sum.inr (ci, (fs.map (mh_v ad)).set k0 (.ref (ad b))) : va_E)) = (ad a, mh_e ad dA (mh_ob ci (fs.set k0 (.ref b)))) := by
    show _ = (ad a, (Sum.inr (ci, (fs.set k0 (.ref b)).map (mh_v ad)) : va_E))
    rw [List.map_set]
    rfl
  rw [he] at e1
  exact K ad D dA p l e s m args below meth c H1 locs1 ls hC (nx_upd hP g1 g2 _ e1 (nx_ze hP hS1 hz)) (nx_S2 hS hS1) hl
theorem nt_iast {a N i0 : Nat} {f : Nat → Int32} {i x : Int32} (hd : decode y.2.1 pc = .ok (.iastore, 1)) (ha : h a = mh_ia 0 N f) (hi : vp_in i N) (h0 : i.toNatClampNeg = i0) (K : Nt y dom0 ord0 ms dom ord k n d (pc + 1) L st (mh_up h a (mh_ia 0 N (upd f i0 x))) Q) : Nt y dom0 ord0 ms dom ord k n d pc L (.int x :: .int i :: .ref a :: st) h Q := by
  intro ad D dA p l e s m args below meth c H locs ls hC hP hS hl
  subst h0
  obtain ⟨q0, g1, g2⟩ := mx_ia hP.1 ha
  refine va_iast hC.1.1 hC.1.2.1 hC.1.2.2.2.2.2.2.2.1 hP.1.1 (nx_D hP.1 hP.2.1) (nx_S0 hS) q0 0 g2 (mh_tys_at dA (by decide)) hi hd (fun H1 locs1 e1 e2 hS1 => nx_sz (fun hz => ?_))
  exact K ad D dA p l e s m args below meth c H1 locs1 ls hC (nx_upd hP g1 g2 (mh_ia 0 N (upd f i.toNatClampNeg x)) e1 (nx_ze hP hS1 hz)) (nx_S2 hS hS1) hl
def mh_gu (g : Nat → Option Nat) (i b : Nat) : Nat → Option Nat := fun j => if j = i then some b else g j
theorem nt_aast {a b t N ci i0 : Nat} {g : Nat → Option Nat} {fs : List Value} {i : Int32} {r : vw_C} (hd : decode y.2.1 pc = .ok (.aastore, 1)) (ha : h a = mh_ra t N g) (hb : h b = mh_ob ci fs) (ht : t < 5) (hc : vwCl[ci]? = some r) (hr : mh_ty t = .object r.1) (hci : ci < 99) (hi : vp_in i N) (h0 : i.toNatClampNeg = i0) (K : Nt y dom0 ord0 ms dom ord k n d (pc + 1) L st (mh_up h a (mh_ra t N (mh_gu g i0 b))) Q) : Nt y dom0 ord0 ms dom ord k n d pc L (.ref b :: .int i :: .ref a :: st) h Q := by
  intro ad D dA p l e s m args below meth c H locs ls hC hP hS hl
  subst h0
  obtain ⟨q0, g1, g2⟩ := mx_ra hP.1 ha
  obtain ⟨qk, g3, g4⟩ := mx_ob hP.1 hb hci
  refine va_astq (r := r) hC.1.1 hC.1.2.1 hC.1.2.2.2.2.2.2.2.1 hP.1.1 (nx_D hP.1 hP.2.1) (nx_S0 hS) q0 t qk ci g2 (by rw [mh_tys_at dA ht, hr]) g4 hc hi hd (fun H1 locs1 e1 e2 hS1 => nx_sz (fun hz => ?_))
  have he : va_up (fun j => (g j).map ad) i.toNatClampNeg (some (ad b)) = fun j => (mh_gu g i.toNatClampNeg b j).map ad := by
    funext j
    unfold mh_gu
    by_cases z : j = i.toNatClampNeg
    · rw [if_pos z, z, va_up_self]
      rfl
    · rw [if_neg z, va_up_ne _ _ z]
  rw [he] at e1
  exact K ad D dA p l e s m args below meth c H1 locs1 ls hC (nx_upd hP g1 g2 (mh_ra t N (mh_gu g i.toNatClampNeg b)) e1 (nx_ze hP hS1 hz)) (nx_S2 hS hS1) hl
theorem nt_aald {a t N q : Nat} {g : Nat → Option Nat} {i : Int32} (hd : decode y.2.1 pc = .ok (.aaload, 1)) (ha : h a = mh_ra t N g) (ht : 2 ≤ t ∧ t < 5) (hi : vp_in i N) (hg : g i.toNatClampNeg = some q) (K : Nt y dom0 ord0 ms dom ord k n d (pc + 1) L (.ref q :: st) h Q) : Nt y dom0 ord0 ms dom ord k n d pc L (.int i :: .ref a :: st) h Q := by
  intro ad D dA p l e s m args below meth c H locs ls hC hP hS hl
  obtain ⟨q0, g1, g2⟩ := mx_ra hP.1 ha
  obtain ⟨E, hE⟩ : ∃ E, mh_ty t = .object E := by
    rcases (show t = 2 ∨ t = 3 ∨ t = 4 by omega) with rfl | rfl | rfl <;> exact ⟨_, rfl⟩
  refine va_aldq (C := E) hC.1.1 hC.1.2.1 hC.1.2.2.2.2.2.2.2.1 hP.1.1 q0 t g2 (by rw [mh_tys_at dA (by omega), hE]) hi hd ?_
  rw [hg]
  exact (K ad D dA p l e s m args below meth c H locs ls hC hP hS hl)
theorem nt_new {idx ci N a : Nat} {fs : List Value} (hf : nx_N y.1.cls idx ci N fs) (hd : decode y.2.1 pc = .ok (.new idx, 3)) (hk : k + 1 ≤ ord0.length) (hn : n + N ≤ ms) (K : Nt y dom0 ord0 ms (dom ++ [a]) ord (k + 1) (n + N) d (pc + 3) L (.ref a :: st) (mh_up h a (mh_ob ci fs)) Q) : Nt y dom0 ord0 ms dom (a :: ord) k n d pc L st h Q := by
  intro ad D dA p l e s m args below meth c H locs ls hC hP hS hl
  obtain ⟨C, T, ty, h1, h2, h3, h4, h5, h6, h7, h8⟩ := hf
  have hKn := hC.1.2.2.2.2.2.2.2.1.1 ci _ h1
  have ha := hP.2.2.2.hd
  refine W.newcK hC.1.1 hC.1.2.1 hC.1.2.2.2.2.1 (hC.1.2.2.2.2.2.1 _ h4) (hC.1.2.2.2.2.2.1 _ h5) (hC.1.2.2.2.2.2.1 _ h6) rfl hd hk hn hKn.2.1 rfl fun H1 kC hkC e1 z1 o1 => ?_
  have K1 := K ad D dA p l e s m args below meth c H1 locs ls hC (nx_new (e := mh_ob ci fs) hP (by
    show ∃ r : vw_C, vwCl[ci]? = some r ∧ t_OB (ad a) (D.1 ci) r.2.2 (D.2 ci) H1 (vp_V (fs.map (mh_v ad)))
    rw [h8, ha]
    exact ⟨_, h1, (u_born ty hC.1.2.2.2.2.2.1 h2 hKn hkC e1 h3).to h7⟩) z1 o1) (nx_S1 hS z1 o1) hl
  rw [← ha]
  exact K1
theorem nt_newi {a N : Nat} {x : Int32} (hw : Cond.arrayClass .int ∈ tb_w) (hd : decode y.2.1 pc = .ok (.newarray .int, 2)) (hx : ¬ x < 0) (hN : x.toNatClampNeg = N) (hb : N * 4 ≤ 536870912) (hk : k + 1 ≤ ord0.length) (hn : n + N ≤ ms) (K : Nt y dom0 ord0 ms (dom ++ [a]) ord (k + 1) (n + N) d (pc + 2) L (.ref a :: st) (mh_up h a (mh_ia 0 N (fun _ => 0))) Q) : Nt y dom0 ord0 ms dom (a :: ord) k n d pc L (.int x :: st) h Q := by
  intro ad D dA p l e s m args below meth c H locs ls hC hP hS hl
  have ha := hP.2.2.2.hd
  refine va_newaK (atype := .int) hC.1.1 hC.1.2.1 (hC.1.2.2.2.2.2.1 _ hw) rfl hd rfl hx hN hb hk hn rfl fun H1 cA e1 z1 o1 hAr hNm => ?_
  have hra := (hC.1.2.2.2.2.2.2.2.1.2 0 _ (mh_tys_at dA (t := 0) (by decide))).2
  have hcA : cA = dA 0 := Option.some.inj (hNm.symm.trans hra)
  subst hcA
  have K1 := K ad D dA p l e s m args below meth c H1 locs ls hC (nx_new (e := mh_ia 0 N (fun _ => 0)) hP (by
    show H1[ad a]? = some (vp_cell (dA 0) (N, .inl (fun _ => 0)))
    rw [ha]
    exact e1) z1 o1) (nx_S1 hS z1 o1) hl
  rw [← ha]
  exact K1
theorem nt_newb {a N : Nat} {x : Int32} (hw : Cond.arrayClass .byte ∈ tb_w) (hd : decode y.2.1 pc = .ok (.newarray .byte, 2)) (hx : ¬ x < 0) (hN : x.toNatClampNeg = N) (hb : N * 1 ≤ 536870912) (hk : k + 1 ≤ ord0.length) (hn : n + N ≤ ms) (K : Nt y dom0 ord0 ms (dom ++ [a]) ord (k + 1) (n + N) d (pc + 2) L (.ref a :: st) (mh_up h a (mh_ia 1 N (fun _ => 0))) Q) : Nt y dom0 ord0 ms dom (a :: ord) k n d pc L (.int x :: st) h Q := by
  intro ad D dA p l e s m args below meth c H locs ls hC hP hS hl
  have ha := hP.2.2.2.hd
  refine va_newaK (atype := .byte) hC.1.1 hC.1.2.1 (hC.1.2.2.2.2.2.1 _ hw) rfl hd rfl hx hN hb hk hn rfl fun H1 cA e1 z1 o1 hAr hNm => ?_
  have hra := (hC.1.2.2.2.2.2.2.2.1.2 1 _ (mh_tys_at dA (t := 1) (by decide))).2
  have hcA : cA = dA 1 := Option.some.inj (hNm.symm.trans hra)
  subst hcA
  have K1 := K ad D dA p l e s m args below meth c H1 locs ls hC (nx_new (e := mh_ia 1 N (fun _ => 0)) hP (by
    show H1[ad a]? = some (vp_cell (dA 1) (N, .inl (fun _ => 0)))
    rw [ha]
    exact e1) z1 o1) (nx_S1 hS z1 o1) hl
  rw [← ha]
  exact K1
theorem nt_newq {a N t idx : Nat} {x : Int32} {E : String} (hw : Cond.classLink y.1.cls idx E ∈ tb_w) (ht : t < 5) (hE : mh_ty t = .object E) (hA : E ∈ nx_arr) (hd : decode y.2.1 pc = .ok (.anewarray idx, 3)) (hx : ¬ x < 0) (hN : x.toNatClampNeg = N) (hb : N * 4 ≤ 536870912) (hk : k + 1 ≤ ord0.length) (hn : n + N ≤ ms) (K : Nt y dom0 ord0 ms (dom ++ [a]) ord (k + 1) (n + N) d (pc + 3) L (.ref a :: st) (mh_up h a (mh_ra t N (fun _ => none))) Q) : Nt y dom0 ord0 ms dom (a :: ord) k n d pc L (.int x :: st) h Q := by
  intro ad D dA p l e s m args below meth c H locs ls hC hP hS hl
  subst hN
  have ha := hP.2.2.2.hd
  refine W.anew hC.1.1 hC.1.2.1 hC.1.2.2.2.2.1 (hC.1.2.2.2.2.2.1 _ hw) (va_AO.use (hC.2.2.2 _ hA)) rfl hd rfl hx hb hk hn fun cA kA comp f1 f2 f3 f4 => ?_
  generalize hH1 : H.push ({ cls := cA, slots := Array.replicate x.toNatClampNeg .null, vm := .none } : Cell) = H1
  have z1 : H1.size = H.size + 1 := by rw [← hH1, Array.size_push]
  have e1 : H1[H.size]? = some (arrV cA x.toNatClampNeg (fun _ => .null)) := by rw [← hH1, Array.getElem?_push_size, ← arrV_new]
  have o1 : ∀ q : Nat, q < H.size → H1[q]? = H[q]? := fun q hq => by rw [← hH1, Array.getElem?_push, if_neg (Nat.ne_of_lt hq)]
  have hra := (hC.1.2.2.2.2.2.2.2.1.2 t _ (mh_tys_at dA ht)).2
  rw [hE] at hra
  obtain ⟨kA', comp', -, -, -, hra⟩ := hra
  have hcA : cA = dA t := Option.some.inj (f1.symm.trans hra)
  subst hcA
  have K1 := K ad D dA p l e s m args below meth c H1 locs ls hC (nx_new (e := mh_ra t x.toNatClampNeg (fun _ => none)) hP (by
    show H1[ad a]? = some (vp_cell (dA t) (x.toNatClampNeg, .inr (.inr (.inr (.inr (fun _ => none))))))
    rw [ha]
    exact e1) z1 o1) (nx_S1 hS z1 o1) hl
  rw [← ha]
  exact K1
theorem nt_obj {idx a : Nat} (hw : Cond.methodLink y.1.cls idx Lib.objectInit ∈ tb_w) (hw1 : Cond.instanceMethod Lib.objectInit ∈ tb_w) (hw2 : Cond.code Lib.objectInit ⟨#[0xb1]⟩ 1 none ∈ tb_w) (hd : decode y.2.1 pc = .ok (.invokespecial idx, 3)) (hdd : 1 ≤ d) (K : Nt y dom0 ord0 ms dom ord k n d (pc + 3) L [] h Q) : Nt y dom0 ord0 ms dom ord k n d pc L [.ref a] h Q := by
  intro ad D dA p l e s m args below meth c H locs ls hC hP hS hl
  refine W.objInit hC.1.1 hC.1.2.1 hC.1.2.2.2.2.1 (hC.1.2.2.2.2.2.1 _ hw) (hC.1.2.2.2.2.2.1 _ hw1) (hC.1.2.2.2.2.2.1 _ hw2) rfl (hl.1.trans hC.1.2.2.2.1.symm) rfl hd hdd ?_ (K ad D dA p l e s m args below meth c H locs ls hC hP hS hl)
  show 2 * 0 + 0 + 12 ≤ 60 * d
  omega
theorem nt_ra {a t N : Nat} {g g' : Nat → Option Nat} (ha : h a = mh_ra t N g) (hg : ∀ i, i < N → g i = g' i) (K : Nt y dom0 ord0 ms dom ord k n d pc L st (mh_up h a (mh_ra t N g')) Q) : Nt y dom0 ord0 ms dom ord k n d pc L st h Q := by
  intro ad D dA p l e s m args below meth c H locs ls hC hP hS hl
  obtain ⟨q0, g1, g2⟩ := mx_ra hP.1 ha
  refine K ad D dA p l e s m args below meth c H locs ls hC (nx_upd hP g1 g2 (mh_ra t N g') ?_ rfl) hS hl
  refine hP.1.1.set hP.1.2.1 g2 ?_ (fun _ _ => rfl)
  show H[ad a]? = some (vp_cell (dA t) (N, .inr (.inr (.inr (.inr (fun j => (g' j).map ad))))))
  rw [show vp_cell (dA t) (N, .inr (.inr (.inr (.inr (fun j => (g' j).map ad))))) = vp_cell (dA t) (N, .inr (.inr (.inr (.inr (fun j => (g j).map ad))))) by
    rw [vp_cell_q, vp_cell_q]
    unfold arrV
    congr 2
    funext j
    dsimp only
    rw [hg j.1 j.2]]
  exact hP.1.1 q0 _ g2
theorem nt_ia {a t N : Nat} {g g' : Nat → Int32} (ha : h a = mh_ia t N g) (hg : ∀ i, i < N → g i = g' i) (K : Nt y dom0 ord0 ms dom ord k n d pc L st (mh_up h a (mh_ia t N g')) Q) : Nt y dom0 ord0 ms dom ord k n d pc L st h Q := by
  intro ad D dA p l e s m args below meth c H locs ls hC hP hS hl
  obtain ⟨q0, g1, g2⟩ := mx_ia hP.1 ha
  refine K ad D dA p l e s m args below meth c H locs ls hC (nx_upd hP g1 g2 (mh_ia t N g') ?_ rfl) hS hl
  refine hP.1.1.set hP.1.2.1 g2 ?_ (fun _ _ => rfl)
  show H[ad a]? = some (vp_cell (dA t) (N, .inl g'))
  rw [show vp_cell (dA t) (N, .inl g') = vp_cell (dA t) (N, .inl g) by
    rw [vp_cell_i, vp_cell_i]
    unfold arrV
    congr 2
    funext j
    dsimp only
    rw [hg j.1 j.2]]
  exact hP.1.1 q0 _ g2
theorem Nt.hp {h' : mh_H} (e : h = h') (K : Nt y dom0 ord0 ms dom ord k n d pc L st h' Q) : Nt y dom0 ord0 ms dom ord k n d pc L st h Q := e ▸ K
theorem nt_vret (hd : decode y.2.1 pc = .ok (.return_, 1)) (hr : y.2.2.2 = none) (hdom : dom = dom0 ++ ord0) (hk : k = ord0.length) (hn : n ≤ ms) (hq : Q h) : Nt y dom0 ord0 ms dom ord k n d pc L [] h Q := by
  intro ad D dA p l e s m args below meth c H locs ls hC hP hS hl
  subst hk
  refine W.widen (Nat.le_refl _) hn ?_
  refine W.vret hC.1.1 hC.1.2.1 (hC.1.2.2.1.trans hr) (fun t ht hW => ⟨⟨h, rfl, hq, ?_, ?_⟩, hS.F ht⟩) hS.2.2 hd hC.1.2.2.2.2.2.2.1
  · rw [ht, ← hdom]
    exact hP.1
  · rw [ht]
    exact hP.2.2.1
theorem nx_blind {dom ord : List Nat} {sz : Nat} {ad : Nat → Nat} {D : va_G} {dA : Nat → ClassId} {h : mh_H} {av : List Value} : FrameBlind (va_Pc av (fun U => (mx_P dom ad D dA h U.heap ∧ mh_K D dA U ∧ nx_K U) ∧ U.heap.size = sz ∧ nx_fr ad sz ord)) := fun a U g mk q => ⟨q.1, ⟨q.2.1.1, mh_K.same (s := U) (U := U.calling g mk a) rfl q.2.1.2.1, nx_K.same (s := U) (U := U.calling g mk a) rfl q.2.1.2.2⟩, q.2.2⟩
theorem nt_call {idx a d' msz : Nat} {ordc : List Nat} {Qc : mh_H → Prop} (hs : nx_I y.1.cls z idx) (hd : decode y.2.1 pc = .ok (.invokespecial idx, 3)) (hdd : d' + 1 ≤ d) (hcat : (st.map fun v => v.category).sum ≤ 8) (hM : Nm z dom ordc msz d' [.ref a] h Qc) (hk : k + ordc.length ≤ ord0.length) (hn : n + msz ≤ ms) (K : ∀ h', Qc h' → Nt y dom0 ord0 ms (dom ++ ordc) ord (k + ordc.length) (n + msz) d (pc + 3) L st h' Q) : Nt y dom0 ord0 ms dom (ordc ++ ord) k n d pc L (.ref a :: st) h Q := by
  intro ad D dA p l e s m args below meth c H locs ls hC hP hS hl
  obtain ⟨⟨host, s1⟩, s2, s3, s4, s5, s6, s7, s8⟩ := hs
  have hG : GoodIn tb_w (mx_ws z) := by
    intro w hw
    have : w ∈ tb_w := by
      simp only [mx_ws, List.mem_cons] at hw
      rcases hw with rfl | hw
      · rw [s6]; exact s5
      · exact hw
    exact ⟨this, tb_good this⟩
  have hfr := hP.2.2.2
  have hr := va_runIN (host := host) (g := F0 m pc ls ((.ref a :: st).map (mh_v ad))) (b := ad a) (As := []) (rest := st.map (mh_v ad)) (locs := locs) (below := below) (meth := meth) (e := e) (cells := k) (slots := n) (R := nx_rm d ord0.length ms) (H := H) (p := p) (l := l) (s := s) (m := m) (args := args) (c := c) (maxL := z.2.2.1) (bytes := z.2.1) (n := 0) ⟨hC.1.1, hC.1.2.1, hC.1.2.2.2.1, hC.1.2.2.2.2.1, hC.1.2.2.2.2.2.1⟩ (hM ad D dA l H.size) ⟨va_cnB 0 hC.1.2.2.2.2.2.1 hG (by rw [← s6]; rfl) rfl rfl (hC.2.2.1 _ s1) (hC.1.2.2.2.2.2.1 _ s4) s7 (mx_rmle hdd s8), s2, hC.1.2.2.2.2.2.1 _ s3⟩ ⟨nx_blind, fun U hU hW => ⟨rfl, ⟨by rw [hU]; exact hP.1, hC.1.2.2.2.2.2.2.2.warm hW, hC.2.2.warm hW⟩, by rw [hU], hfr.l⟩⟩ rfl rfl hl.1 rfl (lv_room (by rw [mx_cat]; exact hcat)) hd ⟨hk, hn⟩
  intro T hT X
  obtain ⟨v, st₀, t, T', Lo, h0, X', hL, e1, e2, ⟨⟨h', hv, hq, hw, hsz⟩, hz, hkk⟩, stp⟩ := hr T hT X
  cases hv
  rw [h0] at hz hkk hsz
  have hle : s.heap.size ≤ H.size := hS.1
  have hsub := nx_sub hP.2.1 hle
  have hsT : T'.heap.size = H.size + ordc.length := by rw [e1]; exact hsz
  obtain ⟨t2, a1, b1⟩ := K h' hq ad D dA p l e s m args below meth c T'.heap (locs ++ Lo) ls hC ⟨by rw [e1]; exact hw, fun j hj => by
      rcases List.mem_append.mp hj with q | q
      · exact hP.2.1 j q
      · exact Or.inr (Nat.le_trans hle (hfr.l.ge q)), by rw [hsT, hP.2.2.1]; omega, by rw [hsT]; exact hfr.r⟩ ⟨Nat.le_trans hS.1 (by rw [e1]; exact hz), fun q h1 h2 => by rw [e1, hkk q (Nat.lt_of_lt_of_le h1 hS.1) (fun z => h2 (hsub q z))]; exact hS.2.1 q h1 h2, fun q hq => by
      rcases List.mem_append.mp hq with h | h
      · exact hS.2.2 q h
      · exact hsub _ (hL q h)⟩ hl T' rfl X'
  exact ⟨t2, stp t2 a1, b1⟩
end NX
