/-! Every call keeps the invariant -/
section IVK
variable {s : sg}
theorem IV.rows {c : Nat → Nat → Int32} (h : IV s) : IV (u_rows s (s_rz s) c) := h
theorem IV.texts {c : Nat → Nat → Int32} (h : IV s) : IV (u_texts s (s_tz s) c) := h
theorem IV.rowz {c : Nat → Nat → Int32} {r : Nat} {n : Int32} (h : IV s) (hn : n = -1 ∨ ∃ m, m ≤ 40 ∧ n = nI m) : IV (u_rows s (va_fn (s_rz s) r n) c) := by
  refine ⟨fun q hq => ?_, h.2⟩
  show va_fn (s_rz s) r n q = -1 ∨ ∃ m, m ≤ 40 ∧ va_fn (s_rz s) r n q = nI m
  by_cases e : q = r
  · subst e; rw [va_fn_s]; exact hn
  · rw [va_fn_n e]; exact h.1 q hq
theorem IV.textz {c : Nat → Nat → Int32} {r : Nat} {n : Int32} (h : IV s) (hn : n = -1 ∨ ∃ m, m ≤ 60 ∧ n = nI m) : IV (u_texts s (va_fn (s_tz s) r n) c) := by
  refine ⟨h.1, fun q hq => ?_, h.2.2⟩
  show va_fn (s_tz s) r n q = -1 ∨ ∃ m, m ≤ 60 ∧ va_fn (s_tz s) r n q = nI m
  by_cases e : q = r
  · subst e; rw [va_fn_s]; exact hn
  · rw [va_fn_n e]; exact h.2.1 q hq
theorem iv_rg {n M : Int32} {k j : Nat} (hM : M.toInt = k) (h1 : ¬ n < 0) (h2 : n ≤ M) (hk : k ≤ j) : n = -1 ∨ ∃ m, m ≤ j ∧ n = nI m := by
  obtain ⟨m, hm, e⟩ := nI_of2 hM h1 h2
  exact Or.inr ⟨m, Nat.le_trans hm hk, e⟩
theorem iv_n1 {n : Int32} (h : 1 ≤ n) : ¬ n < 0 := Int32.not_lt.mpr (Int32.le_trans (by decide) h)
theorem iv_tz (hv : IV s) {r : Int32} (hr : 0 ≤ r ∧ r ≤ 3) : (s_tz s r.toNatClampNeg).toNatClampNeg ≤ 60 := by
  obtain ⟨j, hj, rfl⟩ := nI_of2 (n := 3) (M := 3) rfl (Int32.not_lt.mpr hr.1) hr.2
  rw [ni_cl (by omega)]
  rcases hv.2.1 j (by omega) with e | ⟨m, hm, e⟩
  · rw [e]; decide
  · rw [e, ni_cl (by omega)]; exact hm
theorem iv_row {r n : Int32} (hv : IV s) : IV (sp_row s r n).2 := by
  unfold sp_row
  split
  · exact hv
  · split
    · exact hv.fnd
    · rename_i h1 h2
      exact hv.rowz (iv_rg (M := 40) (k := 40) rfl h2 (Int32.not_lt.mp (fun z => h1 (Or.inr z))) (Nat.le_refl _))
theorem iv_lay {r i v : Int32} (hv : IV s) : IV (sp_lay s r i v).2 := by
  unfold sp_lay
  split
  · exact hv
  · split
    · exact hv.fnd
    · split
      · exact hv.fnd
      · exact hv
theorem iv_at {r i : Int32} (hv : IV s) : IV (sp_at s r i).2 := by
  unfold sp_at
  split
  · exact hv
  · split
    · exact hv.fnd
    · split
      · exact hv.fnd
      · exact hv.ask
theorem iv_tear {r : Int32} (hv : IV s) : IV (sp_tear s r).2 := by
  unfold sp_tear
  split
  · exact hv
  · split
    · exact hv.fnd
    · exact hv.rowz (Or.inl rfl)
theorem iv_copy {r i t j n : Int32} (hv : IV s) : IV (sp_copy s r i t j n).2 := by
  unfold sp_copy
  split
  · exact hv
  · split
    · exact hv.fnd
    · split
      · exact hv.fnd
      · split
        · exact hv.fnd
        · exact hv.rows
theorem iv_mean {r : Int32} (hv : IV s) : IV (sp_mean s r).2 := by
  unfold sp_mean
  split
  · exact hv
  · split
    · exact hv.fnd
    · split
      · exact hv.fnd
      · exact hv.ask
theorem iv_text {r n : Int32} (hv : IV s) : IV (sp_text s r n).2 := by
  unfold sp_text
  split
  · exact hv
  · split
    · exact hv.fnd
    · rename_i h1 h2
      exact hv.textz (iv_rg (M := 60) (k := 60) rfl h2 (Int32.not_lt.mp (fun z => h1 (Or.inr z))) (Nat.le_refl _))
theorem iv_put {r i v : Int32} (hv : IV s) : IV (sp_put s r i v).2 := by
  unfold sp_put
  split
  · exact hv
  · split
    · exact hv.fnd
    · split
      · exact hv.fnd
      · exact hv.texts
theorem iv_fault {r : Int32} (hv : IV s) : IV (sp_fault s r).2 := by
  unfold sp_fault
  split
  · exact hv
  · split
    · exact hv.fnd
    · exact hv
theorem iv_leat {r : Int32} (hv : IV s) : IV (sp_leat s r).2 := by
  unfold sp_leat
  split
  · exact hv
  · split
    · exact hv.fnd
    · split
      · exact hv
      · rename_i h1 h2 h3
        have ok := rd_ok (f := s_tc s r.toNatClampNeg) (iv_tz hv (Decidable.not_not.mp h1)) (s_tz s r.toNatClampNeg).toNatClampNeg (0, (s_D s).2.1, (s_D s).2.2.1, (s_D s).2.2.2) 0 (by omega) (Nat.zero_le _) hv.2.2.1.2.2 (Decidable.not_not.mp h3)
        refine ⟨hv.1, hv.2.1, ⟨ok.2.1, ?_, ok.2.2⟩, ⟨Nat.zero_le _, fun d hd => absurd hd List.not_mem_nil, fun _ => rfl⟩, fun k hk ds hds => ?_⟩
        · intro z
          have := ok.1
          have z : (sp_rd (s_tc s r.toNatClampNeg) (s_tz s r.toNatClampNeg).toNatClampNeg (s_tz s r.toNatClampNeg).toNatClampNeg (0, (s_D s).2.1, (s_D s).2.2.1, (s_D s).2.2.2) 0).1 = 1 := z
          omega
        · have z : (none : Option (List (Nat × Nat))) = some ds := hds
          cases z
theorem iv_day {k q : Int32} (hv : IV s) : IV (sp_day s k q).2 := by
  unfold sp_day
  split
  · exact hv
  · exact hv.ask
theorem iv_mark {k q : Int32} (hv : IV s) : IV (sp_mark s k q).2 := by
  unfold sp_mark
  split
  · exact hv
  · split
    · exact hv.fnd
    · exact hv
theorem iv_grinds {k t c : Int32} (hv : IV s) : IV (sp_grinds s k t c).2 := by
  unfold sp_grinds
  split
  · exact hv
  · exact hv
theorem iv_40 (hv : IV s) (h : ¬ (s_ds s).length = 40) : (s_ds s).length < 40 := Nat.lt_of_le_of_ne hv.2.2.2.1.1 h
theorem iv_step (hv : IV s) : IV (sp_step s).2 := by
  unfold sp_step
  split
  · exact hv
  · split
    · exact hv
    · rename_i h1 h2
      exact (hv.do h1 (iv_40 hv h2) ⟨Nat.zero_le _, fun z => absurd z (by decide), fun z => absurd z (by decide)⟩).ask
theorem iv_hatch {t : Int32} (hv : IV s) : IV (sp_hatch s t).2 := by
  unfold sp_hatch
  split
  · exact hv
  · split
    · exact hv
    · split
      · exact hv
      · rename_i h1 h2 h3
        have h1 := Decidable.not_not.mp h1
        obtain ⟨j, hj, rfl⟩ := nI_of2 (n := 4) (M := 4) rfl (Int32.not_lt.mpr h1.1) h1.2
        refine hv.do (fun z => h2 (Or.inl z)) (iv_40 hv h3) ⟨by show 2 ≤ 3; decide, fun _ => ?_, fun z => absurd (show 2 = 3 from z) (by decide)⟩
        show (nI j).toNatClampNeg ≤ 4
        rw [ni_cl (by omega)]
        exact hj
theorem iv_rake (hv : IV s) : IV (sp_rake s).2 := by
  unfold sp_rake
  split
  · exact hv
  · split
    · exact hv
    · rename_i h1 h2
      exact hv.do (fun z => h1 (Or.inl z)) (iv_40 hv h2) ⟨by show 1 ≤ 3; decide, fun z => absurd z (by decide), fun z => absurd z (by decide)⟩
theorem iv_fish {k : Int32} (hv : IV s) : IV (sp_fish s k).2 := by
  unfold sp_fish
  split
  · exact hv
  · split
    · exact hv
    · split
      · exact hv
      · rename_i h1 h2 h3
        obtain ⟨j, hj, rfl, h9, -⟩ := hv.d (Decidable.not_not.mp h1)
        refine hv.do (by omega) (iv_40 hv h3) ⟨Nat.le_refl _, fun z => absurd (show 3 = 2 from z) (by decide), fun _ => ?_⟩
        show (nI j).toNatClampNeg < _
        rw [ni_cl (by omega)]
        exact hj
theorem iv_undo {n : Int32} (hv : IV s) : IV (sp_undo s n).2 := by
  unfold sp_undo
  split
  · exact hv
  · obtain ⟨v1, v2, v3, v4, v5⟩ := hv
    refine ⟨v1, v2, v3, ⟨?_, fun d hd => v4.2.1 d (List.mem_of_mem_take hd), fun z => ?_⟩, v5⟩
    · show ((s_ds s).take n.toNatClampNeg).length ≤ 40
      rw [List.length_take]
      exact Nat.le_trans (Nat.min_le_right _ _) v4.1
    · show (s_ds s).take n.toNatClampNeg = []
      rw [v4.2.2 z, List.take_nil]
theorem iv_keep {k : Int32} (hv : IV s) : IV (sp_keep s k).2 := by
  unfold sp_keep
  split
  · exact hv
  · split
    · exact hv
    · rename_i h1 h2
      obtain ⟨v1, v2, v3, v4, v5⟩ := hv
      refine ⟨v1, v2, v3, v4, fun q hq ds hds => ?_⟩
      have hds : va_fn (s_kp s) k.toNatClampNeg (some (s_ds s)) q = some ds := hds
      by_cases e : q = k.toNatClampNeg
      · rw [e, va_fn_s] at hds
        cases hds
        exact ⟨v4.1, v4.2.1, h2⟩
      · rw [va_fn_n e] at hds
        exact v5 q hq ds hds
theorem iv_on {k : Int32} (hv : IV s) : IV (sp_on s k).2 := by
  unfold sp_on
  split
  · exact hv
  · rename_i h1
    have h1 := Decidable.not_not.mp h1
    obtain ⟨j, hj, rfl⟩ := nI_of2 (n := 2) (M := 2) rfl (Int32.not_lt.mpr h1.1) h1.2
    rw [ni_cl (by omega)]
    split
    · exact hv.fnd
    · rename_i ds hds
      obtain ⟨v1, v2, v3, v4, v5⟩ := hv
      have w := v5 j (by omega) ds hds
      exact ⟨v1, v2, v3, ⟨w.1, w.2.1, fun z => absurd z w.2.2⟩, v5⟩
theorem iv_mill {n : Int32} (hv : IV s) : IV (sp_mill s n).2 := by
  unfold sp_mill
  split
  · exact hv
  · split
    · exact hv
    · exact hv.ask
theorem iv_tn (hv : IV s) : ∀ n j, IV (sp_tn s n j).2
  | 0, _ => hv
  | n + 1, j => by
    unfold sp_tn
    split
    · exact hv.ask
    · exact iv_tn hv n (j + 1)
theorem iv_turns (hv : IV s) : IV (sp_turns s).2 := by
  unfold sp_turns
  split
  · exact hv
  · exact iv_tn hv 60 0
theorem iv_book {n r : Int32} (hv : IV s) : IV (sp_book s n r).2 := by
  unfold sp_book
  split
  · exact hv
  · split
    · exact hv
    · rename_i h1 h2
      have h3 : 1 ≤ n ∧ n ≤ 20 := Decidable.not_not.mp (fun z => h1 (Or.inl z))
      exact hv.rowz (iv_rg (M := 20) (k := 20) rfl (iv_n1 h3.1) h3.2 (by decide))
theorem iv_best {n : Int32} (hv : IV s) : IV (sp_best s n).2 := by
  unfold sp_best
  split
  · exact hv
  · split
    · exact hv
    · exact hv.ask
theorem iv_plan {n r : Int32} (hv : IV s) : IV (sp_plan s n r).2 := by
  unfold sp_plan
  split
  · exact hv
  · split
    · exact hv
    · rename_i h1 h2
      have h3 : 1 ≤ n ∧ n ≤ 5 := Decidable.not_not.mp (fun z => h1 (Or.inl z))
      exact hv.rowz (iv_rg (M := 5) (k := 5) rfl (iv_n1 h3.1) h3.2 (by decide))
theorem iv_rakes {n v : Int32} (hv : IV s) : IV (sp_rakes s n v).2 := by
  unfold sp_rakes
  split
  · exact hv
  · split
    · exact hv
    · split
      · exact hv
      · exact hv.ask
theorem iv_fishes {n : Int32} (hv : IV s) : IV (sp_fishes s n).2 := by
  unfold sp_fishes
  split
  · exact hv
  · split
    · exact hv
    · split
      · exact hv
      · exact hv.ask
theorem iv_where {r : Int32} (hv : IV s) : IV (sp_where s r).2 := by
  unfold sp_where
  split
  · exact hv
  · split
    · exact hv
    · split
      · exact hv.fnd
      · exact hv
theorem iv_flows {k r : Int32} (hv : IV s) : IV (sp_flows s k r).2 := by
  unfold sp_flows
  split
  · exact hv
  · split
    · exact hv.fnd
    · exact hv
theorem iv_kinds {k r : Int32} (hv : IV s) : IV (sp_kinds s k r).2 := by
  unfold sp_kinds
  split
  · exact hv
  · split
    · exact hv.fnd
    · exact hv
theorem iv_look {k : Int32} (hv : IV s) : IV (sp_look s k).2 := by
  unfold sp_look
  split
  · exact hv
  · exact hv.ask
theorem iv_duel {n : Int32} (hv : IV s) : IV (sp_duel s n).2 := by
  unfold sp_duel
  split
  · exact hv
  · split
    · exact hv
    · exact hv
theorem iv_odds {v p : Int32} (hv : IV s) : IV (sp_odds s v p).2 := by
  unfold sp_odds
  split
  · exact hv
  · split
    · exact hv
    · exact hv.tell
theorem iv_mid {p : Int32} (hv : IV s) : IV (sp_mid s p).2 := by
  unfold sp_mid
  split
  · exact hv
  · split
    · exact hv
    · exact hv.tell
theorem iv_lots {n x : Int32} (hv : IV s) : IV (sp_lots s n x).2 := by
  unfold sp_lots
  split
  · exact hv
  · split
    · exact hv
    · split
      · exact hv
      · rename_i h1 h2 h3
        exact hv.ls h2 _ _ (by omega)
theorem iv_count {q : Int32} (hv : IV s) : IV (sp_count s q).2 := by
  unfold sp_count
  split
  · exact hv
  · exact hv
theorem iv_findings {f : Int32} (hv : IV s) : IV (sp_findings s f).2 := by
  unfold sp_findings
  split
  · exact hv
  · exact hv
/-- a new object -/
def s_new : sg := (fun _ => -1, fun _ _ => 0, fun _ => -1, fun _ _ => 0, (0, fun _ => 0, fun _ => 0, fun _ => 0), [], fun _ => none, 0, 0, 1, 0, fun _ => 0)
theorem iv_new : IV s_new := ⟨fun _ _ => Or.inl rfl, fun _ _ => Or.inl rfl, ⟨Nat.zero_le _, fun z => absurd (show 0 = 1 from z) (by decide), fun _ _ => ⟨show 0 < 6 by decide, show 0 < 10 by decide, show 0 < 10 by decide⟩⟩, ⟨Nat.zero_le _, fun _ h => absurd h List.not_mem_nil, fun _ => rfl⟩, fun _ _ _ h => by cases h⟩
end IVK
