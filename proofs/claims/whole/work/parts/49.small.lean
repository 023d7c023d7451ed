set_option maxHeartbeats 4000000 in
set_option maxRecDepth 100000 in
theorem c_X3_init (dom : List Nat) (h : mh_H) (a : Nat) (ha : h a = mh_ob 3 [.int 0, .int 0, .int 0, .int 0, .int 0])  : Nm mX3_init dom [] 0 1 [.ref a] h (fun h' => h' = (mh_up h a (mh_ob 3 [.int 0, .int 0, .int 0, .int 0, .int 0]))) := by
  refine Nm.of (L := [some (.ref a)]) rfl rfl (Nat.le_of_ble_eq_true rfl) rfl ?_
  refine nt_aload (pc := 0) dX3_init_0 rfl ?_
  refine nt_obj (pc := 1) tx_100 tx_63 tx_64 dX3_init_1 (by decide) ?_
  refine nt_aload (pc := 4) dX3_init_4 rfl ?_
  refine nt_iconst (pc := 5) (v := 0) dX3_init_5 (by decide) ?_
  refine nt_put (pc := 6) (fs := [.int 0, .int 0, .int 0, .int 0, .int 0]) (fs' := [.int 0, .int 0, .int 0, .int 0, .int 0]) gX3_9 dX3_init_6 (ha) rfl rfl (fun _ => rfl) (Nat.le_of_ble_eq_true rfl) rfl ?_
  refine nt_aload (pc := 9) dX3_init_9 rfl ?_
  refine nt_iconst (pc := 10) (v := 0) dX3_init_10 (by decide) ?_
  refine nt_put (pc := 11) (fs := [.int 0, .int 0, .int 0, .int 0, .int 0]) (fs' := [.int 0, .int 0, .int 0, .int 0, .int 0]) gX3_15 dX3_init_11 (mh_up_s) rfl rfl (fun _ => rfl) (Nat.le_of_ble_eq_true rfl) rfl ?_
  refine nt_aload (pc := 14) dX3_init_14 rfl ?_
  refine nt_iconst (pc := 15) (v := 0) dX3_init_15 (by decide) ?_
  refine nt_put (pc := 16) (fs := [.int 0, .int 0, .int 0, .int 0, .int 0]) (fs' := [.int 0, .int 0, .int 0, .int 0, .int 0]) gX3_18 dX3_init_16 (mh_up_s) rfl rfl (fun _ => rfl) (Nat.le_of_ble_eq_true rfl) rfl ?_
  refine nt_aload (pc := 19) dX3_init_19 rfl ?_
  refine nt_iconst (pc := 20) (v := 0) dX3_init_20 (by decide) ?_
  refine nt_put (pc := 21) (fs := [.int 0, .int 0, .int 0, .int 0, .int 0]) (fs' := [.int 0, .int 0, .int 0, .int 0, .int 0]) gX3_21 dX3_init_21 (mh_up_s) rfl rfl (fun _ => rfl) (Nat.le_of_ble_eq_true rfl) rfl ?_
  refine nt_aload (pc := 24) dX3_init_24 rfl ?_
  refine nt_iconst (pc := 25) (v := 0) dX3_init_25 (by decide) ?_
  refine nt_put (pc := 26) (fs := [.int 0, .int 0, .int 0, .int 0, .int 0]) (fs' := [.int 0, .int 0, .int 0, .int 0, .int 0]) gX3_25 dX3_init_26 (mh_up_s) rfl rfl (fun _ => rfl) (Nat.le_of_ble_eq_true rfl) rfl ?_
  refine nt_vret dX3_init_29 rfl (by simp only [List.append_assoc, List.cons_append, List.nil_append, List.append_nil]) rfl (by decide) ?_
  funext q
  simp only [mh_up]
  repeat' split
  all_goals first | rfl | (exfalso; omega) | (subst_vars; first | rfl | (exfalso; omega))
set_option maxHeartbeats 4000000 in
set_option maxRecDepth 100000 in
theorem c_X2_init (dom : List Nat) (h : mh_H) (a b : Nat) (ha : h a = mh_ob 2 [.null, .int 0]) (ne0 : a ≠ b) : Nm mX2_init dom [b] 60 1 [.ref a] h (fun h' => h' = (mh_up (mh_up h b (mh_ia 0 60 (fun _ => 0))) a (mh_ob 2 [.ref b, .int (-1)]))) := by
  refine Nm.of (L := [some (.ref a)]) rfl rfl (Nat.le_of_ble_eq_true rfl) rfl ?_
  refine nt_aload (pc := 0) dX2_init_0 rfl ?_
  refine nt_obj (pc := 1) tx_147 tx_63 tx_64 dX2_init_1 (by decide) ?_
  refine nt_aload (pc := 4) dX2_init_4 rfl ?_
  refine nt_bipush (pc := 5) (v := 60) dX2_init_5 (by decide) ?_
  refine nt_newi (pc := 7) (a := b) (N := 60) tx_94 dX2_init_7 (by decide) (by decide) (by decide) (Nat.le_of_ble_eq_true rfl) (Nat.le_of_ble_eq_true rfl) ?_
  refine nt_putF (pc := 9) (fs := [.null, .int 0]) (fs' := [.ref b, .int 0]) nfX2_9 dX2_init_9 ((mh_up_n (by omega)).trans (ha)) (Nat.le_of_ble_eq_true rfl) rfl ?_
  refine nt_aload (pc := 12) dX2_init_12 rfl ?_
  refine nt_iconst (pc := 13) (v := -1) dX2_init_13 (by decide) ?_
  refine nt_put (pc := 14) (fs := [.ref b, .int 0]) (fs' := [.ref b, .int (-1)]) gX2_15 dX2_init_14 (mh_up_s) rfl rfl (fun _ => rfl) (Nat.le_of_ble_eq_true rfl) rfl ?_
  refine nt_vret dX2_init_17 rfl (by simp only [List.append_assoc, List.cons_append, List.nil_append, List.append_nil]) rfl (by decide) ?_
  funext q
  simp only [mh_up]
  repeat' split
  all_goals first | rfl | (exfalso; omega) | (subst_vars; first | rfl | (exfalso; omega))
set_option maxHeartbeats 4000000 in
set_option maxRecDepth 100000 in
theorem c_X1_init (dom : List Nat) (h : mh_H) (a b c : Nat) (ha : h a = mh_ob 1 [.null, .null, .int 0]) (ne0 : a ≠ b) (ne1 : a ≠ c) (ne2 : b ≠ c) : Nm mX1_init dom [b, c] 80 1 [.ref a] h (fun h' => h' = (mh_up (mh_up (mh_up h b (mh_ia 0 40 (fun _ => 0))) c (mh_ia 0 40 (fun _ => 0))) a (mh_ob 1 [.ref b, .ref c, .int 0]))) := by
  refine Nm.of (L := [some (.ref a)]) rfl rfl (Nat.le_of_ble_eq_true rfl) rfl ?_
  refine nt_aload (pc := 0) dX1_init_0 rfl ?_
  refine nt_obj (pc := 1) tx_127 tx_63 tx_64 dX1_init_1 (by decide) ?_
  refine nt_aload (pc := 4) dX1_init_4 rfl ?_
  refine nt_bipush (pc := 5) (v := 40) dX1_init_5 (by decide) ?_
  refine nt_newi (pc := 7) (a := b) (N := 40) tx_94 dX1_init_7 (by decide) (by decide) (by decide) (Nat.le_of_ble_eq_true rfl) (Nat.le_of_ble_eq_true rfl) ?_
  refine nt_putF (pc := 9) (fs := [.null, .null, .int 0]) (fs' := [.ref b, .null, .int 0]) nfX1_9 dX1_init_9 ((mh_up_n (by omega)).trans (ha)) (Nat.le_of_ble_eq_true rfl) rfl ?_
  refine nt_aload (pc := 12) dX1_init_12 rfl ?_
  refine nt_bipush (pc := 13) (v := 40) dX1_init_13 (by decide) ?_
  refine nt_newi (pc := 15) (a := c) (N := 40) tx_94 dX1_init_15 (by decide) (by decide) (by decide) (Nat.le_of_ble_eq_true rfl) (Nat.le_of_ble_eq_true rfl) ?_
  refine nt_putF (pc := 17) (fs := [.ref b, .null, .int 0]) (fs' := [.ref b, .ref c, .int 0]) nfX1_15 dX1_init_17 ((mh_up_n (by omega)).trans (mh_up_s)) (Nat.le_of_ble_eq_true rfl) rfl ?_
  refine nt_aload (pc := 20) dX1_init_20 rfl ?_
  refine nt_iconst (pc := 21) (v := 0) dX1_init_21 (by decide) ?_
  refine nt_put (pc := 22) (fs := [.ref b, .ref c, .int 0]) (fs' := [.ref b, .ref c, .int 0]) gX1_18 dX1_init_22 (mh_up_s) rfl rfl (fun _ => rfl) (Nat.le_of_ble_eq_true rfl) rfl ?_
  refine nt_vret dX1_init_25 rfl (by simp only [List.append_assoc, List.cons_append, List.nil_append, List.append_nil]) rfl (by decide) ?_
  funext q
  simp only [mh_up]
  repeat' split
  all_goals first | rfl | (exfalso; omega) | (subst_vars; first | rfl | (exfalso; omega))
set_option maxHeartbeats 4000000 in
set_option maxRecDepth 100000 in
theorem c_X0_init (dom : List Nat) (h : mh_H) (a b c e : Nat) (ha : h a = mh_ob 0 [.null, .null, .null, .int 0, .int 0]) (ne0 : a ≠ b) (ne1 : a ≠ c) (ne2 : a ≠ e) (ne3 : b ≠ c) (ne4 : b ≠ e) (ne5 : c ≠ e) : Nm mX0_init dom [b, c, e] 27 1 [.ref a] h (fun h' => h' = (mh_up (mh_up (mh_up (mh_up h b (mh_ia 0 9 (fun _ => 0))) c (mh_ia 0 9 (fun _ => 0))) e (mh_ia 0 9 (fun _ => 0))) a (mh_ob 0 [.ref b, .ref c, .ref e, .int 0, .int 0]))) := by
  refine Nm.of (L := [some (.ref a)]) rfl rfl (Nat.le_of_ble_eq_true rfl) rfl ?_
  refine nt_aload (pc := 0) dX0_init_0 rfl ?_
  refine nt_obj (pc := 1) tx_72 tx_63 tx_64 dX0_init_1 (by decide) ?_
  refine nt_aload (pc := 4) dX0_init_4 rfl ?_
  refine nt_bipush (pc := 5) (v := 9) dX0_init_5 (by decide) ?_
  refine nt_newi (pc := 7) (a := b) (N := 9) tx_94 dX0_init_7 (by decide) (by decide) (by decide) (Nat.le_of_ble_eq_true rfl) (Nat.le_of_ble_eq_true rfl) ?_
  refine nt_putF (pc := 9) (fs := [.null, .null, .null, .int 0, .int 0]) (fs' := [.ref b, .null, .null, .int 0, .int 0]) nfX0_9 dX0_init_9 ((mh_up_n (by omega)).trans (ha)) (Nat.le_of_ble_eq_true rfl) rfl ?_
  refine nt_aload (pc := 12) dX0_init_12 rfl ?_
  refine nt_bipush (pc := 13) (v := 9) dX0_init_13 (by decide) ?_
  refine nt_newi (pc := 15) (a := c) (N := 9) tx_94 dX0_init_15 (by decide) (by decide) (by decide) (Nat.le_of_ble_eq_true rfl) (Nat.le_of_ble_eq_true rfl) ?_
  refine nt_putF (pc := 17) (fs := [.ref b, .null, .null, .int 0, .int 0]) (fs' := [.ref b, .ref c, .null, .int 0, .int 0]) nfX0_15 dX0_init_17 ((mh_up_n (by omega)).trans (mh_up_s)) (Nat.le_of_ble_eq_true rfl) rfl ?_
  refine nt_aload (pc := 20) dX0_init_20 rfl ?_
  refine nt_bipush (pc := 21) (v := 9) dX0_init_21 (by decide) ?_
  refine nt_newi (pc := 23) (a := e) (N := 9) tx_94 dX0_init_23 (by decide) (by decide) (by decide) (Nat.le_of_ble_eq_true rfl) (Nat.le_of_ble_eq_true rfl) ?_
  refine nt_putF (pc := 25) (fs := [.ref b, .ref c, .null, .int 0, .int 0]) (fs' := [.ref b, .ref c, .ref e, .int 0, .int 0]) nfX0_18 dX0_init_25 ((mh_up_n (by omega)).trans (mh_up_s)) (Nat.le_of_ble_eq_true rfl) rfl ?_
  refine nt_aload (pc := 28) dX0_init_28 rfl ?_
  refine nt_iconst (pc := 29) (v := 0) dX0_init_29 (by decide) ?_
  refine nt_put (pc := 30) (fs := [.ref b, .ref c, .ref e, .int 0, .int 0]) (fs' := [.ref b, .ref c, .ref e, .int 0, .int 0]) gX0_21 dX0_init_30 (mh_up_s) rfl rfl (fun _ => rfl) (Nat.le_of_ble_eq_true rfl) rfl ?_
  refine nt_aload (pc := 33) dX0_init_33 rfl ?_
  refine nt_iconst (pc := 34) (v := 0) dX0_init_34 (by decide) ?_
  refine nt_put (pc := 35) (fs := [.ref b, .ref c, .ref e, .int 0, .int 0]) (fs' := [.ref b, .ref c, .ref e, .int 0, .int 0]) gX0_25 dX0_init_35 (mh_up_s) rfl rfl (fun _ => rfl) (Nat.le_of_ble_eq_true rfl) rfl ?_
  refine nt_vret dX0_init_38 rfl (by simp only [List.append_assoc, List.cons_append, List.nil_append, List.append_nil]) rfl (by decide) ?_
  funext q
  simp only [mh_up]
  repeat' split
  all_goals first | rfl | (exfalso; omega) | (subst_vars; first | rfl | (exfalso; omega))
