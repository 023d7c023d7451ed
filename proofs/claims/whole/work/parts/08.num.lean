theorem z_0 : (0 : Int32).toInt = 0 := by decide
theorem z_1 : (1 : Int32).toInt = 1 := by decide
theorem z_2 : (2 : Int32).toInt = 2 := by decide
theorem z_3 : (3 : Int32).toInt = 3 := by decide
theorem z_4 : (4 : Int32).toInt = 4 := by decide
theorem z_5 : (5 : Int32).toInt = 5 := by decide
theorem z_6 : (6 : Int32).toInt = 6 := by decide
theorem z_7 : (7 : Int32).toInt = 7 := by decide
theorem z_8 : (8 : Int32).toInt = 8 := by decide
theorem z_9 : (9 : Int32).toInt = 9 := by decide
theorem z_10 : (10 : Int32).toInt = 10 := by decide
theorem z_11 : (11 : Int32).toInt = 11 := by decide
theorem z_12 : (12 : Int32).toInt = 12 := by decide
theorem z_13 : (13 : Int32).toInt = 13 := by decide
theorem z_14 : (14 : Int32).toInt = 14 := by decide
theorem z_15 : (15 : Int32).toInt = 15 := by decide
theorem z_16 : (16 : Int32).toInt = 16 := by decide
theorem z_17 : (17 : Int32).toInt = 17 := by decide
theorem z_18 : (18 : Int32).toInt = 18 := by decide
theorem z_19 : (19 : Int32).toInt = 19 := by decide
theorem z_20 : (20 : Int32).toInt = 20 := by decide
theorem z_32 : (32 : Int32).toInt = 32 := by decide
theorem z_40 : (40 : Int32).toInt = 40 := by decide
theorem z_48 : (48 : Int32).toInt = 48 := by decide
theorem z_57 : (57 : Int32).toInt = 57 := by decide
theorem z_60 : (60 : Int32).toInt = 60 := by decide
theorem z_61 : (61 : Int32).toInt = 61 := by decide
theorem z_99 : (99 : Int32).toInt = 99 := by decide
theorem z_100 : (100 : Int32).toInt = 100 := by decide
theorem z_400 : (400 : Int32).toInt = 400 := by decide
theorem z_1000 : (1000 : Int32).toInt = 1000 := by decide
theorem z_m1 : (-1 : Int32).toInt = -1 := by decide
theorem z_m2 : (-2 : Int32).toInt = -2 := by decide
theorem z_m3 : (-3 : Int32).toInt = -3 := by decide
theorem z_m4 : (-4 : Int32).toInt = -4 := by decide
theorem z_m6 : (-6 : Int32).toInt = -6 := by decide
theorem z_m9 : (-9 : Int32).toInt = -9 := by decide
theorem n_0 : (0 : Int32) = nI 0 := rfl
theorem n_1 : (1 : Int32) = nI 1 := rfl
theorem n_2 : (2 : Int32) = nI 2 := rfl
theorem n_3 : (3 : Int32) = nI 3 := rfl
theorem n_4 : (4 : Int32) = nI 4 := rfl
theorem n_5 : (5 : Int32) = nI 5 := rfl
theorem n_6 : (6 : Int32) = nI 6 := rfl
theorem n_7 : (7 : Int32) = nI 7 := rfl
theorem n_8 : (8 : Int32) = nI 8 := rfl
theorem n_9 : (9 : Int32) = nI 9 := rfl
theorem n_10 : (10 : Int32) = nI 10 := rfl
theorem n_11 : (11 : Int32) = nI 11 := rfl
theorem n_12 : (12 : Int32) = nI 12 := rfl
theorem n_13 : (13 : Int32) = nI 13 := rfl
theorem n_14 : (14 : Int32) = nI 14 := rfl
theorem n_15 : (15 : Int32) = nI 15 := rfl
theorem n_16 : (16 : Int32) = nI 16 := rfl
theorem n_17 : (17 : Int32) = nI 17 := rfl
theorem n_18 : (18 : Int32) = nI 18 := rfl
theorem n_19 : (19 : Int32) = nI 19 := rfl
theorem n_20 : (20 : Int32) = nI 20 := rfl
theorem n_32 : (32 : Int32) = nI 32 := rfl
theorem n_40 : (40 : Int32) = nI 40 := rfl
theorem n_48 : (48 : Int32) = nI 48 := rfl
theorem n_57 : (57 : Int32) = nI 57 := rfl
theorem n_60 : (60 : Int32) = nI 60 := rfl
theorem n_400 : (400 : Int32) = nI 400 := rfl
theorem sm_l : ∀ n, n < 32 → ((nI n &&& 31).toBitVec.smod 32).toNat = n := by decide +kernel
theorem ni_bit {a k : Nat} (ha : a < 2 ^ 31) (hk : k < 31) : (nI a >>> (nI k &&& 31)) &&& 1 = nI (a / 2 ^ k % 2) := by
  rw [pk_shrN ha _ k (sm_l k (by omega))]
  exact pk_andN (Nat.lt_of_le_of_lt (Nat.div_le_self _ _) (by omega)) 1 rfl
theorem ni_bit1 {a k : Nat} (ha : a < 2 ^ 31) (hk : k < 31) : (nI a >>> (nI k &&& 31)) &&& 1 = 1 ↔ a.testBit k = true := by
  rw [ni_bit ha hk, n_1, nI_eq (by omega) (by decide), Nat.testBit_eq_decide_div_mod_eq, decide_eq_true_iff]
theorem ni_or (a b : Nat) : nI a ||| nI b = nI (a ||| b) := by
  apply Int32.toBitVec_inj.mp
  rw [Int32.toBitVec_or]
  show BitVec.ofNat 32 a ||| BitVec.ofNat 32 b = BitVec.ofNat 32 (a ||| b)
  apply BitVec.eq_of_toNat_eq
  rw [BitVec.toNat_or, BitVec.toNat_ofNat, BitVec.toNat_ofNat, BitVec.toNat_ofNat, Nat.or_mod_two_pow]
theorem ni_shl1 {k : Nat} (hk : k < 31) : (1 : Int32) <<< (nI k &&& 31) = nI (2 ^ k) := by
  have h : 1 * 2 ^ k < 2 ^ 32 := by rw [Nat.one_mul]; exact Nat.pow_lt_pow_right (by decide) (by omega)
  have := pk_shlN (n := 1) (nI k &&& 31) k (sm_l k (by omega)) h
  rw [Nat.one_mul] at this
  exact this
theorem ni_in9 {k n : Nat} (h : k < n) (hn : n < 2 ^ 31) : vp_in (nI k) n := vp_in_nI h hn
theorem ni_cl {k : Nat} (h : k < 2 ^ 31) : (nI k).toNatClampNeg = k := nI_clamp h
