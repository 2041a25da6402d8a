theorem i32_64 : (32 : Int32).toInt = 32 := by decide
theorem low_eq (a : Int64) {k : Int32} (h : k = 16 ∨ k = 32 ∨ k = 64) : f_Ar_lowest a k = f_Mo_lowest a k := by
  unfold f_Ar_lowest f_Mo_lowest
  rcases h with rfl | rfl | rfl
  · rw [if_pos (by decide), if_neg (by decide)]
  · rw [if_pos (by decide), if_neg (by decide)]
  · rw [if_neg (by decide), if_pos (by decide)]
theorem uN_and {x m : Int64} (k : Nat) (hm : uN m = 2 ^ k - 1) : uN (x &&& m) = uN x % 2 ^ k := by
  show (x.toUInt64 &&& m.toUInt64).toNat = _
  rw [UInt64.toNat_and, show m.toUInt64.toNat = 2 ^ k - 1 from hm]
  exact Nat.and_two_pow_sub_one_eq_mod _ k
theorem low32 (a : Int64) : uN (f_Ar_lowest a (32 : Int32)) = uN a % 4294967296 := by
  unfold f_Ar_lowest; rw [if_pos (by decide)]; exact uN_and 32 (by decide)
theorem low_cong {a b : Int64} (h : uN a % 4294967296 = uN b % 4294967296) : f_Ar_lowest a (32 : Int32) = f_Ar_lowest b (32 : Int32) := uN_inj (by rw [low32, low32, h])
theorem lshr_int (x : Int64) {y : Int32} (k : Nat) (h : (((y.toInt64 &&& 63).toBitVec.smod 64).toNat) = k) : (j_lshr x y).toInt = x.toInt / 2 ^ k := by
  show (x.toBitVec.sshiftRight ((y.toInt64 &&& 63).toBitVec.smod 64).toNat).toInt = _
  rw [h, BitVec.toInt_sshiftRight, Int.shiftRight_eq_div_pow]
  rw [Int.natCast_pow]; rfl
theorem sg_eq (a : Int64) {k : Int32} (h : k = 8 ∨ k = 16 ∨ k = 32) : f_Ar_signed a k = f_Mo_signed a k := by
  have la := uN_lt a
  apply Int64.toInt_inj.mp
  have hm : ∀ (m : Nat) (p q : Int64), m < 64 → uN p = 2 ^ m → uN q = 2 * 2 ^ m → 0 < m → uN (a &&& (q - (1 : Int64))) = uN a % (2 * 2 ^ m) := by
    intro m p q hm hp hq h0
    have hpw : 2 ^ m ≤ 2 ^ 63 := Nat.pow_le_pow_right (by decide) (by omega)
    have e : 2 * 2 ^ m = 2 ^ (m + 1) := by rw [Nat.pow_succ, Nat.mul_comm]
    have hq2 := uN_lt q
    have hpos : 0 < 2 ^ m := Nat.two_pow_pos m
    rw [e]
    exact uN_and (m + 1) (by rw [uN_sub, hq, show uN 1 = 1 by decide, ← e]; omega)
  rcases h with rfl | rfl | rfl
  · unfold f_Ar_signed f_Mo_signed
    rw [if_pos (by decide), if_neg (show ¬ (64 : Int32) ≤ 8 by decide), if_neg (show ¬ (8 : Int32) = 64 by decide)]
    have e1 := hm 7 (j_lshl (1 : Int64) ((8 : Int32) - (1 : Int32))) ((2 : Int64) * (j_lshl (1 : Int64) ((8 : Int32) - (1 : Int32)))) (by decide) (by decide) (by decide) (by decide)
    generalize a &&& (((2 : Int64) * (j_lshl (1 : Int64) ((8 : Int32) - (1 : Int32)))) - (1 : Int64)) = w at e1 ⊢
    have hw := uN_int w
    rw [e1] at hw
    have e2 : (j_lshl (1 : Int64) ((8 : Int32) - (1 : Int32))).toInt = 128 := by decide
    have e3 : ((2 : Int64) * (j_lshl (1 : Int64) ((8 : Int32) - (1 : Int32)))).toInt = 256 := by decide
    rw [lshr_int _ 56 (by decide), uN_int, uN_shlk 56 (by decide)]
    by_cases c : w < (j_lshl (1 : Int64) ((8 : Int32) - (1 : Int32)))
    · rw [if_pos c, hw]
      rw [Int64.lt_iff_toInt_lt, e2, hw] at c
      split at c <;> split <;> omega
    · rw [if_neg c, Int64.toInt_sub, e3, hw]
      have c := l_nlt c
      rw [e2, hw] at c
      have : ((if 2 * (uN a % (2 * 2 ^ 7)) < 18446744073709551616 then ((uN a % (2 * 2 ^ 7) : Nat) : Int) else ((uN a % (2 * 2 ^ 7) : Nat) : Int) - 18446744073709551616) - 256).bmod (2 ^ 64) = (if 2 * (uN a % (2 * 2 ^ 7)) < 18446744073709551616 then ((uN a % (2 * 2 ^ 7) : Nat) : Int) else ((uN a % (2 * 2 ^ 7) : Nat) : Int) - 18446744073709551616) - 256 := by
        rw [if_pos (by omega)]
        exact Int.bmod_eq_of_le_mul_two (by omega) (by omega)
      rw [this]
      split at c <;> split <;> omega
  · unfold f_Ar_signed f_Mo_signed
    rw [if_pos (by decide), if_neg (show ¬ (64 : Int32) ≤ 16 by decide), if_neg (show ¬ (16 : Int32) = 64 by decide)]
    have e1 := hm 15 (j_lshl (1 : Int64) ((16 : Int32) - (1 : Int32))) ((2 : Int64) * (j_lshl (1 : Int64) ((16 : Int32) - (1 : Int32)))) (by decide) (by decide) (by decide) (by decide)
    generalize a &&& (((2 : Int64) * (j_lshl (1 : Int64) ((16 : Int32) - (1 : Int32)))) - (1 : Int64)) = w at e1 ⊢
    have hw := uN_int w
    rw [e1] at hw
    have e2 : (j_lshl (1 : Int64) ((16 : Int32) - (1 : Int32))).toInt = 32768 := by decide
    have e3 : ((2 : Int64) * (j_lshl (1 : Int64) ((16 : Int32) - (1 : Int32)))).toInt = 65536 := by decide
    rw [lshr_int _ 48 (by decide), uN_int, uN_shlk 48 (by decide)]
    by_cases c : w < (j_lshl (1 : Int64) ((16 : Int32) - (1 : Int32)))
    · rw [if_pos c, hw]
      rw [Int64.lt_iff_toInt_lt, e2, hw] at c
      split at c <;> split <;> omega
    · rw [if_neg c, Int64.toInt_sub, e3, hw]
      have c := l_nlt c
      rw [e2, hw] at c
      have : ((if 2 * (uN a % (2 * 2 ^ 15)) < 18446744073709551616 then ((uN a % (2 * 2 ^ 15) : Nat) : Int) else ((uN a % (2 * 2 ^ 15) : Nat) : Int) - 18446744073709551616) - 65536).bmod (2 ^ 64) = (if 2 * (uN a % (2 * 2 ^ 15)) < 18446744073709551616 then ((uN a % (2 * 2 ^ 15) : Nat) : Int) else ((uN a % (2 * 2 ^ 15) : Nat) : Int) - 18446744073709551616) - 65536 := by
        rw [if_pos (by omega)]
        exact Int.bmod_eq_of_le_mul_two (by omega) (by omega)
      rw [this]
      split at c <;> split <;> omega
  · unfold f_Ar_signed f_Mo_signed
    rw [if_pos (by decide), if_neg (show ¬ (64 : Int32) ≤ 32 by decide), if_neg (show ¬ (32 : Int32) = 64 by decide)]
    have e1 := hm 31 (j_lshl (1 : Int64) ((32 : Int32) - (1 : Int32))) ((2 : Int64) * (j_lshl (1 : Int64) ((32 : Int32) - (1 : Int32)))) (by decide) (by decide) (by decide) (by decide)
    generalize a &&& (((2 : Int64) * (j_lshl (1 : Int64) ((32 : Int32) - (1 : Int32)))) - (1 : Int64)) = w at e1 ⊢
    have hw := uN_int w
    rw [e1] at hw
    have e2 : (j_lshl (1 : Int64) ((32 : Int32) - (1 : Int32))).toInt = 2147483648 := by decide
    have e3 : ((2 : Int64) * (j_lshl (1 : Int64) ((32 : Int32) - (1 : Int32)))).toInt = 4294967296 := by decide
    rw [lshr_int _ 32 (by decide), uN_int, uN_shlk 32 (by decide)]
    by_cases c : w < (j_lshl (1 : Int64) ((32 : Int32) - (1 : Int32)))
    · rw [if_pos c, hw]
      rw [Int64.lt_iff_toInt_lt, e2, hw] at c
      split at c <;> split <;> omega
    · rw [if_neg c, Int64.toInt_sub, e3, hw]
      have c := l_nlt c
      rw [e2, hw] at c
      have : ((if 2 * (uN a % (2 * 2 ^ 31)) < 18446744073709551616 then ((uN a % (2 * 2 ^ 31) : Nat) : Int) else ((uN a % (2 * 2 ^ 31) : Nat) : Int) - 18446744073709551616) - 4294967296).bmod (2 ^ 64) = (if 2 * (uN a % (2 * 2 ^ 31)) < 18446744073709551616 then ((uN a % (2 * 2 ^ 31) : Nat) : Int) else ((uN a % (2 * 2 ^ 31) : Nat) : Int) - 18446744073709551616) - 4294967296 := by
        rw [if_pos (by omega)]
        exact Int.bmod_eq_of_le_mul_two (by omega) (by omega)
      rw [this]
      split at c <;> split <;> omega
theorem sg_i32 (a : Int64) : f_Ar_signed a (32 : Int32) = a.toInt32.toInt64 := by
  have la := uN_lt a
  apply uN_inj
  rw [uN_of, iN_of]
  have h := lshr_int (j_lshl a ((64 : Int32) - (32 : Int32))) (y := (64 : Int32) - (32 : Int32)) 32 (by decide)
  have e : uN (j_lshl a ((64 : Int32) - (32 : Int32))) = uN a * 2 ^ 32 % 18446744073709551616 := uN_shlk 32 (by decide)
  unfold f_Ar_signed
  rw [if_pos (by decide)]
  rw [uN_int, uN_int, e] at h
  have l2 := uN_lt (j_lshr (j_lshl a ((64 : Int32) - (32 : Int32))) ((64 : Int32) - (32 : Int32)))
  split at h <;> split at h <;> split <;> omega
theorem sg32 (a : Int64) : f_Mo_signed a (32 : Int32) = a.toInt32.toInt64 := by rw [← sg_eq a (Or.inr (Or.inr rfl)), sg_i32]
theorem sg64 (a : Int64) : f_Mo_signed a (64 : Int32) = a := by
  unfold f_Mo_signed; rw [if_pos (by decide), if_pos rfl]
