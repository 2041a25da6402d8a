-- what the reference's indices and loops ask for
theorem m8 {a : Int32} (h0 : 0 ≤ a.toInt) (h1 : a.toInt < 4096) : ((8 : Int32) * a).toInt = 8 * a.toInt := by
  have e8 : (8 : Int32).toInt = 8 := by decide
  rw [Int32.toInt_mul, e8, bm32 (by omega) (by omega)]
theorem m8k {a k : Int32} (h0 : 0 ≤ a.toInt) (h1 : a.toInt < 4096) (k0 : 0 ≤ k.toInt) (k1 : k.toInt < 4096) : (((8 : Int32) * a) + k).toInt = 8 * a.toInt + k.toInt := by
  have := m8 h0 h1
  rw [i_add (by omega) (by omega), this]
theorem nu_in {a1 a2 k : Int32} (h0 : 0 ≤ a1.toInt) (h2 : a1.toInt + a2.toInt ≤ 32768) (hk : k.toInt < a2.toInt) (c : ¬ k < 0) : vp_in (a1 + k) 32768 := by
  have c := i_nlt0 c
  rw [vp_in_iff, i_add (by omega) (by omega)]; omega
theorem nu_d {a2 : Int32} (h1 : 1 ≤ a2.toInt) : (a2 - (1 : Int32)).toInt = a2.toInt - 1 := by
  have := i_lim a2
  rw [i_sub (by rw [i_1]; omega) (by rw [i_1]; omega), i_1]
theorem nu_i1 {a2 : Int32} (h1 : 1 ≤ a2.toInt) : -1 ≤ (a2 - (1 : Int32)).toInt := by rw [nu_d h1]; omega
theorem nu_i2 {a2 : Int32} (h1 : 1 ≤ a2.toInt) : (a2 - (1 : Int32)).toInt < a2.toInt := by rw [nu_d h1]; omega
theorem nu_fuel {a2 : Int32} (h1 : 1 ≤ a2.toInt) : ((a2 - (1 : Int32)).toInt + 1).toNat < a2.toNatClampNeg + 1 := by
  rw [nu_d h1, ← Int32.toNat_toInt]; omega
theorem tk_in0 {a1 : Int32} (h0 : 0 ≤ a1.toInt) (h1 : a1.toInt < 4096) : vp_in ((8 : Int32) * a1) 32768 := by
  rw [vp_in_iff, m8 h0 h1]; omega
theorem tk_in1 {a1 : Int32} (h0 : 0 ≤ a1.toInt) (h1 : a1.toInt < 4096) : vp_in (((8 : Int32) * a1) + (1 : Int32)) 32768 := by
  rw [vp_in_iff, m8k h0 h1 (by decide) (by decide), i_1]; omega
theorem tk_n2 {a1 : Int32} (h0 : 0 ≤ a1.toInt) (h1 : a1.toInt < 4096) : 0 ≤ (((8 : Int32) * a1) + (2 : Int32)).toInt ∧ (((8 : Int32) * a1) + (2 : Int32)).toInt + (2 : Int32).toInt ≤ 32768 := by
  have e2 : (2 : Int32).toInt = 2 := by decide
  rw [m8k h0 h1 (by decide) (by decide), e2]; omega
theorem tk_n4 {a1 : Int32} (h0 : 0 ≤ a1.toInt) (h1 : a1.toInt < 4096) : 0 ≤ (((8 : Int32) * a1) + (4 : Int32)).toInt ∧ (((8 : Int32) * a1) + (4 : Int32)).toInt + (4 : Int32).toInt ≤ 32768 := by
  have e2 : (4 : Int32).toInt = 4 := by decide
  rw [m8k h0 h1 (by decide) (by decide), e2]; omega
theorem is_lt {a1 a2 : Int32} (h0 : 0 ≤ a1.toInt) (h1 : a1.toInt < 4096) (ha : a2.toInt ≤ 4096) (c : ¬ a2 ≤ (a1 + (1 : Int32))) : a1.toInt + 1 < 4096 := by
  have c := i_nle c
  rw [i_add (by rw [i_1]; omega) (by rw [i_1]; omega), i_1] at c; omega
theorem is_n8 {a1 a2 : Int32} (h0 : 0 ≤ a1.toInt) (h1 : a1.toInt < 4096) (ha : a2.toInt ≤ 4096) (c : ¬ a2 ≤ (a1 + (1 : Int32))) : 0 ≤ (((8 : Int32) * a1) + (8 : Int32)).toInt ∧ (((8 : Int32) * a1) + (8 : Int32)).toInt + (4 : Int32).toInt ≤ 32768 := by
  have := is_lt h0 h1 ha c
  have e : (8 : Int32).toInt = 8 := by decide
  have e2 : (4 : Int32).toInt = 4 := by decide
  rw [m8k h0 h1 (by decide) (by decide), e, e2]; omega
theorem is_n12 {a1 a2 : Int32} (h0 : 0 ≤ a1.toInt) (h1 : a1.toInt < 4096) (ha : a2.toInt ≤ 4096) (c : ¬ a2 ≤ (a1 + (1 : Int32))) : 0 ≤ (((8 : Int32) * a1) + (12 : Int32)).toInt ∧ (((8 : Int32) * a1) + (12 : Int32)).toInt + (4 : Int32).toInt ≤ 32768 := by
  have := is_lt h0 h1 ha c
  have e : (12 : Int32).toInt = 12 := by decide
  have e2 : (4 : Int32).toInt = 4 := by decide
  rw [m8k h0 h1 (by decide) (by decide), e, e2]; omega
