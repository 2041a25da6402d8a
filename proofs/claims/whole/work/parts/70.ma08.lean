theorem uN_sub (x y : Int64) : uN (x - y) = (uN x + (18446744073709551616 - uN y)) % 18446744073709551616 := by
  show (x.toUInt64 - y.toUInt64).toNat = _
  rw [UInt64.toNat_sub]
  show (18446744073709551616 - y.toUInt64.toNat + x.toUInt64.toNat) % 18446744073709551616 = _
  unfold uN
  rw [Nat.add_comm]
theorem uN_neg (x : Int64) : uN (-x) = (18446744073709551616 - uN x) % 18446744073709551616 := by
  have : -x = 0 - x := by rw [Int64.zero_sub]
  rw [this, uN_sub, show uN 0 = 0 by decide, Nat.zero_add]
theorem uN_ltx (x y : Int64) : (x ^^^ (-9223372036854775808)) < (y ^^^ (-9223372036854775808)) ↔ uN x < uN y := by
  have h := uN_le y x
  rw [Int64.le_iff_toInt_le] at h
  rw [Int64.lt_iff_toInt_lt]
  omega
theorem less_eq (a b : Int64) : f_Mo_isLess a b = decide (uN a < uN b) := by
  have ha := uN_int a
  have hb := uN_int b
  have la := uN_lt a
  have lb := uN_lt b
  have e0a : ((0 : Int64) ≤ a) ↔ uN a < 9223372036854775808 := by rw [Int64.le_iff_toInt_le, l_0, ha]; split <;> omega
  have e0b : ((0 : Int64) ≤ b) ↔ uN b < 9223372036854775808 := by rw [Int64.le_iff_toInt_le, l_0, hb]; split <;> omega
  have eba : (b ≤ a) ↔ b.toInt ≤ a.toInt := Int64.le_iff_toInt_le
  unfold f_Mo_isLess
  simp only [e0a, e0b, eba, ha, hb]
  by_cases qa : uN a < 9223372036854775808 <;> by_cases qb : uN b < 9223372036854775808
  · simp [qa, qb, show 2 * uN a < 18446744073709551616 by omega, show 2 * uN b < 18446744073709551616 by omega]
    rw [← decide_not]; exact decide_eq_decide.mpr (by omega)
  · simp [qa, qb, show (bI false = bI true) = False by decide]; omega
  · simp [qa, qb, show (bI true = bI false) = False by decide]; omega
  · simp [qa, qb, show ¬ 2 * uN a < 18446744073709551616 by omega, show ¬ 2 * uN b < 18446744073709551616 by omega]
    rw [← decide_not]; exact decide_eq_decide.mpr (by omega)
theorem shc : ∀ k, k < 64 → (((nI k).toInt64 &&& 63).toBitVec.smod 64).toNat = k := by decide +kernel
theorem shu : ∀ k, k < 64 → ((nI k).toInt64.toUInt64 &&& Int64.toUInt64 63).toNat % 64 = k := by decide +kernel
theorem uN_shr1 (a : Int64) {K : Nat} (hK : K < 64) : uN ((j_lshr a (nI K)) &&& (1 : Int64)) = uN a / 2 ^ K % 2 := by
  have h1 : uN ((j_lshr a (nI K)) &&& (1 : Int64)) = uN (j_lshr a (nI K)) % 2 := by
    show ((j_lshr a (nI K)).toUInt64 &&& Int64.toUInt64 1).toNat = _
    rw [UInt64.toNat_and]
    exact Nat.and_two_pow_sub_one_eq_mod _ 1
  rw [h1]
  have h2 : (j_lshr a (nI K)).toBitVec = a.toBitVec.sshiftRight K := by
    show a.toBitVec.sshiftRight (((nI K).toInt64 &&& 63).toBitVec.smod 64).toNat = _
    rw [shc K hK]
  have h3 : (a.toBitVec.sshiftRight K).getLsbD 0 = a.toBitVec.getLsbD K := by
    rw [BitVec.getLsbD_sshiftRight]; simp [hK]
  have h4 : (j_lshr a (nI K)).toBitVec.getLsbD 0 = decide (uN (j_lshr a (nI K)) % 2 = 1) := by
    have : (j_lshr a (nI K)).toBitVec.getLsbD 0 = (uN (j_lshr a (nI K))).testBit 0 := rfl
    rw [this, Nat.testBit_zero]
  have h5 : a.toBitVec.getLsbD K = decide (uN a / 2 ^ K % 2 = 1) := by
    have : a.toBitVec.getLsbD K = (uN a).testBit K := rfl
    rw [this, Nat.testBit_eq_decide_div_mod_eq]
  rw [h2, h3, h5] at h4
  have := decide_eq_decide.mp h4
  omega
/-- the reference's long division -/
theorem div_loop {a b : Int64} (hb : ¬ uN b = 0) : ∀ (f K : Nat) (q v : Int64), K ≤ 64 → K < f → uN q * uN b + uN v = uN a / 2 ^ K → uN v < uN b → uN q < 2 ^ (64 - K) → uN (l_Mo_divided_10 a b f (nI K + (-1 : Int32)) q v) = uN a / uN b := by
  have la := uN_lt a
  have lb := uN_lt b
  intro f
  induction f with
  | zero => intro K q v _ h; omega
  | succ f ih =>
    intro K q v hK hf h1 h2 h3
    rw [l_Mo_divided_10]
    cases K with
    | zero =>
      have : nI 0 + (-1 : Int32) < 0 := by decide
      rw [if_pos this]
      have e : uN q * uN b + uN v = uN a := by rw [h1]; simp
      rw [← e, Nat.mul_comm, Nat.mul_add_div (by omega), Nat.div_eq_of_lt h2, Nat.add_zero]
    | succ K =>
      have ek : nI (K + 1) + (-1 : Int32) = nI K := by rw [nI_succ, Int32.add_assoc]; exact Int32.add_zero _
      have hb0 : ¬ b = (0 : Int64) := fun q => hb (by rw [q]; decide)
      rw [ek, if_neg (by rw [Int32.lt_iff_toInt_lt, nI_toInt (by omega), i_0]; omega), if_neg hb0]
      have hbit := uN_shr1 a (K := K) (by omega)
      generalize hB : (j_lshr a (nI K)) &&& (1 : Int64) = B at hbit ⊢
      have hpow : uN a / 2 ^ K = 2 * (uN a / 2 ^ (K + 1)) + uN a / 2 ^ K % 2 := by
        rw [Nat.pow_succ, ← Nat.div_div_eq_div_mul]; omega
      have p2 : 2 ^ (64 - K) = 2 * 2 ^ (64 - (K + 1)) := by
        rw [show 64 - K = (64 - (K + 1)) + 1 by omega, Nat.pow_succ]; omega
      have p3 : 2 ^ (64 - K) ≤ 2 ^ 64 := Nat.pow_le_pow_right (by decide) (by omega)
      have lv := uN_lt v
      have e2 : uN (2 : Int64) = 2 := by decide
      have e1 : uN (1 : Int64) = 1 := by decide
      have hv2 : uN (((2 : Int64) * v) + B) = (2 * uN v + uN B) % 18446744073709551616 := by
        rw [uN_add, uN_mul, e2]; omega
      have hq2 : uN ((2 : Int64) * q) = 2 * uN q := by rw [uN_mul, e2]; omega
      have hq3 : uN (((2 : Int64) * q) + (1 : Int64)) = 2 * uN q + 1 := by rw [uN_add, hq2, e1]; omega
      have hmul : (2 * uN q) * uN b = 2 * (uN q * uN b) := Nat.mul_assoc _ _ _
      have hmul1 : (2 * uN q + 1) * uN b = 2 * (uN q * uN b) + uN b := by rw [Nat.add_mul, Nat.one_mul, hmul]
      have e0v : ((0 : Int64) ≤ v) ↔ uN v < 9223372036854775808 := by rw [Int64.le_iff_toInt_le, l_0, uN_int v]; split <;> omega
      have hB2 : uN B < 2 := by omega
      by_cases c1 : (0 : Int64) ≤ v
      · have c1' := e0v.mp c1
        have hv3 : uN (((2 : Int64) * v) + B) = 2 * uN v + uN B := by rw [hv2]; omega
        rw [if_neg (by rw [if_pos c1]; decide), less_eq]
        by_cases c2 : uN (((2 : Int64) * v) + B) < uN b
        · rw [if_pos (decide_eq_true c2)]
          exact ih K _ _ (by omega) (by omega) (by rw [hq2, hmul, hv3, hpow]; omega) c2 (by rw [hq2]; omega)
        · rw [if_neg (by simpa using c2)]
          have hv4 : uN ((((2 : Int64) * v) + B) - b) = 2 * uN v + uN B - uN b := by rw [uN_sub, hv3]; omega
          exact ih K _ _ (by omega) (by omega) (by rw [hq3, hmul1, hv4, hpow]; omega) (by rw [hv4]; omega) (by rw [hq3]; omega)
      · have c1' : ¬ uN v < 9223372036854775808 := fun q => c1 (e0v.mpr q)
        rw [if_pos (by rw [if_neg c1])]
        have hv4 : uN ((((2 : Int64) * v) + B) - b) = 2 * uN v + uN B - uN b := by rw [uN_sub, hv2]; omega
        exact ih K _ _ (by omega) (by omega) (by rw [hq3, hmul1, hv4, hpow]; omega) (by rw [hv4]; omega) (by rw [hq3]; omega)
theorem div_eq (a b : Int64) : uN (f_Mo_divided a b) = uN a / uN b := by
  have la := uN_lt a
  unfold f_Mo_divided
  by_cases h : uN b = 0
  · have hb : b = 0 := uN_inj (by rw [h]; decide)
    subst hb
    rw [l_Mo_divided_10, if_neg (by decide), if_pos rfl, show uN 0 = 0 by decide, Nat.div_zero]
  · have e := div_loop (a := a) h 65 64 0 0 (by decide) (by decide) (by rw [show uN 0 = 0 by decide, Nat.div_eq_of_lt (by omega)]; omega) (by rw [show uN 0 = 0 by decide]; omega) (by decide)
    exact e
theorem uq_eq {a b : Int64} (hb : ¬ b = 0) : uN (f_Ar_unsignedQuotient a b) = uN a / uN b := by
  have la := uN_lt a
  have lb := uN_lt b
  have hB : ¬ uN b = 0 := fun q => hb (uN_inj (by rw [q]; decide))
  unfold f_Ar_unsignedQuotient
  have e0 : ((0 : Int64) < b) ↔ uN b < 9223372036854775808 := by rw [Int64.lt_iff_toInt_lt, l_0, uN_int b]; split <;> omega
  simp only [uN_ltx]
  by_cases c : (0 : Int64) < b
  · have c' := e0.mp c
    rw [if_pos c]
    have hA2 : uN (j_lushr a (1 : Int32)) = uN a / 2 := uN_ushk 1 (by decide)
    have hq0 : uN ((j_lushr a (1 : Int32)) / b) = uN a / 2 / uN b := by
      have i1 : (j_lushr a (1 : Int32)).toInt = ((uN a / 2 : Nat) : Int) := by rw [uN_int, hA2, if_pos (by omega)]
      have i2 : b.toInt = (uN b : Int) := by rw [uN_int, if_pos (by omega)]
      have hle : uN a / 2 / uN b ≤ uN a / 2 := Nat.div_le_self _ _
      have i3 : ((j_lushr a (1 : Int32)) / b).toInt = ((uN a / 2 / uN b : Nat) : Int) := by
        rw [Int64.toInt_div, i1, i2]
        rw [show ((uN a / 2 : Nat) : Int).tdiv (uN b : Int) = ((uN a / 2 / uN b : Nat) : Int) from rfl]
        generalize uN a / 2 / uN b = z at hle ⊢
        exact Int.bmod_eq_of_le_mul_two (by omega) (by omega)
      have i4 := uN_int ((j_lushr a (1 : Int32)) / b)
      have i5 := uN_lt ((j_lushr a (1 : Int32)) / b)
      rw [i3] at i4
      generalize uN a / 2 / uN b = z at hle i4 ⊢
      split at i4 <;> omega
    have hdm := Nat.div_add_mod (uN a / 2) (uN b)
    have hml := Nat.mod_lt (uN a / 2) (show uN b > 0 by omega)
    have hle : uN a / 2 / uN b ≤ uN a / 2 := Nat.div_le_self _ _
    have hq1 : uN (j_lshl ((j_lushr a (1 : Int32)) / b) (1 : Int32)) = 2 * (uN a / 2 / uN b) := by
      rw [uN_shlk 1 (by decide), hq0]; omega
    generalize hQ : j_lshl ((j_lushr a (1 : Int32)) / b) (1 : Int32) = Q at hq1 ⊢
    have hX : uN (Q * b) = 2 * (uN b * (uN a / 2 / uN b)) := by
      rw [uN_mul, hq1, Nat.mul_comm, ← Nat.mul_assoc, Nat.mul_comm (uN b) 2, Nat.mul_assoc]; omega
    generalize hY : uN b * (uN a / 2 / uN b) = X at *
    have hr : uN (a - Q * b) = uN a - 2 * X := by rw [uN_sub, hX]; omega
    have hQd : uN b * (2 * (uN a / 2 / uN b)) = 2 * X := by rw [← hY, Nat.mul_left_comm]
    by_cases c2 : uN (a - Q * b) < uN b
    · rw [if_pos c2, hq1]
      rw [hr] at c2
      symm
      rw [Nat.div_eq_iff (by omega)]
      generalize uN a / 2 / uN b = z at *
      rw [Nat.mul_comm] at hQd
      rw [hQd]; omega
    · rw [if_neg c2, uN_add, hq1, show uN 1 = 1 by decide]
      rw [hr] at c2
      rw [Nat.mod_eq_of_lt (by omega)]
      symm
      rw [Nat.div_eq_iff (by omega)]
      generalize uN a / 2 / uN b = z at *
      have e : (2 * z + 1) * uN b = 2 * X + uN b := by rw [Nat.add_mul, Nat.one_mul, Nat.mul_comm, hQd]
      rw [e]; omega
  · have c' : ¬ uN b < 9223372036854775808 := fun q => c (e0.mpr q)
    rw [if_neg c]
    by_cases c2 : uN a < uN b
    · rw [if_pos c2, Nat.div_eq_of_lt c2]; decide
    · rw [if_neg c2, show uN 1 = 1 by decide]
      symm
      rw [Nat.div_eq_iff (by omega)]; omega
theorem q_uns (a b : Int64) : f_Ar_quotient false a b = f_Mo_quotient a b false := by
  unfold f_Ar_quotient f_Mo_quotient
  apply uN_inj
  simp only [Bool.false_eq_true, if_false, if_true]
  rw [div_eq]
  by_cases h : b = 0
  · subst h; rw [if_pos rfl, show uN 0 = 0 by decide, Nat.div_zero]
  · rw [if_neg h, uq_eq h]
theorem uN_nat {x : Int64} {k : Nat} (hk : k < 18446744073709551616) (h : x.toInt = (k : Int).bmod (2 ^ 64)) : uN x = k := by
  have h1 := uN_int x
  have h2 := uN_lt x
  rw [h, Int.bmod_def] at h1
  split at h1 <;> split at h1 <;> omega
theorem uN_negn {x : Int64} {k : Nat} (hk : k ≤ 9223372036854775808) (h : x.toInt = (-(k : Int)).bmod (2 ^ 64)) : uN x = (18446744073709551616 - k) % 18446744073709551616 := by
  have h1 := uN_int x
  have h2 := uN_lt x
  rw [h, Int.bmod_def] at h1
  split at h1 <;> split at h1 <;> omega
theorem q_sig (a b : Int64) : f_Ar_quotient true a b = f_Mo_quotient a b true := by
  have la := uN_lt a
  have lb := uN_lt b
  have ia := uN_int a
  have ib := uN_int b
  have e0a : ((0 : Int64) ≤ a) ↔ uN a < 9223372036854775808 := by rw [Int64.le_iff_toInt_le, l_0, ia]; split <;> omega
  have e0b : ((0 : Int64) ≤ b) ↔ uN b < 9223372036854775808 := by rw [Int64.le_iff_toInt_le, l_0, ib]; split <;> omega
  unfold f_Ar_quotient f_Mo_quotient
  apply uN_inj
  simp only [if_true, e0a, e0b]
  by_cases h : b = 0
  · subst h
    rw [if_pos rfl]
    have e : ∀ x : Int64, uN (f_Mo_divided x 0) = 0 := fun x => by rw [div_eq, show uN 0 = 0 by decide, Nat.div_zero]
    have e0 : uN (0 : Int64) < 9223372036854775808 := by decide
    by_cases qa : uN a < 9223372036854775808
    · simp [qa, e0, e]; decide
    · simp [qa, e0, show (bI true = bI false) = False by decide, uN_neg, e]; decide
  · have hB : ¬ uN b = 0 := fun q => h (uN_inj (by rw [q]; decide))
    rw [if_neg h]
    by_cases qa : uN a < 9223372036854775808 <;> by_cases qb : uN b < 9223372036854775808
    · simp only [qa, qb, if_true, Bool.false_eq_true, if_false]
      rw [div_eq]
      have hle : uN a / uN b ≤ uN a := Nat.div_le_self _ _
      apply uN_nat (by omega)
      rw [Int64.toInt_div, ia, ib, if_pos (by omega), if_pos (by omega)]; rfl
    · simp only [qa, qb, if_true, Bool.false_eq_true, if_false, show (bI false = bI true) = False by decide]
      rw [uN_neg, div_eq, uN_neg]
      have hm : (18446744073709551616 - uN b) % 18446744073709551616 = 18446744073709551616 - uN b := by omega
      rw [hm]
      have hle : uN a / (18446744073709551616 - uN b) ≤ uN a := Nat.div_le_self _ _
      apply uN_negn (by omega)
      rw [Int64.toInt_div, ia, ib, if_pos (by omega), if_neg (by omega), show (uN b : Int) - 18446744073709551616 = -((18446744073709551616 - uN b : Nat) : Int) by omega, Int.tdiv_neg]; rfl
    · simp only [qa, qb, if_true, Bool.false_eq_true, if_false, show (bI true = bI false) = False by decide]
      rw [uN_neg, div_eq, uN_neg]
      have hm : (18446744073709551616 - uN a) % 18446744073709551616 = 18446744073709551616 - uN a := by omega
      rw [hm]
      have hle : (18446744073709551616 - uN a) / uN b ≤ 18446744073709551616 - uN a := Nat.div_le_self _ _
      apply uN_negn (by omega)
      rw [Int64.toInt_div, ia, ib, if_neg (by omega), if_pos (by omega), show (uN a : Int) - 18446744073709551616 = -((18446744073709551616 - uN a : Nat) : Int) by omega, Int.neg_tdiv]; rfl
    · simp only [qa, qb, if_true, Bool.false_eq_true, if_false]
      rw [div_eq, uN_neg, uN_neg]
      have hma : (18446744073709551616 - uN a) % 18446744073709551616 = 18446744073709551616 - uN a := by omega
      have hmb : (18446744073709551616 - uN b) % 18446744073709551616 = 18446744073709551616 - uN b := by omega
      rw [hma, hmb]
      have hle : (18446744073709551616 - uN a) / (18446744073709551616 - uN b) ≤ 18446744073709551616 - uN a := Nat.div_le_self _ _
      apply uN_nat (by omega)
      rw [Int64.toInt_div, ia, ib, if_neg (by omega), if_neg (by omega), show (uN a : Int) - 18446744073709551616 = -((18446744073709551616 - uN a : Nat) : Int) by omega, show (uN b : Int) - 18446744073709551616 = -((18446744073709551616 - uN b : Nat) : Int) by omega, Int.neg_tdiv, Int.tdiv_neg, Int.neg_neg]; rfl
theorem q_eq (f : Bool) (a b : Int64) : f_Ar_quotient f a b = f_Mo_quotient a b f := by
  cases f
  · exact q_uns a b
  · exact q_sig a b
