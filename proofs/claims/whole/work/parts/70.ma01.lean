theorem bp_b (x : Int32) : x.toInt8.toInt32 &&& 255 = x &&& 255 := by
  apply Int32.toBitVec_inj.mp
  rw [Int32.toBitVec_and, Int32.toBitVec_and, Int8.toBitVec_toInt32, Int32.toBitVec_toInt8]
  apply BitVec.eq_of_getLsbD_eq
  intro i hi
  rw [BitVec.getLsbD_and, BitVec.getLsbD_and]
  have hm : ∀ i < 32, 8 ≤ i → (255 : Int32).toBitVec.getLsbD i = false := by decide
  rcases Nat.lt_or_ge i 8 with z | z
  · rw [BitVec.getLsbD_signExtend, BitVec.getLsbD_signExtend, if_pos z, if_pos hi]
    simp only [z, hi, decide_true, Bool.true_and]
  · rw [hm i hi z]; simp
def uN (x : Int64) : Nat := x.toUInt64.toNat
theorem uN_lt (x : Int64) : uN x < 18446744073709551616 := x.toUInt64.toNat_lt
theorem uN_inj {x y : Int64} (h : uN x = uN y) : x = y := congrArg UInt64.toInt64 (UInt64.toNat_inj.mp h)
theorem uN_add (x y : Int64) : uN (x + y) = (uN x + uN y) % 18446744073709551616 := by
  show (x.toUInt64 + y.toUInt64).toNat = _
  exact UInt64.toNat_add _ _
theorem uN_mul (x y : Int64) : uN (x * y) = (uN x * uN y) % 18446744073709551616 := by
  show (x.toUInt64 * y.toUInt64).toNat = _
  exact UInt64.toNat_mul _ _
theorem uN_shl (x : Int64) : uN (x <<< ((1 : Int32).toInt64 &&& 63)) = (2 * uN x) % 18446744073709551616 := by
  have h : (((1 : Int32).toInt64 &&& 63).toBitVec.smod 64).toNat = 1 := by decide
  show (x.toBitVec <<< (((1 : Int32).toInt64 &&& 63).toBitVec.smod 64).toNat).toNat = _
  rw [h, BitVec.toNat_shiftLeft, Nat.shiftLeft_eq, Nat.mul_comm]
  rfl
theorem uN_shr (x : Int64) (s : UInt64) : uN (x.toUInt64 >>> s).toInt64 = uN x / 2 ^ (s.toNat % 64) := by
  show (x.toUInt64 >>> s).toNat = _
  rw [UInt64.toNat_shiftRight, Nat.shiftRight_eq_div_pow]
  rfl
theorem uN_s32 (x : Int64) : uN (x.toUInt64 >>> ((32 : Int32).toInt64.toUInt64 &&& Int64.toUInt64 63)).toInt64 = uN x / 4294967296 := by
  have h : ((32 : Int32).toInt64.toUInt64 &&& Int64.toUInt64 63).toNat % 64 = 32 := by decide
  rw [uN_shr, h]
theorem uN_s63 (x : Int64) : uN (x.toUInt64 >>> ((63 : Int32).toInt64.toUInt64 &&& Int64.toUInt64 63)).toInt64 = uN x / 9223372036854775808 := by
  have h : ((63 : Int32).toInt64.toUInt64 &&& Int64.toUInt64 63).toNat % 64 = 63 := by decide
  rw [uN_shr, h]
theorem uN_lo (x : Int64) : uN (x &&& 4294967295) = uN x % 4294967296 := by
  show (x.toUInt64 &&& Int64.toUInt64 4294967295).toNat = _
  rw [UInt64.toNat_and]
  exact Nat.and_two_pow_sub_one_eq_mod _ 32
theorem uN_bit (x : Int64) : (x &&& 1) = 0 ↔ uN x % 2 = 0 := by
  have h : uN (x &&& 1) = uN x % 2 := by
    show (x.toUInt64 &&& Int64.toUInt64 1).toNat = _
    rw [UInt64.toNat_and]
    exact Nat.and_two_pow_sub_one_eq_mod _ 1
  rw [← h]
  exact ⟨fun z => by rw [z]; rfl, fun z => uN_inj (z.trans rfl)⟩
theorem uN_or {x y : Int64} (hy : uN y < 2) : uN ((x <<< ((1 : Int32).toInt64 &&& 63)) ||| y) = (2 * uN x) % 18446744073709551616 + uN y := by
  have h1 : uN ((x <<< ((1 : Int32).toInt64 &&& 63)) ||| y) = uN (x <<< ((1 : Int32).toInt64 &&& 63)) ||| uN y := UInt64.toNat_or _ _
  have h2 : (2 * uN x) % 18446744073709551616 = 2 ^ 1 * (uN x % 9223372036854775808) := by omega
  rw [h1, uN_shl, h2]
  exact (Nat.two_pow_add_eq_or_of_lt (i := 1) hy _).symm
theorem nat_xor {a : Nat} (h : a < 18446744073709551616) : a ^^^ 2 ^ 63 = (a + 9223372036854775808) % 18446744073709551616 := by
  have h1 : (a ^^^ 2 ^ 63) % 2 ^ 63 = a % 2 ^ 63 := by rw [Nat.xor_mod_two_pow, Nat.mod_self, Nat.xor_zero]
  have h2 : (a ^^^ 2 ^ 63) / 2 ^ 63 = (a / 2 ^ 63) ^^^ 1 := by rw [Nat.xor_div_two_pow, Nat.div_self (Nat.two_pow_pos 63)]
  have h3 : a / 2 ^ 63 = 0 ∨ a / 2 ^ 63 = 1 := by omega
  generalize a ^^^ 2 ^ 63 = t at h1 h2
  rcases h3 with h3 | h3
  · rw [h3] at h2
    have h2 : t / 2 ^ 63 = 1 := h2
    omega
  · rw [h3] at h2
    have h2 : t / 2 ^ 63 = 0 := h2
    omega
theorem uN_xor (x : Int64) : uN (x ^^^ (-9223372036854775808)) = (uN x + 9223372036854775808) % 18446744073709551616 := by
  rw [← nat_xor (uN_lt x)]
  exact UInt64.toNat_xor _ _
theorem uN_int (x : Int64) : x.toInt = if 2 * uN x < 18446744073709551616 then (uN x : Int) else (uN x : Int) - 18446744073709551616 := BitVec.toInt_eq_toNat_cond _
theorem uN_le (x y : Int64) : (x ^^^ (-9223372036854775808)) ≤ (y ^^^ (-9223372036854775808)) ↔ uN x ≤ uN y := by
  have hx := uN_lt x
  have hy := uN_lt y
  rw [Int64.le_iff_toInt_le, uN_int, uN_int, uN_xor, uN_xor]
  omega
theorem uN_sk (x : Int64) {k : Nat} (hk : k < 64) : uN (x.toUInt64 >>> ((nI k).toInt64.toUInt64 &&& Int64.toUInt64 63)).toInt64 = uN x / 2 ^ k := by
  have h : ((nI k).toInt64.toUInt64 &&& Int64.toUInt64 63).toNat % 64 = k := by
    rw [nI_l (by omega), UInt64.toNat_and]
    have e : (lN k).toUInt64.toNat = k % 2 ^ 64 := rfl
    have e2 : (Int64.toUInt64 63).toNat = 2 ^ 6 - 1 := by decide
    rw [e, e2, Nat.and_two_pow_sub_one_eq_mod]
    omega
  rw [uN_shr, h]
-- ints as unsigned numbers
def iN (x : Int32) : Nat := x.toUInt32.toNat
theorem iN_lt (x : Int32) : iN x < 4294967296 := x.toUInt32.toNat_lt
theorem iN_inj {x y : Int32} (h : iN x = iN y) : x = y := congrArg UInt32.toInt32 (UInt32.toNat_inj.mp h)
theorem iN_int (x : Int32) : x.toInt = if 2 * iN x < 4294967296 then (iN x : Int) else (iN x : Int) - 4294967296 := BitVec.toInt_eq_toNat_cond _
theorem iN_add (x y : Int32) : iN (x + y) = (iN x + iN y) % 4294967296 := by
  show (x.toUInt32 + y.toUInt32).toNat = _
  exact UInt32.toNat_add _ _
theorem iN_mul (x y : Int32) : iN (x * y) = (iN x * iN y) % 4294967296 := by
  show (x.toUInt32 * y.toUInt32).toNat = _
  exact UInt32.toNat_mul _ _
theorem iN_clamp {x : Int32} (h : iN x < 2147483648) : x.toNatClampNeg = iN x := by
  show x.toInt.toNat = _
  rw [iN_int]; split <;> omega
theorem iN_nI {n : Nat} (h : n < 4294967296) : iN (nI n) = n := by
  show (BitVec.ofNat 32 n).toNat = n
  rw [BitVec.toNat_ofNat]; exact Nat.mod_eq_of_lt h
theorem iN_and {x m : Int32} (k : Nat) (hm : iN m = 2 ^ k - 1) : iN (x &&& m) = iN x % 2 ^ k := by
  show (x.toUInt32 &&& m.toUInt32).toNat = _
  rw [UInt32.toNat_and, show m.toUInt32.toNat = 2 ^ k - 1 from hm]
  exact Nat.and_two_pow_sub_one_eq_mod _ k
theorem iN_255 (x : Int32) : iN (x &&& 255) = iN x % 256 := iN_and 8 (by decide)
theorem iN_15 (x : Int32) : iN (x &&& 15) = iN x % 16 := iN_and 4 (by decide)
theorem iN_7 (x : Int32) : iN (x &&& 7) = iN x % 8 := iN_and 3 (by decide)
theorem iN_3 (x : Int32) : iN (x &&& 3) = iN x % 4 := iN_and 2 (by decide)
theorem iN_a1 (x : Int32) : iN (x &&& 1) = iN x % 2 := iN_and 1 (by decide)
theorem iN_of (x : Int64) : iN x.toInt32 = uN x % 4294967296 := by
  show (BitVec.signExtend 32 x.toBitVec).toNat = _
  rw [BitVec.signExtend_eq_setWidth_of_le _ (by decide), BitVec.toNat_setWidth]
  rfl
theorem uN_of (x : Int32) : uN x.toInt64 = if iN x < 2147483648 then iN x else iN x + 18446744069414584320 := by
  have h1 : x.toInt64.toInt = x.toInt := Int32.toInt_toInt64 x
  have h2 := uN_int x.toInt64
  have h3 := iN_int x
  have h4 := uN_lt x.toInt64
  have h5 := iN_lt x
  rw [h1, h3] at h2
  split at h2 <;> split at h2 <;> split <;> omega
theorem uN_of0 {x : Int32} (h : iN x < 2147483648) : uN x.toInt64 = iN x := by rw [uN_of, if_pos h]
theorem uN_shlk {x : Int64} {y : Int32} (k : Nat) (h : (((y.toInt64 &&& 63).toBitVec.smod 64).toNat) = k) : uN (j_lshl x y) = uN x * 2 ^ k % 18446744073709551616 := by
  show (x.toBitVec <<< ((y.toInt64 &&& 63).toBitVec.smod 64).toNat).toNat = _
  rw [h, BitVec.toNat_shiftLeft, Nat.shiftLeft_eq]
  rfl
theorem uN_ushk {x : Int64} {y : Int32} (k : Nat) (h : (y.toInt64.toUInt64 &&& Int64.toUInt64 63).toNat % 64 = k) : uN (j_lushr x y) = uN x / 2 ^ k := by
  unfold j_lushr; rw [uN_shr, h]
theorem uN_orp {x y : Int64} (k : Nat) (h1 : uN x % 2 ^ k = 0) (h2 : uN y < 2 ^ k) : uN (x ||| y) = uN x + uN y := by
  have h3 : uN (x ||| y) = uN x ||| uN y := UInt64.toNat_or _ _
  have h4 : uN x = 2 ^ k * (uN x / 2 ^ k) := by have := Nat.div_add_mod (uN x) (2 ^ k); omega
  rw [h3]
  rw [h4]
  exact (Nat.two_pow_add_eq_or_of_lt (i := k) h2 _).symm
theorem iN_orp {x y : Int32} (k : Nat) (h1 : iN x % 2 ^ k = 0) (h2 : iN y < 2 ^ k) : iN (x ||| y) = iN x + iN y := by
  have h3 : iN (x ||| y) = iN x ||| iN y := UInt32.toNat_or _ _
  have h4 : iN x = 2 ^ k * (iN x / 2 ^ k) := by have := Nat.div_add_mod (iN x) (2 ^ k); omega
  rw [h3]
  rw [h4]
  exact (Nat.two_pow_add_eq_or_of_lt (i := k) h2 _).symm
theorem iN_shl8 (x : Int32) : iN (x <<< ((8 : Int32) &&& 31)) = iN x * 256 % 4294967296 := by
  show (x.toBitVec <<< (((8 : Int32) &&& 31).toBitVec.smod 32).toNat).toNat = _
  rw [show (((8 : Int32) &&& 31).toBitVec.smod 32).toNat = 8 by decide, BitVec.toNat_shiftLeft, Nat.shiftLeft_eq]
  rfl
theorem iN_sh {x y : Int32} (k : Nat) (h : ((y.toBitVec.smod 32).toNat) = k) (hx : iN x < 2147483648) : iN (x >>> y) = iN x / 2 ^ k := by
  show (x.toBitVec.sshiftRight (y.toBitVec.smod 32).toNat).toNat = _
  rw [h, BitVec.sshiftRight_eq_of_msb_false, BitVec.toNat_ushiftRight, Nat.shiftRight_eq_div_pow]
  · rfl
  · rw [BitVec.msb_eq_decide]; simp; exact hx
theorem i2s_eq {x y : Int32} (h : iN x % 65536 = iN y % 65536) : j_i2s x = j_i2s y := by
  have e : x.toInt16 = y.toInt16 := by
    apply Int16.toBitVec_inj.mp
    apply BitVec.eq_of_toNat_eq
    show (BitVec.signExtend 16 x.toBitVec).toNat = (BitVec.signExtend 16 y.toBitVec).toNat
    rw [BitVec.signExtend_eq_setWidth_of_le _ (by decide), BitVec.signExtend_eq_setWidth_of_le _ (by decide), BitVec.toNat_setWidth, BitVec.toNat_setWidth]
    exact h
  unfold j_i2s; rw [e]
