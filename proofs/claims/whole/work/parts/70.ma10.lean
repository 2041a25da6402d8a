theorem and_blk (x m : Nat) : x &&& m = 65536 * ((x / 65536) &&& (m / 65536)) + ((x % 65536) &&& (m % 65536)) := by
  have h1 : (x &&& m) / 2 ^ 16 = x / 2 ^ 16 &&& m / 2 ^ 16 := Nat.and_div_two_pow
  have h2 : (x &&& m) % 2 ^ 16 = x % 2 ^ 16 &&& m % 2 ^ 16 := Nat.and_mod_two_pow
  have h3 := Nat.div_add_mod (x &&& m) (2 ^ 16)
  rw [h1, h2] at h3
  exact h3.symm
theorem or_blk (x m : Nat) : x ||| m = 65536 * ((x / 65536) ||| (m / 65536)) + ((x % 65536) ||| (m % 65536)) := by
  have h1 : (x ||| m) / 2 ^ 16 = x / 2 ^ 16 ||| m / 2 ^ 16 := Nat.or_div_two_pow
  have h2 : (x ||| m) % 2 ^ 16 = x % 2 ^ 16 ||| m % 2 ^ 16 := Nat.or_mod_two_pow
  have h3 := Nat.div_add_mod (x ||| m) (2 ^ 16)
  rw [h1, h2] at h3
  exact h3.symm
theorem and255 (x : Nat) : x &&& 255 = x % 256 := Nat.and_two_pow_sub_one_eq_mod x 8
theorem or8 {a b : Nat} (h : b < 256) : 256 * a ||| b = 256 * a + b := (Nat.two_pow_add_eq_or_of_lt (i := 8) h a).symm
theorem andM {B0 B1 B2 B3 B4 B5 B6 B7 : Nat} (h0 : B0 < 256) (h1 : B1 < 256) (h2 : B2 < 256) (h3 : B3 < 256) (h4 : B4 < 256) (h5 : B5 < 256) (h6 : B6 < 256) (h7 : B7 < 256) : (1 * B0 + 256 * B1 + 65536 * B2 + 16777216 * B3 + 4294967296 * B4 + 1099511627776 * B5 + 281474976710656 * B6 + 72057594037927936 * B7) &&& 71777214294589695 = B0 + 65536 * B2 + 4294967296 * B4 + 281474976710656 * B6 := by
  rw [and_blk (1 * B0 + 256 * B1 + 65536 * B2 + 16777216 * B3 + 4294967296 * B4 + 1099511627776 * B5 + 281474976710656 * B6 + 72057594037927936 * B7) 71777214294589695, show (1 * B0 + 256 * B1 + 65536 * B2 + 16777216 * B3 + 4294967296 * B4 + 1099511627776 * B5 + 281474976710656 * B6 + 72057594037927936 * B7) / 65536 = 1 * B2 + 256 * B3 + 65536 * B4 + 16777216 * B5 + 4294967296 * B6 + 1099511627776 * B7 by omega, show 71777214294589695 / 65536 = 1095233372415 by decide, show (1 * B0 + 256 * B1 + 65536 * B2 + 16777216 * B3 + 4294967296 * B4 + 1099511627776 * B5 + 281474976710656 * B6 + 72057594037927936 * B7) % 65536 = 256 * B1 + B0 by omega, show 71777214294589695 % 65536 = 255 by decide, and255 (256 * B1 + B0), show (256 * B1 + B0) % 256 = B0 by omega]
  rw [and_blk (1 * B2 + 256 * B3 + 65536 * B4 + 16777216 * B5 + 4294967296 * B6 + 1099511627776 * B7) 1095233372415, show (1 * B2 + 256 * B3 + 65536 * B4 + 16777216 * B5 + 4294967296 * B6 + 1099511627776 * B7) / 65536 = 1 * B4 + 256 * B5 + 65536 * B6 + 16777216 * B7 by omega, show 1095233372415 / 65536 = 16711935 by decide, show (1 * B2 + 256 * B3 + 65536 * B4 + 16777216 * B5 + 4294967296 * B6 + 1099511627776 * B7) % 65536 = 256 * B3 + B2 by omega, show 1095233372415 % 65536 = 255 by decide, and255 (256 * B3 + B2), show (256 * B3 + B2) % 256 = B2 by omega]
  rw [and_blk (1 * B4 + 256 * B5 + 65536 * B6 + 16777216 * B7) 16711935, show (1 * B4 + 256 * B5 + 65536 * B6 + 16777216 * B7) / 65536 = 1 * B6 + 256 * B7 by omega, show 16711935 / 65536 = 255 by decide, show (1 * B4 + 256 * B5 + 65536 * B6 + 16777216 * B7) % 65536 = 256 * B5 + B4 by omega, show 16711935 % 65536 = 255 by decide, and255 (256 * B5 + B4), show (256 * B5 + B4) % 256 = B4 by omega]
  rw [and_blk (1 * B6 + 256 * B7) 255, show (1 * B6 + 256 * B7) / 65536 = 0 by omega, show 255 / 65536 = 0 by decide, show (1 * B6 + 256 * B7) % 65536 = 256 * B7 + B6 by omega, show 255 % 65536 = 255 by decide, and255 (256 * B7 + B6), show (256 * B7 + B6) % 256 = B6 by omega]
  rw [Nat.zero_and]; omega
theorem orT {B0 B1 B2 B3 B4 B5 B6 B7 : Nat} (h0 : B0 < 256) (h1 : B1 < 256) (h2 : B2 < 256) (h3 : B3 < 256) (h4 : B4 < 256) (h5 : B5 < 256) (h6 : B6 < 256) (h7 : B7 < 256) : (256 * B0 + 16777216 * B2 + 1099511627776 * B4 + 72057594037927936 * B6) ||| (1 * B1 + 65536 * B3 + 4294967296 * B5 + 281474976710656 * B7) = (B1 + 256 * B0) + 65536 * (B3 + 256 * B2) + 4294967296 * (B5 + 256 * B4) + 281474976710656 * (B7 + 256 * B6) := by
  rw [or_blk (256 * B0 + 16777216 * B2 + 1099511627776 * B4 + 72057594037927936 * B6) (1 * B1 + 65536 * B3 + 4294967296 * B5 + 281474976710656 * B7), show (256 * B0 + 16777216 * B2 + 1099511627776 * B4 + 72057594037927936 * B6) / 65536 = 256 * B2 + 16777216 * B4 + 1099511627776 * B6 by omega, show (1 * B1 + 65536 * B3 + 4294967296 * B5 + 281474976710656 * B7) / 65536 = 1 * B3 + 65536 * B5 + 4294967296 * B7 by omega, show (256 * B0 + 16777216 * B2 + 1099511627776 * B4 + 72057594037927936 * B6) % 65536 = 256 * B0 by omega, show (1 * B1 + 65536 * B3 + 4294967296 * B5 + 281474976710656 * B7) % 65536 = B1 by omega, or8 h1]
  rw [or_blk (256 * B2 + 16777216 * B4 + 1099511627776 * B6) (1 * B3 + 65536 * B5 + 4294967296 * B7), show (256 * B2 + 16777216 * B4 + 1099511627776 * B6) / 65536 = 256 * B4 + 16777216 * B6 by omega, show (1 * B3 + 65536 * B5 + 4294967296 * B7) / 65536 = 1 * B5 + 65536 * B7 by omega, show (256 * B2 + 16777216 * B4 + 1099511627776 * B6) % 65536 = 256 * B2 by omega, show (1 * B3 + 65536 * B5 + 4294967296 * B7) % 65536 = B3 by omega, or8 h3]
  rw [or_blk (256 * B4 + 16777216 * B6) (1 * B5 + 65536 * B7), show (256 * B4 + 16777216 * B6) / 65536 = 256 * B6 by omega, show (1 * B5 + 65536 * B7) / 65536 = 1 * B7 by omega, show (256 * B4 + 16777216 * B6) % 65536 = 256 * B4 by omega, show (1 * B5 + 65536 * B7) % 65536 = B5 by omega, or8 h5]
  rw [or_blk (256 * B6) (1 * B7), show (256 * B6) / 65536 = 0 by omega, show (1 * B7) / 65536 = 0 by omega, show (256 * B6) % 65536 = 256 * B6 by omega, show (1 * B7) % 65536 = B7 by omega, or8 h7]
  rw [Nat.zero_or]; omega
theorem and_hi (x : Nat) : x &&& 4294901760 = 65536 * (x / 65536 % 65536) := by
  rw [and_blk, show 4294901760 / 65536 = 65535 by decide, show 4294901760 % 65536 = 0 by decide, Nat.and_zero, Nat.add_zero]
  rw [show x / 65536 &&& 65535 = x / 65536 % 65536 from Nat.and_two_pow_sub_one_eq_mod _ 16]
theorem byts (x : Nat) (h : x < 18446744073709551616) : ∃ B0 B1 B2 B3 B4 B5 B6 B7 : Nat, (B0 < 256 ∧ B1 < 256 ∧ B2 < 256 ∧ B3 < 256 ∧ B4 < 256 ∧ B5 < 256 ∧ B6 < 256 ∧ B7 < 256) ∧ x = 1 * B0 + 256 * B1 + 65536 * B2 + 16777216 * B3 + 4294967296 * B4 + 1099511627776 * B5 + 281474976710656 * B6 + 72057594037927936 * B7 :=
  ⟨x % 256, x / 256 % 256, x / 65536 % 256, x / 16777216 % 256, x / 4294967296 % 256, x / 1099511627776 % 256, x / 281474976710656 % 256, x / 72057594037927936 % 256, by omega, by omega⟩
theorem rev_eq {a : Int64} {B0 B1 B2 B3 B4 B5 B6 B7 : Nat} (h0 : B0 < 256) (h1 : B1 < 256) (h2 : B2 < 256) (h3 : B3 < 256) (h4 : B4 < 256) (h5 : B5 < 256) (h6 : B6 < 256) (h7 : B7 < 256) (hx : uN a = 1 * B0 + 256 * B1 + 65536 * B2 + 16777216 * B3 + 4294967296 * B4 + 1099511627776 * B5 + 281474976710656 * B6 + 72057594037927936 * B7) : uN (f_Jl_reverseBytes a) = 72057594037927936 * B0 + 281474976710656 * B1 + 1099511627776 * B2 + 4294967296 * B3 + 16777216 * B4 + 65536 * B5 + 256 * B6 + 1 * B7 := by
  unfold f_Jl_reverseBytes
  have e1 : uN (a &&& (71777214294589695 : Int64)) = B0 + 65536 * B2 + 4294967296 * B4 + 281474976710656 * B6 := by
    have : uN (a &&& (71777214294589695 : Int64)) = uN a &&& 71777214294589695 := UInt64.toNat_and _ _
    rw [this, hx]; exact andM h0 h1 h2 h3 h4 h5 h6 h7
  have e2 : uN ((j_lushr a (8 : Int32)) &&& (71777214294589695 : Int64)) = B1 + 65536 * B3 + 4294967296 * B5 + 281474976710656 * B7 := by
    have : uN ((j_lushr a (8 : Int32)) &&& (71777214294589695 : Int64)) = uN (j_lushr a (8 : Int32)) &&& 71777214294589695 := UInt64.toNat_and _ _
    rw [this, uN_ushk 8 (by decide), hx, show (1 * B0 + 256 * B1 + 65536 * B2 + 16777216 * B3 + 4294967296 * B4 + 1099511627776 * B5 + 281474976710656 * B6 + 72057594037927936 * B7) / 2 ^ 8 = 1 * B1 + 256 * B2 + 65536 * B3 + 16777216 * B4 + 4294967296 * B5 + 1099511627776 * B6 + 281474976710656 * B7 + 72057594037927936 * 0 by omega]
    exact andM h1 h2 h3 h4 h5 h6 h7 (by decide)
  have e3 : uN (j_lshl (a &&& (71777214294589695 : Int64)) (8 : Int32)) = 256 * B0 + 16777216 * B2 + 1099511627776 * B4 + 72057594037927936 * B6 := by
    rw [uN_shlk 8 (by decide), e1]; omega
  have e4 : uN ((j_lshl (a &&& (71777214294589695 : Int64)) (8 : Int32)) ||| ((j_lushr a (8 : Int32)) &&& (71777214294589695 : Int64))) = (B1 + 256 * B0) + 65536 * (B3 + 256 * B2) + 4294967296 * (B5 + 256 * B4) + 281474976710656 * (B7 + 256 * B6) := by
    have h9 := UInt64.toNat_or (j_lshl (a &&& (71777214294589695 : Int64)) (8 : Int32)).toUInt64 ((j_lushr a (8 : Int32)) &&& (71777214294589695 : Int64)).toUInt64
    have : uN ((j_lshl (a &&& (71777214294589695 : Int64)) (8 : Int32)) ||| ((j_lushr a (8 : Int32)) &&& (71777214294589695 : Int64))) = uN (j_lshl (a &&& (71777214294589695 : Int64)) (8 : Int32)) ||| uN ((j_lushr a (8 : Int32)) &&& (71777214294589695 : Int64)) := h9
    rw [this, e3, e2, show B1 + 65536 * B3 + 4294967296 * B5 + 281474976710656 * B7 = 1 * B1 + 65536 * B3 + 4294967296 * B5 + 281474976710656 * B7 by omega]
    exact orT h0 h1 h2 h3 h4 h5 h6 h7
  generalize (j_lshl (a &&& (71777214294589695 : Int64)) (8 : Int32)) ||| ((j_lushr a (8 : Int32)) &&& (71777214294589695 : Int64)) = t at e4 ⊢
  have f1 : uN (j_lshl t (48 : Int32)) = 281474976710656 * (B1 + 256 * B0) := by rw [uN_shlk 48 (by decide), e4]; omega
  have f2 : uN (t &&& (4294901760 : Int64)) = 65536 * (B3 + 256 * B2) := by
    have : uN (t &&& (4294901760 : Int64)) = uN t &&& 4294901760 := UInt64.toNat_and _ _
    rw [this, and_hi, e4]; omega
  have f3 : uN (j_lshl (t &&& (4294901760 : Int64)) (16 : Int32)) = 4294967296 * (B3 + 256 * B2) := by rw [uN_shlk 16 (by decide), f2]; omega
  have f4 : uN ((j_lushr t (16 : Int32)) &&& (4294901760 : Int64)) = 65536 * (B5 + 256 * B4) := by
    have : uN ((j_lushr t (16 : Int32)) &&& (4294901760 : Int64)) = uN (j_lushr t (16 : Int32)) &&& 4294901760 := UInt64.toNat_and _ _
    have e5 : uN (j_lushr t (16 : Int32)) = (B3 + 256 * B2) + 65536 * (B5 + 256 * B4) + 4294967296 * (B7 + 256 * B6) := by rw [uN_ushk 16 (by decide), e4]; omega
    rw [this, and_hi, e5]; omega
  have f5 : uN (j_lushr t (48 : Int32)) = B7 + 256 * B6 := by rw [uN_ushk 48 (by decide), e4]; omega
  have g1 : uN ((j_lshl t (48 : Int32)) ||| (j_lshl (t &&& (4294901760 : Int64)) (16 : Int32))) = 281474976710656 * (B1 + 256 * B0) + 4294967296 * (B3 + 256 * B2) := by
    rw [uN_orp 48 (by rw [f1]; omega) (by rw [f3]; omega), f1, f3]
  have g2 : uN (((j_lshl t (48 : Int32)) ||| (j_lshl (t &&& (4294901760 : Int64)) (16 : Int32))) ||| ((j_lushr t (16 : Int32)) &&& (4294901760 : Int64))) = 281474976710656 * (B1 + 256 * B0) + 4294967296 * (B3 + 256 * B2) + 65536 * (B5 + 256 * B4) := by
    rw [uN_orp 32 (by rw [g1]; omega) (by rw [f4]; omega), g1, f4]
  rw [uN_orp 16 (by rw [g2]; omega) (by rw [f5]; omega), g2, f5]; omega
theorem bx0 {a : Int64} {B0 B1 B2 B3 B4 B5 B6 B7 : Nat} (h0 : B0 < 256) (h1 : B1 < 256) (h2 : B2 < 256) (h3 : B3 < 256) (h4 : B4 < 256) (h5 : B5 < 256) (h6 : B6 < 256) (h7 : B7 < 256) (hx : uN a = 1 * B0 + 256 * B1 + 65536 * B2 + 16777216 * B3 + 4294967296 * B4 + 1099511627776 * B5 + 281474976710656 * B6 + 72057594037927936 * B7) : uN a / 2 ^ 0 % 256 = B0 := by rw [hx]; omega
theorem bx1 {a : Int64} {B0 B1 B2 B3 B4 B5 B6 B7 : Nat} (h0 : B0 < 256) (h1 : B1 < 256) (h2 : B2 < 256) (h3 : B3 < 256) (h4 : B4 < 256) (h5 : B5 < 256) (h6 : B6 < 256) (h7 : B7 < 256) (hx : uN a = 1 * B0 + 256 * B1 + 65536 * B2 + 16777216 * B3 + 4294967296 * B4 + 1099511627776 * B5 + 281474976710656 * B6 + 72057594037927936 * B7) : uN a / 2 ^ 8 % 256 = B1 := by rw [hx]; omega
theorem bx2 {a : Int64} {B0 B1 B2 B3 B4 B5 B6 B7 : Nat} (h0 : B0 < 256) (h1 : B1 < 256) (h2 : B2 < 256) (h3 : B3 < 256) (h4 : B4 < 256) (h5 : B5 < 256) (h6 : B6 < 256) (h7 : B7 < 256) (hx : uN a = 1 * B0 + 256 * B1 + 65536 * B2 + 16777216 * B3 + 4294967296 * B4 + 1099511627776 * B5 + 281474976710656 * B6 + 72057594037927936 * B7) : uN a / 2 ^ 16 % 256 = B2 := by rw [hx]; omega
theorem bx3 {a : Int64} {B0 B1 B2 B3 B4 B5 B6 B7 : Nat} (h0 : B0 < 256) (h1 : B1 < 256) (h2 : B2 < 256) (h3 : B3 < 256) (h4 : B4 < 256) (h5 : B5 < 256) (h6 : B6 < 256) (h7 : B7 < 256) (hx : uN a = 1 * B0 + 256 * B1 + 65536 * B2 + 16777216 * B3 + 4294967296 * B4 + 1099511627776 * B5 + 281474976710656 * B6 + 72057594037927936 * B7) : uN a / 2 ^ 24 % 256 = B3 := by rw [hx]; omega
theorem bx4 {a : Int64} {B0 B1 B2 B3 B4 B5 B6 B7 : Nat} (h0 : B0 < 256) (h1 : B1 < 256) (h2 : B2 < 256) (h3 : B3 < 256) (h4 : B4 < 256) (h5 : B5 < 256) (h6 : B6 < 256) (h7 : B7 < 256) (hx : uN a = 1 * B0 + 256 * B1 + 65536 * B2 + 16777216 * B3 + 4294967296 * B4 + 1099511627776 * B5 + 281474976710656 * B6 + 72057594037927936 * B7) : uN a / 2 ^ 32 % 256 = B4 := by rw [hx]; omega
theorem bx5 {a : Int64} {B0 B1 B2 B3 B4 B5 B6 B7 : Nat} (h0 : B0 < 256) (h1 : B1 < 256) (h2 : B2 < 256) (h3 : B3 < 256) (h4 : B4 < 256) (h5 : B5 < 256) (h6 : B6 < 256) (h7 : B7 < 256) (hx : uN a = 1 * B0 + 256 * B1 + 65536 * B2 + 16777216 * B3 + 4294967296 * B4 + 1099511627776 * B5 + 281474976710656 * B6 + 72057594037927936 * B7) : uN a / 2 ^ 40 % 256 = B5 := by rw [hx]; omega
theorem bx6 {a : Int64} {B0 B1 B2 B3 B4 B5 B6 B7 : Nat} (h0 : B0 < 256) (h1 : B1 < 256) (h2 : B2 < 256) (h3 : B3 < 256) (h4 : B4 < 256) (h5 : B5 < 256) (h6 : B6 < 256) (h7 : B7 < 256) (hx : uN a = 1 * B0 + 256 * B1 + 65536 * B2 + 16777216 * B3 + 4294967296 * B4 + 1099511627776 * B5 + 281474976710656 * B6 + 72057594037927936 * B7) : uN a / 2 ^ 48 % 256 = B6 := by rw [hx]; omega
theorem bx7 {a : Int64} {B0 B1 B2 B3 B4 B5 B6 B7 : Nat} (h0 : B0 < 256) (h1 : B1 < 256) (h2 : B2 < 256) (h3 : B3 < 256) (h4 : B4 < 256) (h5 : B5 < 256) (h6 : B6 < 256) (h7 : B7 < 256) (hx : uN a = 1 * B0 + 256 * B1 + 65536 * B2 + 16777216 * B3 + 4294967296 * B4 + 1099511627776 * B5 + 281474976710656 * B6 + 72057594037927936 * B7) : uN a / 2 ^ 56 % 256 = B7 := by rw [hx]; omega
theorem tu_step {v a : Int64} {V B : Nat} {y : Int32} (k : Nat) (hy : (y.toInt64.toUInt64 &&& Int64.toUInt64 63).toNat % 64 = k) (hv : uN v = V) (hV : V < 72057594037927936) (hB : uN a / 2 ^ k % 256 = B) : uN (((256 : Int64) * v) + ((j_lushr a y) &&& (255 : Int64))) = 256 * V + B := by
  have h1 : uN ((j_lushr a y) &&& (255 : Int64)) = B := by rw [uN_and 8 (by decide), uN_ushk k hy]; exact hB
  rw [uN_add, uN_mul, hv, h1, show uN 256 = 256 by decide]; omega
theorem tu16 (a : Int64) : f_Ar_turned a (16 : Int32) = f_Mo_turned a (16 : Int32) := by
  obtain ⟨B0, B1, B2, B3, B4, B5, B6, B7, ⟨h0, h1, h2, h3, h4, h5, h6, h7⟩, hx⟩ := byts (uN a) (uN_lt a)
  have hr := rev_eq h0 h1 h2 h3 h4 h5 h6 h7 hx
  have e : f_Mo_turned a (16 : Int32) = (((256 : Int64) * (((256 : Int64) * (0 : Int64)) + ((j_lushr a (0 : Int32)) &&& (255 : Int64)))) + ((j_lushr a (8 : Int32)) &&& (255 : Int64))) := rfl
  apply uN_inj; rw [e]; unfold f_Ar_turned; rw [uN_ushk 48 (by decide), hr]
  have s0 := tu_step (v := (0 : Int64)) (a := a) (V := 0) (B := B0) (y := 0) 0 (by decide) (by decide) (by decide) (bx0 h0 h1 h2 h3 h4 h5 h6 h7 hx)
  have s1 := tu_step (a := a) (B := B1) (y := 8) 8 (by decide) s0 (by omega) (bx1 h0 h1 h2 h3 h4 h5 h6 h7 hx)
  rw [s1]; omega
theorem tu32 (a : Int64) : f_Ar_turned a (32 : Int32) = f_Mo_turned a (32 : Int32) := by
  obtain ⟨B0, B1, B2, B3, B4, B5, B6, B7, ⟨h0, h1, h2, h3, h4, h5, h6, h7⟩, hx⟩ := byts (uN a) (uN_lt a)
  have hr := rev_eq h0 h1 h2 h3 h4 h5 h6 h7 hx
  have e : f_Mo_turned a (32 : Int32) = (((256 : Int64) * (((256 : Int64) * (((256 : Int64) * (((256 : Int64) * (0 : Int64)) + ((j_lushr a (0 : Int32)) &&& (255 : Int64)))) + ((j_lushr a (8 : Int32)) &&& (255 : Int64)))) + ((j_lushr a (16 : Int32)) &&& (255 : Int64)))) + ((j_lushr a (24 : Int32)) &&& (255 : Int64))) := rfl
  apply uN_inj; rw [e]; unfold f_Ar_turned; rw [uN_ushk 32 (by decide), hr]
  have s0 := tu_step (v := (0 : Int64)) (a := a) (V := 0) (B := B0) (y := 0) 0 (by decide) (by decide) (by decide) (bx0 h0 h1 h2 h3 h4 h5 h6 h7 hx)
  have s1 := tu_step (a := a) (B := B1) (y := 8) 8 (by decide) s0 (by omega) (bx1 h0 h1 h2 h3 h4 h5 h6 h7 hx)
  have s2 := tu_step (a := a) (B := B2) (y := 16) 16 (by decide) s1 (by omega) (bx2 h0 h1 h2 h3 h4 h5 h6 h7 hx)
  have s3 := tu_step (a := a) (B := B3) (y := 24) 24 (by decide) s2 (by omega) (bx3 h0 h1 h2 h3 h4 h5 h6 h7 hx)
  rw [s3]; omega
theorem tu64 (a : Int64) : f_Ar_turned a (64 : Int32) = f_Mo_turned a (64 : Int32) := by
  obtain ⟨B0, B1, B2, B3, B4, B5, B6, B7, ⟨h0, h1, h2, h3, h4, h5, h6, h7⟩, hx⟩ := byts (uN a) (uN_lt a)
  have hr := rev_eq h0 h1 h2 h3 h4 h5 h6 h7 hx
  have e : f_Mo_turned a (64 : Int32) = (((256 : Int64) * (((256 : Int64) * (((256 : Int64) * (((256 : Int64) * (((256 : Int64) * (((256 : Int64) * (((256 : Int64) * (((256 : Int64) * (0 : Int64)) + ((j_lushr a (0 : Int32)) &&& (255 : Int64)))) + ((j_lushr a (8 : Int32)) &&& (255 : Int64)))) + ((j_lushr a (16 : Int32)) &&& (255 : Int64)))) + ((j_lushr a (24 : Int32)) &&& (255 : Int64)))) + ((j_lushr a (32 : Int32)) &&& (255 : Int64)))) + ((j_lushr a (40 : Int32)) &&& (255 : Int64)))) + ((j_lushr a (48 : Int32)) &&& (255 : Int64)))) + ((j_lushr a (56 : Int32)) &&& (255 : Int64))) := rfl
  apply uN_inj; rw [e]; unfold f_Ar_turned; rw [uN_ushk 0 (by decide), hr]
  have s0 := tu_step (v := (0 : Int64)) (a := a) (V := 0) (B := B0) (y := 0) 0 (by decide) (by decide) (by decide) (bx0 h0 h1 h2 h3 h4 h5 h6 h7 hx)
  have s1 := tu_step (a := a) (B := B1) (y := 8) 8 (by decide) s0 (by omega) (bx1 h0 h1 h2 h3 h4 h5 h6 h7 hx)
  have s2 := tu_step (a := a) (B := B2) (y := 16) 16 (by decide) s1 (by omega) (bx2 h0 h1 h2 h3 h4 h5 h6 h7 hx)
  have s3 := tu_step (a := a) (B := B3) (y := 24) 24 (by decide) s2 (by omega) (bx3 h0 h1 h2 h3 h4 h5 h6 h7 hx)
  have s4 := tu_step (a := a) (B := B4) (y := 32) 32 (by decide) s3 (by omega) (bx4 h0 h1 h2 h3 h4 h5 h6 h7 hx)
  have s5 := tu_step (a := a) (B := B5) (y := 40) 40 (by decide) s4 (by omega) (bx5 h0 h1 h2 h3 h4 h5 h6 h7 hx)
  have s6 := tu_step (a := a) (B := B6) (y := 48) 48 (by decide) s5 (by omega) (bx6 h0 h1 h2 h3 h4 h5 h6 h7 hx)
  have s7 := tu_step (a := a) (B := B7) (y := 56) 56 (by decide) s6 (by omega) (bx7 h0 h1 h2 h3 h4 h5 h6 h7 hx)
  rw [s7]; omega
