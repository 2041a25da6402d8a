theorem so_eq {c : Int32} (hc : iN c < 256) (h0 : ¬ f_Mo_n c = 0) (h8 : ¬ f_Mo_n c = 8) (h9 : ¬ f_Mo_n c = 9) (h14 : ¬ f_Mo_n c = 14) (h15 : ¬ f_Mo_n c = 15) (a b : Int64) : f_Ar_isTaken (f_Mo_n c) a b = f_Mo_isSo c a b := by
  unfold f_Ar_isTaken f_Mo_isSo
  simp only [less_eq, uN_le, uN_ltx]
  rcases n16 hc with q | q | q | q | q | q | q | q | q | q | q | q | q | q | q | q
  · exact absurd q h0
  · rw [q]; simp
  · rw [q]; simp [← decide_not]
  · rw [q]; simp
  · rw [q]; simp
  · rw [q]; simp
  · rw [q]; simp
  · rw [q]; simp
  · exact absurd q h8
  · exact absurd q h9
  · rw [q]; simp [← decide_not]
  · rw [q]; simp
  · rw [q]; simp
  · rw [q]; simp
  · exact absurd q h14
  · exact absurd q h15
theorem wide_eq {c o : Int32} (hc : iN c < 256) (h13 : ¬ f_Mo_n c = 13) (h14 : ¬ f_Mo_n c = 14) (h15 : ¬ f_Mo_n c = 15) (ho : f_Mo_n c = 11 → ¬ o = 0 → (o = 8 ∨ o = 16 ∨ o = 32)) (a b : Int64) : f_Ar_wide (f_Mo_n c) o a b = f_Mo_reckoned c o a b (64 : Int32) := by
  have l64 : ∀ x : Int64, f_Mo_lowest x (64 : Int32) = x := fun x => by unfold f_Mo_lowest; rw [if_pos rfl]
  have e63 : (((64 : Int32) - (1 : Int32)).toInt64) = (63 : Int64) := by decide
  unfold f_Ar_wide f_Mo_reckoned f_Ar_rest
  simp only [l64, e63, q_eq]
  rcases n16 hc with q | q | q | q | q | q | q | q | q | q | q | q | q | q | q | q
  · rw [q]; simp
  · rw [q]; simp
  · rw [q]; simp
  · rw [q]; by_cases z : o = 1 <;> simp [z]
  · rw [q]; simp
  · rw [q]; simp
  · rw [q]; simp
  · rw [q]; simp
  · rw [q]; simp
  · rw [q]; by_cases z : o = 1 <;> simp [z, Int64.mul_comm]
  · rw [q]; simp
  · by_cases z : o = 0
    · rw [q]; simp [z]
    · have := sg_eq b (ho q z)
      rw [q]; simp [z, this]
  · rw [q]; simp
  · exact absurd q h13
  · exact absurd q h14
  · exact absurd q h15
theorem i64_i32 (x : Int32) : x.toInt64.toInt32 = x := by
  apply iN_inj
  have := iN_lt x
  rw [iN_of, uN_of]; split <;> omega
theorem shc32 : ∀ k, k < 32 → ((nI k &&& 31).toBitVec.smod 32).toNat = k := by decide +kernel
theorem shu32 : ∀ k, k < 32 → (((nI k).toUInt32 &&& Int32.toUInt32 31).toBitVec % 32).toNat = k := by decide +kernel
theorem and31 (y : Int32) : ∃ k, k < 32 ∧ y &&& (31 : Int32) = nI k ∧ (y.toInt64 &&& (((32 : Int32) - (1 : Int32)).toInt64)).toInt32 = nI k := by
  have h : iN (y &&& (31 : Int32)) = iN y % 32 := iN_and 5 (by decide)
  refine ⟨iN y % 32, by omega, iN_inj (by rw [h, iN_nI (by omega)]), iN_inj ?_⟩
  have h2 : uN (y.toInt64 &&& (((32 : Int32) - (1 : Int32)).toInt64)) = uN y.toInt64 % 32 := uN_and 5 (by decide)
  have := iN_lt y
  rw [iN_of, h2, uN_of, iN_nI (by omega)]; split <;> omega
theorem sh_l (x y : Int32) : f_Ar_lowest ((x <<< ((y &&& (31 : Int32)) &&& 31)).toInt64) (32 : Int32) = f_Mo_lowest (j_lshl x.toInt64 ((y.toInt64 &&& (((32 : Int32) - (1 : Int32)).toInt64)).toInt32)) (32 : Int32) := by
  rw [← low_eq _ (Or.inr (Or.inl rfl))]
  obtain ⟨k, hk, e1, e2⟩ := and31 y
  rw [e1, e2]
  apply low_cong
  have h1 : iN (x <<< (nI k &&& 31)) = iN x * 2 ^ k % 4294967296 := by
    show (x.toBitVec <<< ((nI k &&& 31).toBitVec.smod 32).toNat).toNat = _
    rw [shc32 k hk, BitVec.toNat_shiftLeft, Nat.shiftLeft_eq]; rfl
  rw [uN_shlk k (shc k (by omega)), uN_of, h1, uN_of]
  have hx := iN_lt x
  have e : (if iN x < 2147483648 then iN x else iN x + 18446744069414584320) * 2 ^ k % 18446744073709551616 % 4294967296 = iN x * 2 ^ k % 4294967296 := by
    rw [Nat.mod_mod_of_dvd _ (by decide : 4294967296 ∣ 18446744073709551616)]
    split
    · rfl
    · rw [Nat.add_mul, Nat.add_mod, Nat.mul_mod 18446744069414584320, show 18446744069414584320 % 4294967296 = 0 by decide, Nat.zero_mul, Nat.zero_mod, Nat.add_zero, Nat.mod_mod]
  rw [e]
  split <;> omega
theorem sh_u (x y : Int32) : f_Ar_lowest ((j_iushr x (y &&& (31 : Int32))).toInt64) (32 : Int32) = f_Mo_lowest (j_lushr (f_Mo_lowest x.toInt64 (32 : Int32)) ((y.toInt64 &&& (((32 : Int32) - (1 : Int32)).toInt64)).toInt32)) (32 : Int32) := by
  rw [← low_eq _ (Or.inr (Or.inl rfl)), ← low_eq _ (Or.inr (Or.inl rfl))]
  obtain ⟨k, hk, e1, e2⟩ := and31 y
  rw [e1, e2]
  apply low_cong
  have h1 : iN (j_iushr x (nI k)) = iN x / 2 ^ k := by
    show (x.toUInt32.toBitVec >>> (((nI k).toUInt32 &&& Int32.toUInt32 31).toBitVec % 32).toNat).toNat = _
    rw [shu32 k hk, BitVec.toNat_ushiftRight, Nat.shiftRight_eq_div_pow]; rfl
  have hx := iN_lt x
  have h2 : uN (f_Ar_lowest x.toInt64 (32 : Int32)) = iN x := by rw [low32, uN_of]; split <;> omega
  have h3 : iN x / 2 ^ k ≤ iN x := Nat.div_le_self _ _
  rw [uN_ushk k (shu k (by omega)), h2, uN_of, h1]
  split <;> omega
theorem sh_s (x y : Int32) : f_Ar_lowest ((x >>> ((y &&& (31 : Int32)) &&& 31)).toInt64) (32 : Int32) = f_Mo_lowest (j_lshr x.toInt64 ((y.toInt64 &&& (((32 : Int32) - (1 : Int32)).toInt64)).toInt32)) (32 : Int32) := by
  rw [← low_eq _ (Or.inr (Or.inl rfl))]
  obtain ⟨k, hk, e1, e2⟩ := and31 y
  rw [e1, e2]
  congr 1
  apply Int64.toInt_inj.mp
  rw [lshr_int _ k (shc k (by omega)), Int32.toInt_toInt64, Int32.toInt_toInt64]
  show (x.toBitVec.sshiftRight ((nI k &&& 31).toBitVec.smod 32).toNat).toInt = _
  rw [shc32 k hk, BitVec.toInt_sshiftRight, Int.shiftRight_eq_div_pow, Int.natCast_pow]; rfl
theorem nar_eq {c o : Int32} (hc : iN c < 256) (h13 : ¬ f_Mo_n c = 13) (h14 : ¬ f_Mo_n c = 14) (h15 : ¬ f_Mo_n c = 15) (ho : f_Mo_n c = 11 → ¬ o = 0 → (o = 8 ∨ o = 16 ∨ o = 32)) (a b : Int64) : f_Ar_narrow (f_Mo_n c) o a.toInt32 b.toInt32 = f_Mo_lowest (f_Mo_reckoned c o (f_Mo_signed a (32 : Int32)) (f_Mo_signed b (32 : Int32)) (32 : Int32)) (32 : Int32) := by
  rw [sg32, sg32]
  have ll : ∀ x : Int64, f_Ar_lowest x (32 : Int32) = f_Mo_lowest x (32 : Int32) := fun x => low_eq x (Or.inr (Or.inl rfl))
  have s1 := sh_l a.toInt32 b.toInt32
  have s2 := sh_u a.toInt32 b.toInt32
  have s3 := sh_s a.toInt32 b.toInt32
  generalize a.toInt32 = x at *
  generalize b.toInt32 = y at *
  unfold f_Ar_narrow f_Ar_wide f_Mo_reckoned f_Ar_rest
  rw [s1, s2, s3]
  simp only [ll, q_eq]
  rcases n16 hc with q | q | q | q | q | q | q | q | q | q | q | q | q | q | q | q
  · rw [q]; simp
  · rw [q]; simp
  · rw [q]; simp
  · rw [q]; by_cases z : o = 1 <;> simp [z]
  · rw [q]; simp
  · rw [q]; simp
  · rw [q]; simp
  · rw [q]; simp
  · rw [q]; simp
  · rw [q]; by_cases z : o = 1 <;> simp [z, Int64.mul_comm]
  · rw [q]; simp
  · by_cases z : o = 0
    · rw [q]; simp [z]
    · have := sg_eq y.toInt64 (ho q z)
      rw [q]; simp [z, this]
  · rw [q]; simp
  · exact absurd q h13
  · exact absurd q h14
  · exact absurd q h15
