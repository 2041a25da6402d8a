theorem bI_lez {b : Bool} (h : bI b ≤ 0) : ¬ b = true := by
  intro q; subst q; exact absurd h (by decide)
theorem bI_len {b : Bool} (h : ¬ bI b ≤ 0) : b = true := by
  cases b
  · exact absurd (by decide) h
  · rfl
theorem bI_gtn {b : Bool} (h : 0 < bI b) : b = true := by
  cases b
  · exact absurd h (by decide)
  · rfl
theorem bI_gtz {b : Bool} (h : ¬ 0 < bI b) : ¬ b = true := by
  intro q; subst q; exact absurd (by decide) h
theorem tu_lim {a1 : Int32} (hb : a1 = 16 ∨ a1 = 32 ∨ a1 = 64) : 16 ≤ a1.toInt ∧ a1.toInt ≤ 64 := by
  rcases hb with rfl | rfl | rfl <;> decide
theorem tu_fuel {a1 : Int32} (hb : a1 = 16 ∨ a1 = 32 ∨ a1 = 64) : (a1.toInt - (0 : Int32).toInt).toNat < 65 := by
  have := tu_lim hb
  rw [i_0]; omega
theorem tu_d {a1 k : Int32} (hb : a1 = 16 ∨ a1 = 32 ∨ a1 = 64) (h : 0 ≤ k.toInt) (c : ¬ a1 ≤ k) : (k + (8 : Int32)).toInt = k.toInt + 8 ∧ k.toInt < a1.toInt := by
  have := tu_lim hb
  have c := i_nle c
  have e8 : (8 : Int32).toInt = 8 := by decide
  exact ⟨by rw [i_add (by rw [e8]; omega) (by rw [e8]; omega), e8], c⟩
theorem tu_b1 {a1 k : Int32} (hb : a1 = 16 ∨ a1 = 32 ∨ a1 = 64) (h : 0 ≤ k.toInt) (c : ¬ a1 ≤ k) : 0 ≤ (k + (8 : Int32)).toInt := by
  rw [(tu_d hb h c).1]; omega
theorem tu_b2 {a1 k : Int32} {n : Nat} (hb : a1 = 16 ∨ a1 = 32 ∨ a1 = 64) (h : 0 ≤ k.toInt) (c : ¬ a1 ≤ k) (hM : (a1.toInt - k.toInt).toNat < n + 1) : (a1.toInt - (k + (8 : Int32)).toInt).toNat < n := by
  have := tu_d hb h c
  rw [this.1]; omega
theorem se_in {a0 : Int32} (h : ¬ (if a0 < 0 then true else (if a0 ≤ (10 : Int32) then false else true)) = true) : vp_in a0 11 := by
  by_cases c1 : a0 < 0
  · rw [if_pos c1] at h; exact absurd rfl h
  · rw [if_neg c1] at h
    by_cases c2 : a0 ≤ (10 : Int32)
    · have c1 := i_nlt0 c1
      rw [Int32.le_iff_toInt_le] at c2
      have e : (10 : Int32).toInt = 10 := by decide
      rw [vp_in_iff]; omega
    · rw [if_neg c2] at h; exact absurd rfl h
theorem pu_h {x : Bool} (h : ¬ (if x = true then false else true) = true) : x = true := by
  cases x
  · exact absurd rfl h
  · rfl
theorem wp_lt {a p9 : Int32} (ha : a.toInt ≤ 4096) (c : ¬ a ≤ p9) : p9.toInt < 4096 := by
  have := i_nle c; omega
theorem wp_b {a p9 : Int32} {P : Prop} [Decidable P] (ha : a.toInt ≤ 4096) (hp : 0 ≤ p9.toInt) (c : ¬ a ≤ p9) : 0 ≤ (if P then (p9 + (2 : Int32)) else (p9 + (1 : Int32))).toInt ∧ (a.toInt - (if P then (p9 + (2 : Int32)) else (p9 + (1 : Int32))).toInt).toNat < (a.toInt - p9.toInt).toNat := by
  have c := i_nle c
  have e2 : (2 : Int32).toInt = 2 := by decide
  have q1 : (p9 + (1 : Int32)).toInt = p9.toInt + 1 := by rw [i_add (by rw [i_1]; omega) (by rw [i_1]; omega), i_1]
  have q2 : (p9 + (2 : Int32)).toInt = p9.toInt + 2 := by rw [i_add (by rw [e2]; omega) (by rw [e2]; omega), e2]
  split
  · rw [q2]; omega
  · rw [q1]; omega
def XOK (x : Int32) : Prop := 0 ≤ x.toInt ∧ x.toInt ≤ 4096
theorem div8 {x : Int32} (h0 : 0 ≤ x.toInt) : (x / (8 : Int32)).toInt = x.toInt / 8 := by
  obtain ⟨j, hj, rfl⟩ := nI_of (x := x) (by rw [Int32.lt_iff_toInt_lt, i_0]; omega)
  have e : nI j / (8 : Int32) = nI (j / 8) := pk_div hj (by decide) (by decide)
  rw [e, nI_toInt (by omega), nI_toInt hj]; omega
theorem ld_all {x : Int32} (h0 : 0 ≤ x.toInt) (h1 : x.toInt ≤ 32768) : (x / (8 : Int32)).toInt ≤ 4096 := by
  rw [div8 h0]; omega
theorem ld_X0 : XOK (0 : Int32) := by unfold XOK; decide
theorem ld_X1 {x : Int32} {P : Prop} [Decidable P] (h0 : 0 ≤ x.toInt) (h1 : x.toInt ≤ 32768) : XOK (if P then (x / (8 : Int32)) else (0 : Int32)) := by
  split
  · unfold XOK; rw [div8 h0]; omega
  · exact ld_X0
theorem ld_k {x k : Int32} (hx : XOK x) (hk : 0 ≤ k.toInt) (c : ¬ ((8 : Int32) * x) ≤ k) : k.toInt < 32768 := by
  unfold XOK at hx
  have c := i_nle c
  have e8 : (8 : Int32).toInt = 8 := by decide
  rw [Int32.toInt_mul, e8, bm32 (by omega) (by omega)] at c; omega
theorem ld_in {x k : Int32} (hx : XOK x) (hk : 0 ≤ k.toInt) (c : ¬ ((8 : Int32) * x) ≤ k) : vp_in k 32768 := by
  have := ld_k hx hk c
  rw [vp_in_iff]; omega
theorem ld_b {x k : Int32} (hx : XOK x) (hk : 0 ≤ k.toInt) (c : ¬ ((8 : Int32) * x) ≤ k) : 0 ≤ (k + (1 : Int32)).toInt ∧ (32768 - (k + (1 : Int32)).toInt).toNat < (32768 - k.toInt).toNat := by
  have := ld_k hx hk c
  rw [i_add (by rw [i_1]; omega) (by rw [i_1]; omega), i_1]; omega
theorem fe_0 {vtp : Int32} : vtp.toInt = vtp.toInt + (0 : Int32).toInt := by rw [i_0]; omega
theorem fe_R {vtp : Int32} (h0 : 0 ≤ vtp.toInt) (h1 : vtp.toInt ≤ 32768) (hR : ¬ (if (vtp + (20 : Int32)) ≤ (32768 : Int32) then false else true) = true) : vtp.toInt + 20 ≤ 32768 := by
  by_cases c : (vtp + (20 : Int32)) ≤ (32768 : Int32)
  · rw [Int32.le_iff_toInt_le] at c
    have e20 : (20 : Int32).toInt = 20 := by decide
    have e3 : (32768 : Int32).toInt = 32768 := by decide
    rw [i_add (by rw [e20]; omega) (by rw [e20]; omega), e20, e3] at c; exact c
  · rw [if_neg c] at hR; exact absurd rfl hR
theorem fe_k {k : Int32} (c : ¬ (20 : Int32) ≤ k) : k.toInt < 20 := by
  have c := i_nle c
  have e20 : (20 : Int32).toInt = 20 := by decide
  omega
theorem fe_in {vtp tp k : Int32} (h0 : 0 ≤ vtp.toInt) (h1 : vtp.toInt ≤ 32768) (hR : ¬ (if (vtp + (20 : Int32)) ≤ (32768 : Int32) then false else true) = true) (hT : tp.toInt = vtp.toInt + k.toInt) (hk : 0 ≤ k.toInt) (c : ¬ (20 : Int32) ≤ k) : vp_in tp 32768 := by
  have := fe_R h0 h1 hR
  have := fe_k c
  rw [vp_in_iff]; omega
theorem fe_b1 {k : Int32} (hk : 0 ≤ k.toInt) (c : ¬ (20 : Int32) ≤ k) : 0 ≤ (k + (1 : Int32)).toInt := by
  have := fe_k c
  rw [i_add (by rw [i_1]; omega) (by rw [i_1]; omega), i_1]; omega
theorem fe_b2 {vtp tp k : Int32} (h0 : 0 ≤ vtp.toInt) (h1 : vtp.toInt ≤ 32768) (hR : ¬ (if (vtp + (20 : Int32)) ≤ (32768 : Int32) then false else true) = true) (hT : tp.toInt = vtp.toInt + k.toInt) (hk : 0 ≤ k.toInt) (c : ¬ (20 : Int32) ≤ k) : (tp + (1 : Int32)).toInt = vtp.toInt + (k + (1 : Int32)).toInt := by
  have := fe_R h0 h1 hR
  have := fe_k c
  rw [i_add (by rw [i_1]; omega) (by rw [i_1]; omega), i_add (by rw [i_1]; omega) (by rw [i_1]; omega), i_1]; omega
theorem fe_b3 {k : Int32} {n : Nat} (hk : 0 ≤ k.toInt) (c : ¬ (20 : Int32) ≤ k) (hM : (20 - k.toInt).toNat < n + 1) : (20 - (k + (1 : Int32)).toInt).toNat < n := by
  have := fe_k c
  rw [i_add (by rw [i_1]; omega) (by rw [i_1]; omega), i_1]; omega
theorem ca_in {r9 : Int32} (h : 1 ≤ r9.toInt) (c : ¬ (6 : Int32) ≤ r9) : vp_in r9 11 := by
  have c := i_nle c
  have e : (6 : Int32).toInt = 6 := by decide
  rw [vp_in_iff]; omega
theorem ca_b1 {r9 : Int32} (h : 1 ≤ r9.toInt) (c : ¬ (6 : Int32) ≤ r9) : 1 ≤ (r9 + (1 : Int32)).toInt := by
  have c := i_nle c
  have e : (6 : Int32).toInt = 6 := by decide
  rw [i_add (by rw [i_1]; omega) (by rw [i_1]; omega), i_1]; omega
theorem ca_b2 {r9 : Int32} {n : Nat} (h : 1 ≤ r9.toInt) (c : ¬ (6 : Int32) ≤ r9) (hM : (6 - r9.toInt).toNat < n + 1) : (6 - (r9 + (1 : Int32)).toInt).toNat < n := by
  have c := i_nle c
  have e : (6 : Int32).toInt = 6 := by decide
  rw [i_add (by rw [i_1]; omega) (by rw [i_1]; omega), i_1]; omega
theorem at_ne {a1 : Int32} (hz : 1 ≤ a1.toInt ∧ a1.toInt ≤ 8) : ¬ ((a1).toInt64) = 0 := by
  intro h
  have := congrArg Int64.toInt h
  rw [Int32.toInt_toInt64, l_0] at this; omega
theorem do_n {a0 : Int32} (h0 : 0 ≤ a0.toInt) (h1 : a0.toInt < 4096) (hw : a0.toInt + 1 < 4096) : 0 ≤ (((8 : Int32) * a0) + (12 : Int32)).toInt ∧ (((8 : Int32) * a0) + (12 : Int32)).toInt + (4 : Int32).toInt ≤ 32768 := by
  have e : (12 : Int32).toInt = 12 := by decide
  have e2 : (4 : Int32).toInt = 4 := by decide
  rw [m8k h0 h1 (by decide) (by decide), e, e2]; omega
theorem msize_ok (vc : Int32) : 1 ≤ (f_Mo_size vc).toInt ∧ (f_Mo_size vc).toInt ≤ 8 := by
  unfold f_Mo_size
  split
  · decide
  · split
    · decide
    · split <;> decide
