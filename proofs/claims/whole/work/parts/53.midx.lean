/-- what the reference's run asks of a place of the program -/
def VOK (gp : Nat → Int32) (p : Int32) : Prop := 0 ≤ p.toInt ∧ p.toInt < 4096 ∧ vp_in (f_Mo_take gp p).2.1 11 ∧ vp_in (f_Mo_take gp p).2.2.1 11 ∧ (((f_Mo_kind (f_Mo_take gp p).1) = (4 : Int32) ∨ (f_Mo_kind (f_Mo_take gp p).1) = (7 : Int32)) → (f_Mo_n (f_Mo_take gp p).1) = (13 : Int32) → ((f_Mo_take gp p).2.2.2.2 = 16 ∨ (f_Mo_take gp p).2.2.2.2 = 32 ∨ (f_Mo_take gp p).2.2.2.2 = 64)) ∧ ((f_Mo_kind (f_Mo_take gp p).1) = (0 : Int32) → p.toInt + 1 < 4096)
theorem rn_T {a0 vpl : Int32} (h : (if a0 < 0 then (1 : Int32) else (if a0 ≤ (100000 : Int32) then (if vpl = 0 then (2 : Int32) else (0 : Int32)) else (1 : Int32))) ≤ 0) : 0 ≤ a0.toInt ∧ ¬ vpl = 0 := by
  by_cases c1 : a0 < 0
  · rw [if_pos c1] at h; exact absurd h (by decide)
  · rw [if_neg c1] at h
    by_cases c2 : a0 ≤ (100000 : Int32)
    · rw [if_pos c2] at h
      by_cases c3 : vpl = 0
      · rw [if_pos c3] at h; exact absurd h (by decide)
      · exact ⟨i_nlt0 c1, c3⟩
    · rw [if_neg c2] at h; exact absurd h (by decide)
theorem rn_0 {a0 : Int32} (h : 0 ≤ a0.toInt) : (0 : Int32).toInt ≤ a0.toInt := by rw [i_0]; exact h
theorem rn_f {a0 : Int32} (h : 0 ≤ a0.toInt) : (if (-1 : Int32) = (-1 : Int32) then (a0.toInt - (0 : Int32).toInt).toNat + 1 else 0) < a0.toNatClampNeg + 3 := by
  rw [if_pos rfl, i_0, ← Int32.toNat_toInt]; omega
theorem rn_e {e9 e2 : Int32} {X Y n : Nat} (c : e9 = (-1 : Int32)) (hM : (if e9 = (-1 : Int32) then X + 1 else 0) < n + 1) (h : ¬ e2 = (-1 : Int32)) : (if e2 = (-1 : Int32) then Y else 0) < n := by
  rw [if_pos c] at hM; rw [if_neg h]; omega
theorem rn_s {st9 a0 : Int32} (h0 : 0 ≤ st9.toInt) (h1 : st9.toInt ≤ a0.toInt) (c : ¬ st9 = a0) : 0 ≤ (st9 + (1 : Int32)).toInt ∧ (st9 + (1 : Int32)).toInt ≤ a0.toInt ∧ (st9 + (1 : Int32)).toInt = st9.toInt + 1 := by
  have hne : st9.toInt ≠ a0.toInt := fun q => c (Int32.toInt_inj.mp q)
  have := i_lim a0
  have e : (st9 + (1 : Int32)).toInt = st9.toInt + 1 := by rw [i_add (by rw [i_1]; omega) (by rw [i_1]; omega), i_1]
  rw [e]; omega
theorem rn_m {e9 st9 a0 : Int32} {n : Nat} (c : e9 = (-1 : Int32)) (h0 : 0 ≤ st9.toInt) (h1 : st9.toInt ≤ a0.toInt) (c2 : ¬ st9 = a0) (hM : (if e9 = (-1 : Int32) then (a0.toInt - st9.toInt).toNat + 1 else 0) < n + 1) : (if e9 = (-1 : Int32) then (a0.toInt - (st9 + (1 : Int32)).toInt).toNat + 1 else 0) < n := by
  have := rn_s h0 h1 c2
  rw [if_pos c] at hM ⊢; rw [this.2.2]; omega
