-- what the class's indices and loops ask for
theorem in_Fi_target (w : Int64) : vp_in (f_Fi_target w) 16 := by
  unfold f_Fi_target; exact pk_andIn _ 4 (by decide) (by decide)
theorem in_Fi_source (w : Int64) : vp_in (f_Fi_source w) 16 := by
  unfold f_Fi_source; exact pk_andIn _ 4 (by decide) (by decide)
theorem size_ok (w : Int64) : 1 ≤ (f_Fi_size w).toInt ∧ (f_Fi_size w).toInt ≤ 8 := by
  unfold f_Fi_size
  split
  · decide
  · split
    · decide
    · split <;> decide
theorem an_in {r9 : Int32} (h : 1 ≤ r9.toInt) (c : ¬ (5 : Int32) < r9) : vp_in r9 16 := by
  have c := i_nlt c
  have : (5 : Int32).toInt = 5 := by decide
  rw [vp_in_iff]; omega
theorem an_b1 {r9 : Int32} (h : 1 ≤ r9.toInt) (c : ¬ (5 : Int32) < r9) : 1 ≤ (r9 + (1 : Int32)).toInt := by
  have c := i_nlt c
  have e : (5 : Int32).toInt = 5 := by decide
  rw [i_add (by rw [i_1]; omega) (by rw [i_1]; omega), i_1]; omega
theorem an_b2 {r9 : Int32} {n : Nat} (h : 1 ≤ r9.toInt) (c : ¬ (5 : Int32) < r9) (hM : (6 - r9.toInt).toNat < n + 1) : (6 - (r9 + (1 : Int32)).toInt).toNat < n := by
  have c := i_nlt c
  have e : (5 : Int32).toInt = 5 := by decide
  rw [i_add (by rw [i_1]; omega) (by rw [i_1]; omega), i_1]; omega
