/-- room for d bytes more on the tape -/
def TP (tn : Nat) (tl : Int32) (d : Int) : Prop := 0 ≤ tl.toInt ∧ tl.toInt + d ≤ tn ∧ tn < 1073741824
theorem TP_le {tn : Nat} {tl : Int32} {d : Int} (hd : 0 ≤ d) (h : TP tn tl d) : tl.toInt ≤ tn := by
  unfold TP at h; omega
theorem ty_step {tn : Nat} {tf : Nat → Int32} {tl a : Int32} {d : Int} (hd : 0 ≤ d) (h : TP tn tl (d + 4)) : TP tn (f_Ta_type tn tf tl a).2 d := by
  unfold TP at h
  have e4 : (4 : Int32).toInt = 4 := by decide
  have e : (tl + (4 : Int32)).toInt = tl.toInt + 4 := by rw [i_add (by rw [e4]; omega) (by rw [e4]; omega), e4]
  have c : (tl + (4 : Int32)) ≤ (nI tn) := by rw [Int32.le_iff_toInt_le, e, nI_toInt (by omega)]; omega
  unfold f_Ta_type
  rw [if_pos c]
  unfold TP
  dsimp only
  rw [e]; omega
theorem mr_TP {tn : Nat} {tf : Nat → Int32} {tl : Int32} (h0 : 0 ≤ tl.toInt) (h2 : tl.toInt + 20 ≤ 32768) (hn0 : 512 ≤ tn) (hn1 : tn ≤ 32768) (h1 : tl.toInt ≤ tn) : TP (f_Ta_makeRoom tn tf tl).1 tl 20 := by
  unfold f_Ta_makeRoom TP
  have e20 : (20 : Int32).toInt = 20 := by decide
  have e : (tl + (20 : Int32)).toInt = tl.toInt + 20 := by rw [i_add (by rw [e20]; omega) (by rw [e20]; omega), e20]
  by_cases c : (tl + (20 : Int32)) ≤ (nI tn)
  · rw [if_pos c]; rw [Int32.le_iff_toInt_le, e, nI_toInt (by omega)] at c; dsimp only; omega
  · rw [if_neg c]; have c := i_nle c; rw [e, nI_toInt (by omega)] at c; dsimp only; omega
theorem rr_b {d9 a0 : Int32} (hd : 0 ≤ d9.toInt) (c : ¬ a0 ≤ d9) : 0 ≤ (d9 + (1 : Int32)).toInt ∧ (a0.toInt - (d9 + (1 : Int32)).toInt).toNat < (a0.toInt - d9.toInt).toNat := by
  have c := i_nle c
  have := i_lim a0
  rw [i_add (by rw [i_1]; omega) (by rw [i_1]; omega), i_1]; omega
