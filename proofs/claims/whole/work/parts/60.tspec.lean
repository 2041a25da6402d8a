theorem tkl_a {tf : Nat → Int32} {tl : Int32} (pn : Nat) (pf : Nat → Int64) (h0 : 0 ≤ tl.toInt) (h1 : tl.toInt ≤ 32768) : ∀ (n : Nat) (p9 : Int32) (g : Nat → Int64), 0 ≤ p9.toInt → ((tl / (8 : Int32)).toInt - p9.toInt).toNat < n → (l_Pr_takeFrom_45 pn pf tf tl n p9 g).1 = pn ∧ (l_Pr_takeFrom_45 pn pf tf tl n p9 g).2.2 = (tl / (8 : Int32)) ∧ ∀ j : Nat, (j : Int) < (tl / (8 : Int32)).toInt → (l_Pr_takeFrom_45 pn pf tf tl n p9 g).2.1 j = if p9.toInt ≤ (j : Int) then f_Ta_placeAt tf tl (nI j) else g j := by
  intro n
  induction n with
  | zero => intro p9 g _ h; exact absurd h (Nat.not_lt_zero _)
  | succ n ih =>
    intro p9 g hp hM
    rw [l_Pr_takeFrom_45]
    by_cases c : (tl / (8 : Int32)) ≤ p9
    · rw [if_pos c]
      refine ⟨rfl, rfl, fun j hj => ?_⟩
      rw [Int32.le_iff_toInt_le] at c
      rw [if_neg (by omega)]
    · rw [if_neg c]
      obtain ⟨b1, b2⟩ := tf_b h0 h1 hp c
      obtain ⟨g1, g2, g3⟩ := ih (p9 + (1 : Int32)) (vp_updL g p9.toNatClampNeg (f_Ta_placeAt tf tl p9)) b1 (by omega)
      refine ⟨g1, g2, fun j hj => ?_⟩
      rw [g3 j hj]
      have e : (p9 + (1 : Int32)).toInt = p9.toInt + 1 := by
        have := tf_p h0 h1 c
        rw [i_add (by rw [i_1]; omega) (by rw [i_1]; omega), i_1]
      have ec : p9.toNatClampNeg = p9.toInt.toNat := rfl
      have hp8 := tf_p h0 h1 c
      rw [e]
      by_cases q : (j : Int) = p9.toInt
      · rw [if_neg (by omega), if_pos (by omega)]
        have ej : j = p9.toNatClampNeg := by omega
        have en : nI j = p9 := Int32.toInt_inj.mp (by rw [nI_toInt (by omega)]; exact q)
        rw [ej, pk_uLs, ← ej, en]
      · by_cases q2 : p9.toInt ≤ (j : Int)
        · rw [if_pos (by omega), if_pos q2]
        · rw [if_neg (by omega), if_neg q2, pk_uLn (by omega)]
theorem tkl_b {tf : Nat → Int32} {tl : Int32} (pn : Nat) (pf : Nat → Int64) (h0 : 0 ≤ tl.toInt) (h1 : tl.toInt ≤ 32768) : ∀ (n : Nat) (p9 : Int32) (g : Nat → Int64), 0 ≤ p9.toInt → ((tl / (8 : Int32)).toInt - p9.toInt).toNat < n → (l_Pr_takeFrom_45b pn pf tf tl n p9 g).1 = (f_Jm_max (tl / (8 : Int32)) ((2 : Int32) * (nI pn))).toNatClampNeg ∧ (l_Pr_takeFrom_45b pn pf tf tl n p9 g).2.2 = (tl / (8 : Int32)) ∧ ∀ j : Nat, (j : Int) < (tl / (8 : Int32)).toInt → (l_Pr_takeFrom_45b pn pf tf tl n p9 g).2.1 j = if p9.toInt ≤ (j : Int) then f_Ta_placeAt tf tl (nI j) else g j := by
  intro n
  induction n with
  | zero => intro p9 g _ h; exact absurd h (Nat.not_lt_zero _)
  | succ n ih =>
    intro p9 g hp hM
    rw [l_Pr_takeFrom_45b]
    by_cases c : (tl / (8 : Int32)) ≤ p9
    · rw [if_pos c]
      refine ⟨rfl, rfl, fun j hj => ?_⟩
      rw [Int32.le_iff_toInt_le] at c
      rw [if_neg (by omega)]
    · rw [if_neg c]
      obtain ⟨b1, b2⟩ := tf_b h0 h1 hp c
      obtain ⟨g1, g2, g3⟩ := ih (p9 + (1 : Int32)) (vp_updL g p9.toNatClampNeg (f_Ta_placeAt tf tl p9)) b1 (by omega)
      refine ⟨g1, g2, fun j hj => ?_⟩
      rw [g3 j hj]
      have e : (p9 + (1 : Int32)).toInt = p9.toInt + 1 := by
        have := tf_p h0 h1 c
        rw [i_add (by rw [i_1]; omega) (by rw [i_1]; omega), i_1]
      have ec : p9.toNatClampNeg = p9.toInt.toNat := rfl
      have hp8 := tf_p h0 h1 c
      rw [e]
      by_cases q : (j : Int) = p9.toInt
      · rw [if_neg (by omega), if_pos (by omega)]
        have ej : j = p9.toNatClampNeg := by omega
        have en : nI j = p9 := Int32.toInt_inj.mp (by rw [nI_toInt (by omega)]; exact q)
        rw [ej, pk_uLs, ← ej, en]
      · by_cases q2 : p9.toInt ≤ (j : Int)
        · rw [if_pos (by omega), if_pos q2]
        · rw [if_neg (by omega), if_neg q2, pk_uLn (by omega)]
/-- takeFrom: the new row's length, the places, their number -/
theorem take_spec {pn : Nat} {pf : Nat → Int64} {tf : Nat → Int32} {tl : Int32} (h0 : 0 ≤ tl.toInt) (h1 : tl.toInt ≤ 32768) : (f_Pr_takeFrom pn pf tf tl).1 = (if (tl / (8 : Int32)) ≤ (nI pn) then pn else (f_Jm_max (tl / (8 : Int32)) ((2 : Int32) * (nI pn))).toNatClampNeg) ∧ (f_Pr_takeFrom pn pf tf tl).2.2 = (tl / (8 : Int32)) ∧ ∀ j : Nat, (j : Int) < (tl / (8 : Int32)).toInt → (f_Pr_takeFrom pn pf tf tl).2.1 j = f_Ta_placeAt tf tl (nI j) := by
  unfold f_Pr_takeFrom
  by_cases c : (tl / (8 : Int32)) ≤ (nI pn)
  · rw [if_pos c, if_pos c]
    obtain ⟨g1, g2, g3⟩ := tkl_a (tf := tf) pn pf h0 h1 4097 (0 : Int32) pf (by decide) (tf_f h0 h1)
    exact ⟨g1, g2, fun j hj => by rw [g3 j hj, if_pos (by rw [i_0]; omega)]⟩
  · rw [if_neg c, if_neg c]
    obtain ⟨g1, g2, g3⟩ := tkl_b (tf := tf) pn pf h0 h1 4097 (0 : Int32) (fun _ => 0) (by decide) (tf_f h0 h1)
    exact ⟨g1, g2, fun j hj => by rw [g3 j hj, if_pos (by rw [i_0]; omega)]⟩
theorem tk_hc {pn : Nat} {pf : Nat → Int64} {tf : Nat → Int32} {tl : Int32} (h0 : 0 ≤ tl.toInt) (h1 : tl.toInt ≤ 32768) (hp : pn ≤ 32768) : ((f_Pr_takeFrom pn pf tf tl).2.2).toInt ≤ ((f_Pr_takeFrom pn pf tf tl).1 : Nat) := by
  obtain ⟨g1, g2, -⟩ := take_spec (pn := pn) (pf := pf) (tf := tf) h0 h1
  rw [g1, g2]
  by_cases c : (tl / (8 : Int32)) ≤ (nI pn)
  · rw [if_pos c]; rw [Int32.le_iff_toInt_le, nI_toInt (by omega)] at c; exact c
  · rw [if_neg c]
    have := tf_N h0 h1 hp
    have e : (f_Jm_max (tl / (8 : Int32)) ((2 : Int32) * (nI pn))).toNatClampNeg = (f_Jm_max (tl / (8 : Int32)) ((2 : Int32) * (nI pn))).toInt.toNat := rfl
    rw [e]; omega
theorem tk_hn {pn : Nat} {pf : Nat → Int64} {tf : Nat → Int32} {tl : Int32} (h0 : 0 ≤ tl.toInt) (h1 : tl.toInt ≤ 32768) (hp : pn ≤ 32768) : (f_Pr_takeFrom pn pf tf tl).1 < 1073741824 := by
  obtain ⟨g1, -, -⟩ := take_spec (pn := pn) (pf := pf) (tf := tf) h0 h1
  rw [g1]
  by_cases c : (tl / (8 : Int32)) ≤ (nI pn)
  · rw [if_pos c]; omega
  · rw [if_neg c]
    have := tf_N h0 h1 hp
    have e : (f_Jm_max (tl / (8 : Int32)) ((2 : Int32) * (nI pn))).toNatClampNeg = (f_Jm_max (tl / (8 : Int32)) ((2 : Int32) * (nI pn))).toInt.toNat := rfl
    rw [e]; omega
