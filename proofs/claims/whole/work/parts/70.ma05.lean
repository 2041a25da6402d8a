theorem nI_64 {n : Nat} (h : n < 2147483648) : (nI n).toInt64.toInt = (n : Int) := by
  rw [Int32.toInt_toInt64, nI_toInt (by omega)]
theorem has_eq {n p : Nat} (hn : n ≤ 4096) (hp : p < 2147483648) : f_Pr_has (nI n) ((nI p).toInt64) = decide (p < n) := by
  unfold f_Pr_has
  have h1 : ¬ (nI p).toInt64 < (0 : Int64) := by rw [Int64.lt_iff_toInt_lt, nI_64 hp, l_0]; omega
  rw [if_neg h1]
  by_cases c : p < n
  · rw [if_neg (by rw [Int64.le_iff_toInt_le, nI_64 hp, nI_64 (by omega)]; omega)]; simp [c]
  · rw [if_pos (by rw [Int64.le_iff_toInt_le, nI_64 hp, nI_64 (by omega)]; omega)]; simp [c]
theorem at_eq {pf : Nat → Int64} {n p : Nat} (hn : n ≤ 4096) (hp : p < n) : f_Pr_at pf (nI n) (nI p) = pf p := by
  unfold f_Pr_at
  rw [has_eq hn (by omega)]
  simp [hp, nI_clamp (show p < 2 ^ 31 by omega)]
theorem nI_p1 (p : Nat) : nI p + (1 : Int32) = nI (p + 1) := (nI_succ p).symm
theorem nI_p2 (p : Nat) : nI p + (2 : Int32) = nI (p + 2) := by
  rw [nI_succ, nI_succ, Int32.add_assoc]; rfl
theorem nI_lei {a b : Nat} (ha : a < 2147483648) (hb : b < 2147483648) : nI a ≤ nI b ↔ a ≤ b := by
  rw [Int32.le_iff_toInt_le, nI_toInt (by omega), nI_toInt (by omega)]; omega
theorem nI_lti {a b : Nat} (ha : a < 2147483648) (hb : b < 2147483648) : nI a < nI b ↔ a < b := by
  rw [Int32.lt_iff_toInt_lt, nI_toInt (by omega), nI_toInt (by omega)]; omega
/-- the class's row of places holds what the bytes ga say -/
def PW (ga : Nat → Int32) (n : Nat) (pf : Nat → Int64) : Prop := ∀ p, p < n → byt ga p ∧ isW ga p (pf p)
theorem tw_eq {w : Int64} {c d s o i : Int32} (h : FW w c d s o i) : f_Fi_isTwoPlaces w = f_Mo_isWide c := by
  unfold f_Fi_isTwoPlaces f_Mo_isWide; rw [h.1]
theorem wide_k {c : Int32} (h : f_Mo_isWide c = true) : c = 24 := by
  unfold f_Mo_isWide at h
  by_cases q : c = 24
  · exact q
  · rw [if_neg q] at h; exact absurd h (by decide)
theorem wide_n {c : Int32} (h : ¬ f_Mo_kind c = 0) : f_Mo_isWide c = false := by
  cases q : f_Mo_isWide c with
  | false => rfl
  | true => exact absurd (wide_k q ▸ (by decide : f_Mo_kind 24 = 0)) h
theorem s_two {s : Int32} (h : iN s < 16) : (s = 0 ∧ ¬ (2 : Int32) ≤ s ∧ ¬ s = 1) ∨ (s = 1 ∧ ¬ (2 : Int32) ≤ s ∧ ¬ s = 0) ∨ ((2 : Int32) ≤ s ∧ ¬ s = 0 ∧ ¬ s = 1) := by
  obtain ⟨k, rfl⟩ := c256 (c := s) (by omega)
  rw [iN_nI (by omega)] at h
  have := k.2
  revert k; decide +kernel
theorem in0 {ga : Nat → Int32} {a1 a2 : Int32} {w w2 : Int64} {c d s o i : Int32} (h : FW w c d s o i) (ht : f_Mo_take ga a1 = (c, d, s, o, i)) (hk : f_Mo_kind c = 0) (h2 : ¬ a2 ≤ a1 + (1 : Int32) → w2.toInt32 = f_Mo_number ga (((8 : Int32) * a1) + (8 : Int32)) (4 : Int32) ∧ f_Fi_immediate w2 = f_Mo_number ga (((8 : Int32) * a1) + (12 : Int32)) (4 : Int32)) : (f_Mo_isInstruction ga a1 a2).1 = (f_Fo_isInstruction w && (if a2 ≤ a1 + (1 : Int32) then false else f_Fo_isSecondOf w w2)) := by
  have k := kd_eq h
  have t := tw_eq h
  have s3 := s_two (FW_s h)
  obtain ⟨g1, g2, g3, g4, g5⟩ := h
  unfold f_Fo_isInstruction f_Mo_isInstruction f_Fo_isFirstOfTwo f_Fo_isSecondOf
  rw [ht, k, t, g2, g3, g4, g5, hk]
  simp only [lt9]
  by_cases q : a2 ≤ a1 + (1 : Int32)
  · simp [q]
  · obtain ⟨e1, e2⟩ := h2 q
    rw [e1, e2]
    simp [q]
    grind
/-- class and reference agree on each place's own form -/
theorem ins_step {ga : Nat → Int32} {pf : Nat → Int64} {n p : Nat} (hn : n ≤ 4096) (hp : p < n) (hW : PW ga n pf) : (f_Mo_isInstruction ga (nI p) (nI n)).1 = (f_Fo_isInstruction (f_Pr_at pf (nI n) (nI p)) && (if f_Fi_isTwoPlaces (f_Pr_at pf (nI n) (nI p)) = true then (if f_Pr_has (nI n) ((nI p + (1 : Int32)).toInt64) = true then f_Fo_isSecondOf (f_Pr_at pf (nI n) (nI p)) (f_Pr_at pf (nI n) (nI p + (1 : Int32))) else false) else true)) := by
  have hF := FW_of (by omega) (hW p hp).1 (hW p hp).2
  have hc := FW_c hF
  have t := tw_eq hF
  rw [at_eq hn hp, nI_p1, has_eq hn (by omega), t]
  by_cases hk : f_Mo_kind (f_Mo_take ga (nI p)).1 = 0
  · have h2 : ¬ nI n ≤ nI p + (1 : Int32) → (f_Pr_at pf (nI n) (nI (p + 1))).toInt32 = f_Mo_number ga (((8 : Int32) * nI p) + (8 : Int32)) (4 : Int32) ∧ f_Fi_immediate (f_Pr_at pf (nI n) (nI (p + 1))) = f_Mo_number ga (((8 : Int32) * nI p) + (12 : Int32)) (4 : Int32) := by
      intro q
      rw [nI_p1, nI_lei (by omega) (by omega)] at q
      have hq : p + 1 < n := by omega
      have e8 : ((8 : Int32) * nI p) + (8 : Int32) = (8 : Int32) * nI (p + 1) := by rw [nI_succ, Int32.mul_add]; rfl
      have e12 : ((8 : Int32) * nI p) + (12 : Int32) = ((8 : Int32) * nI (p + 1)) + (4 : Int32) := by rw [← e8, Int32.add_assoc]; rfl
      rw [at_eq hn hq, e8, e12]
      exact ⟨w_low (by omega) (hW _ hq).1 (hW _ hq).2, w_imm (by omega) (hW _ hq).1 (hW _ hq).2⟩
    rw [in0 hF rfl hk h2, nI_p1]
    by_cases q : p + 1 < n
    · rw [if_neg (by rw [nI_lei (by omega) (by omega)]; omega)]
      cases hw : f_Mo_isWide (f_Mo_take ga (nI p)).1 with
      | true => simp [q]
      | false =>
        have : f_Fo_isInstruction (pf p) = false := by
          unfold f_Fo_isInstruction f_Fo_isFirstOfTwo
          rw [kd_eq hF, hk, tw_eq hF, hw]; simp
        simp [this]
    · rw [if_pos (by rw [nI_lei (by omega) (by omega)]; omega)]
      cases hw : f_Mo_isWide (f_Mo_take ga (nI p)).1 with
      | true => simp [q]
      | false =>
        have : f_Fo_isInstruction (pf p) = false := by
          unfold f_Fo_isInstruction f_Fo_isFirstOfTwo
          rw [kd_eq hF, hk, tw_eq hF, hw]; simp
        simp [this]
  · rw [wide_n hk]
    simp only [Bool.false_eq_true, if_false, Bool.and_true]
    symm
    rcases kd8 hc with q | q | q | q | q | q | q | q
    · exact absurd q hk
    · exact in123 hF rfl (Or.inl q)
    · exact in123 hF rfl (Or.inr q)
    · exact in3 hF rfl q
    · exact in47 hF rfl (Or.inl q)
    · exact in56 hF rfl (Or.inl q)
    · exact in56 hF rfl (Or.inr q)
    · exact in47 hF rfl (Or.inr q)
