theorem in3 {ga : Nat → Int32} {a1 a2 : Int32} {w : Int64} {c d s o i : Int32} (h : FW w c d s o i) (ht : f_Mo_take ga a1 = (c, d, s, o, i)) (hk : f_Mo_kind c = 3) : f_Fo_isInstruction w = (f_Mo_isInstruction ga a1 a2).1 := by
  have k := kd_eq h
  have m := mo_eq h
  have z := sz_eq h
  have z4 := sz4 (c := c)
  obtain ⟨h1, h2, h3, h4, h5⟩ := h
  have hex : f_Fo_isExchange w = f_Mo_isAtomic c d s i := by
    unfold f_Fo_isExchange f_Mo_isAtomic
    rw [z, h2, h3, h5]
    have x11 : (11 : Int32) ≤ s → (10 : Int32) ≤ s := le11
    simp only [lt9, lt10]
    have hdec : decide (s < (10 : Int32)) = !decide ((10 : Int32) ≤ s) := by rw [← decide_not]; exact decide_eq_decide.mpr le10
    by_cases k0 : i = 0
    · subst k0; rw [show f_Ex_isKnown 0 = true by decide, show f_Ex_changesSource 0 = false by decide]; rcases z4 with q | q | q | q <;> rw [q] <;> simp [hdec]
    by_cases k1 : i = 1
    · subst k1; rw [show f_Ex_isKnown 1 = true by decide, show f_Ex_changesSource 1 = true by decide]; rcases z4 with q | q | q | q <;> rw [q] <;> simp [hdec]
    by_cases k2 : i = 64
    · subst k2; rw [show f_Ex_isKnown 64 = true by decide, show f_Ex_changesSource 64 = false by decide]; rcases z4 with q | q | q | q <;> rw [q] <;> simp [hdec]
    by_cases k3 : i = 65
    · subst k3; rw [show f_Ex_isKnown 65 = true by decide, show f_Ex_changesSource 65 = true by decide]; rcases z4 with q | q | q | q <;> rw [q] <;> simp [hdec]
    by_cases k4 : i = 80
    · subst k4; rw [show f_Ex_isKnown 80 = true by decide, show f_Ex_changesSource 80 = false by decide]; rcases z4 with q | q | q | q <;> rw [q] <;> simp [hdec]
    by_cases k5 : i = 81
    · subst k5; rw [show f_Ex_isKnown 81 = true by decide, show f_Ex_changesSource 81 = true by decide]; rcases z4 with q | q | q | q <;> rw [q] <;> simp [hdec]
    by_cases k6 : i = 160
    · subst k6; rw [show f_Ex_isKnown 160 = true by decide, show f_Ex_changesSource 160 = false by decide]; rcases z4 with q | q | q | q <;> rw [q] <;> simp [hdec]
    by_cases k7 : i = 161
    · subst k7; rw [show f_Ex_isKnown 161 = true by decide, show f_Ex_changesSource 161 = true by decide]; rcases z4 with q | q | q | q <;> rw [q] <;> simp [hdec]
    by_cases k8 : i = 225
    · subst k8; rw [show f_Ex_isKnown 225 = true by decide, show f_Ex_changesSource 225 = true by decide]; rcases z4 with q | q | q | q <;> rw [q] <;> simp [hdec]
    by_cases k9 : i = 241
    · subst k9; rw [show f_Ex_isKnown 241 = true by decide, show f_Ex_changesSource 241 = false by decide]; rcases z4 with q | q | q | q <;> rw [q] <;> simp [hdec]
    have hu : f_Ex_isKnown i = false := by
      unfold f_Ex_isKnown
      rw [if_neg k0, if_neg k1, if_neg k2, if_neg k3, if_neg k4, if_neg k5, if_neg k6, if_neg k7, if_neg k8, if_neg k9]
    rw [hu]
    simp [k0, k1, k2, k3, k4, k5, k6, k7, k8, k9]
  unfold f_Fo_isInstruction f_Mo_isInstruction f_Fo_isWriteOfRegister
  rw [ht, k, m, hex, h2, h3, h5]
  simp only [lt9, lt10]
  rw [hk]
  simp
  grind
theorem hs_eq {w : Int64} {c d s o i : Int32} (h : FW w c d s o i) : f_Fo_hasOperand w = f_Mo_hasSource c s i := by
  have b := b3_eq h
  obtain ⟨h1, h2, h3, h4, h5⟩ := h
  unfold f_Fo_hasOperand f_Mo_hasSource
  rw [b, h3, h5]
  simp only [lt9, lt10]
theorem in47 {ga : Nat → Int32} {a1 a2 : Int32} {w : Int64} {c d s o i : Int32} (h : FW w c d s o i) (ht : f_Mo_take ga a1 = (c, d, s, o, i)) (hk : f_Mo_kind c = 4 ∨ f_Mo_kind c = 7) : f_Fo_isInstruction w = (f_Mo_isInstruction ga a1 a2).1 := by
  have hc := FW_c h
  have k := kd_eq h
  have n := op_eq h
  have b := b3_eq h
  have x := hs_eq h
  obtain ⟨h1, h2, h3, h4, h5⟩ := h
  have ha : f_Fo_isArithmetic w = f_Mo_isArithmetic c d s o i := by
    unfold f_Fo_isArithmetic f_Mo_isArithmetic f_Fo_isMoveOffset f_Fo_isTurning
    rw [n, h2, h4, x, h3, h5, b, k]
    rcases n16 hc with q | q | q | q | q | q | q | q | q | q | q | q | q | q | q | q <;> rw [q] <;> simp <;> (try grind) <;> (try (unfold f_Mo_hasSource; cases hb : f_Mo_bit3 c <;> simp [hb] <;> grind))
  unfold f_Fo_isInstruction f_Mo_isInstruction
  rw [ht, k, ha]
  rcases hk with q | q <;> rw [q] <;> simp
theorem jp_code {k : Fin 256} (hk : f_Mo_kind (nI k.val) = 5 ∨ f_Mo_kind (nI k.val) = 6) : (nI k.val = 5 ↔ (f_Mo_n (nI k.val) = 0 ∧ f_Mo_bit3 (nI k.val) = false ∧ f_Mo_kind (nI k.val) = 5)) ∧ (nI k.val = 6 ↔ (f_Mo_n (nI k.val) = 0 ∧ f_Mo_bit3 (nI k.val) = false ∧ f_Mo_kind (nI k.val) = 6)) ∧ (nI k.val = 133 ↔ (f_Mo_n (nI k.val) = 8 ∧ f_Mo_bit3 (nI k.val) = false ∧ f_Mo_kind (nI k.val) = 5)) ∧ (nI k.val = 149 ↔ (f_Mo_n (nI k.val) = 9 ∧ f_Mo_bit3 (nI k.val) = false ∧ f_Mo_kind (nI k.val) = 5)) := by
  revert k; decide +kernel
theorem jp_eq {w : Int64} {c d s o i : Int32} (h : FW w c d s o i) (hk : f_Mo_kind c = 5 ∨ f_Mo_kind c = 6) : f_Fi_jumpsPerhaps w = (if f_Mo_n c = 0 then false else if f_Mo_n c = 8 then false else if f_Mo_n c = 9 then false else if f_Mo_n c = 14 then false else if f_Mo_n c = 15 then false else true) := by
  have hc := FW_c h
  have k := kd_eq h
  have n := op_eq h
  unfold f_Fi_jumpsPerhaps
  rw [k, n]
  rcases hk with z | z <;> rw [z] <;> rcases n16 hc with q | q | q | q | q | q | q | q | q | q | q | q | q | q | q | q <;> rw [q] <;> decide
theorem in56 {ga : Nat → Int32} {a1 a2 : Int32} {w : Int64} {c d s o i : Int32} (h : FW w c d s o i) (ht : f_Mo_take ga a1 = (c, d, s, o, i)) (hk : f_Mo_kind c = 5 ∨ f_Mo_kind c = 6) : f_Fo_isInstruction w = (f_Mo_isInstruction ga a1 a2).1 := by
  have hc := FW_c h
  have k := kd_eq h
  have j := jp_eq h hk
  have x := hs_eq h
  obtain ⟨h1, h2, h3, h4, h5⟩ := h
  have ha : (if f_Fi_jumpsPerhaps w = true then f_Fo_isPerhapsJump w else f_Fo_isCallOrExitOrJump w) = f_Mo_isJump c d s o i := by
    obtain ⟨kk, rfl⟩ := c256 hc
    obtain ⟨q5, q6, q133, q149⟩ := jp_code hk
    unfold f_Fo_isPerhapsJump f_Fo_isCallOrExitOrJump f_Mo_isJump
    rw [j, x, h1, h2, h3, h4, h5]
    simp only [q5, q6, q133, q149, lt10]
    generalize nI kk.val = c at *
    rcases hk with z | z <;> rw [z] <;> rcases n16 hc with q | q | q | q | q | q | q | q | q | q | q | q | q | q | q | q <;> rw [q] <;> cases hb : f_Mo_bit3 c <;> simp <;> (try grind)
  unfold f_Fo_isInstruction f_Mo_isInstruction
  rw [ht, k, ← ha]
  rcases hk with q | q <;> rw [q] <;> simp
