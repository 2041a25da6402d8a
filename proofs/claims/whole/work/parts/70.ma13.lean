theorem n9 {d : Int32} (hd : iN d < 16) (h : ¬ (10 : Int32) ≤ d) : iN d < 11 := by
  have e := iN_int d
  have h10 : (10 : Int32).toInt = 10 := by decide
  rw [Int32.le_iff_toInt_le, h10, e, if_pos (by omega)] at h; omega
theorem n10 {d : Int32} (hd : iN d < 16) (h : ¬ (11 : Int32) ≤ d) : iN d < 11 := by
  have e := iN_int d
  have h10 : (11 : Int32).toInt = 11 := by decide
  rw [Int32.le_iff_toInt_le, h10, e, if_pos (by omega)] at h; omega
theorem n9' {d : Int32} (hd : iN d < 16) (h : d ≤ (9 : Int32)) : iN d < 11 := by
  have e := iN_int d
  have h10 : (9 : Int32).toInt = 9 := by decide
  rw [Int32.le_iff_toInt_le, h10, e, if_pos (by omega)] at h; omega
theorem hs_s {c s i : Int32} (hs : iN s < 16) (h : f_Mo_hasSource c s i = true) : iN s < 11 := by
  unfold f_Mo_hasSource at h
  by_cases b : f_Mo_bit3 c = true
  · rw [if_pos b] at h
    by_cases q : (11 : Int32) ≤ s
    · rw [if_pos q] at h; exact absurd h (by decide)
    · exact n10 hs q
  · rw [if_neg b] at h
    by_cases q : s = 0
    · rw [q]; decide
    · rw [if_neg q] at h; exact absurd h (by decide)
/-- what a right instruction's fields keep to -/
def DS (c d s o i : Int32) : Prop := iN d < 11 ∧ iN s < 11 ∧ (f_Mo_kind c = 0 → c = 24) ∧ ((f_Mo_kind c = 4 ∨ f_Mo_kind c = 7) → ¬ f_Mo_n c = 14 ∧ ¬ f_Mo_n c = 15 ∧ (f_Mo_n c = 13 → i = 16 ∨ i = 32 ∨ i = 64) ∧ (f_Mo_n c = 11 → ¬ o = 0 → o = 8 ∨ o = 16 ∨ o = 32)) ∧ (f_Mo_kind c = 3 → f_Mo_mode c = 6 → (f_Mo_size c = 4 ∨ f_Mo_size c = 8) ∧ f_Ex_isKnown i = true) ∧ (f_Mo_kind c = 1 → f_Mo_mode c = 4 → ¬ f_Mo_size c = 8)
theorem ds_of {w : Int64} {c d s o i : Int32} (h : FW w c d s o i) (hI : f_Fo_isInstruction w = true) : DS c d s o i := by
  have hc := FW_c h
  have hd := FW_d h
  have hs := FW_s h
  have k := kd_eq h
  have m := mo_eq h
  have n := op_eq h
  have z := sz_eq h
  have b := b3_eq h
  have t := tw_eq h
  have x := hs_eq h
  obtain ⟨h1, h2, h3, h4, h5⟩ := h
  unfold DS
  have s2 : ∀ q : Int32, ¬ q = 0 → True := fun _ _ => trivial
  have z0 : iN (0 : Int32) < 11 := by decide
  have z1 : iN (1 : Int32) < 11 := by decide
  rcases kd8 hc with q | q | q | q | q | q | q | q
  · unfold f_Fo_isInstruction f_Fo_isFirstOfTwo at hI
    rw [k, q, t, h2, h3, h4, h5] at hI
    simp only [lt9, if_true] at hI
    by_cases w1 : f_Mo_isWide c = true
    · have w2 := wide_k w1
      rw [if_pos w1] at hI
      by_cases w3 : (10 : Int32) ≤ d
      · rw [if_pos w3] at hI; exact absurd hI (by decide)
      · rw [if_neg w3] at hI
        refine ⟨n9 hd w3, ?_, fun _ => w2, fun y => by rw [q] at y; exact absurd y (by decide), fun y => by rw [q] at y; exact absurd y (by decide), fun y => by rw [q] at y; exact absurd y (by decide)⟩
        by_cases s0 : s = 0
        · rw [s0]; decide
        · by_cases s1 : s = 1
          · rw [s1]; decide
          · simp [s0, s1] at hI
    · rw [if_neg w1] at hI; exact absurd hI (by decide)
  · unfold f_Fo_isInstruction f_Fo_isRead at hI
    rw [k, q, m, z, h2, h3, h5] at hI
    simp only [lt9, lt10] at hI
    refine ⟨?_, ?_, fun y => by rw [q] at y; exact absurd y (by decide), fun y => by rw [q] at y; exact absurd y (by decide), fun y => by rw [q] at y; exact absurd y (by decide), fun _ y6 y8 => ?_⟩
    · by_cases w3 : (10 : Int32) ≤ d
      · simp [w3] at hI
      · exact n9 hd w3
    · by_cases w3 : (11 : Int32) ≤ s
      · simp [w3] at hI
      · exact n10 hs w3
    · rw [y6, y8] at hI; simp at hI
  · unfold f_Fo_isInstruction f_Fo_isWriteOfNumber at hI
    rw [k, q, m, h2, h3] at hI
    simp only [lt9, lt10] at hI
    refine ⟨?_, ?_, fun y => by rw [q] at y; exact absurd y (by decide), fun y => by rw [q] at y; exact absurd y (by decide), fun y => by rw [q] at y; exact absurd y (by decide), fun y => by rw [q] at y; exact absurd y (by decide)⟩
    · by_cases w3 : (11 : Int32) ≤ d
      · simp [w3] at hI
      · exact n10 hd w3
    · by_cases w3 : s = 0
      · rw [w3]; decide
      · simp [w3] at hI
  · unfold f_Fo_isInstruction f_Fo_isWriteOfRegister f_Fo_isExchange at hI
    rw [k, q, m, z, h2, h3, h5] at hI
    simp only [lt9, lt10] at hI
    refine ⟨?_, ?_, fun y => by rw [q] at y; exact absurd y (by decide), fun y => by rw [q] at y; exact absurd y (by decide), fun _ y6 => ?_, fun y => by rw [q] at y; exact absurd y (by decide)⟩
    · by_cases w3 : (11 : Int32) ≤ d
      · simp [w3] at hI
      · exact n10 hd w3
    · by_cases w3 : (11 : Int32) ≤ s
      · have w4 := le11 w3
        simp [w3, w4] at hI
      · exact n10 hs w3
    · rw [y6] at hI
      rcases sz4 (c := c) with y | y | y | y <;> rw [y] at hI ⊢ <;> simp at hI ⊢ <;> grind
  · have hA : f_Fo_isArithmetic w = true := by
      unfold f_Fo_isInstruction at hI; rw [k, q] at hI; simpa using hI
    unfold f_Fo_isArithmetic f_Fo_isMoveOffset f_Fo_isTurning at hA
    rw [n, h2, h4, x, h3, h5, b, k] at hA
    by_cases w9 : d ≤ (9 : Int32)
    · rw [if_pos w9] at hA
      have hS : iN s < 11 := by
        by_cases x1 : f_Mo_hasSource c s i = true
        · exact hs_s hs x1
        · by_cases s0 : s = 0
          · rw [s0]; decide
          · rcases n16 hc with y | y | y | y | y | y | y | y | y | y | y | y | y | y | y | y <;> rw [y] at hA <;> simp [x1, s0] at hA
      refine ⟨n9' hd w9, hS, fun y => by rw [q] at y; exact absurd y (by decide), fun _ => ⟨fun y => ?_, fun y => ?_, fun y => ?_, fun y y2 => ?_⟩, fun y => by rw [q] at y; exact absurd y (by decide), fun y => by rw [q] at y; exact absurd y (by decide)⟩
      · rw [y] at hA; simp at hA
      · rw [y] at hA; simp at hA
      · rw [y] at hA; simp at hA; grind
      · rw [y] at hA; simp at hA; grind
    · rw [if_neg w9] at hA; exact absurd hA (by decide)
  · have hk : f_Mo_kind c = 5 ∨ f_Mo_kind c = 6 := Or.inl q
    have jq := jp_eq (w := w) ⟨h1, h2, h3, h4, h5⟩ hk
    have hJ : (if f_Fi_jumpsPerhaps w = true then f_Fo_isPerhapsJump w else f_Fo_isCallOrExitOrJump w) = true := by
      unfold f_Fo_isInstruction at hI; rw [k, q] at hI; simpa using hI
    refine ⟨?_, ?_, fun y => by rw [q] at y; exact absurd y (by decide), fun y => by rcases y with y | y <;> rw [q] at y <;> exact absurd y (by decide), fun y => by rw [q] at y; exact absurd y (by decide), fun y => by rw [q] at y; exact absurd y (by decide)⟩
    · by_cases jj : f_Fi_jumpsPerhaps w = true
      · rw [if_pos jj] at hJ
        unfold f_Fo_isPerhapsJump at hJ
        rw [h2, x] at hJ
        simp only [lt10] at hJ
        by_cases w3 : (11 : Int32) ≤ d
        · simp [w3] at hJ
        · exact n10 hd w3
      · rw [if_neg jj] at hJ
        unfold f_Fo_isCallOrExitOrJump at hJ
        rw [h2] at hJ
        by_cases w3 : d = 0
        · rw [w3]; decide
        · rw [if_neg w3] at hJ; exact absurd hJ (by decide)
    · by_cases jj : f_Fi_jumpsPerhaps w = true
      · rw [if_pos jj] at hJ
        unfold f_Fo_isPerhapsJump at hJ
        rw [h2, x] at hJ
        by_cases x1 : f_Mo_hasSource c s i = true
        · exact hs_s hs x1
        · simp [x1] at hJ
      · rw [if_neg jj] at hJ
        unfold f_Fo_isCallOrExitOrJump at hJ
        rw [h3] at hJ
        by_cases w3 : s = 0
        · rw [w3]; decide
        · simp [w3] at hJ
  · have hk : f_Mo_kind c = 5 ∨ f_Mo_kind c = 6 := Or.inr q
    have jq := jp_eq (w := w) ⟨h1, h2, h3, h4, h5⟩ hk
    have hJ : (if f_Fi_jumpsPerhaps w = true then f_Fo_isPerhapsJump w else f_Fo_isCallOrExitOrJump w) = true := by
      unfold f_Fo_isInstruction at hI; rw [k, q] at hI; simpa using hI
    refine ⟨?_, ?_, fun y => by rw [q] at y; exact absurd y (by decide), fun y => by rcases y with y | y <;> rw [q] at y <;> exact absurd y (by decide), fun y => by rw [q] at y; exact absurd y (by decide), fun y => by rw [q] at y; exact absurd y (by decide)⟩
    · by_cases jj : f_Fi_jumpsPerhaps w = true
      · rw [if_pos jj] at hJ
        unfold f_Fo_isPerhapsJump at hJ
        rw [h2, x] at hJ
        simp only [lt10] at hJ
        by_cases w3 : (11 : Int32) ≤ d
        · simp [w3] at hJ
        · exact n10 hd w3
      · rw [if_neg jj] at hJ
        unfold f_Fo_isCallOrExitOrJump at hJ
        rw [h2] at hJ
        by_cases w3 : d = 0
        · rw [w3]; decide
        · rw [if_neg w3] at hJ; exact absurd hJ (by decide)
    · by_cases jj : f_Fi_jumpsPerhaps w = true
      · rw [if_pos jj] at hJ
        unfold f_Fo_isPerhapsJump at hJ
        rw [h2, x] at hJ
        by_cases x1 : f_Mo_hasSource c s i = true
        · exact hs_s hs x1
        · simp [x1] at hJ
      · rw [if_neg jj] at hJ
        unfold f_Fo_isCallOrExitOrJump at hJ
        rw [h3] at hJ
        by_cases w3 : s = 0
        · rw [w3]; decide
        · simp [w3] at hJ
  · have hA : f_Fo_isArithmetic w = true := by
      unfold f_Fo_isInstruction at hI; rw [k, q] at hI; simpa using hI
    unfold f_Fo_isArithmetic f_Fo_isMoveOffset f_Fo_isTurning at hA
    rw [n, h2, h4, x, h3, h5, b, k] at hA
    by_cases w9 : d ≤ (9 : Int32)
    · rw [if_pos w9] at hA
      have hS : iN s < 11 := by
        by_cases x1 : f_Mo_hasSource c s i = true
        · exact hs_s hs x1
        · by_cases s0 : s = 0
          · rw [s0]; decide
          · rcases n16 hc with y | y | y | y | y | y | y | y | y | y | y | y | y | y | y | y <;> rw [y] at hA <;> simp [x1, s0] at hA
      refine ⟨n9' hd w9, hS, fun y => by rw [q] at y; exact absurd y (by decide), fun _ => ⟨fun y => ?_, fun y => ?_, fun y => ?_, fun y y2 => ?_⟩, fun y => by rw [q] at y; exact absurd y (by decide), fun y => by rw [q] at y; exact absurd y (by decide)⟩
      · rw [y] at hA; simp at hA
      · rw [y] at hA; simp at hA
      · rw [y] at hA; simp at hA; grind
      · rw [y] at hA; simp at hA; grind
    · rw [if_neg w9] at hA; exact absurd hA (by decide)
