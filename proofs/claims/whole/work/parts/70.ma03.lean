/-- the five fields of a word -/
def FW (w : Int64) (c d s o i : Int32) : Prop := f_Fi_code w = c ∧ f_Fi_target w = d ∧ f_Fi_source w = s ∧ f_Fi_offset w = o ∧ f_Fi_immediate w = i
theorem FW_of {ga : Nat → Int32} {p : Nat} {w : Int64} (hp : p < 4096) (hb : byt ga p) (h : isW ga p w) : FW w (f_Mo_take ga (nI p)).1 (f_Mo_take ga (nI p)).2.1 (f_Mo_take ga (nI p)).2.2.1 (f_Mo_take ga (nI p)).2.2.2.1 (f_Mo_take ga (nI p)).2.2.2.2 :=
  ⟨w_code hp hb h, w_target hp hb h, w_source hp hb h, w_offset hp hb h, w_imm hp hb h⟩
theorem FW_c {w : Int64} {c d s o i : Int32} (h : FW w c d s o i) : iN c < 256 := by
  rw [← h.1]; unfold f_Fi_code; rw [iN_255]; omega
theorem FW_d {w : Int64} {c d s o i : Int32} (h : FW w c d s o i) : iN d < 16 := by
  rw [← h.2.1]; unfold f_Fi_target; rw [iN_15]; omega
theorem FW_s {w : Int64} {c d s o i : Int32} (h : FW w c d s o i) : iN s < 16 := by
  rw [← h.2.2.1]; unfold f_Fi_source; rw [iN_15]; omega
theorem kd_eq {w : Int64} {c d s o i : Int32} (h : FW w c d s o i) : f_Fi_kind w = f_Mo_kind c := by
  rw [← h.1]; unfold f_Fi_kind f_Mo_kind f_Fi_code
  apply iN_inj; rw [iN_7, iN_7, iN_255]; omega
theorem op_eq {w : Int64} {c d s o i : Int32} (h : FW w c d s o i) : f_Fi_operation w = f_Mo_n c := by
  have hc := FW_c h
  have e := iN_of w
  rw [← h.1] at hc ⊢; unfold f_Fi_operation f_Mo_n
  apply iN_inj; rw [iN_sh 4 (by decide) (by omega), iN_15, iN_of, uN_ushk 4 (by decide)]
  unfold f_Fi_code; rw [iN_255, e]; omega
theorem mo_eq {w : Int64} {c d s o i : Int32} (h : FW w c d s o i) : f_Fi_mode w = f_Mo_mode c := by
  have hc := FW_c h
  have e := iN_of w
  rw [← h.1] at hc ⊢; unfold f_Fi_mode f_Mo_mode
  apply iN_inj; rw [iN_sh 5 (by decide) (by omega), iN_7, iN_of, uN_ushk 5 (by decide)]
  unfold f_Fi_code; rw [iN_255, e]; omega
theorem sz_eq {w : Int64} {c d s o i : Int32} (h : FW w c d s o i) : f_Fi_size w = f_Mo_size c := by
  have hc := FW_c h
  have e := iN_of w
  have q : (((j_lushr w (3 : Int32)).toInt32) &&& (3 : Int32)) = ((c >>> ((3 : Int32) &&& 31)) &&& (3 : Int32)) := by
    rw [← h.1] at hc ⊢
    apply iN_inj; rw [iN_3, iN_3, iN_sh 3 (by decide) (by omega), iN_of, uN_ushk 3 (by decide)]
    unfold f_Fi_code; rw [iN_255, e]; omega
  unfold f_Fi_size f_Mo_size
  rw [q]
theorem b3_eq {w : Int64} {c d s o i : Int32} (h : FW w c d s o i) : f_Fi_usesSource w = f_Mo_bit3 c := by
  have hc := FW_c h
  have e := iN_of w
  have e8 : uN (w &&& (8 : Int64)) = (uN w / 8 % 2) * 8 := by
    have h1 : uN (w &&& (8 : Int64)) = uN w &&& 2 ^ 3 := UInt64.toNat_and _ _
    have h2 : (uN w &&& 2 ^ 3) / 2 ^ 3 = uN w / 2 ^ 3 % 2 := by
      rw [Nat.and_div_two_pow, Nat.div_self (by decide)]
      exact Nat.and_two_pow_sub_one_eq_mod _ 1
    have h3 : (uN w &&& 2 ^ 3) % 2 ^ 3 = 0 := by rw [Nat.and_mod_two_pow, Nat.mod_self, Nat.and_zero]
    rw [h1]; omega
  have e3 : iN ((c >>> ((3 : Int32) &&& 31)) &&& (1 : Int32)) = uN w / 8 % 2 := by
    rw [← h.1] at hc ⊢
    rw [iN_a1, iN_sh 3 (by decide) (by omega)]
    unfold f_Fi_code; rw [iN_255, e]; omega
  unfold f_Fi_usesSource f_Mo_bit3
  rcases (show uN w / 8 % 2 = 0 ∨ uN w / 8 % 2 = 1 by omega) with q | q
  · rw [if_pos (uN_inj (by rw [e8, q]; decide)), if_neg (fun z => by rw [z] at e3; rw [q] at e3; exact absurd e3 (by decide))]
  · rw [if_neg (fun z => by rw [z] at e8; rw [q] at e8; exact absurd e8 (by decide)), if_pos (iN_inj (by rw [e3, q]; decide))]
theorem lt9 {d : Int32} : (9 : Int32) < d ↔ (10 : Int32) ≤ d := by
  have h1 : (9 : Int32).toInt = 9 := by decide
  have h2 : (10 : Int32).toInt = 10 := by decide
  rw [Int32.lt_iff_toInt_lt, Int32.le_iff_toInt_le]
  omega
theorem lt10 {d : Int32} : (10 : Int32) < d ↔ (11 : Int32) ≤ d := by
  have h1 : (11 : Int32).toInt = 11 := by decide
  have h2 : (10 : Int32).toInt = 10 := by decide
  rw [Int32.lt_iff_toInt_lt, Int32.le_iff_toInt_le]
  omega
theorem le10 {d : Int32} : d < (10 : Int32) ↔ ¬ (10 : Int32) ≤ d := by
  rw [Int32.lt_iff_toInt_lt, Int32.le_iff_toInt_le]
  omega
theorem le11 {d : Int32} (h : (11 : Int32) ≤ d) : (10 : Int32) ≤ d := by
  have h1 : (11 : Int32).toInt = 11 := by decide
  have h2 : (10 : Int32).toInt = 10 := by decide
  rw [Int32.le_iff_toInt_le] at *
  omega
theorem c256 {c : Int32} (h : iN c < 256) : ∃ k : Fin 256, c = nI k.val := ⟨⟨iN c, h⟩, iN_inj (by rw [iN_nI (by omega)])⟩
theorem kd8 {c : Int32} (h : iN c < 256) : f_Mo_kind c = 0 ∨ f_Mo_kind c = 1 ∨ f_Mo_kind c = 2 ∨ f_Mo_kind c = 3 ∨ f_Mo_kind c = 4 ∨ f_Mo_kind c = 5 ∨ f_Mo_kind c = 6 ∨ f_Mo_kind c = 7 := by
  obtain ⟨k, rfl⟩ := c256 h
  revert k; decide +kernel
theorem n16 {c : Int32} (h : iN c < 256) : f_Mo_n c = 0 ∨ f_Mo_n c = 1 ∨ f_Mo_n c = 2 ∨ f_Mo_n c = 3 ∨ f_Mo_n c = 4 ∨ f_Mo_n c = 5 ∨ f_Mo_n c = 6 ∨ f_Mo_n c = 7 ∨ f_Mo_n c = 8 ∨ f_Mo_n c = 9 ∨ f_Mo_n c = 10 ∨ f_Mo_n c = 11 ∨ f_Mo_n c = 12 ∨ f_Mo_n c = 13 ∨ f_Mo_n c = 14 ∨ f_Mo_n c = 15 := by
  obtain ⟨k, rfl⟩ := c256 h
  revert k; decide +kernel
theorem md8 {c : Int32} (h : iN c < 256) : f_Mo_mode c = 0 ∨ f_Mo_mode c = 1 ∨ f_Mo_mode c = 2 ∨ f_Mo_mode c = 3 ∨ f_Mo_mode c = 4 ∨ f_Mo_mode c = 5 ∨ f_Mo_mode c = 6 ∨ f_Mo_mode c = 7 := by
  obtain ⟨k, rfl⟩ := c256 h
  revert k; decide +kernel
theorem sz4 {c : Int32} : f_Mo_size c = 1 ∨ f_Mo_size c = 2 ∨ f_Mo_size c = 4 ∨ f_Mo_size c = 8 := by
  unfold f_Mo_size
  split
  · simp
  · split
    · simp
    · split <;> simp
/-- one place that isn't wide: class and reference agree on its form -/
theorem in123 {ga : Nat → Int32} {a1 a2 : Int32} {w : Int64} {c d s o i : Int32} (h : FW w c d s o i) (ht : f_Mo_take ga a1 = (c, d, s, o, i)) (hk : f_Mo_kind c = 1 ∨ f_Mo_kind c = 2) : f_Fo_isInstruction w = (f_Mo_isInstruction ga a1 a2).1 := by
  have k := kd_eq h
  have m := mo_eq h
  have z := sz_eq h
  obtain ⟨h1, h2, h3, h4, h5⟩ := h
  unfold f_Fo_isInstruction f_Mo_isInstruction f_Fo_isRead f_Fo_isWriteOfNumber
  rw [ht, k, m, z, h2, h3, h5]
  simp only [lt9, lt10]
  rcases hk with q | q <;> rw [q] <;> simp <;> grind
