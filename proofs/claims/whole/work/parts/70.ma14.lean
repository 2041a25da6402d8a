theorem okW_next {ga : Nat → Int32} {n p : Nat} {c o i : Int32} (h : okW ga n p c o i = true) (h5 : ¬ c = 5) (h6 : ¬ c = 6) (h149 : ¬ c = 149) : (if f_Mo_isWide c = true then p + 2 else p + 1) < n := by
  unfold okW at h
  rw [Bool.and_eq_true] at h
  have := h.2
  rw [if_neg (by rintro (q | q | q); exact h5 q; exact h6 q; exact h149 q)] at this
  exact of_decide_eq_true this
/-- a program that may run -/
def VP (ga : Nat → Int32) (pf : Nat → Int64) (n : Nat) : Prop := n ≤ 4096 ∧ PW ga n pf ∧ (0 < n → ¬ cd ga 0 = 0) ∧ ∀ p, p < n → ¬ cd ga p = 0 → f_Fo_isInstruction (pf p) = true ∧ (f_Mo_isWide (cd ga p) = true → p + 1 < n) ∧ (¬ cd ga p = 5 → ¬ cd ga p = 6 → ¬ cd ga p = 149 → ¬ cd ga (if f_Mo_isWide (cd ga p) = true then p + 2 else p + 1) = 0) ∧ okW ga n p (cd ga p) (f_Mo_take ga (nI p)).2.2.2.1 (f_Mo_take ga (nI p)).2.2.2.2 = true
theorem vp_walk {ga : Nat → Int32} {pf : Nat → Int64} {n : Nat} (hn : n ≤ 4096) (hW : PW ga n pf) : ∀ (f q : Nat), Walk ga pf n q → n - q < f → l_Fo_firstGoingWrong_2 pf (nI n) f (nI q) = (-1 : Int32) → ∀ p, q ≤ p → p < n → ¬ cd ga p = 0 → f_Fo_isInstruction (pf p) = true ∧ (f_Mo_isWide (cd ga p) = true → p + 1 < n) ∧ (¬ cd ga p = 5 → ¬ cd ga p = 6 → ¬ cd ga p = 149 → ¬ cd ga (if f_Mo_isWide (cd ga p) = true then p + 2 else p + 1) = 0) ∧ okW ga n p (cd ga p) (f_Mo_take ga (nI p)).2.2.2.1 (f_Mo_take ga (nI p)).2.2.2.2 = true := by
  intro f
  induction f with
  | zero => intro q _ h; omega
  | succ f ih =>
    intro q hw hf h p hq hp hc
    have hq2 : q < n := by omega
    rw [l_Fo_firstGoingWrong_2, if_neg (by rw [nI_lei (by omega) (by omega)]; omega), at_eq hn hq2, go_eq hn hW hq2 hw] at h
    have hF := FW_of (by omega) (hW q hq2).1 (hW q hq2).2
    have e11 : nI q + (1 : Int32) + (1 : Int32) = nI (q + 2) := by rw [nI_p1, nI_p1]
    rw [tw_eq hF, e11, nI_p1] at h
    by_cases ok : okW ga n q (cd ga q) (f_Mo_take ga (nI q)).2.2.2.1 (f_Mo_take ga (nI q)).2.2.2.2 = true
    · rw [if_pos ok] at h
      have hI := (hw.c0 hn hW hq2).1
      have hN : ¬ cd ga q = 5 → ¬ cd ga q = 6 → ¬ cd ga q = 149 → ¬ cd ga (if f_Mo_isWide (cd ga q) = true then q + 2 else q + 1) = 0 := fun a1 a2 a3 => ((hw.next hq2).c0 hn hW (okW_next ok a1 a2 a3)).2
      rcases Walk.cs hw with hdn | ⟨h1, h2, h3, h4⟩ | ⟨h1, h2, h3, h4, h5⟩
      · omega
      · have h2' : f_Mo_isWide (f_Mo_take ga (nI q)).1 = false := h2
        rw [h2', if_neg (by decide)] at h
        by_cases e : p = q
        · subst e; exact ⟨hI, fun w => by rw [h2] at w; exact absurd w (by decide), hN, ok⟩
        · exact ih _ h4 (by omega) h p (by omega) hp hc
      · have h2' : f_Mo_isWide (f_Mo_take ga (nI q)).1 = true := h2
        rw [h2', if_pos rfl] at h
        by_cases e : p = q
        · subst e; exact ⟨hI, fun _ => h1, hN, ok⟩
        · by_cases e2 : p = q + 1
          · subst e2; exact absurd h4 hc
          · exact ih _ h5 (by omega) h p (by omega) hp hc
    · rw [if_neg ok] at h; exact absurd h (nI_m1 (by omega))
theorem vp_of {ga : Nat → Int32} {pf : Nat → Int64} {n : Nat} (hn : n ≤ 4096) (hW : PW ga n pf) (b : Bool) (h1 : f_Fo_firstWrongForItself pf (nI n) b = (-1 : Int32)) (h2 : f_Fo_firstGoingWrong pf (nI n) = (-1 : Int32)) : VP ga pf n := by
  have hcl : (nI n).toNatClampNeg = n := nI_clamp (by omega)
  unfold f_Fo_firstWrongForItself at h1
  unfold f_Fo_firstGoingWrong at h2
  rw [hcl] at h1 h2
  have w0 := Walk.of hn hW b (n + 1) 0 (by omega) (by omega) h1
  exact ⟨hn, hW, fun q => (w0.c0 hn hW q).2, fun p hp hc => vp_walk hn hW (n + 1) 0 w0 (by omega) h2 p (by omega) hp hc⟩
/-- registers of the class and of the reference -/
def RR (rf gr : Nat → Int64) : Prop := ∀ j, j < 11 → rf j = gr j
def RM (mf gm : Nat → Int32) : Prop := ∀ j, mf j &&& (255 : Int32) = gm j
theorem RR.at {rf gr : Nat → Int64} (h : RR rf gr) {d : Int32} (hd : iN d < 11) : rf d.toNatClampNeg = gr d.toNatClampNeg := by
  rw [iN_clamp (by omega)]; exact h _ hd
theorem RR.upd {rf gr : Nat → Int64} (h : RR rf gr) (k : Nat) (v : Int64) : RR (vp_updL rf k v) (vp_updL gr k v) := by
  intro j hj
  unfold vp_updL
  by_cases q : j = k
  · rw [if_pos q, if_pos q]
  · rw [if_neg q, if_neg q]; exact h j hj
theorem call_eq (rf gr : Nat → Int64) (a : Int32) : ∀ (f r : Nat) (v : Int64) (g h : Nat → Int64), r ≤ 6 → 1 ≤ r → RR g h → RR (l_Ma_answerCall_6 rf a f (nI r) v g) (l_Mo_call_8 a gr f (nI r) v h) := by
  intro f
  induction f with
  | zero => intro r v g h _ _ hr j hj; rfl
  | succ f ih =>
    intro r v g h h6 h1 hr
    rw [l_Ma_answerCall_6, l_Mo_call_8]
    have c5 : ((5 : Int32) < nI r) ↔ 6 ≤ r := by rw [show (5 : Int32) = nI 5 from rfl, nI_lti (by omega) (by omega)]; omega
    have c6 : ((6 : Int32) ≤ nI r) ↔ 6 ≤ r := by rw [show (6 : Int32) = nI 6 from rfl, nI_lei (by omega) (by omega)]
    by_cases c : 6 ≤ r
    · rw [if_pos (c5.mpr c), if_pos (c6.mpr c)]; exact hr.upd _ _
    · rw [if_neg (by rw [c5]; exact c), if_neg (by rw [c6]; exact c), nI_p1]
      have e : g (nI r).toNatClampNeg = h (nI r).toNatClampNeg := hr.at (by rw [iN_nI (by omega)]; omega)
      rw [e]
      exact ih _ _ _ _ (by omega) (by omega) (hr.upd _ _)
/-- what one instruction does, alike -/
def Alike (ga : Nat → Int32) (n : Nat) (F : Int32 × (Nat → Int64) × (Nat → Int32)) (D : Bool × (Nat → Int64) × (Nat → Int32) × Int32) : Prop := RR F.2.1 D.2.1 ∧ RM F.2.2 D.2.2.1 ∧ ((D.1 = false ∧ F.1 = (-2 : Int32)) ∨ (D.1 = true ∧ F.1 = D.2.2.2 ∧ ∃ q, q < n ∧ F.1 = nI q ∧ ¬ cd ga q = 0))
theorem okW_goal {ga : Nat → Int32} {n p : Nat} {c o i : Int32} (h : okW ga n p c o i = true) (hk : f_Mo_kind c = 5 ∨ f_Mo_kind c = 6) (h8 : ¬ f_Mo_n c = 8) (h9 : ¬ f_Mo_n c = 9) (hn : n ≤ 4096) : ∃ q, q < n ∧ (gl (nI p) c o i).toInt32 = nI q ∧ ¬ cd ga q = 0 := by
  unfold okW at h
  rw [Bool.and_eq_true] at h
  have := h.1
  rw [if_pos ⟨hk, h8, h9⟩] at this
  have := of_decide_eq_true this
  refine ⟨(gl (nI p) c o i).toInt.toNat, by omega, ?_, this.2.2⟩
  apply iN_inj
  have e := uN_int (gl (nI p) c o i)
  rw [iN_of, iN_nI (by omega)]
  split at e <;> omega
theorem gl_i32 (p c o i : Int32) : (gl p c o i).toInt32 = (p + (1 : Int32)) + (if c = (6 : Int32) then i else o) := by
  unfold gl
  have e1 : ((1 : Int64)).toInt32 = 1 := by decide
  split <;> rw [Int64.toInt32_add, Int64.toInt32_add, i64_i32, i64_i32, e1]
theorem and_mod {a : Int64} (h : 0 ≤ a.toInt) {m M : Int64} (k : Nat) (hm : uN m = 2 ^ k - 1) (hM : M.toInt = 2 ^ k) (hk : k < 60) : (a &&& m = (0 : Int64)) ↔ (a - (a / M) * M = (0 : Int64)) := by
  have la := uN_lt a
  have ia := uN_int a
  have hp : (2 : Int) ^ k ≤ 2 ^ 60 := by
    have : (2 : Nat) ^ k ≤ 2 ^ 60 := Nat.pow_le_pow_right (by decide) (by omega)
    exact_mod_cast this
  have hp0 : (0 : Int) < 2 ^ k := Int.pow_pos (by decide)
  have e1 : (a &&& m = (0 : Int64)) ↔ uN a % 2 ^ k = 0 := by
    rw [← uN_and k hm]
    exact ⟨fun q => by rw [q]; decide, fun q => uN_inj (by rw [q]; decide)⟩
  have ea : a.toInt = (uN a : Int) := by split at ia <;> omega
  have hd : (a / M).toInt = a.toInt / 2 ^ k := by
    rw [Int64.toInt_div, hM, Int.tdiv_eq_ediv_of_nonneg h]
    have h1 : 0 ≤ a.toInt / 2 ^ k := Int.ediv_nonneg h (by omega)
    have h2 : a.toInt / 2 ^ k ≤ a.toInt := Int.ediv_le_self _ h
    exact Int.bmod_eq_of_le_mul_two (by omega) (by omega)
  have hmul : ((a / M) * M).toInt = (a.toInt / 2 ^ k) * 2 ^ k := by
    rw [Int64.toInt_mul, hd, hM]
    have h1 : 0 ≤ a.toInt / 2 ^ k := Int.ediv_nonneg h (by omega)
    have h3 := Int.mul_ediv_add_emod a.toInt (2 ^ k)
    have h4 := Int.emod_nonneg a.toInt (show (2 : Int) ^ k ≠ 0 by omega)
    have h5 : 0 ≤ (a.toInt / 2 ^ k) * 2 ^ k := Int.mul_nonneg h1 (by omega)
    rw [Int.mul_comm] at h3
    exact Int.bmod_eq_of_le_mul_two (by omega) (by omega)
  have hsub : (a - (a / M) * M).toInt = a.toInt % 2 ^ k := by
    rw [Int64.toInt_sub, hmul]
    have h3 := Int.mul_ediv_add_emod a.toInt (2 ^ k)
    have h4 := Int.emod_nonneg a.toInt (show (2 : Int) ^ k ≠ 0 by omega)
    have h6 := Int.emod_lt_of_pos a.toInt hp0
    rw [Int.mul_comm] at h3
    rw [show a.toInt - a.toInt / 2 ^ k * 2 ^ k = a.toInt % 2 ^ k by omega]
    exact Int.bmod_eq_of_le_mul_two (by omega) (by omega)
  have e2 : (a - (a / M) * M = (0 : Int64)) ↔ a.toInt % 2 ^ k = 0 := by
    rw [← hsub]
    exact ⟨fun q => by rw [q]; decide, fun q => Int64.toInt_inj.mp (by rw [q]; decide)⟩
  rw [e1, e2, ea]
  have : ((uN a % 2 ^ k : Nat) : Int) = (uN a : Int) % 2 ^ k := by rw [Int.natCast_emod, Int.natCast_pow]; rfl
  rw [← this]; omega
