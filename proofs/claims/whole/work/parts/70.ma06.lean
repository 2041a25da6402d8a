theorem mi_2 (ga : Nat → Int32) (a b : Int32) : (f_Mo_isInstruction ga a b).2 = f_Mo_take ga a := by
  unfold f_Mo_isInstruction
  simp only [apply_ite Prod.snd, ite_self]
theorem wp_eq {ga : Nat → Int32} {pf : Nat → Int64} {n : Nat} (hn : n ≤ 4096) (hW : PW ga n pf) (vtp vc vd vs vo vi : Int32) : ∀ (f p : Nat) (c9 d9 s9 o9 i9 : Int32), p ≤ n + 1 → l_Fo_firstWrongForItself_2 pf (nI n) (if (vtp - (vtp / (8 : Int32)) * (8 : Int32)) = 0 then false else true) f (nI p) = (l_Mo_wrongPlace_2 vtp vc vd vs vo vi ga (nI n) f (nI p) c9 d9 s9 o9 i9).1 := by
  intro f
  induction f with
  | zero => intros; rfl
  | succ f ih =>
    intro p c9 d9 s9 o9 i9 hp
    rw [l_Fo_firstWrongForItself_2, l_Mo_wrongPlace_2]
    by_cases c : n ≤ p
    · have hc' : nI n ≤ nI p := (nI_lei (by omega) (by omega)).mpr c
      rw [if_pos hc', if_pos hc']
      by_cases q : (vtp - (vtp / (8 : Int32)) * (8 : Int32)) = 0
      · rw [if_pos q, if_pos q]
        by_cases q2 : nI n = 0
        · rw [if_neg (by decide), if_pos q2, if_pos q2]
        · rw [if_neg (by decide), if_neg q2, if_neg q2]
      · rw [if_neg q, if_neg q, if_pos rfl]
    · have hp2 : p < n := by omega
      have st := ins_step hn hp2 hW
      have hF := FW_of (by omega) (hW p hp2).1 (hW p hp2).2
      have t := tw_eq hF
      have m2 := mi_2 ga (nI p) (nI n)
      have e11 : nI p + (1 : Int32) + (1 : Int32) = nI (p + 2) := by rw [nI_p1, nI_p1]
      have hc' : ¬ nI n ≤ nI p := by rw [nI_lei (by omega) (by omega)]; exact c
      rw [if_neg hc', if_neg hc']
      rw [show (f_Mo_isInstruction ga (nI p) (nI n)).2.1 = (f_Mo_take ga (nI p)).1 by rw [m2]]
      rw [at_eq hn hp2] at st ⊢
      rw [t] at st ⊢
      rw [e11, nI_p2]
      cases hI : f_Fo_isInstruction (pf p) with
      | false => rw [hI, Bool.false_and] at st; rw [st]; simp
      | true =>
        rw [hI, Bool.true_and] at st
        cases hw : f_Mo_isWide (f_Mo_take ga (nI p)).1 with
        | false => rw [hw] at st; rw [st]; simp only [if_true, Bool.false_eq_true, if_false]; rw [nI_p1]; exact ih _ _ _ _ _ _ (by omega)
        | true =>
          rw [hw] at st
          simp only [if_true] at st
          cases hh : f_Pr_has (nI n) ((nI p + (1 : Int32)).toInt64) with
          | false => rw [hh] at st; rw [st]; simp
          | true =>
            rw [hh] at st
            simp only [if_true] at st
            cases hs : f_Fo_isSecondOf (pf p) (f_Pr_at pf (nI n) (nI p + (1 : Int32))) with
            | false => rw [hs] at st; rw [st]; simp
            | true => rw [hs] at st; rw [st]; simp only [if_true]; exact ih _ _ _ _ _ _ (by omega)
/-- the code of a place -/
def cd (ga : Nat → Int32) (p : Nat) : Int32 := (f_Mo_take ga (nI p)).1
/-- from here on, place by place, all is right for itself -/
def Wk (ga : Nat → Int32) (pf : Nat → Int64) (n : Nat) : Nat → Nat → Prop
  | 0, p => p = n
  | f + 1, p => p = n ∨ (p < n ∧ f_Mo_isWide (cd ga p) = false ∧ f_Fo_isInstruction (pf p) = true ∧ Wk ga pf n f (p + 1)) ∨ (p + 1 < n ∧ f_Mo_isWide (cd ga p) = true ∧ f_Fo_isInstruction (pf p) = true ∧ cd ga (p + 1) = 0 ∧ Wk ga pf n f (p + 2))
def Walk (ga : Nat → Int32) (pf : Nat → Int64) (n p : Nat) : Prop := ∃ f, Wk ga pf n f p
theorem Walk.cs {ga : Nat → Int32} {pf : Nat → Int64} {n p : Nat} (h : Walk ga pf n p) : p = n ∨ (p < n ∧ f_Mo_isWide (cd ga p) = false ∧ f_Fo_isInstruction (pf p) = true ∧ Walk ga pf n (p + 1)) ∨ (p + 1 < n ∧ f_Mo_isWide (cd ga p) = true ∧ f_Fo_isInstruction (pf p) = true ∧ cd ga (p + 1) = 0 ∧ Walk ga pf n (p + 2)) := by
  obtain ⟨f, h⟩ := h
  cases f with
  | zero => exact Or.inl h
  | succ f =>
    rcases h with h | ⟨h1, h2, h3, h4⟩ | ⟨h1, h2, h3, h4, h5⟩
    · exact Or.inl h
    · exact Or.inr (Or.inl ⟨h1, h2, h3, f, h4⟩)
    · exact Or.inr (Or.inr ⟨h1, h2, h3, h4, f, h5⟩)
theorem Walk.done {ga : Nat → Int32} {pf : Nat → Int64} {n : Nat} : Walk ga pf n n := ⟨0, rfl⟩
theorem Walk.one {ga : Nat → Int32} {pf : Nat → Int64} {n : Nat} (p : Nat) (h1 : p < n) (h2 : f_Mo_isWide (cd ga p) = false) (h3 : f_Fo_isInstruction (pf p) = true) (h4 : Walk ga pf n (p + 1)) : Walk ga pf n p := by
  obtain ⟨f, h4⟩ := h4
  exact ⟨f + 1, Or.inr (Or.inl ⟨h1, h2, h3, h4⟩)⟩
theorem Walk.two {ga : Nat → Int32} {pf : Nat → Int64} {n : Nat} (p : Nat) (h1 : p + 1 < n) (h2 : f_Mo_isWide (cd ga p) = true) (h3 : f_Fo_isInstruction (pf p) = true) (h4 : cd ga (p + 1) = 0) (h5 : Walk ga pf n (p + 2)) : Walk ga pf n p := by
  obtain ⟨f, h5⟩ := h5
  exact ⟨f + 1, Or.inr (Or.inr ⟨h1, h2, h3, h4, h5⟩)⟩
theorem Walk.le {ga : Nat → Int32} {pf : Nat → Int64} {n p : Nat} (h : Walk ga pf n p) : p ≤ n := by
  rcases h.cs with h | ⟨h, -⟩ | ⟨h, -⟩ <;> omega
theorem nI_m1 {p : Nat} (h : p < 2147483648) : ¬ nI p = (-1 : Int32) := by
  intro q
  have := congrArg Int32.toInt q
  rw [nI_toInt (by omega), i_m1] at this; omega
theorem Walk.of {ga : Nat → Int32} {pf : Nat → Int64} {n : Nat} (hn : n ≤ 4096) (hW : PW ga n pf) (b : Bool) : ∀ (f p : Nat), p ≤ n → n - p < f → l_Fo_firstWrongForItself_2 pf (nI n) b f (nI p) = (-1 : Int32) → Walk ga pf n p := by
  intro f
  induction f with
  | zero => intro p _ h; omega
  | succ f ih =>
    intro p hp hf h
    rw [l_Fo_firstWrongForItself_2] at h
    by_cases c : n ≤ p
    · obtain rfl : p = n := by omega
      exact Walk.done
    · have hp2 : p < n := by omega
      have hF := FW_of (by omega) (hW p hp2).1 (hW p hp2).2
      have t := tw_eq hF
      have e11 : nI p + (1 : Int32) + (1 : Int32) = nI (p + 2) := by rw [nI_p1, nI_p1]
      rw [if_neg (by rw [nI_lei (by omega) (by omega)]; exact c), at_eq hn hp2, t, e11] at h
      by_cases hI : f_Fo_isInstruction (pf p) = true
      · rw [if_pos hI] at h
        by_cases hw : f_Mo_isWide (f_Mo_take ga (nI p)).1 = true
        · rw [if_pos hw, nI_p1, has_eq hn (by omega)] at h
          by_cases q : p + 1 < n
          · rw [if_pos (by simp [q])] at h
            by_cases hs : f_Fo_isSecondOf (pf p) (f_Pr_at pf (nI n) (nI (p + 1))) = true
            · rw [if_pos hs] at h
              refine Walk.two p q hw hI ?_ (ih _ (by omega) (by omega) h)
              have hF2 := FW_of (by omega) (hW _ q).1 (hW _ q).2
              rw [at_eq hn q] at hs
              unfold f_Fo_isSecondOf at hs
              by_cases z : (pf (p + 1)).toInt32 = 0
              · unfold cd; rw [← hF2.1]; unfold f_Fi_code; rw [z]; decide
              · rw [if_neg z] at hs; exact absurd hs (by decide)
            · rw [if_neg hs] at h; exact absurd h (nI_m1 (by omega))
          · rw [if_neg (by simp [q])] at h; exact absurd h (nI_m1 (by omega))
        · rw [if_neg hw, nI_p1] at h
          exact Walk.one p hp2 (Bool.eq_false_iff.mpr hw) hI (ih _ (by omega) (by omega) h)
      · rw [if_neg hI] at h; exact absurd h (nI_m1 (by omega))
theorem ins_c0 {ga : Nat → Int32} {pf : Nat → Int64} {n p : Nat} (hn : n ≤ 4096) (hW : PW ga n pf) (hp : p < n) (hI : f_Fo_isInstruction (pf p) = true) : ¬ cd ga p = 0 := by
  intro q
  have hF := FW_of (by omega) (hW p hp).1 (hW p hp).2
  unfold f_Fo_isInstruction f_Fo_isFirstOfTwo at hI
  unfold cd at q
  rw [kd_eq hF, q, show f_Mo_kind 0 = 0 by decide, if_pos rfl, tw_eq hF, q, show f_Mo_isWide 0 = false by decide, if_neg (by decide)] at hI
  exact absurd hI (by decide)
theorem Walk.c0 {ga : Nat → Int32} {pf : Nat → Int64} {n p : Nat} (hn : n ≤ 4096) (hW : PW ga n pf) (h : Walk ga pf n p) (hp : p < n) : f_Fo_isInstruction (pf p) = true ∧ ¬ cd ga p = 0 := by
  rcases Walk.cs h with hdn | ⟨h1, h2, h3, h4⟩ | ⟨h1, h2, h3, h4, h5⟩
  · omega
  · exact ⟨h3, ins_c0 hn hW hp h3⟩
  · exact ⟨h3, ins_c0 hn hW hp h3⟩
/-- is there a start of an instruction? -/
def isSt (ga : Nat → Int32) (n : Nat) (a : Int) : Bool := decide (0 ≤ a ∧ a < n ∧ ¬ cd ga a.toNat = 0)
theorem l_eq {a : Int64} {q : Nat} (hq : q < 2147483648) (h : a.toInt = (q : Int)) : a = (nI q).toInt64 := Int64.toInt_inj.mp (by rw [h, nI_64 hq])
theorem st_eq {ga : Nat → Int32} {pf : Nat → Int64} {n : Nat} (hn : n ≤ 4096) (hW : PW ga n pf) (a : Int64) : f_Fo_isStart pf (nI n) a = isSt ga n a.toInt := by
  by_cases h : 0 ≤ a.toInt ∧ a.toInt < n
  · have hq : a.toInt.toNat < n := by omega
    have ha : a = (nI a.toInt.toNat).toInt64 := l_eq (by omega) (by omega)
    have hF := FW_of (by omega) (hW _ hq).1 (hW _ hq).2
    have e : a.toInt32 = nI a.toInt.toNat := by
      apply iN_inj
      rw [iN_of, iN_nI (by omega)]
      have h1 := uN_int a
      split at h1 <;> omega
    unfold f_Fo_isStart
    rw [show f_Pr_has (nI n) a = true by rw [ha, has_eq hn (by omega)]; exact decide_eq_true hq, e, at_eq hn hq, hF.1, if_pos rfl]
    show (if cd ga a.toInt.toNat = 0 then false else true) = _
    unfold isSt
    by_cases z : cd ga a.toInt.toNat = 0
    · rw [if_pos z]; exact (decide_eq_false (fun q => q.2.2 z)).symm
    · rw [if_neg z]; exact (decide_eq_true ⟨h.1, h.2, z⟩).symm
  · unfold f_Fo_isStart
    have e : f_Pr_has (nI n) a = false := by
      unfold f_Pr_has
      by_cases q : a < (0 : Int64)
      · rw [if_pos q]
      · have q' := l_nlt q
        rw [l_0] at q'
        rw [if_neg q, if_pos (by rw [Int64.le_iff_toInt_le, nI_64 (by omega)]; omega)]
    rw [e, if_neg (by decide)]
    exact (decide_eq_false (fun q => h ⟨q.1, q.2.1⟩)).symm
theorem goal_eq {ga : Nat → Int32} {pf : Nat → Int64} {n : Nat} (hn : n ≤ 4096) (hW : PW ga n pf) (a : Int64) : ∀ (f p : Nat), Walk ga pf n p → n - p < f → ((p : Int) ≤ a.toInt ∨ a.toInt < 0) → l_Mo_isGoal_3 ga a (nI n) f (nI p) = isSt ga n a.toInt := by
  intro f
  induction f with
  | zero => intro p _ h; omega
  | succ f ih =>
    intro p hw hf hpa
    have hp := hw.le
    rw [l_Mo_isGoal_3]
    have e0 : (a < (0 : Int64)) ↔ a.toInt < 0 := by rw [Int64.lt_iff_toInt_lt, l_0]
    have en : ((nI n).toInt64 ≤ a) ↔ (n : Int) ≤ a.toInt := by rw [Int64.le_iff_toInt_le, nI_64 (by omega)]
    have ep : ((nI p).toInt64 = a) ↔ (p : Int) = a.toInt := by rw [← Int64.toInt_inj, nI_64 (by omega)]
    have el : (a ≤ (nI p).toInt64) ↔ a.toInt ≤ (p : Int) := by rw [Int64.le_iff_toInt_le, nI_64 (by omega)]
    by_cases c : n ≤ p
    · rw [if_pos ((nI_lei (by omega) (by omega)).mpr c)]
      unfold isSt
      by_cases z : a.toInt < 0
      · rw [if_pos (e0.mpr z)]; exact (decide_eq_false (fun h1 => by omega)).symm
      · rw [if_neg (by rw [e0]; exact z), if_pos (by rw [en]; omega)]; exact (decide_eq_false (fun h1 => by omega)).symm
    · have hp2 : p < n := by omega
      rw [if_neg (by rw [nI_lei (by omega) (by omega)]; exact c)]
      by_cases q : a.toInt ≤ (p : Int)
      · rw [if_pos (el.mpr q)]
        unfold isSt
        by_cases z : a.toInt < 0
        · rw [if_pos (e0.mpr z)]; exact (decide_eq_false (fun h1 => by omega)).symm
        · have ea : a.toInt = p := by omega
          rw [if_neg (by rw [e0]; exact z), if_neg (by rw [en]; omega), if_pos (ep.mpr ea.symm)]
          have := (hw.c0 hn hW hp2).2
          rw [ea]; exact (decide_eq_true ⟨by omega, by omega, this⟩).symm
      · rw [if_neg (by rw [el]; exact q)]
        rw [cl80 (by omega)]
        have ec : ga (8 * p) = cd ga p := by unfold cd f_Mo_take; rw [cl80 (by omega)]
        rw [ec, nI_p1, nI_p2]
        rcases Walk.cs hw with hdn | ⟨h1, h2, h3, h4⟩ | ⟨h1, h2, h3, h4, h5⟩
        · omega
        · have : ¬ cd ga p = 24 := by intro z; rw [z] at h2; exact absurd h2 (by decide)
          rw [if_neg this]
          exact ih _ h4 (by omega) (by omega)
        · rw [if_pos (wide_k h2)]
          by_cases z : a.toInt = (p : Int) + 1
          · -- the second place of two: no start
            have hst : isSt ga n a.toInt = false := by
              unfold isSt; rw [z]
              rw [show ((p : Int) + 1).toNat = p + 1 by omega, h4]; exact decide_eq_false (fun q => q.2.2 rfl)
            rw [hst]
            cases f with
            | zero => omega
            | succ f =>
              rw [l_Mo_isGoal_3]
              have e1 : ¬ a < (0 : Int64) := by rw [e0]; omega
              have e2 : ¬ (nI n).toInt64 ≤ a := by rw [en]; omega
              have e3 : ¬ (nI (p + 2)).toInt64 = a := by rw [← Int64.toInt_inj, nI_64 (by omega)]; omega
              have e4 : a ≤ (nI (p + 2)).toInt64 := by rw [Int64.le_iff_toInt_le, nI_64 (by omega)]; omega
              rw [if_neg e1, if_neg e2, if_neg e3, if_pos e4]; simp
          · exact ih _ h5 (by omega) (by omega)
