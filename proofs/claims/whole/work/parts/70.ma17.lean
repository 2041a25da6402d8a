/-- places of a program at which an instruction starts -/
def VS (ga : Nat → Int32) (n : Nat) (p : Int32) : Prop := ∃ q, q < n ∧ p = nI q ∧ ¬ cd ga q = 0
theorem does_mem (c d s o i : Int32) (gp : Nat → Int32) (g : Nat → Int64) (h h' : Nat → Int32) (p : Int32) : (f_Mo_does c d s o i gp g h p).1 = (f_Mo_does c d s o i gp g h' p).1 ∧ (f_Mo_does c d s o i gp g h p).2.2.2 = (f_Mo_does c d s o i gp g h' p).2.2.2 := by
  have ea : (f_Mo_access c d s o i g h).1 = (f_Mo_access c d s o i g h').1 := by
    unfold f_Mo_access f_Mo_atomic
    simp only [apply_ite Prod.fst, ite_self]
  unfold f_Mo_does
  constructor
  · simp only [apply_ite Prod.fst, ea]
  · simp only [apply_ite Prod.snd]
theorem vs_vok {ga : Nat → Int32} {pf : Nat → Int64} {n : Nat} (hV : VP ga pf n) {p : Int32} (h : VS ga n p) : VOK ga p := by
  obtain ⟨q, hq, rfl, hc⟩ := h
  obtain ⟨hn, hW, -, hA⟩ := hV
  obtain ⟨hI, hwd, -, -⟩ := hA q hq hc
  have hF := FW_of (by omega) (hW q hq).1 (hW q hq).2
  have hD := ds_of hF hI
  have hwd' : f_Mo_isWide (f_Mo_take ga (nI q)).1 = true → q + 1 < n := hwd
  obtain ⟨hd, hs, h24, h47, -, -⟩ := hD
  have e := nI_toInt (n := q) (by omega)
  have vin : ∀ x : Int32, iN x < 11 → vp_in x 11 := fun x hx => by
    rw [vp_in_iff, iN_int, if_pos (by omega)]; omega
  exact ⟨by omega, by omega, vin _ hd, vin _ hs, fun hk h13 => (h47 hk).2.2.1 h13, fun hk => by have := hwd' (by rw [h24 hk]; decide); omega⟩
theorem vs_next {ga : Nat → Int32} {pf : Nat → Int64} {n : Nat} (hV : VP ga pf n) (p9 : Int32) (g : Nat → Int64) (h : Nat → Int32) (hp : VS ga n p9) (h149 : ¬ (f_Mo_take ga p9).1 = (149 : Int32)) (hd : (f_Mo_does (f_Mo_take ga p9).1 (f_Mo_take ga p9).2.1 (f_Mo_take ga p9).2.2.1 (f_Mo_take ga p9).2.2.2.1 (f_Mo_take ga p9).2.2.2.2 ga g h p9).1 = true) : VS ga n (f_Mo_does (f_Mo_take ga p9).1 (f_Mo_take ga p9).2.1 (f_Mo_take ga p9).2.2.1 (f_Mo_take ga p9).2.2.2.1 (f_Mo_take ga p9).2.2.2.2 ga g h p9).2.2.2 := by
  obtain ⟨q, hq, rfl, hc⟩ := hp
  obtain ⟨e1, e2⟩ := does_mem (f_Mo_take ga (nI q)).1 (f_Mo_take ga (nI q)).2.1 (f_Mo_take ga (nI q)).2.2.1 (f_Mo_take ga (nI q)).2.2.2.1 (f_Mo_take ga (nI q)).2.2.2.2 ga g h (fun _ => 0) (nI q)
  obtain ⟨-, -, r⟩ := step_eq hV hq hc h149 (rf := g) (gr := g) (mf := fun _ => 0) (gm := fun _ => 0) (fun _ _ => rfl) (fun _ => (by decide : (0 : Int32) &&& 255 = 0))
  rw [e1] at hd
  rw [e2]
  rcases r with ⟨r1, -⟩ | ⟨-, r2, q2, r3, r4, r5⟩
  · rw [hd] at r1; exact absurd r1 (by decide)
  · exact ⟨q2, r3, r2.symm.trans r4, r5⟩
theorem nI_inj {a b : Nat} (ha : a < 2147483648) (hb : b < 2147483648) : nI a = nI b ↔ a = b := by
  constructor
  · intro h
    have := congrArg Int32.toInt h
    rw [nI_toInt (by omega), nI_toInt (by omega)] at this; omega
  · intro h; rw [h]
theorem fol149 {ga : Nat → Int32} {pf : Nat → Int64} {n p : Nat} (hV : VP ga pf n) (hp : p < n) (h149 : cd ga p = 149) (rf : Nat → Int64) (mf : Nat → Int32) : f_Ma_follow rf mf pf (nI n) (nI p) = ((-1 : Int32), rf, mf) := by
  obtain ⟨hn, hW, -, -⟩ := hV
  have hF := FW_of (by omega) (hW p hp).1 (hW p hp).2
  have h9 : (f_Mo_take ga (nI p)).1 = 149 := h149
  unfold f_Ma_follow
  rw [at_eq hn hp, kd_eq hF, h9, show f_Mo_kind 149 = 5 by decide]
  have ej : f_Ma_jump rf (nI p) (pf p) = ((-1 : Int32), rf) := by
    unfold f_Ma_jump f_Fi_isExit; rw [hF.1, h9]; simp
  rw [ej]
  simp
theorem run_loop {ga : Nat → Int32} {pf : Nat → Int64} {n : Nat} (hV : VP ga pf n) {A : Nat} (hA : A ≤ 100000) (xp xs : Int32) (rf : Nat → Int64) (mf : Nat → Int32) (vpl vpc vst vc vd vs vo vi vn : Int32) (gr : Nat → Int64) (gm : Nat → Int32) : ∀ (m k p : Nat) (g g' : Nat → Int64) (h h' : Nat → Int32) (pc9 n9 c9 d9 s9 o9 i9 : Int32), k + m = A → p < n → ¬ cd ga p = 0 → RR g g' → RM h h' →
    (l_Cp_run_52 xp xs rf mf pf (nI n) (nI A) (m + 1) (nI k) (nI p) (nI k) g h).1 = (l_Mo_run_48 vpl vpc vst vc vd vs vo vi vn ga gr gm (nI A) (m + 3) (nI p) (-1 : Int32) pc9 (nI k) n9 g' h' c9 d9 s9 o9 i9).1 ∧
    (l_Cp_run_52 xp xs rf mf pf (nI n) (nI A) (m + 1) (nI k) (nI p) (nI k) g h).2.1 = (l_Mo_run_48 vpl vpc vst vc vd vs vo vi vn ga gr gm (nI A) (m + 3) (nI p) (-1 : Int32) pc9 (nI k) n9 g' h' c9 d9 s9 o9 i9).2.2.1 ∧
    (l_Cp_run_52 xp xs rf mf pf (nI n) (nI A) (m + 1) (nI k) (nI p) (nI k) g h).2.2.1 = (l_Mo_run_48 vpl vpc vst vc vd vs vo vi vn ga gr gm (nI A) (m + 3) (nI p) (-1 : Int32) pc9 (nI k) n9 g' h' c9 d9 s9 o9 i9).2.2.2.1 ∧
    RR (l_Cp_run_52 xp xs rf mf pf (nI n) (nI A) (m + 1) (nI k) (nI p) (nI k) g h).2.2.2.1 (l_Mo_run_48 vpl vpc vst vc vd vs vo vi vn ga gr gm (nI A) (m + 3) (nI p) (-1 : Int32) pc9 (nI k) n9 g' h' c9 d9 s9 o9 i9).2.2.2.2.2.1 ∧
    RM (l_Cp_run_52 xp xs rf mf pf (nI n) (nI A) (m + 1) (nI k) (nI p) (nI k) g h).2.2.2.2 (l_Mo_run_48 vpl vpc vst vc vd vs vo vi vn ga gr gm (nI A) (m + 3) (nI p) (-1 : Int32) pc9 (nI k) n9 g' h' c9 d9 s9 o9 i9).2.2.2.2.2.2.1 ∧
    (l_Mo_run_48 vpl vpc vst vc vd vs vo vi vn ga gr gm (nI A) (m + 3) (nI p) (-1 : Int32) pc9 (nI k) n9 g' h' c9 d9 s9 o9 i9).2.1 = (if nI A < 0 then (1 : Int32) else (if nI A ≤ (100000 : Int32) then (if vpl = 0 then (2 : Int32) else (0 : Int32)) else (1 : Int32))) := by
  intro m
  induction m with
  | zero =>
    intro k p g g' h h' pc9 n9 c9 d9 s9 o9 i9 hk hp hc hR hM
    obtain rfl : k = A := by omega
    rw [l_Cp_run_52, if_pos (Int32.le_refl _)]
    rw [l_Mo_run_48, if_pos rfl, if_pos rfl, l_Mo_run_48, if_neg (show ¬ (1 : Int32) = (-1 : Int32) by decide)]
    exact ⟨rfl, rfl, rfl, hR, hM, rfl⟩
  | succ m ih =>
    intro k p g g' h h' pc9 n9 c9 d9 s9 o9 i9 hk hp hc hR hM
    have cC : ¬ nI A ≤ nI k := by rw [nI_lei (by omega) (by omega)]; omega
    have cM : ¬ nI k = nI A := by rw [nI_inj (by omega) (by omega)]; omega
    rw [l_Cp_run_52, if_neg cC]
    rw [l_Mo_run_48, if_pos rfl, if_neg cM]
    by_cases h149 : cd ga p = 149
    · have h9 : (f_Mo_take ga (nI p)).1 = 149 := h149
      rw [fol149 hV hp h149]
      rw [if_pos h9, l_Mo_run_48, if_neg (show ¬ (0 : Int32) = (-1 : Int32) by decide)]
      dsimp only
      rw [if_neg (show ¬ (-1 : Int32) = (-2 : Int32) by decide), if_pos rfl]
      exact ⟨rfl, rfl, rfl, hR, hM, rfl⟩
    · have h9 : ¬ (f_Mo_take ga (nI p)).1 = 149 := h149
      obtain ⟨r1, r2, r3⟩ := step_eq hV hp hc h149 hR hM
      rw [if_neg h9]
      rcases r3 with ⟨a1, a2⟩ | ⟨a1, a2, q, a3, a4, a5⟩
      · rw [if_pos a2, if_neg (by rw [a1]; decide), l_Mo_run_48, if_neg (show ¬ (2 : Int32) = (-1 : Int32) by decide)]
        exact ⟨rfl, rfl, rfl, r1, r2, rfl⟩
      · have m2 : ¬ (f_Ma_follow g h pf (nI n) (nI p)).1 = (-2 : Int32) := by
          rw [a4]; intro z
          have := congrArg Int32.toInt z
          have hn := hV.1
          rw [nI_toInt (by omega), show (-2 : Int32).toInt = -2 by decide] at this; omega
        have m1 : ¬ (f_Ma_follow g h pf (nI n) (nI p)).1 = (-1 : Int32) := by
          rw [a4]; have hn := hV.1; exact nI_m1 (by omega)
        rw [if_neg m2, if_neg m1, if_pos a1, ← a2, a4, nI_p1]
        exact ih (k + 1) q _ _ _ _ _ _ _ _ _ _ _ (by omega) a3 a5 r1 r2
