theorem wd_congr {b b' : Nat → Int32} (h : ∀ k, k < 8 → b k = b' k) : wd b = wd b' := by
  unfold wd
  rw [h 0 (by decide), h 1 (by decide), h 2 (by decide), h 3 (by decide), h 4 (by decide), h 5 (by decide), h 6 (by decide), h 7 (by decide)]
theorem PW.congr {ga gb : Nat → Int32} {pf : Nat → Int64} {n : Nat} (h : PW ga n pf) (he : ∀ j, j < 8 * n → ga j = gb j) : PW gb n pf := by
  intro p hp
  obtain ⟨h1, h2⟩ := h p hp
  refine ⟨fun k hk => by rw [← he _ (by omega)]; exact h1 k hk, ?_⟩
  unfold isW at h2 ⊢
  rw [h2]
  exact wd_congr (fun k hk => he _ (by omega))
/-- the tapes of the class and of the reference -/
def TR (tf gt : Nat → Int32) (tl : Int32) : Prop := ∀ j : Nat, (j : Int) < tl.toInt → tf j &&& (255 : Int32) = gt j
theorem dv8 {tl : Int32} (h0 : 0 ≤ tl.toInt) (h1 : tl.toInt ≤ 32768) : ∃ n : Nat, n ≤ 4096 ∧ tl / (8 : Int32) = nI n ∧ 8 * (n : Int) ≤ tl.toInt := by
  refine ⟨(tl.toInt / 8).toNat, by omega, ?_, by omega⟩
  apply Int32.toInt_inj.mp
  rw [nI_toInt (by omega), Int32.toInt_div, show (8 : Int32).toInt = 8 by decide, Int.tdiv_eq_ediv_of_nonneg h0]
  rw [Int.bmod_eq_of_le_mul_two (by omega) (by omega)]; omega
theorem take_PW {pn : Nat} {pf : Nat → Int64} {tf gt : Nat → Int32} {tl : Int32} {n : Nat} (h0 : 0 ≤ tl.toInt) (h1 : tl.toInt ≤ 32768) (hn : n ≤ 4096) (e : tl / (8 : Int32) = nI n) (h8 : 8 * (n : Int) ≤ tl.toInt) (hT : TR tf gt tl) : PW gt n (f_Pr_takeFrom pn pf tf tl).2.1 := by
  obtain ⟨-, -, g3⟩ := take_spec (pn := pn) (pf := pf) (tf := tf) h0 h1
  intro p hp
  have hj : (p : Int) < (tl / (8 : Int32)).toInt := by rw [e, nI_toInt (by omega)]; omega
  rw [g3 p hj]
  refine ⟨fun k hk => ?_, w_place (by omega) (by omega) (fun k hk => hT _ (by omega))⟩
  rw [← hT (8 * p + k) (by omega), iN_255]; omega
theorem ld_copy (vth vtp vpl vpc vst vc vd vs vo vi vn : Int32) (gt gp : Nat → Int32) {L : Int32} {B : Nat} (hB : B ≤ 32768)
    (hL : (8 : Int32) * (if (f_Mo_wrongWay ((f_Mo_wrongPlace vtp vc vd vs vo vi gt (vtp / (8 : Int32))).2.1) ((f_Mo_wrongPlace vtp vc vd vs vo vi gt (vtp / (8 : Int32))).2.2.1) ((f_Mo_wrongPlace vtp vc vd vs vo vi gt (vtp / (8 : Int32))).2.2.2.1) ((f_Mo_wrongPlace vtp vc vd vs vo vi gt (vtp / (8 : Int32))).2.2.2.2.1) ((f_Mo_wrongPlace vtp vc vd vs vo vi gt (vtp / (8 : Int32))).2.2.2.2.2) gt (vtp / (8 : Int32))).1 = (-1 : Int32) then (vtp / (8 : Int32)) else (0 : Int32)) = nI B) : ∀ (f k : Nat) (g : Nat → Int32), k ≤ B → B - k < f → (∀ j, j < k → g j = gt j) →
    (l_Mo_load_50b vth vtp vpl vpc vst vc vd vs vo vi vn gt gp f (nI k) g).1 = (f_Mo_wrongWay ((f_Mo_wrongPlace vtp vc vd vs vo vi gt (vtp / (8 : Int32))).2.1) ((f_Mo_wrongPlace vtp vc vd vs vo vi gt (vtp / (8 : Int32))).2.2.1) ((f_Mo_wrongPlace vtp vc vd vs vo vi gt (vtp / (8 : Int32))).2.2.2.1) ((f_Mo_wrongPlace vtp vc vd vs vo vi gt (vtp / (8 : Int32))).2.2.2.2.1) ((f_Mo_wrongPlace vtp vc vd vs vo vi gt (vtp / (8 : Int32))).2.2.2.2.2) gt (vtp / (8 : Int32))).1 ∧
    (l_Mo_load_50b vth vtp vpl vpc vst vc vd vs vo vi vn gt gp f (nI k) g).2.1 = 0 ∧ (l_Mo_load_50b vth vtp vpl vpc vst vc vd vs vo vi vn gt gp f (nI k) g).2.2.1 = 0 ∧
    (l_Mo_load_50b vth vtp vpl vpc vst vc vd vs vo vi vn gt gp f (nI k) g).2.2.2.1 = (if (f_Mo_wrongWay ((f_Mo_wrongPlace vtp vc vd vs vo vi gt (vtp / (8 : Int32))).2.1) ((f_Mo_wrongPlace vtp vc vd vs vo vi gt (vtp / (8 : Int32))).2.2.1) ((f_Mo_wrongPlace vtp vc vd vs vo vi gt (vtp / (8 : Int32))).2.2.2.1) ((f_Mo_wrongPlace vtp vc vd vs vo vi gt (vtp / (8 : Int32))).2.2.2.2.1) ((f_Mo_wrongPlace vtp vc vd vs vo vi gt (vtp / (8 : Int32))).2.2.2.2.2) gt (vtp / (8 : Int32))).1 = (-1 : Int32) then (vtp / (8 : Int32)) else (0 : Int32)) ∧
    ∀ j, j < B → (l_Mo_load_50b vth vtp vpl vpc vst vc vd vs vo vi vn gt gp f (nI k) g).2.2.2.2.1 j = gt j := by
  intro f
  induction f with
  | zero => intro k g _ h; omega
  | succ f ih =>
    intro k g hk hf hg
    rw [l_Mo_load_50b]
    by_cases c : B ≤ k
    · rw [if_pos (by rw [hL, nI_lei (by omega) (by omega)]; exact c)]
      exact ⟨rfl, rfl, rfl, rfl, fun j hj => hg j (by omega)⟩
    · rw [if_neg (by rw [hL, nI_lei (by omega) (by omega)]; exact c), nI_p1, nI_clamp (show k < 2 ^ 31 by omega)]
      refine ih (k + 1) _ (by omega) (by omega) (fun j hj => ?_)
      unfold upd
      by_cases q : j = k
      · simp [q]
      · simp [q]; exact hg j (by omega)
/-- load, in the class and in the reference -/
theorem load_eq {pn : Nat} {pf : Nat → Int64} {tf gt gp : Nat → Int32} {tl : Int32} (vth vpl vpc vst vc vd vs vo vi vn : Int32) (h0 : 0 ≤ tl.toInt) (h1 : tl.toInt ≤ 32768) (hT : TR tf gt tl) :
    (f_Cp_load pn pf tf tl).1 = (f_Mo_load vth tl vpl vpc vst vc vd vs vo vi vn gt gp).1 ∧ (f_Mo_load vth tl vpl vpc vst vc vd vs vo vi vn gt gp).2.1 = 0 ∧ (f_Cp_load pn pf tf tl).2.1 = 0 ∧ (f_Mo_load vth tl vpl vpc vst vc vd vs vo vi vn gt gp).2.2.1 = 0 ∧ (f_Cp_load pn pf tf tl).2.2.1 = (f_Pr_takeFrom pn pf tf tl).1 ∧ (f_Cp_load pn pf tf tl).2.2.2.2 = (f_Mo_load vth tl vpl vpc vst vc vd vs vo vi vn gt gp).2.2.2.1 ∧ ∃ n : Nat, n ≤ 4096 ∧ 8 * (n : Int) ≤ tl.toInt ∧ (f_Cp_load pn pf tf tl).2.2.2.2 = nI n ∧ VP (f_Mo_load vth tl vpl vpc vst vc vd vs vo vi vn gt gp).2.2.2.2.1 (f_Cp_load pn pf tf tl).2.2.2.1 n := by
  obtain ⟨n, hn, e, h8⟩ := dv8 h0 h1
  obtain ⟨g1, g2, g3⟩ := take_spec (pn := pn) (pf := pf) (tf := tf) h0 h1
  have hW := take_PW (pn := pn) (pf := pf) h0 h1 hn e h8 hT
  have hcl : (nI n).toNatClampNeg = n := nI_clamp (by omega)
  have v0 : ∀ (ga : Nat → Int32) (p2 : Nat → Int64), VP ga p2 0 := fun ga p2 => ⟨by omega, fun p hp => by omega, fun q => by omega, fun p hp => by omega⟩
  rw [e] at g2
  unfold f_Cp_load
  rw [g2]
  generalize hpf : (f_Pr_takeFrom pn pf tf tl).2.1 = pf' at *
  have hw1 : f_Fo_firstWrongForItself pf' (nI n) (if (tl - (tl / (8 : Int32)) * (8 : Int32)) = 0 then false else true) = (f_Mo_wrongPlace tl vc vd vs vo vi gt (tl / (8 : Int32))).1 := by
    unfold f_Fo_firstWrongForItself f_Mo_wrongPlace
    rw [show (tl / (8 : Int32)).toNatClampNeg = n by rw [e]; exact hcl, hcl]
    have := wp_eq hn hW tl vc vd vs vo vi (n + 1) 0 vc vd vs vo vi (by omega)
    rw [← e] at this ⊢
    exact this
  unfold f_Mo_load
  rw [hw1]
  by_cases c1 : (f_Mo_wrongPlace tl vc vd vs vo vi gt (tl / (8 : Int32))).1 = (-1 : Int32)
  · rw [if_pos c1, if_pos c1]
    have hw0 : Walk gt pf' n 0 := by
      have h9 := hw1.trans c1
      unfold f_Fo_firstWrongForItself at h9
      rw [hcl] at h9
      exact Walk.of hn hW _ (n + 1) 0 (by omega) (by omega) h9
    have hw2 : f_Fo_firstGoingWrong pf' (nI n) = (f_Mo_wrongWay ((f_Mo_wrongPlace tl vc vd vs vo vi gt (tl / (8 : Int32))).2.1) ((f_Mo_wrongPlace tl vc vd vs vo vi gt (tl / (8 : Int32))).2.2.1) ((f_Mo_wrongPlace tl vc vd vs vo vi gt (tl / (8 : Int32))).2.2.2.1) ((f_Mo_wrongPlace tl vc vd vs vo vi gt (tl / (8 : Int32))).2.2.2.2.1) ((f_Mo_wrongPlace tl vc vd vs vo vi gt (tl / (8 : Int32))).2.2.2.2.2) gt (tl / (8 : Int32))).1 := by
      unfold f_Fo_firstGoingWrong f_Mo_wrongWay
      rw [show (tl / (8 : Int32)).toNatClampNeg = n by rw [e]; exact hcl, hcl]
      generalize f_Mo_wrongPlace tl vc vd vs vo vi gt (tl / (8 : Int32)) = WP
      rw [e]
      exact ww_eq hn hW hw0 _ _ _ _ _ (n + 1) 0 _ _ _ _ _ hw0
    by_cases c2 : f_Fo_firstGoingWrong pf' (nI n) = (-1 : Int32)
    · rw [if_pos c2]
      have c2' := hw2.symm.trans c2
      have hL : (8 : Int32) * (if (f_Mo_wrongWay ((f_Mo_wrongPlace tl vc vd vs vo vi gt (tl / (8 : Int32))).2.1) ((f_Mo_wrongPlace tl vc vd vs vo vi gt (tl / (8 : Int32))).2.2.1) ((f_Mo_wrongPlace tl vc vd vs vo vi gt (tl / (8 : Int32))).2.2.2.1) ((f_Mo_wrongPlace tl vc vd vs vo vi gt (tl / (8 : Int32))).2.2.2.2.1) ((f_Mo_wrongPlace tl vc vd vs vo vi gt (tl / (8 : Int32))).2.2.2.2.2) gt (tl / (8 : Int32))).1 = (-1 : Int32) then (tl / (8 : Int32)) else (0 : Int32)) = nI (8 * n) := by
        rw [if_pos c2', e]
        apply iN_inj
        rw [iN_mul, iN_nI (by omega), iN_nI (by omega), show iN (8 : Int32) = 8 by decide]; omega
      obtain ⟨a1, a2, a3, a4, a5⟩ := ld_copy vth tl vpl vpc vst vc vd vs vo vi vn gt gp (L := 0) (B := 8 * n) (by omega) hL 32769 0 gp (by omega) (by omega) (fun j hj => by omega)
      rw [if_pos c2', e] at a4
      refine ⟨hw2.trans a1.symm, a2, rfl, a3, rfl, a4.symm, n, hn, h8, rfl, ?_⟩
      exact vp_of hn (hW.congr (fun j hj => (a5 j hj).symm)) _ (hw1.trans c1) c2
    · rw [if_neg c2]
      have c2' : ¬ (f_Mo_wrongWay ((f_Mo_wrongPlace tl vc vd vs vo vi gt (tl / (8 : Int32))).2.1) ((f_Mo_wrongPlace tl vc vd vs vo vi gt (tl / (8 : Int32))).2.2.1) ((f_Mo_wrongPlace tl vc vd vs vo vi gt (tl / (8 : Int32))).2.2.2.1) ((f_Mo_wrongPlace tl vc vd vs vo vi gt (tl / (8 : Int32))).2.2.2.2.1) ((f_Mo_wrongPlace tl vc vd vs vo vi gt (tl / (8 : Int32))).2.2.2.2.2) gt (tl / (8 : Int32))).1 = (-1 : Int32) := fun q => c2 (hw2.trans q)
      obtain ⟨a1, a2, a3, a4, a5⟩ := ld_copy vth tl vpl vpc vst vc vd vs vo vi vn gt gp (L := 0) (B := 0) (by omega) (by rw [if_neg c2']; rfl) 32769 0 gp (by omega) (by omega) (fun j hj => by omega)
      rw [if_neg c2'] at a4
      exact ⟨hw2.trans a1.symm, a2, rfl, a3, rfl, a4.symm, 0, by omega, by omega, rfl, v0 _ _⟩
  · rw [if_neg c1, if_neg c1, l_Mo_load_50, if_pos (by decide)]
    exact ⟨rfl, rfl, rfl, rfl, rfl, rfl, 0, by omega, by omega, rfl, v0 _ _⟩
