theorem tcl {tl K : Int32} {k : Nat} (h0 : 0 ≤ tl.toInt) (h1 : tl.toInt + 32 < 2147483648) (hk : k < 32) (hK : K = nI k) : (tl + K).toNatClampNeg = tl.toInt.toNat + k := by
  show (tl + K).toInt.toNat = _
  have e : K.toInt = (k : Int) := by rw [hK, nI_toInt (by omega)]
  rw [i_add (by omega) (by omega), e]; omega
theorem upd_ne {f : Nat → Int32} {k j : Nat} {x : Int32} (h : ¬ j = k) : upd f k x j = f j := by unfold upd; rw [if_neg h]
theorem upd_eq {f : Nat → Int32} {k : Nat} {x : Int32} : upd f k x k = x := by unfold upd; rw [if_pos rfl]
theorem sh0 (a : Int32) : a >>> ((0 : Int32) &&& 31) = a := by
  apply Int32.toBitVec_inj.mp
  show a.toBitVec.sshiftRight (((0 : Int32) &&& 31).toBitVec.smod 32).toNat = _
  rw [show (((0 : Int32) &&& 31).toBitVec.smod 32).toNat = 0 by decide, BitVec.sshiftRight_zero]
/-- four bytes of an int, behind the tape -/
def u4 (g : Nat → Int32) (tp a : Int32) : Nat → Int32 := upd (upd (upd (upd g tp.toNatClampNeg ((a >>> ((24 : Int32) &&& 31)) &&& (255 : Int32))) (tp + (1 : Int32)).toNatClampNeg ((a >>> ((16 : Int32) &&& 31)) &&& (255 : Int32))) (tp + (2 : Int32)).toNatClampNeg ((a >>> ((8 : Int32) &&& 31)) &&& (255 : Int32))) (tp + (3 : Int32)).toNatClampNeg ((a >>> ((0 : Int32) &&& 31)) &&& (255 : Int32))
theorem ty_rel {tn : Nat} {tf gt : Nat → Int32} {tl a : Int32} (h0 : 0 ≤ tl.toInt) (h4 : tl.toInt + 4 ≤ tn) (hn : tn ≤ 32768) (hT : TR tf gt tl) (hf : ∀ j, fits .byte (.int (tf j)) = true) : (f_Ta_type tn tf tl a).2 = tl + (4 : Int32) ∧ TR (f_Ta_type tn tf tl a).1 (u4 gt tl a) (tl + (4 : Int32)) ∧ (∀ j, fits .byte (.int ((f_Ta_type tn tf tl a).1 j)) = true) ∧ (tl + (4 : Int32)).toInt = tl.toInt + 4 := by
  have e4 : (tl + (4 : Int32)).toInt = tl.toInt + 4 := by
    rw [i_add (by rw [show (4 : Int32).toInt = 4 by decide]; omega) (by rw [show (4 : Int32).toInt = 4 by decide]; omega), show (4 : Int32).toInt = 4 by decide]
  have c : (tl + (4 : Int32)) ≤ nI tn := by rw [Int32.le_iff_toInt_le, e4, nI_toInt (by omega)]; omega
  have c0 : tl.toNatClampNeg = tl.toInt.toNat := rfl
  have c1 : (tl + (1 : Int32)).toNatClampNeg = tl.toInt.toNat + 1 := tcl h0 (by omega) (by decide) rfl
  have c2 : (tl + (2 : Int32)).toNatClampNeg = tl.toInt.toNat + 2 := tcl h0 (by omega) (by decide) rfl
  have c3 : (tl + (3 : Int32)).toNatClampNeg = tl.toInt.toNat + 3 := tcl h0 (by omega) (by decide) rfl
  unfold f_Ta_type
  rw [if_pos c]
  refine ⟨rfl, ?_, ?_, e4⟩
  · intro j hj
    rw [e4] at hj
    unfold u4
    rw [c0, c1, c2, c3]
    dsimp only
    by_cases j3 : j = tl.toInt.toNat + 3
    · rw [j3, upd_eq, upd_eq, nar255, i2b255, sh0]
    by_cases j2 : j = tl.toInt.toNat + 2
    · rw [upd_ne j3, upd_ne j3, j2, upd_eq, upd_eq, nar255, i2b255]
    by_cases j1 : j = tl.toInt.toNat + 1
    · rw [upd_ne j3, upd_ne j3, upd_ne j2, upd_ne j2, j1, upd_eq, upd_eq, nar255, i2b255]
    by_cases j0 : j = tl.toInt.toNat
    · rw [upd_ne j3, upd_ne j3, upd_ne j2, upd_ne j2, upd_ne j1, upd_ne j1, j0, upd_eq, upd_eq, nar255, i2b255]
    rw [upd_ne j3, upd_ne j3, upd_ne j2, upd_ne j2, upd_ne j1, upd_ne j1, upd_ne j0, upd_ne j0]
    exact hT j (by omega)
  · have hu : ∀ (g : Nat → Int32) (k : Nat) (y : Int32), (∀ j, fits .byte (.int (g j)) = true) → ∀ j, fits .byte (.int (upd g k (vp_nar .byte y) j)) = true := by
      intro g k y hg j
      by_cases q : j = k
      · rw [q, upd_eq, vp_nar_byte]; exact pk_fb _
      · rw [upd_ne q]; exact hg j
    exact hu _ _ _ (hu _ _ _ (hu _ _ _ (hu _ _ _ hf)))
theorem mr_rel {tn : Nat} {tf gt : Nat → Int32} {tl : Int32} (h0 : 0 ≤ tl.toInt) (h1 : tl.toInt ≤ tn) (hT : TR tf gt tl) (hf : ∀ j, fits .byte (.int (tf j)) = true) : TR (f_Ta_makeRoom tn tf tl).2 gt tl ∧ ∀ j, fits .byte (.int ((f_Ta_makeRoom tn tf tl).2 j)) = true := by
  unfold f_Ta_makeRoom
  by_cases c : (tl + (20 : Int32)) ≤ (nI tn)
  · rw [if_pos c]; exact ⟨hT, hf⟩
  · rw [if_neg c]
    refine ⟨fun j hj => ?_, fun j => ?_⟩
    · show va_cpy tf (fun _ => 0) 0 0 tn j &&& 255 = gt j
      unfold va_cpy
      rw [if_pos (by omega), show 0 + (j - 0) = j by omega]; exact hT j hj
    · show fits .byte (.int (va_cpy tf (fun _ => 0) 0 0 tn j)) = true
      unfold va_cpy
      split
      · exact hf _
      · exact (by decide : fits .byte (.int 0) = true)
theorem fd_model (vtp : Int32) (gt : Nat → Int32) (a0 a1 a2 a3 a4 : Int32) (hroom : (vtp + (20 : Int32)) ≤ (32768 : Int32)) : f_Mo_feed vtp gt a0 a1 a2 a3 a4 = (vtp + (4 : Int32) + (4 : Int32) + (4 : Int32) + (4 : Int32) + (4 : Int32), (0 : Int32), u4 (u4 (u4 (u4 (u4 gt vtp a0) (vtp + (4 : Int32)) a1) (vtp + (4 : Int32) + (4 : Int32)) a2) (vtp + (4 : Int32) + (4 : Int32) + (4 : Int32)) a3) (vtp + (4 : Int32) + (4 : Int32) + (4 : Int32) + (4 : Int32)) a4, vtp + (4 : Int32) + (4 : Int32) + (4 : Int32) + (4 : Int32) + (4 : Int32)) := by
  unfold f_Mo_feed
  have hb : (if (vtp + (20 : Int32)) ≤ (32768 : Int32) then false else true) = false := if_pos hroom
  rw [if_neg (show ¬ (if (vtp + (20 : Int32)) ≤ (32768 : Int32) then false else true) = true by rw [hb]; decide)]
  have q1 : ∀ x : Int32, x + (1 : Int32) + (1 : Int32) = x + (2 : Int32) := fun x => by rw [Int32.add_assoc]; rfl
  have q2 : ∀ x : Int32, x + (2 : Int32) + (1 : Int32) = x + (3 : Int32) := fun x => by rw [Int32.add_assoc]; rfl
  have q3 : ∀ x : Int32, x + (3 : Int32) + (1 : Int32) = x + (4 : Int32) := fun x => by rw [Int32.add_assoc]; rfl
  have s0 : ∀ (n : Nat) (g : Nat → Int32) (tp : Int32), l_Mo_feed_33 vtp gt a0 a1 a2 a3 a4 (n + 4) (0 : Int32) g tp = l_Mo_feed_33 vtp gt a0 a1 a2 a3 a4 n (4 : Int32) (u4 g tp a0) (tp + (4 : Int32)) := by
    intro n g tp
    rw [← q3 tp, ← q2 tp, ← q1 tp]
    unfold u4
    rw [← q2 tp, ← q1 tp]
    rfl
  have s1 : ∀ (n : Nat) (g : Nat → Int32) (tp : Int32), l_Mo_feed_33 vtp gt a0 a1 a2 a3 a4 (n + 4) (4 : Int32) g tp = l_Mo_feed_33 vtp gt a0 a1 a2 a3 a4 n (8 : Int32) (u4 g tp a1) (tp + (4 : Int32)) := by
    intro n g tp
    rw [← q3 tp, ← q2 tp, ← q1 tp]
    unfold u4
    rw [← q2 tp, ← q1 tp]
    rfl
  have s2 : ∀ (n : Nat) (g : Nat → Int32) (tp : Int32), l_Mo_feed_33 vtp gt a0 a1 a2 a3 a4 (n + 4) (8 : Int32) g tp = l_Mo_feed_33 vtp gt a0 a1 a2 a3 a4 n (12 : Int32) (u4 g tp a2) (tp + (4 : Int32)) := by
    intro n g tp
    rw [← q3 tp, ← q2 tp, ← q1 tp]
    unfold u4
    rw [← q2 tp, ← q1 tp]
    rfl
  have s3 : ∀ (n : Nat) (g : Nat → Int32) (tp : Int32), l_Mo_feed_33 vtp gt a0 a1 a2 a3 a4 (n + 4) (12 : Int32) g tp = l_Mo_feed_33 vtp gt a0 a1 a2 a3 a4 n (16 : Int32) (u4 g tp a3) (tp + (4 : Int32)) := by
    intro n g tp
    rw [← q3 tp, ← q2 tp, ← q1 tp]
    unfold u4
    rw [← q2 tp, ← q1 tp]
    rfl
  have s4 : ∀ (n : Nat) (g : Nat → Int32) (tp : Int32), l_Mo_feed_33 vtp gt a0 a1 a2 a3 a4 (n + 4) (16 : Int32) g tp = l_Mo_feed_33 vtp gt a0 a1 a2 a3 a4 n (20 : Int32) (u4 g tp a4) (tp + (4 : Int32)) := by
    intro n g tp
    rw [← q3 tp, ← q2 tp, ← q1 tp]
    unfold u4
    rw [← q2 tp, ← q1 tp]
    rfl
  rw [s0 17, s1 13, s2 9, s3 5, s4 1, l_Mo_feed_33, if_pos (by decide), hb]
  rfl
/-- feed, in the class and in the reference -/
theorem feed_eq {tn : Nat} {tf gt : Nat → Int32} {tl : Int32} (a0 a1 a2 a3 a4 : Int32) (h0 : 0 ≤ tl.toInt) (h1 : tl.toInt ≤ tn) (h2 : tl.toInt + 20 ≤ 32768) (hn0 : 512 ≤ tn) (hn1 : tn ≤ 32768) (hT : TR tf gt tl) (hf : ∀ j, fits .byte (.int (tf j)) = true) :
    (f_Cp_feed tn tf tl a0 a1 a2 a3 a4).1 = (f_Mo_feed tl gt a0 a1 a2 a3 a4).1 ∧ (f_Mo_feed tl gt a0 a1 a2 a3 a4).2.1 = 0 ∧ (f_Cp_feed tn tf tl a0 a1 a2 a3 a4).2.1 = (f_Ta_makeRoom tn tf tl).1 ∧ (f_Cp_feed tn tf tl a0 a1 a2 a3 a4).2.2.2 = (f_Mo_feed tl gt a0 a1 a2 a3 a4).2.2.2 ∧ TR (f_Cp_feed tn tf tl a0 a1 a2 a3 a4).2.2.1 (f_Mo_feed tl gt a0 a1 a2 a3 a4).2.2.1 (f_Cp_feed tn tf tl a0 a1 a2 a3 a4).2.2.2 ∧ (∀ j, fits .byte (.int ((f_Cp_feed tn tf tl a0 a1 a2 a3 a4).2.2.1 j)) = true) ∧ (f_Cp_feed tn tf tl a0 a1 a2 a3 a4).2.2.2.toInt = tl.toInt + 20 ∧ tl.toInt + 20 ≤ (f_Ta_makeRoom tn tf tl).1 := by
  have e20 : (tl + (20 : Int32)).toInt = tl.toInt + 20 := by
    rw [i_add (by rw [show (20 : Int32).toInt = 20 by decide]; omega) (by rw [show (20 : Int32).toInt = 20 by decide]; omega), show (20 : Int32).toInt = 20 by decide]
  have hroom : (tl + (20 : Int32)) ≤ (32768 : Int32) := by
    rw [Int32.le_iff_toInt_le, e20, show (32768 : Int32).toInt = 32768 by decide]; omega
  rw [fd_model tl gt a0 a1 a2 a3 a4 hroom]
  obtain ⟨m0, m1, m2⟩ := mr_TP (tf := tf) h0 h2 hn0 hn1 h1
  have hle : (f_Ta_makeRoom tn tf tl).1 ≤ 32768 := by
    unfold f_Ta_makeRoom; split
    · exact hn1
    · exact mn_le
  obtain ⟨r1, r2⟩ := mr_rel h0 h1 hT hf
  unfold f_Cp_feed
  generalize (f_Ta_makeRoom tn tf tl).1 = N at *
  generalize (f_Ta_makeRoom tn tf tl).2 = t0 at *
  obtain ⟨p1, p2, p3, p4⟩ := ty_rel (a := a0) h0 (by omega) hle r1 r2
  rw [p1]
  generalize (f_Ta_type N t0 tl a0).1 = t1 at *
  obtain ⟨q1, q2, q3, q4⟩ := ty_rel (a := a1) (by omega) (by omega) hle p2 p3
  rw [q1]
  generalize (f_Ta_type N t1 (tl + (4 : Int32)) a1).1 = t2 at *
  obtain ⟨s1, s2, s3, s4⟩ := ty_rel (a := a2) (by omega) (by omega) hle q2 q3
  rw [s1]
  generalize (f_Ta_type N t2 (tl + (4 : Int32) + (4 : Int32)) a2).1 = t3 at *
  obtain ⟨u1, u2, u3, u4⟩ := ty_rel (a := a3) (by omega) (by omega) hle s2 s3
  rw [u1]
  generalize (f_Ta_type N t3 (tl + (4 : Int32) + (4 : Int32) + (4 : Int32)) a3).1 = t4 at *
  obtain ⟨v1, v2, v3, v4⟩ := ty_rel (a := a4) (by omega) (by omega) hle u2 u3
  rw [v1]
  exact ⟨rfl, rfl, rfl, rfl, v2, v3, by omega, by omega⟩
