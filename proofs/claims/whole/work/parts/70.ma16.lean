theorem opd_eq {w : Int64} {c d s o i : Int32} (h : FW w c d s o i) (hD : DS c d s o i) {rf gr : Nat → Int64} (hR : RR rf gr) : f_Ma_operand rf w = if f_Mo_bit3 c = true then gr s.toNatClampNeg else i.toInt64 := by
  have b := b3_eq h
  obtain ⟨hd, hs, -⟩ := hD
  obtain ⟨h1, h2, h3, h4, h5⟩ := h
  unfold f_Ma_operand f_Ma_y
  rw [b, h3, h5, hR.at hs]
theorem st_arith {w : Int64} {c d s o i : Int32} (h : FW w c d s o i) (hD : DS c d s o i) {rf gr : Nat → Int64} (hR : RR rf gr) (hk : f_Mo_kind c = 4 ∨ f_Mo_kind c = 7) : RR (vp_updL rf (f_Fi_target w).toNatClampNeg (f_Ma_computed rf w)) (f_Mo_arithmetic c d s o i gr) := by
  have hc := FW_c h
  have k := kd_eq h
  have n := op_eq h
  have b := b3_eq h
  have op := opd_eq h hD hR
  obtain ⟨hd, hs, -, h47, -, -⟩ := hD
  obtain ⟨h14, h15, h13, h11⟩ := h47 hk
  obtain ⟨h1, h2, h3, h4, h5⟩ := h
  have ex : f_Ma_x rf w = gr d.toNatClampNeg := by unfold f_Ma_x; rw [h2, hR.at hd]
  unfold f_Mo_arithmetic f_Ma_computed f_Ma_turnedOrCut
  rw [n, k, b, op, ex, h2, h4, h5]
  by_cases q13 : f_Mo_n c = 13
  · rw [if_pos q13, if_pos q13]
    have tu : f_Ar_turned (gr d.toNatClampNeg) i = f_Mo_turned (gr d.toNatClampNeg) i := by
      rcases h13 q13 with q | q | q
      · rw [q]; exact tu16 _
      · rw [q]; exact tu32 _
      · rw [q]; exact tu64 _
    have lo := low_eq (gr d.toNatClampNeg) (h13 q13)
    rw [tu, lo]
    by_cases q7 : f_Mo_kind c = 7
    · rw [if_pos q7, if_pos q7, if_pos rfl]; exact hR.upd _ _
    · rw [if_neg q7, if_neg q7, if_neg (show ¬ false = true by decide)]; exact hR.upd _ _
  · rw [if_neg q13, if_neg q13]
    by_cases q7 : f_Mo_kind c = 7
    · rw [if_pos q7, if_pos q7, if_pos rfl, wide_eq hc q13 h14 h15 h11]; exact hR.upd _ _
    · rw [if_neg q7, if_neg q7, if_neg (show ¬ false = true by decide), nar_eq hc q13 h14 h15 h11]; exact hR.upd _ _
theorem st_jump {ga : Nat → Int32} {pf : Nat → Int64} {n p : Nat} (hV : VP ga pf n) (hp : p < n) (hc0 : ¬ cd ga p = 0) {c d s o i : Int32} (ht : f_Mo_take ga (nI p) = (c, d, s, o, i)) (h149 : ¬ c = 149) {rf gr : Nat → Int64} (hR : RR rf gr) (hk : f_Mo_kind c = 5 ∨ f_Mo_kind c = 6) : RR (f_Ma_jump rf (nI p) (pf p)).2 (f_Mo_jump c d s o i (nI p + (1 : Int32)) gr (nI p)).1 ∧ (f_Ma_jump rf (nI p) (pf p)).1 = (f_Mo_jump c d s o i (nI p + (1 : Int32)) gr (nI p)).2 ∧ ∃ q, q < n ∧ (f_Ma_jump rf (nI p) (pf p)).1 = nI q ∧ ¬ cd ga q = 0 := by
  obtain ⟨hn, hW, -, hA⟩ := hV
  obtain ⟨hI, -, hN, ok⟩ := hA p hp hc0
  have hF := FW_of (by omega) (hW p hp).1 (hW p hp).2
  have hcd : cd ga p = c := by unfold cd; rw [ht]
  rw [ht] at hF ok
  rw [hcd] at ok hN
  dsimp only at hF ok
  have hD := ds_of hF hI
  have hc := FW_c hF
  have jp := jp_eq hF hk
  have nn := op_eq hF
  have kk := kd_eq hF
  have op := opd_eq hF hD hR
  obtain ⟨j0, j8, j9, j14, j15⟩ := jmp_c (ga := ga) (a1 := nI p) (a2 := nI n) hF ht hk hI
  have hw : f_Mo_isWide c = false := wide_n (by rcases hk with q | q <;> rw [q] <;> decide)
  have hnext : ¬ c = 5 → ¬ c = 6 → ∃ q, q < n ∧ nI p + (1 : Int32) = nI q ∧ ¬ cd ga q = 0 := by
    intro h5 h6
    have a1 := okW_next ok h5 h6 h149
    have a2 := hN h5 h6 h149
    rw [hw, if_neg (by decide)] at a1 a2
    exact ⟨p + 1, a1, nI_p1 p, a2⟩
  have hg : ¬ f_Mo_n c = 8 → ¬ f_Mo_n c = 9 → ∃ q, q < n ∧ (gl (nI p) c o i).toInt32 = nI q ∧ ¬ cd ga q = 0 := fun a b => okW_goal ok hk a b hn
  have n9 : ¬ f_Mo_n c = 9 := fun q => h149 (j9 q)
  have hgl : f_Fi_jumpFrom (nI p) (pf p) = gl (nI p) c o i := by
    unfold f_Fi_jumpFrom gl; rw [hF.1, hF.2.2.2.1, hF.2.2.2.2]
  have hds := hD.1
  have ex : f_Ma_x rf (pf p) = gr d.toNatClampNeg := by unfold f_Ma_x; rw [hF.2.1, hR.at hds]
  unfold f_Ma_jump f_Fi_isExit f_Fi_isCall f_Fi_jumpsAlways
  rw [hF.1, hgl, if_neg (show ¬ (if c = (149 : Int32) then true else false) = true by rw [if_neg h149]; decide)]
  unfold f_Mo_jump
  by_cases q8 : f_Mo_n c = 8
  · have e := j8 q8
    rw [if_pos q8, if_pos (show (if c = (133 : Int32) then true else false) = true by rw [if_pos e])]
    rw [hF.2.2.2.2]
    have hh := hnext (by rw [e]; decide) (by rw [e]; decide)
    exact ⟨call_eq rf gr i 6 1 _ rf gr (by decide) (by decide) hR, rfl, hh⟩
  · have e133 : ¬ c = 133 := fun q => q8 (by rw [q]; decide)
    rw [if_neg q8, if_neg (show ¬ (if c = (133 : Int32) then true else false) = true by rw [if_neg e133]; decide)]
    obtain ⟨kx, rfl⟩ := c256 hc
    obtain ⟨e5, e6, -, -⟩ := jp_code hk
    generalize nI kx.val = c at *
    by_cases q0 : f_Mo_n c = 0
    · have b0 := j0 q0
      rw [if_pos q0]
      have h56 : (if c = (5 : Int32) then true else (if c = (6 : Int32) then true else false)) = true := by
        rcases hk with q | q
        · rw [if_pos (e5.mpr ⟨q0, b0, q⟩)]
        · rw [if_pos (e6.mpr ⟨q0, b0, q⟩)]; split <;> rfl
      rw [if_pos h56]
      refine ⟨hR, ?_, hg q8 n9⟩
      rw [gl_i32]
      have e66 : (c = (6 : Int32)) ↔ f_Mo_kind c = 6 := ⟨fun q => (e6.mp q).2.2, fun q => e6.mpr ⟨q0, b0, q⟩⟩
      simp only [e66]
    · have n5 : ¬ c = 5 := fun q => q0 (e5.mp q).1
      have n6 : ¬ c = 6 := fun q => q0 (e6.mp q).1
      rw [if_neg q0, if_neg (show ¬ (if c = (5 : Int32) then true else (if c = (6 : Int32) then true else false)) = true by rw [if_neg n5, if_neg n6]; decide)]
      have htk : f_Ma_takesJump rf (pf p) = f_Mo_isSo c (f_Mo_signed (gr d.toNatClampNeg) (if (f_Mo_kind c) = (5 : Int32) then (64 : Int32) else (32 : Int32))) (f_Mo_signed (if (f_Mo_bit3 c) = true then (gr s.toNatClampNeg) else ((i).toInt64)) (if (f_Mo_kind c) = (5 : Int32) then (64 : Int32) else (32 : Int32))) := by
        unfold f_Ma_takesJump
        rw [kk, nn, ex, op, so_eq hc q0 q8 n9 j14 j15, so_eq hc q0 q8 n9 j14 j15]
        rcases hk with q | q
        · rw [q, if_neg (show ¬ (5 : Int32) = 6 by decide), if_pos rfl, sg64, sg64]
        · rw [q, if_pos rfl, if_neg (show ¬ (6 : Int32) = 5 by decide), sg32, sg32]
      rw [htk]
      by_cases q : f_Mo_isSo c (f_Mo_signed (gr d.toNatClampNeg) (if (f_Mo_kind c) = (5 : Int32) then (64 : Int32) else (32 : Int32))) (f_Mo_signed (if (f_Mo_bit3 c) = true then (gr s.toNatClampNeg) else ((i).toInt64)) (if (f_Mo_kind c) = (5 : Int32) then (64 : Int32) else (32 : Int32))) = true
      · rw [if_pos q, if_pos q]
        refine ⟨hR, ?_, hg q8 n9⟩
        rw [gl_i32, if_neg n6]
      · rw [if_neg q, if_neg q]
        exact ⟨hR, rfl, hnext n5 n6⟩
theorem step_eq {ga : Nat → Int32} {pf : Nat → Int64} {n p : Nat} (hV : VP ga pf n) (hp : p < n) (hc0 : ¬ cd ga p = 0) (h149 : ¬ cd ga p = 149) {rf gr : Nat → Int64} {mf gm : Nat → Int32} (hR : RR rf gr) (hM : RM mf gm) : Alike ga n (f_Ma_follow rf mf pf (nI n) (nI p)) (f_Mo_does (f_Mo_take ga (nI p)).1 (f_Mo_take ga (nI p)).2.1 (f_Mo_take ga (nI p)).2.2.1 (f_Mo_take ga (nI p)).2.2.2.1 (f_Mo_take ga (nI p)).2.2.2.2 ga gr gm (nI p)) := by
  have hV' := hV
  obtain ⟨hn, hW, -, hA⟩ := hV
  obtain ⟨hI, hwd, hN, ok⟩ := hA p hp hc0
  have hF := FW_of (by omega) (hW p hp).1 (hW p hp).2
  have sj := fun c d s o i (ht : f_Mo_take ga (nI p) = (c, d, s, o, i)) (h : ¬ c = 149) => st_jump hV' hp hc0 ht h hR
  have hcd : cd ga p = (f_Mo_take ga (nI p)).1 := rfl
  rw [hcd] at h149 hwd hN ok
  clear hcd hA hc0
  have hat := at_eq (pf := pf) hn hp
  have hat2 : p + 1 < n → f_Fi_immediate (f_Pr_at pf (nI n) (nI p + (1 : Int32))) = f_Mo_number ga (((8 : Int32) * nI p) + (12 : Int32)) (4 : Int32) := by
    intro q
    have e8 : ((8 : Int32) * nI p) + (8 : Int32) = (8 : Int32) * nI (p + 1) := by rw [nI_succ, Int32.mul_add]; rfl
    have e12 : ((8 : Int32) * nI p) + (12 : Int32) = ((8 : Int32) * nI (p + 1)) + (4 : Int32) := by rw [← e8, Int32.add_assoc]; rfl
    rw [nI_p1, at_eq hn q, e12]
    exact w_imm (by omega) (hW _ q).1 (hW _ q).2
  generalize f_Mo_take ga (nI p) = t at *
  obtain ⟨c, d, s, o, i⟩ := t
  have sj := sj c d s o i rfl h149
  dsimp only at *
  have hD := ds_of hF hI
  have hc := FW_c hF
  have kk := kd_eq hF
  have mm := mo_eq hF
  have hnx : ¬ c = 5 → ¬ c = 6 → ∃ q, q < n ∧ nI (if f_Mo_isWide c = true then p + 2 else p + 1) = nI q ∧ ¬ cd ga q = 0 := fun h5 h6 => ⟨_, okW_next ok h5 h6 h149, rfl, hN h5 h6 h149⟩
  unfold f_Ma_follow f_Mo_does
  rw [hat, kk]
  rcases kd8 hc with q | q | q | q | q | q | q | q
  · -- two places
    have e24 := hD.2.2.1 q
    have hw : f_Mo_isWide c = true := by rw [e24]; decide
    have hq := hwd hw
    have hx := hnx (by rw [e24]; decide) (by rw [e24]; decide)
    rw [if_pos q, if_pos q, if_pos hw]
    rw [if_pos hw] at hx
    unfold f_Ma_takeTwoPlaces
    rw [hat2 hq, hF.2.1, hF.2.2.2.2, low_k]
    rw [← nI_p2] at hx
    exact ⟨hR.upd _ _, hM, Or.inr ⟨rfl, rfl, hx⟩⟩
  · have n0 : ¬ f_Mo_kind c = 0 := by rw [q]; decide
    have hw := wide_n n0
    have h5 : ¬ c = 5 := fun z => by rw [z] at q; exact absurd q (by decide)
    have h6 : ¬ c = 6 := fun z => by rw [z] at q; exact absurd q (by decide)
    have hx := hnx h5 h6
    rw [hw, if_neg (by decide), ← nI_p1] at hx
    obtain ⟨r1, r2, r3⟩ := st_access hF hD hR hM q
    rw [if_neg n0, if_pos q, if_neg n0, if_pos q, hw, if_neg (show ¬ false = true by decide)]
    by_cases z : (f_Ma_read rf mf (pf p)).1 = true
    · rw [if_pos z]; exact ⟨r1, r2, Or.inr ⟨r3.symm.trans z, rfl, hx⟩⟩
    · rw [if_neg z]; exact ⟨r1, r2, Or.inl ⟨r3.symm.trans (by simpa using z), rfl⟩⟩
  · have n0 : ¬ f_Mo_kind c = 0 := by rw [q]; decide
    have n1 : ¬ f_Mo_kind c = 1 := by rw [q]; decide
    have hw := wide_n n0
    have h5 : ¬ c = 5 := fun z => by rw [z] at q; exact absurd q (by decide)
    have h6 : ¬ c = 6 := fun z => by rw [z] at q; exact absurd q (by decide)
    have hx := hnx h5 h6
    rw [hw, if_neg (by decide), ← nI_p1] at hx
    obtain ⟨r1, r2, r3⟩ := st_write (v := i.toInt64) hF hD hR hM (Or.inl q) (by rw [if_pos q])
    rw [if_neg n0, if_neg n1, if_pos q, if_neg n0, if_neg n1, if_pos q, hw, if_neg (show ¬ false = true by decide), hF.2.2.2.2]
    by_cases z : (f_Ma_write rf mf (pf p) i.toInt64).1 = true
    · rw [if_pos z]; exact ⟨r1, r2, Or.inr ⟨r3.symm.trans z, rfl, hx⟩⟩
    · rw [if_neg z]; exact ⟨r1, r2, Or.inl ⟨r3.symm.trans (by simpa using z), rfl⟩⟩
  · have n0 : ¬ f_Mo_kind c = 0 := by rw [q]; decide
    have n1 : ¬ f_Mo_kind c = 1 := by rw [q]; decide
    have n2 : ¬ f_Mo_kind c = 2 := by rw [q]; decide
    have hw := wide_n n0
    have h5 : ¬ c = 5 := fun z => by rw [z] at q; exact absurd q (by decide)
    have h6 : ¬ c = 6 := fun z => by rw [z] at q; exact absurd q (by decide)
    have hx := hnx h5 h6
    rw [hw, if_neg (by decide), ← nI_p1] at hx
    rw [if_neg n0, if_neg n1, if_neg n2, if_pos q, if_neg n0, if_neg n1, if_neg n2, if_pos q, hw, if_neg (show ¬ false = true by decide), mm]
    by_cases m6 : f_Mo_mode c = 6
    · rw [if_pos m6]
      obtain ⟨r1, r2, r3⟩ := st_exch hF hD hR hM q m6
      by_cases z : (f_Ma_exchange rf mf (pf p)).1 = true
      · rw [if_pos z]; exact ⟨r1, r2, Or.inr ⟨r3.symm.trans z, rfl, hx⟩⟩
      · rw [if_neg z]; exact ⟨r1, r2, Or.inl ⟨r3.symm.trans (by simpa using z), rfl⟩⟩
    · rw [if_neg m6]
      have ey : f_Ma_y rf (pf p) = gr s.toNatClampNeg := by unfold f_Ma_y; rw [hF.2.2.1, hR.at hD.2.1]
      rw [ey]
      obtain ⟨r1, r2, r3⟩ := st_write (v := gr s.toNatClampNeg) hF hD hR hM (Or.inr ⟨q, m6⟩) (by rw [if_neg n2])
      by_cases z : (f_Ma_write rf mf (pf p) (gr s.toNatClampNeg)).1 = true
      · rw [if_pos z]; exact ⟨r1, r2, Or.inr ⟨r3.symm.trans z, rfl, hx⟩⟩
      · rw [if_neg z]; exact ⟨r1, r2, Or.inl ⟨r3.symm.trans (by simpa using z), rfl⟩⟩
  · have hw := wide_n (show ¬ f_Mo_kind c = 0 by rw [q]; decide)
    have h5 : ¬ c = 5 := fun z => by rw [z] at q; exact absurd q (by decide)
    have h6 : ¬ c = 6 := fun z => by rw [z] at q; exact absurd q (by decide)
    have hx := hnx h5 h6
    rw [hw, if_neg (by decide), ← nI_p1] at hx
    have r := st_arith hF hD hR (Or.inl q)
    rw [hw, q]
    exact ⟨r, hM, Or.inr ⟨rfl, rfl, hx⟩⟩
  · have hw := wide_n (show ¬ f_Mo_kind c = 0 by rw [q]; decide)
    have r := sj (Or.inl q)
    rw [hw, q]
    exact ⟨r.1, hM, Or.inr ⟨rfl, r.2.1, r.2.2⟩⟩
  · have hw := wide_n (show ¬ f_Mo_kind c = 0 by rw [q]; decide)
    have r := sj (Or.inr q)
    rw [hw, q]
    exact ⟨r.1, hM, Or.inr ⟨rfl, r.2.1, r.2.2⟩⟩
  · have hw := wide_n (show ¬ f_Mo_kind c = 0 by rw [q]; decide)
    have h5 : ¬ c = 5 := fun z => by rw [z] at q; exact absurd q (by decide)
    have h6 : ¬ c = 6 := fun z => by rw [z] at q; exact absurd q (by decide)
    have hx := hnx h5 h6
    rw [hw, if_neg (by decide), ← nI_p1] at hx
    have r := st_arith hF hD hR (Or.inr q)
    rw [hw, q]
    exact ⟨r, hM, Or.inr ⟨rfl, rfl, hx⟩⟩
