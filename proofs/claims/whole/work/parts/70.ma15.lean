theorem RM.rd {mf gm : Nat → Int32} (h : RM mf gm) {a : Int64} {k : Int32} (q : f_Me_holds a k = true) : f_Me_read mf a k = f_Mo_loadJ gm a k := rd_eq h q
theorem low_k (x : Int64) : f_Ar_lowest x (32 : Int32) = x &&& (4294967295 : Int64) := by
  unfold f_Ar_lowest; rw [if_pos (by decide)]; congr 1
theorem szk (c : Int32) : f_Mo_size c = 1 ∨ f_Mo_size c = 2 ∨ f_Mo_size c = 4 ∨ f_Mo_size c = 8 := sz4
/-- a read, a write of a number, a write of a register -/
theorem st_access {w : Int64} {c d s o i : Int32} (h : FW w c d s o i) (hD : DS c d s o i) {rf gr : Nat → Int64} {mf gm : Nat → Int32} (hR : RR rf gr) (hM : RM mf gm) (hk : f_Mo_kind c = 1) : RR (f_Ma_read rf mf w).2 (f_Mo_access c d s o i gr gm).2.1 ∧ RM mf (f_Mo_access c d s o i gr gm).2.2 ∧ (f_Ma_read rf mf w).1 = (f_Mo_access c d s o i gr gm).1 := by
  have m := mo_eq h
  have z := sz_eq h
  obtain ⟨hd, hs, -, -, -, h18⟩ := hD
  obtain ⟨h1, h2, h3, h4, h5⟩ := h
  unfold f_Ma_read f_Ma_y f_Mo_access
  rw [m, z, h3, h4, h2, hk, hR.at hs]
  have hth := there_eq (gr s.toNatClampNeg + o.toInt64) (szk c)
  simp only [if_true, show ¬ (1 : Int32) = 3 by decide, if_false]
  rw [← hth]
  by_cases c1 : f_Me_holds (gr s.toNatClampNeg + o.toInt64) (f_Mo_size c) = true
  · rw [if_pos c1, if_pos c1, hM.rd c1]
    by_cases c4 : f_Mo_mode c = 4
    · rw [if_pos c4, if_pos c4]
      have h8 := h18 hk c4
      have e : f_Ar_signed (f_Mo_loadJ gm (gr s.toNatClampNeg + o.toInt64) (f_Mo_size c)) ((8 : Int32) * f_Mo_size c) = f_Mo_signed (f_Mo_loadJ gm (gr s.toNatClampNeg + o.toInt64) (f_Mo_size c)) ((8 : Int32) * f_Mo_size c) := by
        apply sg_eq
        rcases szk c with q | q | q | q
        · rw [q]; decide
        · rw [q]; decide
        · rw [q]; decide
        · exact absurd q h8
      rw [e]
      exact ⟨hR.upd _ _, hM, rfl⟩
    · rw [if_neg c4, if_neg c4]
      exact ⟨hR.upd _ _, hM, rfl⟩
  · rw [if_neg c1, if_neg c1]
    exact ⟨hR, hM, rfl⟩
theorem st_write {w : Int64} {c d s o i : Int32} (h : FW w c d s o i) (hD : DS c d s o i) {rf gr : Nat → Int64} {mf gm : Nat → Int32} (hR : RR rf gr) (hM : RM mf gm) (hk : f_Mo_kind c = 2 ∨ (f_Mo_kind c = 3 ∧ ¬ f_Mo_mode c = 6)) {v : Int64} (hv : v = if f_Mo_kind c = 2 then i.toInt64 else gr s.toNatClampNeg) : RR rf (f_Mo_access c d s o i gr gm).2.1 ∧ RM (f_Ma_write rf mf w v).2 (f_Mo_access c d s o i gr gm).2.2 ∧ (f_Ma_write rf mf w v).1 = (f_Mo_access c d s o i gr gm).1 := by
  have z := sz_eq h
  obtain ⟨hd, hs, -, -, -, -⟩ := hD
  obtain ⟨h1, h2, h3, h4, h5⟩ := h
  have hk1 : ¬ f_Mo_kind c = 1 := by rcases hk with q | ⟨q, -⟩ <;> rw [q] <;> decide
  unfold f_Ma_write f_Ma_x f_Mo_access
  rw [z, h4, h2, hR.at hd, if_neg hk1, ← hv]
  have hth := there_eq (gr d.toNatClampNeg + o.toInt64) (szk c)
  rw [← hth]
  have fin : RR rf (if f_Me_holds (gr d.toNatClampNeg + o.toInt64) (f_Mo_size c) = true then (if f_Mo_kind c = (1 : Int32) then (true, (vp_updL gr d.toNatClampNeg (if (f_Mo_mode c) = (4 : Int32) then (f_Mo_signed (f_Mo_loadJ gm (gr d.toNatClampNeg + o.toInt64) (f_Mo_size c)) ((8 : Int32) * (f_Mo_size c))) else (f_Mo_loadJ gm (gr d.toNatClampNeg + o.toInt64) (f_Mo_size c)))), gm) else (true, gr, f_Mo_store gm (gr d.toNatClampNeg + o.toInt64) (f_Mo_size c) v)) else (false, gr, gm)).2.1 ∧ RM (if f_Me_holds (gr d.toNatClampNeg + o.toInt64) (f_Mo_size c) = true then (true, f_Me_write mf (gr d.toNatClampNeg + o.toInt64) (f_Mo_size c) v) else (false, mf)).2 (if f_Me_holds (gr d.toNatClampNeg + o.toInt64) (f_Mo_size c) = true then (if f_Mo_kind c = (1 : Int32) then (true, (vp_updL gr d.toNatClampNeg (if (f_Mo_mode c) = (4 : Int32) then (f_Mo_signed (f_Mo_loadJ gm (gr d.toNatClampNeg + o.toInt64) (f_Mo_size c)) ((8 : Int32) * (f_Mo_size c))) else (f_Mo_loadJ gm (gr d.toNatClampNeg + o.toInt64) (f_Mo_size c)))), gm) else (true, gr, f_Mo_store gm (gr d.toNatClampNeg + o.toInt64) (f_Mo_size c) v)) else (false, gr, gm)).2.2 ∧ (if f_Me_holds (gr d.toNatClampNeg + o.toInt64) (f_Mo_size c) = true then (true, f_Me_write mf (gr d.toNatClampNeg + o.toInt64) (f_Mo_size c) v) else (false, mf)).1 = (if f_Me_holds (gr d.toNatClampNeg + o.toInt64) (f_Mo_size c) = true then (if f_Mo_kind c = (1 : Int32) then (true, (vp_updL gr d.toNatClampNeg (if (f_Mo_mode c) = (4 : Int32) then (f_Mo_signed (f_Mo_loadJ gm (gr d.toNatClampNeg + o.toInt64) (f_Mo_size c)) ((8 : Int32) * (f_Mo_size c))) else (f_Mo_loadJ gm (gr d.toNatClampNeg + o.toInt64) (f_Mo_size c)))), gm) else (true, gr, f_Mo_store gm (gr d.toNatClampNeg + o.toInt64) (f_Mo_size c) v)) else (false, gr, gm)).1 := by
    by_cases c1 : f_Me_holds (gr d.toNatClampNeg + o.toInt64) (f_Mo_size c) = true
    · rw [if_pos c1, if_pos c1, if_neg hk1]
      exact ⟨hR, wr_eq hM (szk c) c1 v, rfl⟩
    · rw [if_neg c1, if_neg c1]
      exact ⟨hR, hM, rfl⟩
  rcases hk with q | ⟨q, q6⟩
  · rw [if_neg (show ¬ f_Mo_kind c = 3 by rw [q]; decide)]
    exact fin
  · rw [if_pos q, if_neg q6]
    exact fin
theorem known {i : Int32} (h : f_Ex_isKnown i = true) : i = 0 ∨ i = 1 ∨ i = 64 ∨ i = 65 ∨ i = 80 ∨ i = 81 ∨ i = 160 ∨ i = 161 ∨ i = 225 ∨ i = 241 := by
  unfold f_Ex_isKnown at h
  grind
theorem st_exch {w : Int64} {c d s o i : Int32} (h : FW w c d s o i) (hD : DS c d s o i) {rf gr : Nat → Int64} {mf gm : Nat → Int32} (hR : RR rf gr) (hM : RM mf gm) (hk : f_Mo_kind c = 3) (h6 : f_Mo_mode c = 6) : RR (f_Ma_exchange rf mf w).2.1 (f_Mo_access c d s o i gr gm).2.1 ∧ RM (f_Ma_exchange rf mf w).2.2 (f_Mo_access c d s o i gr gm).2.2 ∧ (f_Ma_exchange rf mf w).1 = (f_Mo_access c d s o i gr gm).1 := by
  have z := sz_eq h
  obtain ⟨hd, hs, -, -, h36, -⟩ := hD
  obtain ⟨hsz, hkn⟩ := h36 hk h6
  obtain ⟨h1, h2, h3, h4, h5⟩ := h
  unfold f_Ma_exchange f_Ma_x f_Ma_y f_Mo_access f_Mo_atomic
  rw [z, h2, h3, h4, h5, hR.at hd, hR.at hs, if_pos hk, if_pos h6, if_neg (show ¬ f_Mo_kind c = 1 by rw [hk]; decide)]
  have hr0 : rf (0 : Int32).toNatClampNeg = gr (0 : Int32).toNatClampNeg := hR.at (by decide)
  have hth := there_eq (gr d.toNatClampNeg + o.toInt64) (szk c)
  rw [← hth, hr0]
  generalize gr d.toNatClampNeg + o.toInt64 = a at *
  generalize hy : gr s.toNatClampNeg = y at *
  by_cases c1 : f_Me_holds a (f_Mo_size c) = true
  · rw [if_pos c1, if_pos c1, hM.rd c1]
    have ha : 0 ≤ a.toInt := by
      rw [hth] at c1
      unfold f_Mo_isThere at c1
      by_cases q : a < (2147483648 : Int64)
      · rw [if_pos q] at c1; exact absurd c1 (by decide)
      · have := l_nlt q
        have e : (2147483648 : Int64).toInt = 2147483648 := by decide
        omega
    have hal : (a &&& ((f_Mo_size c - (1 : Int32)).toInt64) = (0 : Int64)) ↔ (a - (a / (f_Mo_size c).toInt64) * (f_Mo_size c).toInt64 = (0 : Int64)) := by
      rcases hsz with q | q
      · rw [q]; exact and_mod ha 2 (by decide) (by decide) (by decide)
      · rw [q]; exact and_mod ha 3 (by decide) (by decide) (by decide)
    by_cases c2 : (a &&& ((f_Mo_size c - (1 : Int32)).toInt64) = (0 : Int64))
    · rw [if_pos c2, if_pos (hal.mp c2)]
      have hlow : f_Ar_lowest (gr (0 : Int32).toNatClampNeg) ((8 : Int32) * f_Mo_size c) = f_Mo_lowest (gr (0 : Int32).toNatClampNeg) ((8 : Int32) * f_Mo_size c) := by
        apply low_eq
        rcases hsz with q | q
        · rw [q]; decide
        · rw [q]; decide
      rw [hlow]
      have wr := fun v => wr_eq hM (szk c) c1 v
      generalize f_Mo_loadJ gm a (f_Mo_size c) = old at *
      generalize f_Mo_lowest (gr (0 : Int32).toNatClampNeg) ((8 : Int32) * f_Mo_size c) = lw at *
      have wr2 : ∀ v v', v = v' → RM (f_Me_write mf a (f_Mo_size c) v) (f_Mo_store gm a (f_Mo_size c) v') := fun v v' e j => by rw [e]; exact wr v' j
      by_cases q9 : old = lw
      · rw [if_pos q9]
        rcases known hkn with k | k | k | k | k | k | k | k | k | k <;> subst k
        · exact ⟨hR, wr2 _ _ rfl, rfl⟩
        · exact ⟨hR.upd _ _, wr2 _ _ rfl, rfl⟩
        · exact ⟨hR, wr2 _ _ rfl, rfl⟩
        · exact ⟨hR.upd _ _, wr2 _ _ rfl, rfl⟩
        · exact ⟨hR, wr2 _ _ rfl, rfl⟩
        · exact ⟨hR.upd _ _, wr2 _ _ rfl, rfl⟩
        · exact ⟨hR, wr2 _ _ rfl, rfl⟩
        · exact ⟨hR.upd _ _, wr2 _ _ rfl, rfl⟩
        · exact ⟨hR.upd _ _, wr2 _ _ rfl, rfl⟩
        · exact ⟨hR.upd _ _, wr2 _ _ (by rw [if_neg (by decide), if_pos rfl, if_pos q9]; rfl), rfl⟩
      · rw [if_neg q9]
        rcases known hkn with k | k | k | k | k | k | k | k | k | k <;> subst k
        · exact ⟨hR, wr2 _ _ rfl, rfl⟩
        · exact ⟨hR.upd _ _, wr2 _ _ rfl, rfl⟩
        · exact ⟨hR, wr2 _ _ rfl, rfl⟩
        · exact ⟨hR.upd _ _, wr2 _ _ rfl, rfl⟩
        · exact ⟨hR, wr2 _ _ rfl, rfl⟩
        · exact ⟨hR.upd _ _, wr2 _ _ rfl, rfl⟩
        · exact ⟨hR, wr2 _ _ rfl, rfl⟩
        · exact ⟨hR.upd _ _, wr2 _ _ rfl, rfl⟩
        · exact ⟨hR.upd _ _, wr2 _ _ rfl, rfl⟩
        · exact ⟨hR.upd _ _, wr2 _ _ (by rw [if_neg (by decide), if_pos rfl, if_neg q9]; rfl), rfl⟩
    · rw [if_neg c2, if_neg (fun q => c2 (hal.mpr q))]
      exact ⟨hR, hM, rfl⟩
  · rw [if_neg c1, if_neg c1]
    exact ⟨hR, hM, rfl⟩
