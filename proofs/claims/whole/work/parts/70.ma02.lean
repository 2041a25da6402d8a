/-- a place out of its eight bytes -/
def wd (b : Nat → Int32) : Int64 := ((j_lshl ((j_lshl ((j_lshl ((j_lshl ((j_lshl ((j_lshl ((j_lshl ((j_lshl (0 : Int64) (8 : Int32)) ||| ((b 7).toInt64)) (8 : Int32)) ||| ((b 6).toInt64)) (8 : Int32)) ||| ((b 5).toInt64)) (8 : Int32)) ||| ((b 4).toInt64)) (8 : Int32)) ||| ((b 3).toInt64)) (8 : Int32)) ||| ((b 2).toInt64)) (8 : Int32)) ||| ((b 1).toInt64)) (8 : Int32)) ||| ((b 0).toInt64))
theorem wd_step {v : Int64} {x : Int32} {V X : Nat} (hv : uN v = V) (hV : V < 72057594037927936) (hx : iN x = X) (hX : X < 256) : uN ((j_lshl v (8 : Int32)) ||| (x.toInt64)) = V * 256 + X := by
  have h1 : uN (j_lshl v (8 : Int32)) = V * 256 := by rw [uN_shlk 8 (by decide), hv]; omega
  have h2 : uN x.toInt64 = X := by rw [uN_of0 (by omega), hx]
  rw [uN_orp 8 (by rw [h1]; omega) (by rw [h2]; exact hX), h1, h2]
theorem wd_nat {b : Nat → Int32} (hb : ∀ k, k < 8 → iN (b k) < 256) : uN (wd b) = iN (b 0) * 1 + iN (b 1) * 256 + iN (b 2) * 65536 + iN (b 3) * 16777216 + iN (b 4) * 4294967296 + iN (b 5) * 1099511627776 + iN (b 6) * 281474976710656 + iN (b 7) * 72057594037927936 := by
  have e7 : uN ((j_lshl (0 : Int64) (8 : Int32)) ||| ((b 7).toInt64)) = 0 * 256 + iN (b 7) := wd_step (by decide) (by decide) rfl (hb 7 (by decide))
  have hh7 := hb 7 (by decide)
  have e6 := wd_step (x := b 6) e7 (by omega) rfl (hb 6 (by decide))
  have hh6 := hb 6 (by decide)
  have e5 := wd_step (x := b 5) e6 (by omega) rfl (hb 5 (by decide))
  have hh5 := hb 5 (by decide)
  have e4 := wd_step (x := b 4) e5 (by omega) rfl (hb 4 (by decide))
  have hh4 := hb 4 (by decide)
  have e3 := wd_step (x := b 3) e4 (by omega) rfl (hb 3 (by decide))
  have hh3 := hb 3 (by decide)
  have e2 := wd_step (x := b 2) e3 (by omega) rfl (hb 2 (by decide))
  have hh2 := hb 2 (by decide)
  have e1 := wd_step (x := b 1) e2 (by omega) rfl (hb 1 (by decide))
  have hh1 := hb 1 (by decide)
  have e0 := wd_step (x := b 0) e1 (by omega) rfl (hb 0 (by decide))
  unfold wd; rw [e0]; omega
theorem nm_step {v x : Int32} {V X : Nat} (hv : iN v = V) (hV : V < 16777216) (hx : iN x = X) (hX : X < 256) : iN ((v <<< ((8 : Int32) &&& 31)) ||| x) = V * 256 + X := by
  have h1 : iN (v <<< ((8 : Int32) &&& 31)) = V * 256 := by rw [iN_shl8, hv]; omega
  rw [iN_orp 8 (by rw [h1]; omega) (by rw [hx]; exact hX), h1, hx]
theorem num2 {ga : Nat → Int32} {a : Int32} (h0 : iN (ga (a + 0).toNatClampNeg) < 256) (h1 : iN (ga (a + 1).toNatClampNeg) < 256) : iN (f_Mo_number ga a (2 : Int32)) = iN (ga (a + 0).toNatClampNeg) + 256 * iN (ga (a + 1).toNatClampNeg) := by
  have e : f_Mo_number ga a (2 : Int32) = ((((0 : Int32) <<< ((8 : Int32) &&& 31)) ||| (ga (a + 1).toNatClampNeg)) <<< ((8 : Int32) &&& 31)) ||| (ga (a + 0).toNatClampNeg) := rfl
  rw [e, nm_step (nm_step (v := 0) (V := 0) (by decide) (by decide) rfl h1) (by omega) rfl h0]; omega
theorem num4 {ga : Nat → Int32} {a : Int32} (h0 : iN (ga (a + 0).toNatClampNeg) < 256) (h1 : iN (ga (a + 1).toNatClampNeg) < 256) (h2 : iN (ga (a + 2).toNatClampNeg) < 256) (h3 : iN (ga (a + 3).toNatClampNeg) < 256) : iN (f_Mo_number ga a (4 : Int32)) = iN (ga (a + 0).toNatClampNeg) + 256 * iN (ga (a + 1).toNatClampNeg) + 65536 * iN (ga (a + 2).toNatClampNeg) + 16777216 * iN (ga (a + 3).toNatClampNeg) := by
  have e : f_Mo_number ga a (4 : Int32) = ((((((((0 : Int32) <<< ((8 : Int32) &&& 31)) ||| (ga (a + 3).toNatClampNeg)) <<< ((8 : Int32) &&& 31)) ||| (ga (a + 2).toNatClampNeg)) <<< ((8 : Int32) &&& 31)) ||| (ga (a + 1).toNatClampNeg)) <<< ((8 : Int32) &&& 31)) ||| (ga (a + 0).toNatClampNeg) := rfl
  rw [e, nm_step (nm_step (nm_step (nm_step (v := 0) (V := 0) (by decide) (by decide) rfl h3) (by omega) rfl h2) (by omega) rfl h1) (by omega) rfl h0]; omega
theorem cl8 {p k : Nat} {K : Int32} (hp : p < 4096) (hk : k < 32) (hK : K = nI k) : (((8 : Int32) * nI p) + K).toNatClampNeg = 8 * p + k := by
  have e : iN (((8 : Int32) * nI p) + K) = 8 * p + k := by
    rw [iN_add, iN_mul, hK, iN_nI (by omega), iN_nI (by omega), show iN (8 : Int32) = 8 by decide]; omega
  rw [iN_clamp (by omega), e]
theorem cl8' {p k : Nat} {K : Int32} (hp : p < 4096) (hk : k < 32) (hK : K = nI k) : ((nI p * (8 : Int32)) + K).toNatClampNeg = 8 * p + k := by
  rw [Int32.mul_comm]; exact cl8 hp hk hK
theorem cl80 {p : Nat} (hp : p < 4096) : ((8 : Int32) * nI p).toNatClampNeg = 8 * p := by
  have := cl8 (p := p) (k := 0) (K := 0) hp (by decide) rfl
  rw [Int32.add_zero] at this; simpa using this
theorem cl8b {p j k : Nat} {J K : Int32} (hp : p < 4096) (hj : j < 16) (hk : k < 16) (hJ : J = nI j) (hK : K = nI k) : ((((8 : Int32) * nI p) + J) + K).toNatClampNeg = 8 * p + (j + k) := by
  have e : iN ((((8 : Int32) * nI p) + J) + K) = 8 * p + (j + k) := by
    rw [iN_add, iN_add, iN_mul, hJ, hK, iN_nI (by omega), iN_nI (by omega), iN_nI (by omega), show iN (8 : Int32) = 8 by decide]; omega
  rw [iN_clamp (by omega), e]
/-- a word w that bears the eight bytes of a place p of the row ga -/
def isW (ga : Nat → Int32) (p : Nat) (w : Int64) : Prop := w = wd (fun k => ga (8 * p + k))
def byt (ga : Nat → Int32) (p : Nat) : Prop := ∀ k, k < 8 → iN (ga (8 * p + k)) < 256
theorem w_code {ga : Nat → Int32} {p : Nat} {w : Int64} (hp : p < 4096) (hb : byt ga p) (h : isW ga p w) : f_Fi_code w = (f_Mo_take ga (nI p)).1 := by
  have e := wd_nat hb
  rw [← h] at e
  unfold f_Fi_code f_Mo_take
  apply iN_inj
  have b0 := hb 0 (by decide)
  dsimp only
  rw [iN_255, iN_of, cl80 hp, e]
  simp only [Nat.add_zero] at *
  omega
theorem w_target {ga : Nat → Int32} {p : Nat} {w : Int64} (hp : p < 4096) (hb : byt ga p) (h : isW ga p w) : f_Fi_target w = (f_Mo_take ga (nI p)).2.1 := by
  have e := wd_nat hb
  rw [← h] at e
  unfold f_Fi_target f_Mo_take
  apply iN_inj
  have b0 := hb 0 (by decide)
  have b1 := hb 1 (by decide)
  dsimp only
  rw [iN_15, iN_15, iN_of, uN_ushk 8 (by decide), cl8 (k := 1) (K := 1) hp (by decide) rfl, e]
  omega
theorem w_source {ga : Nat → Int32} {p : Nat} {w : Int64} (hp : p < 4096) (hb : byt ga p) (h : isW ga p w) : f_Fi_source w = (f_Mo_take ga (nI p)).2.2.1 := by
  have e := wd_nat hb
  rw [← h] at e
  unfold f_Fi_source f_Mo_take
  apply iN_inj
  have b0 := hb 0 (by decide)
  have b1 := hb 1 (by decide)
  dsimp only
  rw [iN_15, iN_of, uN_ushk 12 (by decide), cl8 (k := 1) (K := 1) hp (by decide) rfl, iN_sh 4 (by decide) (by omega), e]
  omega
theorem w_offset {ga : Nat → Int32} {p : Nat} {w : Int64} (hp : p < 4096) (hb : byt ga p) (h : isW ga p w) : f_Fi_offset w = (f_Mo_take ga (nI p)).2.2.2.1 := by
  have e := wd_nat hb
  rw [← h] at e
  unfold f_Fi_offset f_Mo_take
  have b0 := hb 0 (by decide)
  have b1 := hb 1 (by decide)
  have b2 := hb 2 (by decide)
  have b3 := hb 3 (by decide)
  have c2 : ((((8 : Int32) * nI p) + (2 : Int32)) + 0).toNatClampNeg = 8 * p + 2 := cl8b (j := 2) (k := 0) hp (by decide) (by decide) rfl rfl
  have c3 : ((((8 : Int32) * nI p) + (2 : Int32)) + 1).toNatClampNeg = 8 * p + 3 := cl8b (j := 2) (k := 1) hp (by decide) (by decide) rfl rfl
  dsimp only
  apply i2s_eq
  rw [num2 (by rw [c2]; exact b2) (by rw [c3]; exact b3), c2, c3, iN_of, uN_ushk 16 (by decide), e]
  omega
theorem w_imm {ga : Nat → Int32} {p : Nat} {w : Int64} (hp : p < 4096) (hb : byt ga p) (h : isW ga p w) : f_Fi_immediate w = f_Mo_number ga (((8 : Int32) * nI p) + (4 : Int32)) (4 : Int32) := by
  have e := wd_nat hb
  rw [← h] at e
  unfold f_Fi_immediate
  have b0 := hb 0 (by decide)
  have b1 := hb 1 (by decide)
  have b2 := hb 2 (by decide)
  have b3 := hb 3 (by decide)
  have b4 := hb 4 (by decide)
  have b5 := hb 5 (by decide)
  have b6 := hb 6 (by decide)
  have b7 := hb 7 (by decide)
  have c4 : ((((8 : Int32) * nI p) + (4 : Int32)) + 0).toNatClampNeg = 8 * p + 4 := cl8b (j := 4) (k := 0) hp (by decide) (by decide) rfl rfl
  have c5 : ((((8 : Int32) * nI p) + (4 : Int32)) + 1).toNatClampNeg = 8 * p + 5 := cl8b (j := 4) (k := 1) hp (by decide) (by decide) rfl rfl
  have c6 : ((((8 : Int32) * nI p) + (4 : Int32)) + 2).toNatClampNeg = 8 * p + 6 := cl8b (j := 4) (k := 2) hp (by decide) (by decide) rfl rfl
  have c7 : ((((8 : Int32) * nI p) + (4 : Int32)) + 3).toNatClampNeg = 8 * p + 7 := cl8b (j := 4) (k := 3) hp (by decide) (by decide) rfl rfl
  apply iN_inj
  rw [num4 (by rw [c4]; exact b4) (by rw [c5]; exact b5) (by rw [c6]; exact b6) (by rw [c7]; exact b7), c4, c5, c6, c7, iN_of, uN_ushk 32 (by decide), e]
  omega
theorem w_low {ga : Nat → Int32} {p : Nat} {w : Int64} (hp : p < 4096) (hb : byt ga p) (h : isW ga p w) : w.toInt32 = f_Mo_number ga ((8 : Int32) * nI p) (4 : Int32) := by
  have e := wd_nat hb
  rw [← h] at e
  have b0 := hb 0 (by decide)
  have b1 := hb 1 (by decide)
  have b2 := hb 2 (by decide)
  have b3 := hb 3 (by decide)
  have c4 : (((8 : Int32) * nI p) + 0).toNatClampNeg = 8 * p + 0 := cl8 (k := 0) hp (by decide) rfl
  have c5 : (((8 : Int32) * nI p) + 1).toNatClampNeg = 8 * p + 1 := cl8 (k := 1) hp (by decide) rfl
  have c6 : (((8 : Int32) * nI p) + 2).toNatClampNeg = 8 * p + 2 := cl8 (k := 2) hp (by decide) rfl
  have c7 : (((8 : Int32) * nI p) + 3).toNatClampNeg = 8 * p + 3 := cl8 (k := 3) hp (by decide) rfl
  apply iN_inj
  rw [num4 (by rw [c4]; exact b0) (by rw [c5]; exact b1) (by rw [c6]; exact b2) (by rw [c7]; exact b3), c4, c5, c6, c7, iN_of, e]
  omega
/-- placeAt is that word -/
theorem w_place {tf ga : Nat → Int32} {tl : Int32} {p : Nat} (hp : p < 4096) (hl : 8 * (p : Int) + 8 ≤ tl.toInt) (hb : ∀ k, k < 8 → (tf (8 * p + k)) &&& 255 = ga (8 * p + k)) : isW ga p (f_Ta_placeAt tf tl (nI p)) := by
  have h1 : ¬ (nI p) < 0 := by rw [Int32.lt_iff_toInt_lt, nI_toInt (by omega), i_0]; omega
  have e8 : (((nI p) * (8 : Int32)) + (8 : Int32)).toInt = 8 * (p : Int) + 8 := by
    have h : iN (((nI p) * (8 : Int32)) + (8 : Int32)) = 8 * p + 8 := by rw [iN_add, iN_mul, iN_nI (by omega), show iN (8 : Int32) = 8 by decide]; omega
    rw [iN_int, h, if_pos (by omega)]; omega
  have h2 : (((nI p) * (8 : Int32)) + (8 : Int32)) ≤ tl := by rw [Int32.le_iff_toInt_le, e8]; omega
  unfold isW f_Ta_placeAt
  rw [if_neg h1, if_pos h2]
  have e : l_Ta_placeAt_28 tf tl (nI p) 9 (7 : Int32) (0 : Int64) = wd (fun k => (tf (((nI p) * (8 : Int32)) + nI k).toNatClampNeg) &&& (255 : Int32)) := rfl
  rw [e]
  unfold wd
  simp only [cl8' hp (show 0 < 32 by decide) rfl, cl8' hp (show 1 < 32 by decide) rfl, cl8' hp (show 2 < 32 by decide) rfl, cl8' hp (show 3 < 32 by decide) rfl, cl8' hp (show 4 < 32 by decide) rfl, cl8' hp (show 5 < 32 by decide) rfl, cl8' hp (show 6 < 32 by decide) rfl, cl8' hp (show 7 < 32 by decide) rfl, hb 0 (by decide), hb 1 (by decide), hb 2 (by decide), hb 3 (by decide), hb 4 (by decide), hb 5 (by decide), hb 6 (by decide), hb 7 (by decide)]
