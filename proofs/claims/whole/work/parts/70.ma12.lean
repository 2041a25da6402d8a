theorem there_eq (a : Int64) {k : Int32} (h : k = 1 ∨ k = 2 ∨ k = 4 ∨ k = 8) : f_Me_holds a k = f_Mo_isThere a k := by
  have la := uN_lt a
  have ha := uN_int a
  have e31 : uN (2147483648 : Int64) = 2147483648 := by decide
  have hs := uN_sub a (2147483648 : Int64)
  have hsi := uN_int (a - (2147483648 : Int64))
  rw [e31] at hs
  rw [hs] at hsi
  have i31 : (2147483648 : Int64).toInt = 2147483648 := by decide
  have key : ∀ (m : Nat) (p q : Int64), m ≤ 4095 → p.toInt = (m : Int) → q.toInt = (2147483648 + m : Int) → (if (a - (2147483648 : Int64)) < (0 : Int64) then false else if p < (a - (2147483648 : Int64)) then false else true) = (if a < (2147483648 : Int64) then false else if q < a then false else true) := by
    intro m p q hm hp hq
    simp only [Int64.lt_iff_toInt_lt, hp, hq, hsi, ha, l_0, i31]
    repeat' split
    all_goals first | rfl | (exfalso; omega)
  unfold f_Me_holds f_Mo_isThere
  rcases h with rfl | rfl | rfl | rfl
  · exact key 4095 _ _ (by decide) (by decide) (by decide)
  · exact key 4094 _ _ (by decide) (by decide) (by decide)
  · exact key 4092 _ _ (by decide) (by decide) (by decide)
  · exact key 4088 _ _ (by decide) (by decide) (by decide)
theorem rd_step (v : Int64) {x y : Int32} (h : x &&& (255 : Int32) = y) : (j_lshl v (8 : Int32)) ||| ((x &&& (255 : Int32)).toInt64) = ((256 : Int64) * v) + y.toInt64 := by
  have hy : iN y < 256 := by rw [← h, iN_255]; omega
  rw [h]
  apply uN_inj
  have h1 : uN (j_lshl v (8 : Int32)) = uN v * 256 % 18446744073709551616 := uN_shlk 8 (by decide)
  have h2 : uN y.toInt64 = iN y := uN_of0 (by omega)
  rw [uN_orp 8 (by rw [h1]; omega) (by rw [h2]; exact hy), h1, h2, uN_add, uN_mul, h2, show uN 256 = 256 by decide]
  omega
theorem rd_loop {mf gm : Nat → Int32} (hm : ∀ j, mf j &&& (255 : Int32) = gm j) (a : Int64) (k : Int32) : ∀ (f : Nat) (j : Int32) (v : Int64), l_Me_read_27 mf a k f j v = l_Mo_loadJ_8 gm a k f j v := by
  intro f
  induction f with
  | zero => intros; rfl
  | succ f ih =>
    intro j v
    rw [l_Me_read_27, l_Mo_loadJ_8]
    by_cases c : j < 0
    · rw [if_pos c, if_pos c]
    · rw [if_neg c, if_neg c, ih, rd_step v (hm _)]
theorem rd_eq {mf gm : Nat → Int32} (hm : ∀ j, mf j &&& (255 : Int32) = gm j) {a : Int64} {k : Int32} (h : f_Me_holds a k = true) : f_Me_read mf a k = f_Mo_loadJ gm a k := by
  unfold f_Me_read f_Mo_loadJ
  rw [if_pos h, rd_loop hm]
theorem nar255 (y : Int32) : (vp_nar .byte y) &&& (255 : Int32) = y &&& (255 : Int32) := bp_b y
theorem i2b255 (y : Int32) : (j_i2b y) &&& (255 : Int32) = y &&& (255 : Int32) := bp_b y
theorem wr_byte (v : Int64) {k : Nat} (hk : k < 8) : (j_lshr v ((8 : Int32) * nI k)).toInt32 &&& (255 : Int32) = (j_lushr v ((8 : Int32) * nI k)).toInt32 &&& (255 : Int32) := by
  apply iN_inj
  rw [iN_255, iN_255, iN_of, iN_of]
  have lv := uN_lt v
  have hv := uN_int v
  have key : ∀ (s : Nat) (y : Int32), s < 57 → (((y.toInt64 &&& 63).toBitVec.smod 64).toNat) = s → ((y.toInt64.toUInt64 &&& Int64.toUInt64 63).toNat % 64 = s) → uN (j_lshr v y) % 4294967296 % 256 = uN (j_lushr v y) % 4294967296 % 256 := by
    intro s y hs h1 h2
    have a1 := lshr_int v s h1
    have a2 : uN (j_lushr v y) = uN v / 2 ^ s := uN_ushk s h2
    have a3 := uN_int (j_lshr v y)
    have a4 := uN_lt (j_lshr v y)
    rw [a2]
    rw [a1] at a3
    have hp : (2 : Int) ^ s * 2 ^ (64 - s) = 2 ^ 64 := by rw [← Int.pow_add]; congr 1; omega
    have hpp : (0 : Int) < 2 ^ s := Int.pow_pos (by decide)
    have hd : (((uN v : Int) - 18446744073709551616) / 2 ^ s) = ((uN v : Int) / 2 ^ s) - 2 ^ (64 - s) := by
      have e : ((uN v : Int) - 18446744073709551616) = (uN v : Int) + (-(2 ^ (64 - s))) * 2 ^ s := by
        rw [Int.neg_mul, Int.mul_comm ((2 : Int) ^ (64 - s)), hp]; omega
      rw [e, Int.add_mul_ediv_right _ _ (by omega)]; omega
    have hc : ((uN v / 2 ^ s : Nat) : Int) = (uN v : Int) / 2 ^ s := by rw [Int.natCast_ediv, Int.natCast_pow]; rfl
    have h256 : ∃ z : Int, (2 : Int) ^ (64 - s) = 256 * z := ⟨2 ^ (56 - s), by rw [show 64 - s = 8 + (56 - s) by omega, Int.pow_add]; rfl⟩
    obtain ⟨z, hz⟩ := h256
    rw [hv] at a3
    split at a3
    · rw [← hc] at a3
      split at a3 <;> omega
    · rw [hd, ← hc, hz] at a3
      split at a3 <;> omega
  have h8 : k = 0 ∨ k = 1 ∨ k = 2 ∨ k = 3 ∨ k = 4 ∨ k = 5 ∨ k = 6 ∨ k = 7 := by omega
  rcases h8 with rfl | rfl | rfl | rfl | rfl | rfl | rfl | rfl
  · exact key 0 _ (by decide) (by decide) (by decide)
  · exact key 8 _ (by decide) (by decide) (by decide)
  · exact key 16 _ (by decide) (by decide) (by decide)
  · exact key 24 _ (by decide) (by decide) (by decide)
  · exact key 32 _ (by decide) (by decide) (by decide)
  · exact key 40 _ (by decide) (by decide) (by decide)
  · exact key 48 _ (by decide) (by decide) (by decide)
  · exact key 56 _ (by decide) (by decide) (by decide)
theorem upd_rel {f g : Nat → Int32} (h : ∀ j, f j &&& (255 : Int32) = g j) {i : Nat} {x y : Int32} (hx : x &&& (255 : Int32) = y) : ∀ j, upd f i x j &&& (255 : Int32) = upd g i y j := by
  intro j
  unfold upd
  by_cases q : j = i
  · simp only [q, if_true]; exact hx
  · simp only [q, if_false]; exact h j
theorem wr_loop (mf gm : Nat → Int32) (a v : Int64) {n : Nat} (hn : n ≤ 8) : ∀ (f k : Nat) (g h : Nat → Int32), k ≤ n → n - k < f → (∀ j, g j &&& (255 : Int32) = h j) → ∀ j, l_Me_write_21 mf a (nI n) v f (nI k) g j &&& (255 : Int32) = l_Mo_store_3 gm a (nI n) v f (nI k) h j := by
  intro f
  induction f with
  | zero => intro k g h _ q; omega
  | succ f ih =>
    intro k g h hk hf hr
    rw [l_Me_write_21, l_Mo_store_3]
    by_cases c : n ≤ k
    · have c' : nI n ≤ nI k := (nI_lei (by omega) (by omega)).mpr c
      rw [if_pos c', if_pos c']; exact hr
    · have c' : ¬ nI n ≤ nI k := by rw [nI_lei (by omega) (by omega)]; exact c
      rw [if_neg c', if_neg c', nI_p1]
      exact ih _ _ _ (by omega) (by omega) (upd_rel hr (by rw [nar255, i2b255, wr_byte v (by omega)]))
theorem wr_eq {mf gm : Nat → Int32} (hm : ∀ j, mf j &&& (255 : Int32) = gm j) {a : Int64} {k : Int32} (hk : k = 1 ∨ k = 2 ∨ k = 4 ∨ k = 8) (h : f_Me_holds a k = true) (v : Int64) : ∀ j, f_Me_write mf a k v j &&& (255 : Int32) = f_Mo_store gm a k v j := by
  unfold f_Me_write f_Mo_store
  rw [if_pos h]
  rcases hk with rfl | rfl | rfl | rfl
  · exact wr_loop mf gm a v (n := 1) (by decide) 2 0 mf gm (by decide) (by decide) hm
  · exact wr_loop mf gm a v (n := 2) (by decide) 3 0 mf gm (by decide) (by decide) hm
  · exact wr_loop mf gm a v (n := 4) (by decide) 5 0 mf gm (by decide) (by decide) hm
  · exact wr_loop mf gm a v (n := 8) (by decide) 9 0 mf gm (by decide) (by decide) hm
