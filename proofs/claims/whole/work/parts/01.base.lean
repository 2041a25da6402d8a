def tB : List Cond := lw_tbl.filter goodWord
theorem tB_of {w : Cond} (h : w ∈ lw_tbl) (g : goodWord w = true) : w ∈ tB := List.mem_filter.mpr ⟨h, g⟩
theorem tB_tbl {w : Cond} (h : w ∈ tB) : w ∈ lw_tbl := (List.mem_filter.mp h).1
theorem tb_all {w : Cond} (h : w ∈ tB) : (w.onTables && w.keeps) = true ∨ ∃ ty, w = .arrayClass ty := good_of_word (List.mem_filter.mp h).2
theorem tb_in {ws : List Cond} (h : ∀ w ∈ ws, w ∈ tB) : GoodIn tB ws := fun w hw => ⟨h w hw, tb_all (h w hw)⟩
theorem gB_S {own : String} {idx : Nat} {y : MethodName} {c : Cond} (h1 : Cond.methodLink own idx y ∈ tB) (h2 : Cond.static y ∈ tB) (h3 : Cond.initialized own ∈ tB) (h4 : c ∈ tB) : GoodIn tB (wsS own idx y (c :: tB)) := tb_in (by
  intro w hw
  simp only [wsS, List.cons_append, List.nil_append, List.mem_cons] at hw
  rcases hw with rfl | rfl | rfl | rfl | h <;> assumption)
theorem gB_SV {own : String} {idx : Nat} {y : MethodName} {c : Cond} (h1 : Cond.methodLink own idx y ∈ tB) (h2 : Cond.static y ∈ tB) (h3 : Cond.initialized y.cls ∈ tB) (h4 : c ∈ tB) : GoodIn tB (va_wsS own idx y (c :: tB)) := tb_in (by
  intro w hw
  simp only [va_wsS, List.cons_append, List.nil_append, List.mem_cons] at hw
  rcases hw with rfl | rfl | rfl | rfl | h <;> assumption)
theorem gB_V {own C : String} {idx : Nat} {y : MethodName} {c : Cond} (h1 : Cond.methodLink own idx y ∈ tB) (h2 : Cond.instanceMethod y ∈ tB) (h3 : Cond.selects C y y ∈ tB) (h5 : Cond.initialized C ∈ tB) (h4 : c ∈ tB) : GoodIn tB (wsV own idx C y (c :: tB)) := tb_in (by
  intro w hw
  simp only [wsV, List.cons_append, List.nil_append, List.mem_cons] at hw
  rcases hw with rfl | rfl | rfl | rfl | rfl | h <;> assumption)
theorem gB_I {c : Cond} (h4 : c ∈ tB) : GoodIn tB (c :: tB) := tb_in (by
  intro w hw
  simp only [List.mem_cons] at hw
  rcases hw with rfl | h <;> assumption)
def bI (b : Bool) : Int32 := if b = true then 1 else 0
theorem bI_z {b : Bool} (h : bI b = 0) : ¬ b = true := by
  intro q; subst q; exact absurd h (by decide)
theorem bI_n {b : Bool} (h : ¬ bI b = 0) : b = true := by
  cases b
  · exact absurd rfl h
  · rfl
theorem bI_nar (b : Bool) : narrow .boolean (.int (bI b)) = .int (bI b) := by cases b <;> rfl
def j_iushr (x y : Int32) : Int32 := (x.toUInt32 >>> (y.toUInt32 &&& Int32.toUInt32 31)).toInt32
def j_lushr (x : Int64) (y : Int32) : Int64 := (x.toUInt64 >>> (y.toInt64.toUInt64 &&& Int64.toUInt64 63)).toInt64
def j_lshl (x : Int64) (y : Int32) : Int64 := x <<< (y.toInt64 &&& 63)
def j_lshr (x : Int64) (y : Int32) : Int64 := x >>> (y.toInt64 &&& 63)
def j_i2b (x : Int32) : Int32 := x.toInt8.toInt32
def j_i2s (x : Int32) : Int32 := x.toInt16.toInt32
-- whole numbers of ints
theorem bm32 {x : Int} (h1 : -2147483648 ≤ x) (h2 : x < 2147483648) : x.bmod (2 ^ 32) = x := by
  exact Int.bmod_eq_of_le_mul_two (by omega) (by omega)
theorem i_add {x y : Int32} (h1 : -2147483648 ≤ x.toInt + y.toInt) (h2 : x.toInt + y.toInt < 2147483648) : (x + y).toInt = x.toInt + y.toInt := by
  rw [Int32.toInt_add]; exact bm32 h1 h2
theorem i_sub {x y : Int32} (h1 : -2147483648 ≤ x.toInt - y.toInt) (h2 : x.toInt - y.toInt < 2147483648) : (x - y).toInt = x.toInt - y.toInt := by
  rw [Int32.toInt_sub]; exact bm32 h1 h2
theorem i_lim (x : Int32) : -2147483648 ≤ x.toInt ∧ x.toInt < 2147483648 := ⟨x.le_toInt, x.toInt_lt⟩
theorem i_m1 : (-1 : Int32).toInt = -1 := by decide
theorem i_0 : (0 : Int32).toInt = 0 := by decide
theorem i_1 : (1 : Int32).toInt = 1 := by decide
theorem i_dec {k : Int32} (h : ¬ k < 0) : (k + (-1 : Int32)).toInt = k.toInt - 1 := by
  rw [Int32.lt_iff_toInt_lt, i_0] at h
  have := i_lim k
  rw [i_add (by rw [i_m1]; omega) (by rw [i_m1]; omega), i_m1]; omega
theorem i_nlt0 {k : Int32} (h : ¬ k < 0) : 0 ≤ k.toInt := by
  rw [Int32.lt_iff_toInt_lt, i_0] at h; omega
theorem i_nle {a b : Int32} (h : ¬ a ≤ b) : b.toInt < a.toInt := by
  rw [Int32.le_iff_toInt_le] at h; omega
theorem i_nlt {a b : Int32} (h : ¬ a < b) : b.toInt ≤ a.toInt := by
  rw [Int32.lt_iff_toInt_lt] at h; omega
theorem l_0 : (0 : Int64).toInt = 0 := by decide
theorem l_nlt {a b : Int64} (h : ¬ a < b) : b.toInt ≤ a.toInt := by
  rw [Int64.lt_iff_toInt_lt] at h; omega
theorem l_nle {a b : Int64} (h : ¬ a ≤ b) : b.toInt < a.toInt := by
  rw [Int64.le_iff_toInt_le] at h; omega
theorem l_pne {a : Int64} (h : (0 : Int64) < a) : ¬ a = 0 := by
  intro q; subst q; exact absurd h (by decide)
