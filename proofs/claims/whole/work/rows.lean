section
-- ===== PART A: goes FIRST, ahead of the names: the tables' words, and 'selects' of the private methods out of them =====
/-- a private method of a class that the tables say can be made, by its rows of tables_1 -/
def lw_okq (q : MethodName × Nat) : Prop := (q.1.cls ≠ "java/lang/invoke/MethodHandle" ∧ q.1.cls ≠ "java/lang/invoke/VarHandle") ∧ Cond.instantiable q.1.cls q.2 ∈ tables_1 ∧ Cond.privateMethod q.1 ∈ tables_1 ∧ Cond.instanceMethod q.1 ∈ tables_1
theorem lw_p0 : lw_okq (⟨"java/lang/Throwable", "fillInStackTrace", "(I)Ljava/lang/Throwable;"⟩, 6) := ⟨⟨by decide +kernel, by decide +kernel⟩, List.mem_of_getElem? (i := 298) (by decide +kernel), List.mem_of_getElem? (i := 296) (by decide +kernel), List.mem_of_getElem? (i := 297) (by decide +kernel)⟩
theorem lw_p1 : lw_okq (⟨"CompiledProgramModel", "wrongPlace", "(I)I"⟩, 15) := ⟨⟨by decide +kernel, by decide +kernel⟩, List.mem_of_getElem? (i := 559) (by decide +kernel), List.mem_of_getElem? (i := 629) (by decide +kernel), List.mem_of_getElem? (i := 630) (by decide +kernel)⟩
theorem lw_p2 : lw_okq (⟨"CompiledProgramModel", "isInstruction", "([III)Z"⟩, 15) := ⟨⟨by decide +kernel, by decide +kernel⟩, List.mem_of_getElem? (i := 559) (by decide +kernel), List.mem_of_getElem? (i := 633) (by decide +kernel), List.mem_of_getElem? (i := 634) (by decide +kernel)⟩
theorem lw_p3 : lw_okq (⟨"CompiledProgramModel", "take", "([II)V"⟩, 15) := ⟨⟨by decide +kernel, by decide +kernel⟩, List.mem_of_getElem? (i := 559) (by decide +kernel), List.mem_of_getElem? (i := 637) (by decide +kernel), List.mem_of_getElem? (i := 638) (by decide +kernel)⟩
theorem lw_p4 : lw_okq (⟨"CompiledProgramModel", "kind", "()I"⟩, 15) := ⟨⟨by decide +kernel, by decide +kernel⟩, List.mem_of_getElem? (i := 559) (by decide +kernel), List.mem_of_getElem? (i := 644) (by decide +kernel), List.mem_of_getElem? (i := 645) (by decide +kernel)⟩
theorem lw_p5 : lw_okq (⟨"CompiledProgramModel", "isArithmetic", "()Z"⟩, 15) := ⟨⟨by decide +kernel, by decide +kernel⟩, List.mem_of_getElem? (i := 559) (by decide +kernel), List.mem_of_getElem? (i := 648) (by decide +kernel), List.mem_of_getElem? (i := 649) (by decide +kernel)⟩
theorem lw_p6 : lw_okq (⟨"CompiledProgramModel", "n", "()I"⟩, 15) := ⟨⟨by decide +kernel, by decide +kernel⟩, List.mem_of_getElem? (i := 559) (by decide +kernel), List.mem_of_getElem? (i := 652) (by decide +kernel), List.mem_of_getElem? (i := 653) (by decide +kernel)⟩
theorem lw_p7 : lw_okq (⟨"CompiledProgramModel", "bit3", "()Z"⟩, 15) := ⟨⟨by decide +kernel, by decide +kernel⟩, List.mem_of_getElem? (i := 559) (by decide +kernel), List.mem_of_getElem? (i := 656) (by decide +kernel), List.mem_of_getElem? (i := 657) (by decide +kernel)⟩
theorem lw_p8 : lw_okq (⟨"CompiledProgramModel", "hasSource", "()Z"⟩, 15) := ⟨⟨by decide +kernel, by decide +kernel⟩, List.mem_of_getElem? (i := 559) (by decide +kernel), List.mem_of_getElem? (i := 660) (by decide +kernel), List.mem_of_getElem? (i := 661) (by decide +kernel)⟩
theorem lw_p9 : lw_okq (⟨"CompiledProgramModel", "isJump", "()Z"⟩, 15) := ⟨⟨by decide +kernel, by decide +kernel⟩, List.mem_of_getElem? (i := 559) (by decide +kernel), List.mem_of_getElem? (i := 664) (by decide +kernel), List.mem_of_getElem? (i := 665) (by decide +kernel)⟩
theorem lw_p10 : lw_okq (⟨"CompiledProgramModel", "mode", "()I"⟩, 15) := ⟨⟨by decide +kernel, by decide +kernel⟩, List.mem_of_getElem? (i := 559) (by decide +kernel), List.mem_of_getElem? (i := 668) (by decide +kernel), List.mem_of_getElem? (i := 669) (by decide +kernel)⟩
theorem lw_p11 : lw_okq (⟨"CompiledProgramModel", "size", "()I"⟩, 15) := ⟨⟨by decide +kernel, by decide +kernel⟩, List.mem_of_getElem? (i := 559) (by decide +kernel), List.mem_of_getElem? (i := 672) (by decide +kernel), List.mem_of_getElem? (i := 673) (by decide +kernel)⟩
theorem lw_p12 : lw_okq (⟨"CompiledProgramModel", "isAtomic", "()Z"⟩, 15) := ⟨⟨by decide +kernel, by decide +kernel⟩, List.mem_of_getElem? (i := 559) (by decide +kernel), List.mem_of_getElem? (i := 676) (by decide +kernel), List.mem_of_getElem? (i := 677) (by decide +kernel)⟩
theorem lw_p13 : lw_okq (⟨"CompiledProgramModel", "isWide", "()Z"⟩, 15) := ⟨⟨by decide +kernel, by decide +kernel⟩, List.mem_of_getElem? (i := 559) (by decide +kernel), List.mem_of_getElem? (i := 680) (by decide +kernel), List.mem_of_getElem? (i := 681) (by decide +kernel)⟩
theorem lw_p14 : lw_okq (⟨"CompiledProgramModel", "wrongWay", "(I)I"⟩, 15) := ⟨⟨by decide +kernel, by decide +kernel⟩, List.mem_of_getElem? (i := 559) (by decide +kernel), List.mem_of_getElem? (i := 684) (by decide +kernel), List.mem_of_getElem? (i := 685) (by decide +kernel)⟩
theorem lw_p15 : lw_okq (⟨"CompiledProgramModel", "isGoal", "(JI)Z"⟩, 15) := ⟨⟨by decide +kernel, by decide +kernel⟩, List.mem_of_getElem? (i := 559) (by decide +kernel), List.mem_of_getElem? (i := 688) (by decide +kernel), List.mem_of_getElem? (i := 689) (by decide +kernel)⟩
def lw_privs_1 : List (MethodName × Nat) := [(⟨"java/lang/Throwable", "fillInStackTrace", "(I)Ljava/lang/Throwable;"⟩, 6), (⟨"CompiledProgramModel", "wrongPlace", "(I)I"⟩, 15), (⟨"CompiledProgramModel", "isInstruction", "([III)Z"⟩, 15), (⟨"CompiledProgramModel", "take", "([II)V"⟩, 15), (⟨"CompiledProgramModel", "kind", "()I"⟩, 15), (⟨"CompiledProgramModel", "isArithmetic", "()Z"⟩, 15), (⟨"CompiledProgramModel", "n", "()I"⟩, 15), (⟨"CompiledProgramModel", "bit3", "()Z"⟩, 15), (⟨"CompiledProgramModel", "hasSource", "()Z"⟩, 15), (⟨"CompiledProgramModel", "isJump", "()Z"⟩, 15), (⟨"CompiledProgramModel", "mode", "()I"⟩, 15), (⟨"CompiledProgramModel", "size", "()I"⟩, 15), (⟨"CompiledProgramModel", "isAtomic", "()Z"⟩, 15), (⟨"CompiledProgramModel", "isWide", "()Z"⟩, 15), (⟨"CompiledProgramModel", "wrongWay", "(I)I"⟩, 15), (⟨"CompiledProgramModel", "isGoal", "(JI)Z"⟩, 15)]
theorem lw_r1 : ∀ q ∈ lw_privs_1, lw_okq q := List.forall_mem_cons.mpr ⟨lw_p0, List.forall_mem_cons.mpr ⟨lw_p1, List.forall_mem_cons.mpr ⟨lw_p2, List.forall_mem_cons.mpr ⟨lw_p3, List.forall_mem_cons.mpr ⟨lw_p4, List.forall_mem_cons.mpr ⟨lw_p5, List.forall_mem_cons.mpr ⟨lw_p6, List.forall_mem_cons.mpr ⟨lw_p7, List.forall_mem_cons.mpr ⟨lw_p8, List.forall_mem_cons.mpr ⟨lw_p9, List.forall_mem_cons.mpr ⟨lw_p10, List.forall_mem_cons.mpr ⟨lw_p11, List.forall_mem_cons.mpr ⟨lw_p12, List.forall_mem_cons.mpr ⟨lw_p13, List.forall_mem_cons.mpr ⟨lw_p14, List.forall_mem_cons.mpr ⟨lw_p15, fun _ h => absurd h List.not_mem_nil⟩⟩⟩⟩⟩⟩⟩⟩⟩⟩⟩⟩⟩⟩⟩⟩
theorem lw_p16 : lw_okq (⟨"CompiledProgramModel", "store", "(JIJ)V"⟩, 15) := ⟨⟨by decide +kernel, by decide +kernel⟩, List.mem_of_getElem? (i := 559) (by decide +kernel), List.mem_of_getElem? (i := 713) (by decide +kernel), List.mem_of_getElem? (i := 714) (by decide +kernel)⟩
theorem lw_p17 : lw_okq (⟨"CompiledProgramModel", "load", "(JI)J"⟩, 15) := ⟨⟨by decide +kernel, by decide +kernel⟩, List.mem_of_getElem? (i := 559) (by decide +kernel), List.mem_of_getElem? (i := 721) (by decide +kernel), List.mem_of_getElem? (i := 722) (by decide +kernel)⟩
theorem lw_p18 : lw_okq (⟨"CompiledProgramModel", "does", "(I)Z"⟩, 15) := ⟨⟨by decide +kernel, by decide +kernel⟩, List.mem_of_getElem? (i := 559) (by decide +kernel), List.mem_of_getElem? (i := 731) (by decide +kernel), List.mem_of_getElem? (i := 732) (by decide +kernel)⟩
theorem lw_p19 : lw_okq (⟨"CompiledProgramModel", "arithmetic", "()V"⟩, 15) := ⟨⟨by decide +kernel, by decide +kernel⟩, List.mem_of_getElem? (i := 559) (by decide +kernel), List.mem_of_getElem? (i := 735) (by decide +kernel), List.mem_of_getElem? (i := 736) (by decide +kernel)⟩
theorem lw_p20 : lw_okq (⟨"CompiledProgramModel", "reckoned", "(JJI)J"⟩, 15) := ⟨⟨by decide +kernel, by decide +kernel⟩, List.mem_of_getElem? (i := 559) (by decide +kernel), List.mem_of_getElem? (i := 746) (by decide +kernel), List.mem_of_getElem? (i := 747) (by decide +kernel)⟩
theorem lw_p21 : lw_okq (⟨"CompiledProgramModel", "jump", "(I)V"⟩, 15) := ⟨⟨by decide +kernel, by decide +kernel⟩, List.mem_of_getElem? (i := 559) (by decide +kernel), List.mem_of_getElem? (i := 763) (by decide +kernel), List.mem_of_getElem? (i := 764) (by decide +kernel)⟩
theorem lw_p22 : lw_okq (⟨"CompiledProgramModel", "call", "()V"⟩, 15) := ⟨⟨by decide +kernel, by decide +kernel⟩, List.mem_of_getElem? (i := 559) (by decide +kernel), List.mem_of_getElem? (i := 767) (by decide +kernel), List.mem_of_getElem? (i := 768) (by decide +kernel)⟩
theorem lw_p23 : lw_okq (⟨"CompiledProgramModel", "isSo", "(JJ)Z"⟩, 15) := ⟨⟨by decide +kernel, by decide +kernel⟩, List.mem_of_getElem? (i := 559) (by decide +kernel), List.mem_of_getElem? (i := 772) (by decide +kernel), List.mem_of_getElem? (i := 773) (by decide +kernel)⟩
theorem lw_p24 : lw_okq (⟨"CompiledProgramModel", "access", "()Z"⟩, 15) := ⟨⟨by decide +kernel, by decide +kernel⟩, List.mem_of_getElem? (i := 559) (by decide +kernel), List.mem_of_getElem? (i := 777) (by decide +kernel), List.mem_of_getElem? (i := 778) (by decide +kernel)⟩
theorem lw_p25 : lw_okq (⟨"CompiledProgramModel", "atomic", "(JI)Z"⟩, 15) := ⟨⟨by decide +kernel, by decide +kernel⟩, List.mem_of_getElem? (i := 559) (by decide +kernel), List.mem_of_getElem? (i := 781) (by decide +kernel), List.mem_of_getElem? (i := 782) (by decide +kernel)⟩
def lw_privs_2 : List (MethodName × Nat) := [(⟨"CompiledProgramModel", "store", "(JIJ)V"⟩, 15), (⟨"CompiledProgramModel", "load", "(JI)J"⟩, 15), (⟨"CompiledProgramModel", "does", "(I)Z"⟩, 15), (⟨"CompiledProgramModel", "arithmetic", "()V"⟩, 15), (⟨"CompiledProgramModel", "reckoned", "(JJI)J"⟩, 15), (⟨"CompiledProgramModel", "jump", "(I)V"⟩, 15), (⟨"CompiledProgramModel", "call", "()V"⟩, 15), (⟨"CompiledProgramModel", "isSo", "(JJ)Z"⟩, 15), (⟨"CompiledProgramModel", "access", "()Z"⟩, 15), (⟨"CompiledProgramModel", "atomic", "(JI)Z"⟩, 15)]
theorem lw_r2 : ∀ q ∈ lw_privs_2, lw_okq q := List.forall_mem_cons.mpr ⟨lw_p16, List.forall_mem_cons.mpr ⟨lw_p17, List.forall_mem_cons.mpr ⟨lw_p18, List.forall_mem_cons.mpr ⟨lw_p19, List.forall_mem_cons.mpr ⟨lw_p20, List.forall_mem_cons.mpr ⟨lw_p21, List.forall_mem_cons.mpr ⟨lw_p22, List.forall_mem_cons.mpr ⟨lw_p23, List.forall_mem_cons.mpr ⟨lw_p24, List.forall_mem_cons.mpr ⟨lw_p25, fun _ h => absurd h List.not_mem_nil⟩⟩⟩⟩⟩⟩⟩⟩⟩⟩
def lw_privs : List (MethodName × Nat) := lw_privs_1 ++ (lw_privs_2)
def lw_tbl : List Cond := k2_sels lw_privs ++ tables_1
theorem lw_privs_ok : ∀ q ∈ lw_privs, lw_okq q := by
  show ∀ q ∈ lw_privs_1 ++ (lw_privs_2), lw_okq q
  exact List.forall_mem_append.mpr ⟨lw_r1, lw_r2⟩
end
section
def tB : List Cond := lw_tbl.filter goodWord
theorem tB_of {w : Cond} (h : w ∈ lw_tbl) (g : goodWord w = true) : w ∈ tB := List.mem_filter.mpr ⟨h, g⟩
theorem tB_tbl {w : Cond} (h : w ∈ tB) : w ∈ lw_tbl := (List.mem_filter.mp h).1
theorem tb_all {w : Cond} (h : w ∈ tB) : (w.onTables && w.keeps) = true ∨ ∃ ty, w = .arrayClass ty := good_of_word (List.mem_filter.mp h).2
theorem tb_in {ws : List Cond} (h : ∀ w ∈ ws, w ∈ tB) : GoodIn tB ws := fun w hw => ⟨h w hw, tb_all (h w hw)⟩
theorem gB_S {own : String} {idx : Nat} {y : MethodName} {c : Cond} (h1 : Cond.methodLink own idx y ∈ tB) (h2 : Cond.static y ∈ tB) (h3 : Cond.initialized own ∈ tB) (h4 : c ∈ tB) : GoodIn tB (wsS own idx y (c :: tB)) := tb_in (by
  intro w hw
  simp only [wsS, List.cons_append, List.nil_append, List.mem_cons] at hw
  rcases hw with rfl | rfl | rfl | rfl | h <;> assumption)
theorem gB_SV {own : String} {idx : Nat} {y : MethodName} {c : Cond} (h1 : Cond.methodLink own idx y ∈ tB) (h2 : Cond.static y ∈ tB) (h3 : Cond.initialized y.cls ∈ tB) (h4 : c ∈ tB) : GoodIn tB (va_wsS own idx y (c :: tB)) := tb_in (by
  intro w hw
  simp only [va_wsS, List.cons_append, List.nil_append, List.mem_cons] at hw
  rcases hw with rfl | rfl | rfl | rfl | h <;> assumption)
theorem gB_V {own C : String} {idx : Nat} {y : MethodName} {c : Cond} (h1 : Cond.methodLink own idx y ∈ tB) (h2 : Cond.instanceMethod y ∈ tB) (h3 : Cond.selects C y y ∈ tB) (h5 : Cond.initialized C ∈ tB) (h4 : c ∈ tB) : GoodIn tB (wsV own idx C y (c :: tB)) := tb_in (by
  intro w hw
  simp only [wsV, List.cons_append, List.nil_append, List.mem_cons] at hw
  rcases hw with rfl | rfl | rfl | rfl | rfl | h <;> assumption)
theorem gB_I {c : Cond} (h4 : c ∈ tB) : GoodIn tB (c :: tB) := tb_in (by
  intro w hw
  simp only [List.mem_cons] at hw
  rcases hw with rfl | h <;> assumption)
def bI (b : Bool) : Int32 := if b = true then 1 else 0
theorem bI_z {b : Bool} (h : bI b = 0) : ¬ b = true := by
  intro q; subst q; exact absurd h (by decide)
theorem bI_n {b : Bool} (h : ¬ bI b = 0) : b = true := by
  cases b
  · exact absurd rfl h
  · rfl
theorem bI_nar (b : Bool) : narrow .boolean (.int (bI b)) = .int (bI b) := by cases b <;> rfl
def j_iushr (x y : Int32) : Int32 := (x.toUInt32 >>> (y.toUInt32 &&& Int32.toUInt32 31)).toInt32
def j_lushr (x : Int64) (y : Int32) : Int64 := (x.toUInt64 >>> (y.toInt64.toUInt64 &&& Int64.toUInt64 63)).toInt64
def j_lshl (x : Int64) (y : Int32) : Int64 := x <<< (y.toInt64 &&& 63)
def j_lshr (x : Int64) (y : Int32) : Int64 := x >>> (y.toInt64 &&& 63)
def j_i2b (x : Int32) : Int32 := x.toInt8.toInt32
def j_i2s (x : Int32) : Int32 := x.toInt16.toInt32
-- whole numbers of ints
theorem bm32 {x : Int} (h1 : -2147483648 ≤ x) (h2 : x < 2147483648) : x.bmod (2 ^ 32) = x := by
  exact Int.bmod_eq_of_le_mul_two (by omega) (by omega)
theorem i_add {x y : Int32} (h1 : -2147483648 ≤ x.toInt + y.toInt) (h2 : x.toInt + y.toInt < 2147483648) : (x + y).toInt = x.toInt + y.toInt := by
  rw [Int32.toInt_add]; exact bm32 h1 h2
theorem i_sub {x y : Int32} (h1 : -2147483648 ≤ x.toInt - y.toInt) (h2 : x.toInt - y.toInt < 2147483648) : (x - y).toInt = x.toInt - y.toInt := by
  rw [Int32.toInt_sub]; exact bm32 h1 h2
theorem i_lim (x : Int32) : -2147483648 ≤ x.toInt ∧ x.toInt < 2147483648 := ⟨x.le_toInt, x.toInt_lt⟩
theorem i_m1 : (-1 : Int32).toInt = -1 := by decide
theorem i_0 : (0 : Int32).toInt = 0 := by decide
theorem i_1 : (1 : Int32).toInt = 1 := by decide
theorem i_dec {k : Int32} (h : ¬ k < 0) : (k + (-1 : Int32)).toInt = k.toInt - 1 := by
  rw [Int32.lt_iff_toInt_lt, i_0] at h
  have := i_lim k
  rw [i_add (by rw [i_m1]; omega) (by rw [i_m1]; omega), i_m1]; omega
theorem i_nlt0 {k : Int32} (h : ¬ k < 0) : 0 ≤ k.toInt := by
  rw [Int32.lt_iff_toInt_lt, i_0] at h; omega
theorem i_nle {a b : Int32} (h : ¬ a ≤ b) : b.toInt < a.toInt := by
  rw [Int32.le_iff_toInt_le] at h; omega
theorem i_nlt {a b : Int32} (h : ¬ a < b) : b.toInt ≤ a.toInt := by
  rw [Int32.lt_iff_toInt_lt] at h; omega
theorem l_0 : (0 : Int64).toInt = 0 := by decide
theorem l_nlt {a b : Int64} (h : ¬ a < b) : b.toInt ≤ a.toInt := by
  rw [Int64.lt_iff_toInt_lt] at h; omega
theorem l_nle {a b : Int64} (h : ¬ a ≤ b) : b.toInt < a.toInt := by
  rw [Int64.le_iff_toInt_le] at h; omega
end
section
abbrev RPr : String := "CompiledProgram$Program"
def TPr : u_T := fun k => match k with
  | 0 => ("CompiledProgram$Program", "row", "[J", false)
  | _ => ("CompiledProgram$Program", "count", "I", false)
def tyPr : Nat → FieldType := fun k => match k with
  | 0 => .array .long
  | _ => .int
theorem nmPr : ∀ a, a < 2 → ∀ b, b < 2 → a ≠ b → (TPr a).2.1 ≠ (TPr b).2.1 := by decide +kernel
theorem tyPr_ok : ∀ k, k < 2 → parseFieldDescriptor (TPr k).2.2.1 = some (tyPr k) := by decide +kernel
theorem inPr : ∀ w ∈ u_ws RPr TPr 2, w ∈ tB := by decide +kernel
abbrev RMe : String := "CompiledProgram$Memory"
def TMe : u_T := fun k => match k with
  | _ => ("CompiledProgram$Memory", "bytes", "[B", true)
def tyMe : Nat → FieldType := fun k => match k with
  | _ => .array .byte
theorem nmMe : ∀ a, a < 1 → ∀ b, b < 1 → a ≠ b → (TMe a).2.1 ≠ (TMe b).2.1 := by decide +kernel
theorem tyMe_ok : ∀ k, k < 1 → parseFieldDescriptor (TMe k).2.2.1 = some (tyMe k) := by decide +kernel
theorem inMe : ∀ w ∈ u_ws RMe TMe 1, w ∈ tB := by decide +kernel
abbrev RMa : String := "CompiledProgram$Machine"
def TMa : u_T := fun k => match k with
  | 0 => ("CompiledProgram$Machine", "registers", "[J", true)
  | _ => ("CompiledProgram$Machine", "memory", "LCompiledProgram$Memory;", true)
def tyMa : Nat → FieldType := fun k => match k with
  | 0 => .array .long
  | _ => .object "CompiledProgram$Memory"
theorem nmMa : ∀ a, a < 2 → ∀ b, b < 2 → a ≠ b → (TMa a).2.1 ≠ (TMa b).2.1 := by decide +kernel
theorem tyMa_ok : ∀ k, k < 2 → parseFieldDescriptor (TMa k).2.2.1 = some (tyMa k) := by decide +kernel
theorem inMa : ∀ w ∈ u_ws RMa TMa 2, w ∈ tB := by decide +kernel
abbrev RTa : String := "CompiledProgram$Tape"
def TTa : u_T := fun k => match k with
  | 0 => ("CompiledProgram$Tape", "bytes", "[B", false)
  | _ => ("CompiledProgram$Tape", "length", "I", false)
def tyTa : Nat → FieldType := fun k => match k with
  | 0 => .array .byte
  | _ => .int
theorem nmTa : ∀ a, a < 2 → ∀ b, b < 2 → a ≠ b → (TTa a).2.1 ≠ (TTa b).2.1 := by decide +kernel
theorem tyTa_ok : ∀ k, k < 2 → parseFieldDescriptor (TTa k).2.2.1 = some (tyTa k) := by decide +kernel
theorem inTa : ∀ w ∈ u_ws RTa TTa 2, w ∈ tB := by decide +kernel
abbrev RCp : String := "CompiledProgram"
def TCp : u_T := fun k => match k with
  | 0 => ("CompiledProgram", "tape", "LCompiledProgram$Tape;", true)
  | 1 => ("CompiledProgram", "program", "LCompiledProgram$Program;", true)
  | 2 => ("CompiledProgram", "machine", "LCompiledProgram$Machine;", true)
  | 3 => ("CompiledProgram", "latestPlace", "I", false)
  | _ => ("CompiledProgram", "latestSteps", "I", false)
def tyCp : Nat → FieldType := fun k => match k with
  | 0 => .object "CompiledProgram$Tape"
  | 1 => .object "CompiledProgram$Program"
  | 2 => .object "CompiledProgram$Machine"
  | 3 => .int
  | _ => .int
theorem nmCp : ∀ a, a < 5 → ∀ b, b < 5 → a ≠ b → (TCp a).2.1 ≠ (TCp b).2.1 := by decide +kernel
theorem tyCp_ok : ∀ k, k < 5 → parseFieldDescriptor (TCp k).2.2.1 = some (tyCp k) := by decide +kernel
theorem inCp : ∀ w ∈ u_ws RCp TCp 5, w ∈ tB := by decide +kernel
abbrev RMo : String := "CompiledProgramModel"
def TMo : u_T := fun k => match k with
  | 0 => ("CompiledProgramModel", "thrown", "I", false)
  | 1 => ("CompiledProgramModel", "tape", "[I", true)
  | 2 => ("CompiledProgramModel", "taped", "I", false)
  | 3 => ("CompiledProgramModel", "program", "[I", true)
  | 4 => ("CompiledProgramModel", "places", "I", false)
  | 5 => ("CompiledProgramModel", "registers", "[J", true)
  | 6 => ("CompiledProgramModel", "memory", "[I", true)
  | 7 => ("CompiledProgramModel", "place", "I", false)
  | 8 => ("CompiledProgramModel", "steps", "I", false)
  | 9 => ("CompiledProgramModel", "code", "I", false)
  | 10 => ("CompiledProgramModel", "d", "I", false)
  | 11 => ("CompiledProgramModel", "s", "I", false)
  | 12 => ("CompiledProgramModel", "o", "I", false)
  | 13 => ("CompiledProgramModel", "i", "I", false)
  | _ => ("CompiledProgramModel", "next", "I", false)
def tyMo : Nat → FieldType := fun k => match k with
  | 0 => .int
  | 1 => .array .int
  | 2 => .int
  | 3 => .array .int
  | 4 => .int
  | 5 => .array .long
  | 6 => .array .int
  | 7 => .int
  | 8 => .int
  | 9 => .int
  | 10 => .int
  | 11 => .int
  | 12 => .int
  | 13 => .int
  | _ => .int
theorem nmMo : ∀ a, a < 15 → ∀ b, b < 15 → a ≠ b → (TMo a).2.1 ≠ (TMo b).2.1 := by decide +kernel
theorem tyMo_ok : ∀ k, k < 15 → parseFieldDescriptor (TMo k).2.2.1 = some (tyMo k) := by decide +kernel
theorem inMo : ∀ w ∈ u_ws RMo TMo 15, w ∈ tB := by decide +kernel
abbrev vwCl : List vw_C := [(RPr, TPr, 2), (RMe, TMe, 1), (RMa, TMa, 2), (RTa, TTa, 2), (RCp, TCp, 5), (RMo, TMo, 15)]
abbrev cAr_wide : ByteArray := prog_2_method_2_code
abbrev yAr_wide : MethodName := ⟨"CompiledProgram$Arithmetic", "wide", "(IIJJ)J"⟩
abbrev wsAr_wide : List Cond := .code yAr_wide cAr_wide 6 (some .long) :: tB
abbrev cAr_narrow : ByteArray := prog_2_method_3_code
abbrev yAr_narrow : MethodName := ⟨"CompiledProgram$Arithmetic", "narrow", "(IIII)J"⟩
abbrev wsAr_narrow : List Cond := .code yAr_narrow cAr_narrow 4 (some .long) :: tB
abbrev cAr_quotient : ByteArray := prog_2_method_4_code
abbrev yAr_quotient : MethodName := ⟨"CompiledProgram$Arithmetic", "quotient", "(ZJJ)J"⟩
abbrev wsAr_quotient : List Cond := .code yAr_quotient cAr_quotient 5 (some .long) :: tB
abbrev cAr_unsignedQuotient : ByteArray := prog_2_method_5_code
abbrev yAr_unsignedQuotient : MethodName := ⟨"CompiledProgram$Arithmetic", "unsignedQuotient", "(JJ)J"⟩
abbrev wsAr_unsignedQuotient : List Cond := .code yAr_unsignedQuotient cAr_unsignedQuotient 8 (some .long) :: tB
abbrev cAr_rest : ByteArray := prog_2_method_6_code
abbrev yAr_rest : MethodName := ⟨"CompiledProgram$Arithmetic", "rest", "(ZJJ)J"⟩
abbrev wsAr_rest : List Cond := .code yAr_rest cAr_rest 5 (some .long) :: tB
abbrev cAr_lowest : ByteArray := prog_2_method_7_code
abbrev yAr_lowest : MethodName := ⟨"CompiledProgram$Arithmetic", "lowest", "(JI)J"⟩
abbrev wsAr_lowest : List Cond := .code yAr_lowest cAr_lowest 3 (some .long) :: tB
abbrev cAr_signed : ByteArray := prog_2_method_8_code
abbrev yAr_signed : MethodName := ⟨"CompiledProgram$Arithmetic", "signed", "(JI)J"⟩
abbrev wsAr_signed : List Cond := .code yAr_signed cAr_signed 3 (some .long) :: tB
abbrev cAr_turned : ByteArray := prog_2_method_9_code
abbrev yAr_turned : MethodName := ⟨"CompiledProgram$Arithmetic", "turned", "(JI)J"⟩
abbrev wsAr_turned : List Cond := .code yAr_turned cAr_turned 3 (some .long) :: tB
abbrev cAr_isTaken : ByteArray := prog_2_method_10_code
abbrev yAr_isTaken : MethodName := ⟨"CompiledProgram$Arithmetic", "isTaken", "(IJJ)Z"⟩
abbrev wsAr_isTaken : List Cond := .code yAr_isTaken cAr_isTaken 9 (some .boolean) :: tB
abbrev cEx_isKnown : ByteArray := prog_3_method_2_code
abbrev yEx_isKnown : MethodName := ⟨"CompiledProgram$Exchange", "isKnown", "(I)Z"⟩
abbrev wsEx_isKnown : List Cond := .code yEx_isKnown cEx_isKnown 1 (some .boolean) :: tB
abbrev cEx_changesSource : ByteArray := prog_3_method_3_code
abbrev yEx_changesSource : MethodName := ⟨"CompiledProgram$Exchange", "changesSource", "(I)Z"⟩
abbrev wsEx_changesSource : List Cond := .code yEx_changesSource cEx_changesSource 1 (some .boolean) :: tB
abbrev cEx_become : ByteArray := prog_3_method_4_code
abbrev yEx_become : MethodName := ⟨"CompiledProgram$Exchange", "become", "(IJJZ)J"⟩
abbrev wsEx_become : List Cond := .code yEx_become cEx_become 6 (some .long) :: tB
abbrev cFi_code : ByteArray := prog_4_method_2_code
abbrev yFi_code : MethodName := ⟨"CompiledProgram$Fields", "code", "(J)I"⟩
abbrev wsFi_code : List Cond := .code yFi_code cFi_code 2 (some .int) :: tB
abbrev cFi_kind : ByteArray := prog_4_method_3_code
abbrev yFi_kind : MethodName := ⟨"CompiledProgram$Fields", "kind", "(J)I"⟩
abbrev wsFi_kind : List Cond := .code yFi_kind cFi_kind 2 (some .int) :: tB
abbrev cFi_operation : ByteArray := prog_4_method_4_code
abbrev yFi_operation : MethodName := ⟨"CompiledProgram$Fields", "operation", "(J)I"⟩
abbrev wsFi_operation : List Cond := .code yFi_operation cFi_operation 2 (some .int) :: tB
abbrev cFi_usesSource : ByteArray := prog_4_method_5_code
abbrev yFi_usesSource : MethodName := ⟨"CompiledProgram$Fields", "usesSource", "(J)Z"⟩
abbrev wsFi_usesSource : List Cond := .code yFi_usesSource cFi_usesSource 2 (some .boolean) :: tB
abbrev cFi_mode : ByteArray := prog_4_method_6_code
abbrev yFi_mode : MethodName := ⟨"CompiledProgram$Fields", "mode", "(J)I"⟩
abbrev wsFi_mode : List Cond := .code yFi_mode cFi_mode 2 (some .int) :: tB
abbrev cFi_size : ByteArray := prog_4_method_7_code
abbrev yFi_size : MethodName := ⟨"CompiledProgram$Fields", "size", "(J)I"⟩
abbrev wsFi_size : List Cond := .code yFi_size cFi_size 2 (some .int) :: tB
abbrev cFi_target : ByteArray := prog_4_method_8_code
abbrev yFi_target : MethodName := ⟨"CompiledProgram$Fields", "target", "(J)I"⟩
abbrev wsFi_target : List Cond := .code yFi_target cFi_target 2 (some .int) :: tB
abbrev cFi_source : ByteArray := prog_4_method_9_code
abbrev yFi_source : MethodName := ⟨"CompiledProgram$Fields", "source", "(J)I"⟩
abbrev wsFi_source : List Cond := .code yFi_source cFi_source 2 (some .int) :: tB
abbrev cFi_offset : ByteArray := prog_4_method_10_code
abbrev yFi_offset : MethodName := ⟨"CompiledProgram$Fields", "offset", "(J)I"⟩
abbrev wsFi_offset : List Cond := .code yFi_offset cFi_offset 2 (some .int) :: tB
abbrev cFi_immediate : ByteArray := prog_4_method_11_code
abbrev yFi_immediate : MethodName := ⟨"CompiledProgram$Fields", "immediate", "(J)I"⟩
abbrev wsFi_immediate : List Cond := .code yFi_immediate cFi_immediate 2 (some .int) :: tB
abbrev cFi_isTwoPlaces : ByteArray := prog_4_method_12_code
abbrev yFi_isTwoPlaces : MethodName := ⟨"CompiledProgram$Fields", "isTwoPlaces", "(J)Z"⟩
abbrev wsFi_isTwoPlaces : List Cond := .code yFi_isTwoPlaces cFi_isTwoPlaces 2 (some .boolean) :: tB
abbrev cFi_isExit : ByteArray := prog_4_method_13_code
abbrev yFi_isExit : MethodName := ⟨"CompiledProgram$Fields", "isExit", "(J)Z"⟩
abbrev wsFi_isExit : List Cond := .code yFi_isExit cFi_isExit 2 (some .boolean) :: tB
abbrev cFi_isCall : ByteArray := prog_4_method_14_code
abbrev yFi_isCall : MethodName := ⟨"CompiledProgram$Fields", "isCall", "(J)Z"⟩
abbrev wsFi_isCall : List Cond := .code yFi_isCall cFi_isCall 2 (some .boolean) :: tB
abbrev cFi_jumpsAlways : ByteArray := prog_4_method_15_code
abbrev yFi_jumpsAlways : MethodName := ⟨"CompiledProgram$Fields", "jumpsAlways", "(J)Z"⟩
abbrev wsFi_jumpsAlways : List Cond := .code yFi_jumpsAlways cFi_jumpsAlways 2 (some .boolean) :: tB
abbrev cFi_jumpsPerhaps : ByteArray := prog_4_method_16_code
abbrev yFi_jumpsPerhaps : MethodName := ⟨"CompiledProgram$Fields", "jumpsPerhaps", "(J)Z"⟩
abbrev wsFi_jumpsPerhaps : List Cond := .code yFi_jumpsPerhaps cFi_jumpsPerhaps 4 (some .boolean) :: tB
abbrev cFi_jumpFrom : ByteArray := prog_4_method_17_code
abbrev yFi_jumpFrom : MethodName := ⟨"CompiledProgram$Fields", "jumpFrom", "(IJ)J"⟩
abbrev wsFi_jumpFrom : List Cond := .code yFi_jumpFrom cFi_jumpFrom 3 (some .long) :: tB
abbrev cFo_firstWrongForItself : ByteArray := prog_5_method_2_code
abbrev yFo_firstWrongForItself : MethodName := ⟨"CompiledProgram$Form", "firstWrongForItself", "(LCompiledProgram$Program;Z)I"⟩
abbrev wsFo_firstWrongForItself : List Cond := .code yFo_firstWrongForItself cFo_firstWrongForItself 5 (some .int) :: tB
abbrev cFo_firstGoingWrong : ByteArray := prog_5_method_3_code
abbrev yFo_firstGoingWrong : MethodName := ⟨"CompiledProgram$Form", "firstGoingWrong", "(LCompiledProgram$Program;)I"⟩
abbrev wsFo_firstGoingWrong : List Cond := .code yFo_firstGoingWrong cFo_firstGoingWrong 4 (some .int) :: tB
abbrev cFo_goesOnRightly : ByteArray := prog_5_method_4_code
abbrev yFo_goesOnRightly : MethodName := ⟨"CompiledProgram$Form", "goesOnRightly", "(LCompiledProgram$Program;IJ)Z"⟩
abbrev wsFo_goesOnRightly : List Cond := .code yFo_goesOnRightly cFo_goesOnRightly 4 (some .boolean) :: tB
abbrev cFo_isStart : ByteArray := prog_5_method_5_code
abbrev yFo_isStart : MethodName := ⟨"CompiledProgram$Form", "isStart", "(LCompiledProgram$Program;J)Z"⟩
abbrev wsFo_isStart : List Cond := .code yFo_isStart cFo_isStart 3 (some .boolean) :: tB
abbrev cFo_isInstruction : ByteArray := prog_5_method_6_code
abbrev yFo_isInstruction : MethodName := ⟨"CompiledProgram$Form", "isInstruction", "(J)Z"⟩
abbrev wsFo_isInstruction : List Cond := .code yFo_isInstruction cFo_isInstruction 2 (some .boolean) :: tB
abbrev cFo_isFirstOfTwo : ByteArray := prog_5_method_7_code
abbrev yFo_isFirstOfTwo : MethodName := ⟨"CompiledProgram$Form", "isFirstOfTwo", "(J)Z"⟩
abbrev wsFo_isFirstOfTwo : List Cond := .code yFo_isFirstOfTwo cFo_isFirstOfTwo 3 (some .boolean) :: tB
abbrev cFo_isSecondOf : ByteArray := prog_5_method_8_code
abbrev yFo_isSecondOf : MethodName := ⟨"CompiledProgram$Form", "isSecondOf", "(JJ)Z"⟩
abbrev wsFo_isSecondOf : List Cond := .code yFo_isSecondOf cFo_isSecondOf 5 (some .boolean) :: tB
abbrev cFo_isRead : ByteArray := prog_5_method_9_code
abbrev yFo_isRead : MethodName := ⟨"CompiledProgram$Form", "isRead", "(J)Z"⟩
abbrev wsFo_isRead : List Cond := .code yFo_isRead cFo_isRead 3 (some .boolean) :: tB
abbrev cFo_isWriteOfNumber : ByteArray := prog_5_method_10_code
abbrev yFo_isWriteOfNumber : MethodName := ⟨"CompiledProgram$Form", "isWriteOfNumber", "(J)Z"⟩
abbrev wsFo_isWriteOfNumber : List Cond := .code yFo_isWriteOfNumber cFo_isWriteOfNumber 2 (some .boolean) :: tB
abbrev cFo_isWriteOfRegister : ByteArray := prog_5_method_11_code
abbrev yFo_isWriteOfRegister : MethodName := ⟨"CompiledProgram$Form", "isWriteOfRegister", "(J)Z"⟩
abbrev wsFo_isWriteOfRegister : List Cond := .code yFo_isWriteOfRegister cFo_isWriteOfRegister 2 (some .boolean) :: tB
abbrev cFo_isExchange : ByteArray := prog_5_method_12_code
abbrev yFo_isExchange : MethodName := ⟨"CompiledProgram$Form", "isExchange", "(J)Z"⟩
abbrev wsFo_isExchange : List Cond := .code yFo_isExchange cFo_isExchange 2 (some .boolean) :: tB
abbrev cFo_isPerhapsJump : ByteArray := prog_5_method_13_code
abbrev yFo_isPerhapsJump : MethodName := ⟨"CompiledProgram$Form", "isPerhapsJump", "(J)Z"⟩
abbrev wsFo_isPerhapsJump : List Cond := .code yFo_isPerhapsJump cFo_isPerhapsJump 2 (some .boolean) :: tB
abbrev cFo_isCallOrExitOrJump : ByteArray := prog_5_method_14_code
abbrev yFo_isCallOrExitOrJump : MethodName := ⟨"CompiledProgram$Form", "isCallOrExitOrJump", "(J)Z"⟩
abbrev wsFo_isCallOrExitOrJump : List Cond := .code yFo_isCallOrExitOrJump cFo_isCallOrExitOrJump 2 (some .boolean) :: tB
abbrev cFo_hasOperand : ByteArray := prog_5_method_15_code
abbrev yFo_hasOperand : MethodName := ⟨"CompiledProgram$Form", "hasOperand", "(J)Z"⟩
abbrev wsFo_hasOperand : List Cond := .code yFo_hasOperand cFo_hasOperand 2 (some .boolean) :: tB
abbrev cFo_isArithmetic : ByteArray := prog_5_method_16_code
abbrev yFo_isArithmetic : MethodName := ⟨"CompiledProgram$Form", "isArithmetic", "(J)Z"⟩
abbrev wsFo_isArithmetic : List Cond := .code yFo_isArithmetic cFo_isArithmetic 2 (some .boolean) :: tB
abbrev cFo_isMoveOffset : ByteArray := prog_5_method_17_code
abbrev yFo_isMoveOffset : MethodName := ⟨"CompiledProgram$Form", "isMoveOffset", "(J)Z"⟩
abbrev wsFo_isMoveOffset : List Cond := .code yFo_isMoveOffset cFo_isMoveOffset 2 (some .boolean) :: tB
abbrev cFo_isTurning : ByteArray := prog_5_method_18_code
abbrev yFo_isTurning : MethodName := ⟨"CompiledProgram$Form", "isTurning", "(J)Z"⟩
abbrev wsFo_isTurning : List Cond := .code yFo_isTurning cFo_isTurning 3 (some .boolean) :: tB
abbrev cMa_follow : ByteArray := prog_6_method_2_code
abbrev yMa_follow : MethodName := ⟨"CompiledProgram$Machine", "follow", "(LCompiledProgram$Program;I)I"⟩
abbrev wsMa_follow : List Cond := .code yMa_follow cMa_follow 5 (some .int) :: tB
abbrev cMa_x : ByteArray := prog_6_method_3_code
abbrev yMa_x : MethodName := ⟨"CompiledProgram$Machine", "x", "(J)J"⟩
abbrev wsMa_x : List Cond := .code yMa_x cMa_x 3 (some .long) :: tB
abbrev cMa_y : ByteArray := prog_6_method_4_code
abbrev yMa_y : MethodName := ⟨"CompiledProgram$Machine", "y", "(J)J"⟩
abbrev wsMa_y : List Cond := .code yMa_y cMa_y 3 (some .long) :: tB
abbrev cMa_operand : ByteArray := prog_6_method_5_code
abbrev yMa_operand : MethodName := ⟨"CompiledProgram$Machine", "operand", "(J)J"⟩
abbrev wsMa_operand : List Cond := .code yMa_operand cMa_operand 3 (some .long) :: tB
abbrev cMa_takeTwoPlaces : ByteArray := prog_6_method_6_code
abbrev yMa_takeTwoPlaces : MethodName := ⟨"CompiledProgram$Machine", "takeTwoPlaces", "(JJ)V"⟩
abbrev wsMa_takeTwoPlaces : List Cond := .code yMa_takeTwoPlaces cMa_takeTwoPlaces 7 none :: tB
abbrev cMa_read : ByteArray := prog_6_method_7_code
abbrev yMa_read : MethodName := ⟨"CompiledProgram$Machine", "read", "(J)Z"⟩
abbrev wsMa_read : List Cond := .code yMa_read cMa_read 8 (some .boolean) :: tB
abbrev cMa_write : ByteArray := prog_6_method_8_code
abbrev yMa_write : MethodName := ⟨"CompiledProgram$Machine", "write", "(JJ)Z"⟩
abbrev wsMa_write : List Cond := .code yMa_write cMa_write 8 (some .boolean) :: tB
abbrev cMa_exchange : ByteArray := prog_6_method_9_code
abbrev yMa_exchange : MethodName := ⟨"CompiledProgram$Machine", "exchange", "(J)Z"⟩
abbrev wsMa_exchange : List Cond := .code yMa_exchange cMa_exchange 10 (some .boolean) :: tB
abbrev cMa_jump : ByteArray := prog_6_method_10_code
abbrev yMa_jump : MethodName := ⟨"CompiledProgram$Machine", "jump", "(IJ)I"⟩
abbrev wsMa_jump : List Cond := .code yMa_jump cMa_jump 4 (some .int) :: tB
abbrev cMa_takesJump : ByteArray := prog_6_method_11_code
abbrev yMa_takesJump : MethodName := ⟨"CompiledProgram$Machine", "takesJump", "(J)Z"⟩
abbrev wsMa_takesJump : List Cond := .code yMa_takesJump cMa_takesJump 7 (some .boolean) :: tB
abbrev cMa_answerCall : ByteArray := prog_6_method_12_code
abbrev yMa_answerCall : MethodName := ⟨"CompiledProgram$Machine", "answerCall", "(I)V"⟩
abbrev wsMa_answerCall : List Cond := .code yMa_answerCall cMa_answerCall 5 none :: tB
abbrev cMa_computed : ByteArray := prog_6_method_13_code
abbrev yMa_computed : MethodName := ⟨"CompiledProgram$Machine", "computed", "(J)J"⟩
abbrev wsMa_computed : List Cond := .code yMa_computed cMa_computed 4 (some .long) :: tB
abbrev cMa_turnedOrCut : ByteArray := prog_6_method_14_code
abbrev yMa_turnedOrCut : MethodName := ⟨"CompiledProgram$Machine", "turnedOrCut", "(J)J"⟩
abbrev wsMa_turnedOrCut : List Cond := .code yMa_turnedOrCut cMa_turnedOrCut 5 (some .long) :: tB
abbrev cMe_holds : ByteArray := prog_7_method_2_code
abbrev yMe_holds : MethodName := ⟨"CompiledProgram$Memory", "holds", "(JI)Z"⟩
abbrev wsMe_holds : List Cond := .code yMe_holds cMe_holds 6 (some .boolean) :: tB
abbrev cMe_read : ByteArray := prog_7_method_3_code
abbrev yMe_read : MethodName := ⟨"CompiledProgram$Memory", "read", "(JI)J"⟩
abbrev wsMe_read : List Cond := .code yMe_read cMe_read 8 (some .long) :: tB
abbrev cMe_write : ByteArray := prog_7_method_4_code
abbrev yMe_write : MethodName := ⟨"CompiledProgram$Memory", "write", "(JIJ)V"⟩
abbrev wsMe_write : List Cond := .code yMe_write cMe_write 8 none :: tB
abbrev cPr_has : ByteArray := prog_8_method_3_code
abbrev yPr_has : MethodName := ⟨"CompiledProgram$Program", "has", "(J)Z"⟩
abbrev wsPr_has : List Cond := .code yPr_has cPr_has 3 (some .boolean) :: tB
abbrev cPr_at : ByteArray := prog_8_method_4_code
abbrev yPr_at : MethodName := ⟨"CompiledProgram$Program", "at", "(I)J"⟩
abbrev wsPr_at : List Cond := .code yPr_at cPr_at 2 (some .long) :: tB
abbrev cTa_hasRoom : ByteArray := prog_9_method_2_code
abbrev yTa_hasRoom : MethodName := ⟨"CompiledProgram$Tape", "hasRoom", "()Z"⟩
abbrev wsTa_hasRoom : List Cond := .code yTa_hasRoom cTa_hasRoom 1 (some .boolean) :: tB
abbrev cTa_type : ByteArray := prog_9_method_4_code
abbrev yTa_type : MethodName := ⟨"CompiledProgram$Tape", "type", "(I)V"⟩
abbrev wsTa_type : List Cond := .code yTa_type cTa_type 2 none :: tB
abbrev cTa_placeAt : ByteArray := prog_9_method_5_code
abbrev yTa_placeAt : MethodName := ⟨"CompiledProgram$Tape", "placeAt", "(I)J"⟩
abbrev wsTa_placeAt : List Cond := .code yTa_placeAt cTa_placeAt 6 (some .long) :: tB
abbrev cJl_reverseBytes : ByteArray := prog_17_method_58_code
abbrev yJl_reverseBytes : MethodName := ⟨"java/lang/Long", "reverseBytes", "(J)J"⟩
abbrev wsJl_reverseBytes : List Cond := .code yJl_reverseBytes cJl_reverseBytes 2 (some .long) :: tB
end
section
theorem mw_3 : (.initialized "CompiledProgram$Program" : Cond) ∈ tB := tB_of (List.mem_append_right _ (List.mem_of_getElem? (i := 3) (by decide +kernel))) rfl
theorem mw_4 : (.initialized "CompiledProgram$Machine" : Cond) ∈ tB := tB_of (List.mem_append_right _ (List.mem_of_getElem? (i := 4) (by decide +kernel))) rfl
theorem mw_5 : (.initialized "CompiledProgram$Memory" : Cond) ∈ tB := tB_of (List.mem_append_right _ (List.mem_of_getElem? (i := 5) (by decide +kernel))) rfl
theorem mw_15 : (.initialized "CompiledProgram$Form" : Cond) ∈ tB := tB_of (List.mem_append_right _ (List.mem_of_getElem? (i := 15) (by decide +kernel))) rfl
theorem mw_16 : (.initialized "CompiledProgram$Fields" : Cond) ∈ tB := tB_of (List.mem_append_right _ (List.mem_of_getElem? (i := 16) (by decide +kernel))) rfl
theorem mw_17 : (.initialized "CompiledProgram$Exchange" : Cond) ∈ tB := tB_of (List.mem_append_right _ (List.mem_of_getElem? (i := 17) (by decide +kernel))) rfl
theorem mw_19 : (.initialized "CompiledProgram$Arithmetic" : Cond) ∈ tB := tB_of (List.mem_append_right _ (List.mem_of_getElem? (i := 19) (by decide +kernel))) rfl
theorem mw_20 : (.initialized "java/lang/Long" : Cond) ∈ tB := tB_of (List.mem_append_right _ (List.mem_of_getElem? (i := 20) (by decide +kernel))) rfl
theorem mw_35 : (.fieldLink "CompiledProgram$Tape" 7 "CompiledProgram$Tape" "bytes" "[B" : Cond) ∈ tB := tB_of (List.mem_append_right _ (List.mem_of_getElem? (i := 35) (by decide +kernel))) rfl
theorem mw_36 : (.fieldLink "CompiledProgram$Tape" 13 "CompiledProgram$Tape" "length" "I" : Cond) ∈ tB := tB_of (List.mem_append_right _ (List.mem_of_getElem? (i := 36) (by decide +kernel))) rfl
theorem mw_51 : (.fieldLink "CompiledProgram$Program" 7 "CompiledProgram$Program" "row" "[J" : Cond) ∈ tB := tB_of (List.mem_append_right _ (List.mem_of_getElem? (i := 51) (by decide +kernel))) rfl
theorem mw_52 : (.fieldLink "CompiledProgram$Program" 13 "CompiledProgram$Program" "count" "I" : Cond) ∈ tB := tB_of (List.mem_append_right _ (List.mem_of_getElem? (i := 52) (by decide +kernel))) rfl
theorem mw_53 : (.fieldLink "CompiledProgram$Form" 9 "CompiledProgram$Program" "count" "I" : Cond) ∈ tB := tB_of (List.mem_append_right _ (List.mem_of_getElem? (i := 53) (by decide +kernel))) rfl
theorem mw_73 : (.fieldLink "CompiledProgram$Memory" 9 "CompiledProgram$Memory" "bytes" "[B" : Cond) ∈ tB := tB_of (List.mem_append_right _ (List.mem_of_getElem? (i := 73) (by decide +kernel))) rfl
theorem mw_77 : (.fieldLink "CompiledProgram$Machine" 7 "CompiledProgram$Machine" "registers" "[J" : Cond) ∈ tB := tB_of (List.mem_append_right _ (List.mem_of_getElem? (i := 77) (by decide +kernel))) rfl
theorem mw_79 : (.fieldLink "CompiledProgram$Machine" 16 "CompiledProgram$Machine" "memory" "LCompiledProgram$Memory;" : Cond) ∈ tB := tB_of (List.mem_append_right _ (List.mem_of_getElem? (i := 79) (by decide +kernel))) rfl
theorem mw_120 : (.methodLink "CompiledProgram$Form" 15 ⟨"CompiledProgram$Program", "at", "(I)J"⟩ : Cond) ∈ tB := tB_of (List.mem_append_right _ (List.mem_of_getElem? (i := 120) (by decide +kernel))) rfl
theorem mw_121 : (.instanceMethod ⟨"CompiledProgram$Program", "at", "(I)J"⟩ : Cond) ∈ tB := tB_of (List.mem_append_right _ (List.mem_of_getElem? (i := 121) (by decide +kernel))) rfl
theorem mw_122 : (.selects "CompiledProgram$Program" ⟨"CompiledProgram$Program", "at", "(I)J"⟩ ⟨"CompiledProgram$Program", "at", "(I)J"⟩ : Cond) ∈ tB := tB_of (List.mem_append_right _ (List.mem_of_getElem? (i := 122) (by decide +kernel))) rfl
set_option maxRecDepth 100000 in
theorem mw_123 : (.code ⟨"CompiledProgram$Program", "at", "(I)J"⟩ prog_8_method_4_code 2 (some FieldType.long) : Cond) ∈ tB := tB_of (List.mem_append_right _ (List.mem_of_getElem? (i := 123) rfl)) rfl
theorem mw_124 : (.methodLink "CompiledProgram$Program" 32 ⟨"CompiledProgram$Program", "has", "(J)Z"⟩ : Cond) ∈ tB := tB_of (List.mem_append_right _ (List.mem_of_getElem? (i := 124) (by decide +kernel))) rfl
theorem mw_125 : (.instanceMethod ⟨"CompiledProgram$Program", "has", "(J)Z"⟩ : Cond) ∈ tB := tB_of (List.mem_append_right _ (List.mem_of_getElem? (i := 125) (by decide +kernel))) rfl
theorem mw_126 : (.selects "CompiledProgram$Program" ⟨"CompiledProgram$Program", "has", "(J)Z"⟩ ⟨"CompiledProgram$Program", "has", "(J)Z"⟩ : Cond) ∈ tB := tB_of (List.mem_append_right _ (List.mem_of_getElem? (i := 126) (by decide +kernel))) rfl
set_option maxRecDepth 100000 in
theorem mw_127 : (.code ⟨"CompiledProgram$Program", "has", "(J)Z"⟩ prog_8_method_3_code 3 (some FieldType.boolean) : Cond) ∈ tB := tB_of (List.mem_append_right _ (List.mem_of_getElem? (i := 127) rfl)) rfl
theorem mw_128 : (.methodLink "CompiledProgram$Form" 19 ⟨"CompiledProgram$Form", "isInstruction", "(J)Z"⟩ : Cond) ∈ tB := tB_of (List.mem_append_right _ (List.mem_of_getElem? (i := 128) (by decide +kernel))) rfl
theorem mw_129 : (.static ⟨"CompiledProgram$Form", "isInstruction", "(J)Z"⟩ : Cond) ∈ tB := tB_of (List.mem_append_right _ (List.mem_of_getElem? (i := 129) (by decide +kernel))) rfl
set_option maxRecDepth 100000 in
theorem mw_130 : (.code ⟨"CompiledProgram$Form", "isInstruction", "(J)Z"⟩ prog_5_method_6_code 2 (some FieldType.boolean) : Cond) ∈ tB := tB_of (List.mem_append_right _ (List.mem_of_getElem? (i := 130) rfl)) rfl
theorem mw_131 : (.methodLink "CompiledProgram$Form" 62 ⟨"CompiledProgram$Fields", "kind", "(J)I"⟩ : Cond) ∈ tB := tB_of (List.mem_append_right _ (List.mem_of_getElem? (i := 131) (by decide +kernel))) rfl
theorem mw_132 : (.static ⟨"CompiledProgram$Fields", "kind", "(J)I"⟩ : Cond) ∈ tB := tB_of (List.mem_append_right _ (List.mem_of_getElem? (i := 132) (by decide +kernel))) rfl
set_option maxRecDepth 100000 in
theorem mw_133 : (.code ⟨"CompiledProgram$Fields", "kind", "(J)I"⟩ prog_4_method_3_code 2 (some FieldType.int) : Cond) ∈ tB := tB_of (List.mem_append_right _ (List.mem_of_getElem? (i := 133) rfl)) rfl
theorem mw_134 : (.methodLink "CompiledProgram$Form" 65 ⟨"CompiledProgram$Form", "isFirstOfTwo", "(J)Z"⟩ : Cond) ∈ tB := tB_of (List.mem_append_right _ (List.mem_of_getElem? (i := 134) (by decide +kernel))) rfl
theorem mw_135 : (.static ⟨"CompiledProgram$Form", "isFirstOfTwo", "(J)Z"⟩ : Cond) ∈ tB := tB_of (List.mem_append_right _ (List.mem_of_getElem? (i := 135) (by decide +kernel))) rfl
set_option maxRecDepth 100000 in
theorem mw_136 : (.code ⟨"CompiledProgram$Form", "isFirstOfTwo", "(J)Z"⟩ prog_5_method_7_code 3 (some FieldType.boolean) : Cond) ∈ tB := tB_of (List.mem_append_right _ (List.mem_of_getElem? (i := 136) rfl)) rfl
theorem mw_137 : (.methodLink "CompiledProgram$Form" 92 ⟨"CompiledProgram$Fields", "source", "(J)I"⟩ : Cond) ∈ tB := tB_of (List.mem_append_right _ (List.mem_of_getElem? (i := 137) (by decide +kernel))) rfl
theorem mw_138 : (.static ⟨"CompiledProgram$Fields", "source", "(J)I"⟩ : Cond) ∈ tB := tB_of (List.mem_append_right _ (List.mem_of_getElem? (i := 138) (by decide +kernel))) rfl
set_option maxRecDepth 100000 in
theorem mw_139 : (.code ⟨"CompiledProgram$Fields", "source", "(J)I"⟩ prog_4_method_9_code 2 (some FieldType.int) : Cond) ∈ tB := tB_of (List.mem_append_right _ (List.mem_of_getElem? (i := 139) rfl)) rfl
theorem mw_140 : (.methodLink "CompiledProgram$Form" 25 ⟨"CompiledProgram$Fields", "isTwoPlaces", "(J)Z"⟩ : Cond) ∈ tB := tB_of (List.mem_append_right _ (List.mem_of_getElem? (i := 140) (by decide +kernel))) rfl
theorem mw_141 : (.static ⟨"CompiledProgram$Fields", "isTwoPlaces", "(J)Z"⟩ : Cond) ∈ tB := tB_of (List.mem_append_right _ (List.mem_of_getElem? (i := 141) (by decide +kernel))) rfl
set_option maxRecDepth 100000 in
theorem mw_142 : (.code ⟨"CompiledProgram$Fields", "isTwoPlaces", "(J)Z"⟩ prog_4_method_12_code 2 (some FieldType.boolean) : Cond) ∈ tB := tB_of (List.mem_append_right _ (List.mem_of_getElem? (i := 142) rfl)) rfl
theorem mw_143 : (.methodLink "CompiledProgram$Fields" 9 ⟨"CompiledProgram$Fields", "code", "(J)I"⟩ : Cond) ∈ tB := tB_of (List.mem_append_right _ (List.mem_of_getElem? (i := 143) (by decide +kernel))) rfl
theorem mw_144 : (.static ⟨"CompiledProgram$Fields", "code", "(J)I"⟩ : Cond) ∈ tB := tB_of (List.mem_append_right _ (List.mem_of_getElem? (i := 144) (by decide +kernel))) rfl
set_option maxRecDepth 100000 in
theorem mw_145 : (.code ⟨"CompiledProgram$Fields", "code", "(J)I"⟩ prog_4_method_2_code 2 (some FieldType.int) : Cond) ∈ tB := tB_of (List.mem_append_right _ (List.mem_of_getElem? (i := 145) rfl)) rfl
theorem mw_146 : (.methodLink "CompiledProgram$Form" 95 ⟨"CompiledProgram$Fields", "target", "(J)I"⟩ : Cond) ∈ tB := tB_of (List.mem_append_right _ (List.mem_of_getElem? (i := 146) (by decide +kernel))) rfl
theorem mw_147 : (.static ⟨"CompiledProgram$Fields", "target", "(J)I"⟩ : Cond) ∈ tB := tB_of (List.mem_append_right _ (List.mem_of_getElem? (i := 147) (by decide +kernel))) rfl
set_option maxRecDepth 100000 in
theorem mw_148 : (.code ⟨"CompiledProgram$Fields", "target", "(J)I"⟩ prog_4_method_8_code 2 (some FieldType.int) : Cond) ∈ tB := tB_of (List.mem_append_right _ (List.mem_of_getElem? (i := 148) rfl)) rfl
theorem mw_149 : (.methodLink "CompiledProgram$Form" 98 ⟨"CompiledProgram$Fields", "offset", "(J)I"⟩ : Cond) ∈ tB := tB_of (List.mem_append_right _ (List.mem_of_getElem? (i := 149) (by decide +kernel))) rfl
theorem mw_150 : (.static ⟨"CompiledProgram$Fields", "offset", "(J)I"⟩ : Cond) ∈ tB := tB_of (List.mem_append_right _ (List.mem_of_getElem? (i := 150) (by decide +kernel))) rfl
set_option maxRecDepth 100000 in
theorem mw_151 : (.code ⟨"CompiledProgram$Fields", "offset", "(J)I"⟩ prog_4_method_10_code 2 (some FieldType.int) : Cond) ∈ tB := tB_of (List.mem_append_right _ (List.mem_of_getElem? (i := 151) rfl)) rfl
theorem mw_152 : (.methodLink "CompiledProgram$Form" 101 ⟨"CompiledProgram$Fields", "immediate", "(J)I"⟩ : Cond) ∈ tB := tB_of (List.mem_append_right _ (List.mem_of_getElem? (i := 152) (by decide +kernel))) rfl
theorem mw_153 : (.static ⟨"CompiledProgram$Fields", "immediate", "(J)I"⟩ : Cond) ∈ tB := tB_of (List.mem_append_right _ (List.mem_of_getElem? (i := 153) (by decide +kernel))) rfl
set_option maxRecDepth 100000 in
theorem mw_154 : (.code ⟨"CompiledProgram$Fields", "immediate", "(J)I"⟩ prog_4_method_11_code 2 (some FieldType.int) : Cond) ∈ tB := tB_of (List.mem_append_right _ (List.mem_of_getElem? (i := 154) rfl)) rfl
theorem mw_155 : (.methodLink "CompiledProgram$Form" 68 ⟨"CompiledProgram$Form", "isRead", "(J)Z"⟩ : Cond) ∈ tB := tB_of (List.mem_append_right _ (List.mem_of_getElem? (i := 155) (by decide +kernel))) rfl
theorem mw_156 : (.static ⟨"CompiledProgram$Form", "isRead", "(J)Z"⟩ : Cond) ∈ tB := tB_of (List.mem_append_right _ (List.mem_of_getElem? (i := 156) (by decide +kernel))) rfl
set_option maxRecDepth 100000 in
theorem mw_157 : (.code ⟨"CompiledProgram$Form", "isRead", "(J)Z"⟩ prog_5_method_9_code 3 (some FieldType.boolean) : Cond) ∈ tB := tB_of (List.mem_append_right _ (List.mem_of_getElem? (i := 157) rfl)) rfl
theorem mw_158 : (.methodLink "CompiledProgram$Form" 74 ⟨"CompiledProgram$Fields", "mode", "(J)I"⟩ : Cond) ∈ tB := tB_of (List.mem_append_right _ (List.mem_of_getElem? (i := 158) (by decide +kernel))) rfl
theorem mw_159 : (.static ⟨"CompiledProgram$Fields", "mode", "(J)I"⟩ : Cond) ∈ tB := tB_of (List.mem_append_right _ (List.mem_of_getElem? (i := 159) (by decide +kernel))) rfl
set_option maxRecDepth 100000 in
theorem mw_160 : (.code ⟨"CompiledProgram$Fields", "mode", "(J)I"⟩ prog_4_method_6_code 2 (some FieldType.int) : Cond) ∈ tB := tB_of (List.mem_append_right _ (List.mem_of_getElem? (i := 160) rfl)) rfl
theorem mw_161 : (.methodLink "CompiledProgram$Form" 104 ⟨"CompiledProgram$Fields", "size", "(J)I"⟩ : Cond) ∈ tB := tB_of (List.mem_append_right _ (List.mem_of_getElem? (i := 161) (by decide +kernel))) rfl
theorem mw_162 : (.static ⟨"CompiledProgram$Fields", "size", "(J)I"⟩ : Cond) ∈ tB := tB_of (List.mem_append_right _ (List.mem_of_getElem? (i := 162) (by decide +kernel))) rfl
set_option maxRecDepth 100000 in
theorem mw_163 : (.code ⟨"CompiledProgram$Fields", "size", "(J)I"⟩ prog_4_method_7_code 2 (some FieldType.int) : Cond) ∈ tB := tB_of (List.mem_append_right _ (List.mem_of_getElem? (i := 163) rfl)) rfl
theorem mw_164 : (.methodLink "CompiledProgram$Form" 71 ⟨"CompiledProgram$Form", "isWriteOfNumber", "(J)Z"⟩ : Cond) ∈ tB := tB_of (List.mem_append_right _ (List.mem_of_getElem? (i := 164) (by decide +kernel))) rfl
theorem mw_165 : (.static ⟨"CompiledProgram$Form", "isWriteOfNumber", "(J)Z"⟩ : Cond) ∈ tB := tB_of (List.mem_append_right _ (List.mem_of_getElem? (i := 165) (by decide +kernel))) rfl
set_option maxRecDepth 100000 in
theorem mw_166 : (.code ⟨"CompiledProgram$Form", "isWriteOfNumber", "(J)Z"⟩ prog_5_method_10_code 2 (some FieldType.boolean) : Cond) ∈ tB := tB_of (List.mem_append_right _ (List.mem_of_getElem? (i := 166) rfl)) rfl
theorem mw_167 : (.methodLink "CompiledProgram$Form" 77 ⟨"CompiledProgram$Form", "isExchange", "(J)Z"⟩ : Cond) ∈ tB := tB_of (List.mem_append_right _ (List.mem_of_getElem? (i := 167) (by decide +kernel))) rfl
theorem mw_168 : (.static ⟨"CompiledProgram$Form", "isExchange", "(J)Z"⟩ : Cond) ∈ tB := tB_of (List.mem_append_right _ (List.mem_of_getElem? (i := 168) (by decide +kernel))) rfl
set_option maxRecDepth 100000 in
theorem mw_169 : (.code ⟨"CompiledProgram$Form", "isExchange", "(J)Z"⟩ prog_5_method_12_code 2 (some FieldType.boolean) : Cond) ∈ tB := tB_of (List.mem_append_right _ (List.mem_of_getElem? (i := 169) rfl)) rfl
theorem mw_170 : (.methodLink "CompiledProgram$Form" 107 ⟨"CompiledProgram$Exchange", "isKnown", "(I)Z"⟩ : Cond) ∈ tB := tB_of (List.mem_append_right _ (List.mem_of_getElem? (i := 170) (by decide +kernel))) rfl
theorem mw_171 : (.static ⟨"CompiledProgram$Exchange", "isKnown", "(I)Z"⟩ : Cond) ∈ tB := tB_of (List.mem_append_right _ (List.mem_of_getElem? (i := 171) (by decide +kernel))) rfl
set_option maxRecDepth 100000 in
theorem mw_172 : (.code ⟨"CompiledProgram$Exchange", "isKnown", "(I)Z"⟩ prog_3_method_2_code 1 (some FieldType.boolean) : Cond) ∈ tB := tB_of (List.mem_append_right _ (List.mem_of_getElem? (i := 172) rfl)) rfl
theorem mw_173 : (.methodLink "CompiledProgram$Form" 113 ⟨"CompiledProgram$Exchange", "changesSource", "(I)Z"⟩ : Cond) ∈ tB := tB_of (List.mem_append_right _ (List.mem_of_getElem? (i := 173) (by decide +kernel))) rfl
theorem mw_174 : (.static ⟨"CompiledProgram$Exchange", "changesSource", "(I)Z"⟩ : Cond) ∈ tB := tB_of (List.mem_append_right _ (List.mem_of_getElem? (i := 174) (by decide +kernel))) rfl
set_option maxRecDepth 100000 in
theorem mw_175 : (.code ⟨"CompiledProgram$Exchange", "changesSource", "(I)Z"⟩ prog_3_method_3_code 1 (some FieldType.boolean) : Cond) ∈ tB := tB_of (List.mem_append_right _ (List.mem_of_getElem? (i := 175) rfl)) rfl
theorem mw_176 : (.methodLink "CompiledProgram$Form" 80 ⟨"CompiledProgram$Form", "isWriteOfRegister", "(J)Z"⟩ : Cond) ∈ tB := tB_of (List.mem_append_right _ (List.mem_of_getElem? (i := 176) (by decide +kernel))) rfl
theorem mw_177 : (.static ⟨"CompiledProgram$Form", "isWriteOfRegister", "(J)Z"⟩ : Cond) ∈ tB := tB_of (List.mem_append_right _ (List.mem_of_getElem? (i := 177) (by decide +kernel))) rfl
set_option maxRecDepth 100000 in
theorem mw_178 : (.code ⟨"CompiledProgram$Form", "isWriteOfRegister", "(J)Z"⟩ prog_5_method_11_code 2 (some FieldType.boolean) : Cond) ∈ tB := tB_of (List.mem_append_right _ (List.mem_of_getElem? (i := 178) rfl)) rfl
theorem mw_179 : (.methodLink "CompiledProgram$Form" 55 ⟨"CompiledProgram$Fields", "jumpsPerhaps", "(J)Z"⟩ : Cond) ∈ tB := tB_of (List.mem_append_right _ (List.mem_of_getElem? (i := 179) (by decide +kernel))) rfl
theorem mw_180 : (.static ⟨"CompiledProgram$Fields", "jumpsPerhaps", "(J)Z"⟩ : Cond) ∈ tB := tB_of (List.mem_append_right _ (List.mem_of_getElem? (i := 180) (by decide +kernel))) rfl
set_option maxRecDepth 100000 in
theorem mw_181 : (.code ⟨"CompiledProgram$Fields", "jumpsPerhaps", "(J)Z"⟩ prog_4_method_16_code 4 (some FieldType.boolean) : Cond) ∈ tB := tB_of (List.mem_append_right _ (List.mem_of_getElem? (i := 181) rfl)) rfl
theorem mw_182 : (.methodLink "CompiledProgram$Fields" 15 ⟨"CompiledProgram$Fields", "operation", "(J)I"⟩ : Cond) ∈ tB := tB_of (List.mem_append_right _ (List.mem_of_getElem? (i := 182) (by decide +kernel))) rfl
theorem mw_183 : (.static ⟨"CompiledProgram$Fields", "operation", "(J)I"⟩ : Cond) ∈ tB := tB_of (List.mem_append_right _ (List.mem_of_getElem? (i := 183) (by decide +kernel))) rfl
set_option maxRecDepth 100000 in
theorem mw_184 : (.code ⟨"CompiledProgram$Fields", "operation", "(J)I"⟩ prog_4_method_4_code 2 (some FieldType.int) : Cond) ∈ tB := tB_of (List.mem_append_right _ (List.mem_of_getElem? (i := 184) rfl)) rfl
theorem mw_185 : (.methodLink "CompiledProgram$Fields" 18 ⟨"CompiledProgram$Fields", "kind", "(J)I"⟩ : Cond) ∈ tB := tB_of (List.mem_append_right _ (List.mem_of_getElem? (i := 185) (by decide +kernel))) rfl
theorem mw_186 : (.methodLink "CompiledProgram$Form" 83 ⟨"CompiledProgram$Form", "isPerhapsJump", "(J)Z"⟩ : Cond) ∈ tB := tB_of (List.mem_append_right _ (List.mem_of_getElem? (i := 186) (by decide +kernel))) rfl
theorem mw_187 : (.static ⟨"CompiledProgram$Form", "isPerhapsJump", "(J)Z"⟩ : Cond) ∈ tB := tB_of (List.mem_append_right _ (List.mem_of_getElem? (i := 187) (by decide +kernel))) rfl
set_option maxRecDepth 100000 in
theorem mw_188 : (.code ⟨"CompiledProgram$Form", "isPerhapsJump", "(J)Z"⟩ prog_5_method_13_code 2 (some FieldType.boolean) : Cond) ∈ tB := tB_of (List.mem_append_right _ (List.mem_of_getElem? (i := 188) rfl)) rfl
theorem mw_189 : (.methodLink "CompiledProgram$Form" 116 ⟨"CompiledProgram$Form", "hasOperand", "(J)Z"⟩ : Cond) ∈ tB := tB_of (List.mem_append_right _ (List.mem_of_getElem? (i := 189) (by decide +kernel))) rfl
theorem mw_190 : (.static ⟨"CompiledProgram$Form", "hasOperand", "(J)Z"⟩ : Cond) ∈ tB := tB_of (List.mem_append_right _ (List.mem_of_getElem? (i := 190) (by decide +kernel))) rfl
set_option maxRecDepth 100000 in
theorem mw_191 : (.code ⟨"CompiledProgram$Form", "hasOperand", "(J)Z"⟩ prog_5_method_15_code 2 (some FieldType.boolean) : Cond) ∈ tB := tB_of (List.mem_append_right _ (List.mem_of_getElem? (i := 191) rfl)) rfl
theorem mw_192 : (.methodLink "CompiledProgram$Form" 119 ⟨"CompiledProgram$Fields", "usesSource", "(J)Z"⟩ : Cond) ∈ tB := tB_of (List.mem_append_right _ (List.mem_of_getElem? (i := 192) (by decide +kernel))) rfl
theorem mw_193 : (.static ⟨"CompiledProgram$Fields", "usesSource", "(J)Z"⟩ : Cond) ∈ tB := tB_of (List.mem_append_right _ (List.mem_of_getElem? (i := 193) (by decide +kernel))) rfl
set_option maxRecDepth 100000 in
theorem mw_194 : (.code ⟨"CompiledProgram$Fields", "usesSource", "(J)Z"⟩ prog_4_method_5_code 2 (some FieldType.boolean) : Cond) ∈ tB := tB_of (List.mem_append_right _ (List.mem_of_getElem? (i := 194) rfl)) rfl
theorem mw_195 : (.constantLong "CompiledProgram$Fields" 7 8 : Cond) ∈ tB := tB_of (List.mem_append_right _ (List.mem_of_getElem? (i := 195) (by decide +kernel))) rfl
theorem mw_196 : (.methodLink "CompiledProgram$Form" 86 ⟨"CompiledProgram$Form", "isCallOrExitOrJump", "(J)Z"⟩ : Cond) ∈ tB := tB_of (List.mem_append_right _ (List.mem_of_getElem? (i := 196) (by decide +kernel))) rfl
theorem mw_197 : (.static ⟨"CompiledProgram$Form", "isCallOrExitOrJump", "(J)Z"⟩ : Cond) ∈ tB := tB_of (List.mem_append_right _ (List.mem_of_getElem? (i := 197) (by decide +kernel))) rfl
set_option maxRecDepth 100000 in
theorem mw_198 : (.code ⟨"CompiledProgram$Form", "isCallOrExitOrJump", "(J)Z"⟩ prog_5_method_14_code 2 (some FieldType.boolean) : Cond) ∈ tB := tB_of (List.mem_append_right _ (List.mem_of_getElem? (i := 198) rfl)) rfl
theorem mw_199 : (.methodLink "CompiledProgram$Form" 58 ⟨"CompiledProgram$Fields", "code", "(J)I"⟩ : Cond) ∈ tB := tB_of (List.mem_append_right _ (List.mem_of_getElem? (i := 199) (by decide +kernel))) rfl
theorem mw_200 : (.methodLink "CompiledProgram$Form" 89 ⟨"CompiledProgram$Form", "isArithmetic", "(J)Z"⟩ : Cond) ∈ tB := tB_of (List.mem_append_right _ (List.mem_of_getElem? (i := 200) (by decide +kernel))) rfl
theorem mw_201 : (.static ⟨"CompiledProgram$Form", "isArithmetic", "(J)Z"⟩ : Cond) ∈ tB := tB_of (List.mem_append_right _ (List.mem_of_getElem? (i := 201) (by decide +kernel))) rfl
set_option maxRecDepth 100000 in
theorem mw_202 : (.code ⟨"CompiledProgram$Form", "isArithmetic", "(J)Z"⟩ prog_5_method_16_code 2 (some FieldType.boolean) : Cond) ∈ tB := tB_of (List.mem_append_right _ (List.mem_of_getElem? (i := 202) rfl)) rfl
theorem mw_203 : (.methodLink "CompiledProgram$Form" 122 ⟨"CompiledProgram$Fields", "operation", "(J)I"⟩ : Cond) ∈ tB := tB_of (List.mem_append_right _ (List.mem_of_getElem? (i := 203) (by decide +kernel))) rfl
theorem mw_204 : (.methodLink "CompiledProgram$Form" 125 ⟨"CompiledProgram$Form", "isMoveOffset", "(J)Z"⟩ : Cond) ∈ tB := tB_of (List.mem_append_right _ (List.mem_of_getElem? (i := 204) (by decide +kernel))) rfl
theorem mw_205 : (.static ⟨"CompiledProgram$Form", "isMoveOffset", "(J)Z"⟩ : Cond) ∈ tB := tB_of (List.mem_append_right _ (List.mem_of_getElem? (i := 205) (by decide +kernel))) rfl
set_option maxRecDepth 100000 in
theorem mw_206 : (.code ⟨"CompiledProgram$Form", "isMoveOffset", "(J)Z"⟩ prog_5_method_17_code 2 (some FieldType.boolean) : Cond) ∈ tB := tB_of (List.mem_append_right _ (List.mem_of_getElem? (i := 206) rfl)) rfl
theorem mw_207 : (.methodLink "CompiledProgram$Form" 128 ⟨"CompiledProgram$Form", "isTurning", "(J)Z"⟩ : Cond) ∈ tB := tB_of (List.mem_append_right _ (List.mem_of_getElem? (i := 207) (by decide +kernel))) rfl
theorem mw_208 : (.static ⟨"CompiledProgram$Form", "isTurning", "(J)Z"⟩ : Cond) ∈ tB := tB_of (List.mem_append_right _ (List.mem_of_getElem? (i := 208) (by decide +kernel))) rfl
set_option maxRecDepth 100000 in
theorem mw_209 : (.code ⟨"CompiledProgram$Form", "isTurning", "(J)Z"⟩ prog_5_method_18_code 3 (some FieldType.boolean) : Cond) ∈ tB := tB_of (List.mem_append_right _ (List.mem_of_getElem? (i := 209) rfl)) rfl
theorem mw_210 : (.methodLink "CompiledProgram$Form" 30 ⟨"CompiledProgram$Program", "has", "(J)Z"⟩ : Cond) ∈ tB := tB_of (List.mem_append_right _ (List.mem_of_getElem? (i := 210) (by decide +kernel))) rfl
theorem mw_211 : (.methodLink "CompiledProgram$Form" 33 ⟨"CompiledProgram$Form", "isSecondOf", "(JJ)Z"⟩ : Cond) ∈ tB := tB_of (List.mem_append_right _ (List.mem_of_getElem? (i := 211) (by decide +kernel))) rfl
theorem mw_212 : (.static ⟨"CompiledProgram$Form", "isSecondOf", "(JJ)Z"⟩ : Cond) ∈ tB := tB_of (List.mem_append_right _ (List.mem_of_getElem? (i := 212) (by decide +kernel))) rfl
set_option maxRecDepth 100000 in
theorem mw_213 : (.code ⟨"CompiledProgram$Form", "isSecondOf", "(JJ)Z"⟩ prog_5_method_8_code 5 (some FieldType.boolean) : Cond) ∈ tB := tB_of (List.mem_append_right _ (List.mem_of_getElem? (i := 213) rfl)) rfl
theorem mw_217 : (.methodLink "CompiledProgram$Form" 37 ⟨"CompiledProgram$Form", "goesOnRightly", "(LCompiledProgram$Program;IJ)Z"⟩ : Cond) ∈ tB := tB_of (List.mem_append_right _ (List.mem_of_getElem? (i := 217) (by decide +kernel))) rfl
theorem mw_218 : (.static ⟨"CompiledProgram$Form", "goesOnRightly", "(LCompiledProgram$Program;IJ)Z"⟩ : Cond) ∈ tB := tB_of (List.mem_append_right _ (List.mem_of_getElem? (i := 218) (by decide +kernel))) rfl
set_option maxRecDepth 100000 in
theorem mw_219 : (.code ⟨"CompiledProgram$Form", "goesOnRightly", "(LCompiledProgram$Program;IJ)Z"⟩ prog_5_method_4_code 4 (some FieldType.boolean) : Cond) ∈ tB := tB_of (List.mem_append_right _ (List.mem_of_getElem? (i := 219) rfl)) rfl
theorem mw_220 : (.methodLink "CompiledProgram$Form" 41 ⟨"CompiledProgram$Fields", "isExit", "(J)Z"⟩ : Cond) ∈ tB := tB_of (List.mem_append_right _ (List.mem_of_getElem? (i := 220) (by decide +kernel))) rfl
theorem mw_221 : (.static ⟨"CompiledProgram$Fields", "isExit", "(J)Z"⟩ : Cond) ∈ tB := tB_of (List.mem_append_right _ (List.mem_of_getElem? (i := 221) (by decide +kernel))) rfl
set_option maxRecDepth 100000 in
theorem mw_222 : (.code ⟨"CompiledProgram$Fields", "isExit", "(J)Z"⟩ prog_4_method_13_code 2 (some FieldType.boolean) : Cond) ∈ tB := tB_of (List.mem_append_right _ (List.mem_of_getElem? (i := 222) rfl)) rfl
theorem mw_223 : (.methodLink "CompiledProgram$Form" 44 ⟨"CompiledProgram$Fields", "jumpsAlways", "(J)Z"⟩ : Cond) ∈ tB := tB_of (List.mem_append_right _ (List.mem_of_getElem? (i := 223) (by decide +kernel))) rfl
theorem mw_224 : (.static ⟨"CompiledProgram$Fields", "jumpsAlways", "(J)Z"⟩ : Cond) ∈ tB := tB_of (List.mem_append_right _ (List.mem_of_getElem? (i := 224) (by decide +kernel))) rfl
set_option maxRecDepth 100000 in
theorem mw_225 : (.code ⟨"CompiledProgram$Fields", "jumpsAlways", "(J)Z"⟩ prog_4_method_15_code 2 (some FieldType.boolean) : Cond) ∈ tB := tB_of (List.mem_append_right _ (List.mem_of_getElem? (i := 225) rfl)) rfl
theorem mw_226 : (.methodLink "CompiledProgram$Form" 47 ⟨"CompiledProgram$Fields", "jumpFrom", "(IJ)J"⟩ : Cond) ∈ tB := tB_of (List.mem_append_right _ (List.mem_of_getElem? (i := 226) (by decide +kernel))) rfl
theorem mw_227 : (.static ⟨"CompiledProgram$Fields", "jumpFrom", "(IJ)J"⟩ : Cond) ∈ tB := tB_of (List.mem_append_right _ (List.mem_of_getElem? (i := 227) (by decide +kernel))) rfl
set_option maxRecDepth 100000 in
theorem mw_228 : (.code ⟨"CompiledProgram$Fields", "jumpFrom", "(IJ)J"⟩ prog_4_method_17_code 3 (some FieldType.long) : Cond) ∈ tB := tB_of (List.mem_append_right _ (List.mem_of_getElem? (i := 228) rfl)) rfl
theorem mw_229 : (.methodLink "CompiledProgram$Fields" 21 ⟨"CompiledProgram$Fields", "immediate", "(J)I"⟩ : Cond) ∈ tB := tB_of (List.mem_append_right _ (List.mem_of_getElem? (i := 229) (by decide +kernel))) rfl
theorem mw_230 : (.methodLink "CompiledProgram$Fields" 24 ⟨"CompiledProgram$Fields", "offset", "(J)I"⟩ : Cond) ∈ tB := tB_of (List.mem_append_right _ (List.mem_of_getElem? (i := 230) (by decide +kernel))) rfl
theorem mw_231 : (.methodLink "CompiledProgram$Form" 51 ⟨"CompiledProgram$Form", "isStart", "(LCompiledProgram$Program;J)Z"⟩ : Cond) ∈ tB := tB_of (List.mem_append_right _ (List.mem_of_getElem? (i := 231) (by decide +kernel))) rfl
theorem mw_232 : (.static ⟨"CompiledProgram$Form", "isStart", "(LCompiledProgram$Program;J)Z"⟩ : Cond) ∈ tB := tB_of (List.mem_append_right _ (List.mem_of_getElem? (i := 232) (by decide +kernel))) rfl
set_option maxRecDepth 100000 in
theorem mw_233 : (.code ⟨"CompiledProgram$Form", "isStart", "(LCompiledProgram$Program;J)Z"⟩ prog_5_method_5_code 3 (some FieldType.boolean) : Cond) ∈ tB := tB_of (List.mem_append_right _ (List.mem_of_getElem? (i := 233) rfl)) rfl
theorem mw_258 : (.constant "CompiledProgram$Tape" 17 32768 : Cond) ∈ tB := tB_of (List.mem_append_right _ (List.mem_of_getElem? (i := 258) (by decide +kernel))) rfl
theorem mw_414 : (.instanceMethod ⟨"CompiledProgram$Memory", "holds", "(JI)Z"⟩ : Cond) ∈ tB := tB_of (List.mem_append_right _ (List.mem_of_getElem? (i := 414) (by decide +kernel))) rfl
theorem mw_415 : (.selects "CompiledProgram$Memory" ⟨"CompiledProgram$Memory", "holds", "(JI)Z"⟩ ⟨"CompiledProgram$Memory", "holds", "(JI)Z"⟩ : Cond) ∈ tB := tB_of (List.mem_append_right _ (List.mem_of_getElem? (i := 415) (by decide +kernel))) rfl
set_option maxRecDepth 100000 in
theorem mw_416 : (.code ⟨"CompiledProgram$Memory", "holds", "(JI)Z"⟩ prog_7_method_2_code 6 (some FieldType.boolean) : Cond) ∈ tB := tB_of (List.mem_append_right _ (List.mem_of_getElem? (i := 416) rfl)) rfl
theorem mw_417 : (.constantLong "CompiledProgram$Memory" 13 2147483648 : Cond) ∈ tB := tB_of (List.mem_append_right _ (List.mem_of_getElem? (i := 417) (by decide +kernel))) rfl
theorem mw_420 : (.instanceMethod ⟨"CompiledProgram$Memory", "write", "(JIJ)V"⟩ : Cond) ∈ tB := tB_of (List.mem_append_right _ (List.mem_of_getElem? (i := 420) (by decide +kernel))) rfl
theorem mw_421 : (.selects "CompiledProgram$Memory" ⟨"CompiledProgram$Memory", "write", "(JIJ)V"⟩ ⟨"CompiledProgram$Memory", "write", "(JIJ)V"⟩ : Cond) ∈ tB := tB_of (List.mem_append_right _ (List.mem_of_getElem? (i := 421) (by decide +kernel))) rfl
set_option maxRecDepth 100000 in
theorem mw_422 : (.code ⟨"CompiledProgram$Memory", "write", "(JIJ)V"⟩ prog_7_method_4_code 8 (none : Option FieldType) : Cond) ∈ tB := tB_of (List.mem_append_right _ (List.mem_of_getElem? (i := 422) rfl)) rfl
theorem mw_423 : (.methodLink "CompiledProgram$Memory" 15 ⟨"CompiledProgram$Memory", "holds", "(JI)Z"⟩ : Cond) ∈ tB := tB_of (List.mem_append_right _ (List.mem_of_getElem? (i := 423) (by decide +kernel))) rfl
theorem mw_432 : (.instanceMethod ⟨"CompiledProgram$Memory", "read", "(JI)J"⟩ : Cond) ∈ tB := tB_of (List.mem_append_right _ (List.mem_of_getElem? (i := 432) (by decide +kernel))) rfl
theorem mw_433 : (.selects "CompiledProgram$Memory" ⟨"CompiledProgram$Memory", "read", "(JI)J"⟩ ⟨"CompiledProgram$Memory", "read", "(JI)J"⟩ : Cond) ∈ tB := tB_of (List.mem_append_right _ (List.mem_of_getElem? (i := 433) (by decide +kernel))) rfl
set_option maxRecDepth 100000 in
theorem mw_434 : (.code ⟨"CompiledProgram$Memory", "read", "(JI)J"⟩ prog_7_method_3_code 8 (some FieldType.long) : Cond) ∈ tB := tB_of (List.mem_append_right _ (List.mem_of_getElem? (i := 434) rfl)) rfl
theorem mw_449 : (.methodLink "CompiledProgram$Machine" 20 ⟨"CompiledProgram$Program", "at", "(I)J"⟩ : Cond) ∈ tB := tB_of (List.mem_append_right _ (List.mem_of_getElem? (i := 449) (by decide +kernel))) rfl
theorem mw_450 : (.methodLink "CompiledProgram$Machine" 26 ⟨"CompiledProgram$Fields", "kind", "(J)I"⟩ : Cond) ∈ tB := tB_of (List.mem_append_right _ (List.mem_of_getElem? (i := 450) (by decide +kernel))) rfl
theorem mw_451 : (.methodLink "CompiledProgram$Machine" 32 ⟨"CompiledProgram$Machine", "takeTwoPlaces", "(JJ)V"⟩ : Cond) ∈ tB := tB_of (List.mem_append_right _ (List.mem_of_getElem? (i := 451) (by decide +kernel))) rfl
theorem mw_452 : (.instanceMethod ⟨"CompiledProgram$Machine", "takeTwoPlaces", "(JJ)V"⟩ : Cond) ∈ tB := tB_of (List.mem_append_right _ (List.mem_of_getElem? (i := 452) (by decide +kernel))) rfl
theorem mw_453 : (.selects "CompiledProgram$Machine" ⟨"CompiledProgram$Machine", "takeTwoPlaces", "(JJ)V"⟩ ⟨"CompiledProgram$Machine", "takeTwoPlaces", "(JJ)V"⟩ : Cond) ∈ tB := tB_of (List.mem_append_right _ (List.mem_of_getElem? (i := 453) (by decide +kernel))) rfl
set_option maxRecDepth 100000 in
theorem mw_454 : (.code ⟨"CompiledProgram$Machine", "takeTwoPlaces", "(JJ)V"⟩ prog_6_method_6_code 7 (none : Option FieldType) : Cond) ∈ tB := tB_of (List.mem_append_right _ (List.mem_of_getElem? (i := 454) rfl)) rfl
theorem mw_455 : (.methodLink "CompiledProgram$Machine" 40 ⟨"CompiledProgram$Fields", "immediate", "(J)I"⟩ : Cond) ∈ tB := tB_of (List.mem_append_right _ (List.mem_of_getElem? (i := 455) (by decide +kernel))) rfl
theorem mw_456 : (.methodLink "CompiledProgram$Machine" 61 ⟨"CompiledProgram$Fields", "target", "(J)I"⟩ : Cond) ∈ tB := tB_of (List.mem_append_right _ (List.mem_of_getElem? (i := 456) (by decide +kernel))) rfl
theorem mw_457 : (.methodLink "CompiledProgram$Machine" 73 ⟨"CompiledProgram$Arithmetic", "lowest", "(JI)J"⟩ : Cond) ∈ tB := tB_of (List.mem_append_right _ (List.mem_of_getElem? (i := 457) (by decide +kernel))) rfl
theorem mw_458 : (.static ⟨"CompiledProgram$Arithmetic", "lowest", "(JI)J"⟩ : Cond) ∈ tB := tB_of (List.mem_append_right _ (List.mem_of_getElem? (i := 458) (by decide +kernel))) rfl
set_option maxRecDepth 100000 in
theorem mw_459 : (.code ⟨"CompiledProgram$Arithmetic", "lowest", "(JI)J"⟩ prog_2_method_7_code 3 (some FieldType.long) : Cond) ∈ tB := tB_of (List.mem_append_right _ (List.mem_of_getElem? (i := 459) rfl)) rfl
theorem mw_460 : (.methodLink "CompiledProgram$Machine" 36 ⟨"CompiledProgram$Machine", "read", "(J)Z"⟩ : Cond) ∈ tB := tB_of (List.mem_append_right _ (List.mem_of_getElem? (i := 460) (by decide +kernel))) rfl
theorem mw_461 : (.instanceMethod ⟨"CompiledProgram$Machine", "read", "(J)Z"⟩ : Cond) ∈ tB := tB_of (List.mem_append_right _ (List.mem_of_getElem? (i := 461) (by decide +kernel))) rfl
theorem mw_462 : (.selects "CompiledProgram$Machine" ⟨"CompiledProgram$Machine", "read", "(J)Z"⟩ ⟨"CompiledProgram$Machine", "read", "(J)Z"⟩ : Cond) ∈ tB := tB_of (List.mem_append_right _ (List.mem_of_getElem? (i := 462) (by decide +kernel))) rfl
set_option maxRecDepth 100000 in
theorem mw_463 : (.code ⟨"CompiledProgram$Machine", "read", "(J)Z"⟩ prog_6_method_7_code 8 (some FieldType.boolean) : Cond) ∈ tB := tB_of (List.mem_append_right _ (List.mem_of_getElem? (i := 463) rfl)) rfl
theorem mw_464 : (.methodLink "CompiledProgram$Machine" 79 ⟨"CompiledProgram$Fields", "size", "(J)I"⟩ : Cond) ∈ tB := tB_of (List.mem_append_right _ (List.mem_of_getElem? (i := 464) (by decide +kernel))) rfl
theorem mw_465 : (.methodLink "CompiledProgram$Machine" 53 ⟨"CompiledProgram$Machine", "y", "(J)J"⟩ : Cond) ∈ tB := tB_of (List.mem_append_right _ (List.mem_of_getElem? (i := 465) (by decide +kernel))) rfl
theorem mw_466 : (.instanceMethod ⟨"CompiledProgram$Machine", "y", "(J)J"⟩ : Cond) ∈ tB := tB_of (List.mem_append_right _ (List.mem_of_getElem? (i := 466) (by decide +kernel))) rfl
theorem mw_467 : (.selects "CompiledProgram$Machine" ⟨"CompiledProgram$Machine", "y", "(J)J"⟩ ⟨"CompiledProgram$Machine", "y", "(J)J"⟩ : Cond) ∈ tB := tB_of (List.mem_append_right _ (List.mem_of_getElem? (i := 467) (by decide +kernel))) rfl
set_option maxRecDepth 100000 in
theorem mw_468 : (.code ⟨"CompiledProgram$Machine", "y", "(J)J"⟩ prog_6_method_4_code 3 (some FieldType.long) : Cond) ∈ tB := tB_of (List.mem_append_right _ (List.mem_of_getElem? (i := 468) rfl)) rfl
theorem mw_469 : (.methodLink "CompiledProgram$Machine" 67 ⟨"CompiledProgram$Fields", "source", "(J)I"⟩ : Cond) ∈ tB := tB_of (List.mem_append_right _ (List.mem_of_getElem? (i := 469) (by decide +kernel))) rfl
theorem mw_470 : (.methodLink "CompiledProgram$Machine" 82 ⟨"CompiledProgram$Fields", "offset", "(J)I"⟩ : Cond) ∈ tB := tB_of (List.mem_append_right _ (List.mem_of_getElem? (i := 470) (by decide +kernel))) rfl
theorem mw_471 : (.methodLink "CompiledProgram$Machine" 85 ⟨"CompiledProgram$Memory", "holds", "(JI)Z"⟩ : Cond) ∈ tB := tB_of (List.mem_append_right _ (List.mem_of_getElem? (i := 471) (by decide +kernel))) rfl
theorem mw_472 : (.methodLink "CompiledProgram$Machine" 89 ⟨"CompiledProgram$Memory", "read", "(JI)J"⟩ : Cond) ∈ tB := tB_of (List.mem_append_right _ (List.mem_of_getElem? (i := 472) (by decide +kernel))) rfl
theorem mw_473 : (.methodLink "CompiledProgram$Machine" 47 ⟨"CompiledProgram$Fields", "mode", "(J)I"⟩ : Cond) ∈ tB := tB_of (List.mem_append_right _ (List.mem_of_getElem? (i := 473) (by decide +kernel))) rfl
theorem mw_474 : (.methodLink "CompiledProgram$Machine" 91 ⟨"CompiledProgram$Arithmetic", "signed", "(JI)J"⟩ : Cond) ∈ tB := tB_of (List.mem_append_right _ (List.mem_of_getElem? (i := 474) (by decide +kernel))) rfl
theorem mw_475 : (.static ⟨"CompiledProgram$Arithmetic", "signed", "(JI)J"⟩ : Cond) ∈ tB := tB_of (List.mem_append_right _ (List.mem_of_getElem? (i := 475) (by decide +kernel))) rfl
set_option maxRecDepth 100000 in
theorem mw_476 : (.code ⟨"CompiledProgram$Arithmetic", "signed", "(JI)J"⟩ prog_2_method_8_code 3 (some FieldType.long) : Cond) ∈ tB := tB_of (List.mem_append_right _ (List.mem_of_getElem? (i := 476) rfl)) rfl
theorem mw_477 : (.methodLink "CompiledProgram$Machine" 43 ⟨"CompiledProgram$Machine", "write", "(JJ)Z"⟩ : Cond) ∈ tB := tB_of (List.mem_append_right _ (List.mem_of_getElem? (i := 477) (by decide +kernel))) rfl
theorem mw_478 : (.instanceMethod ⟨"CompiledProgram$Machine", "write", "(JJ)Z"⟩ : Cond) ∈ tB := tB_of (List.mem_append_right _ (List.mem_of_getElem? (i := 478) (by decide +kernel))) rfl
theorem mw_479 : (.selects "CompiledProgram$Machine" ⟨"CompiledProgram$Machine", "write", "(JJ)Z"⟩ ⟨"CompiledProgram$Machine", "write", "(JJ)Z"⟩ : Cond) ∈ tB := tB_of (List.mem_append_right _ (List.mem_of_getElem? (i := 479) (by decide +kernel))) rfl
set_option maxRecDepth 100000 in
theorem mw_480 : (.code ⟨"CompiledProgram$Machine", "write", "(JJ)Z"⟩ prog_6_method_8_code 8 (some FieldType.boolean) : Cond) ∈ tB := tB_of (List.mem_append_right _ (List.mem_of_getElem? (i := 480) rfl)) rfl
theorem mw_481 : (.methodLink "CompiledProgram$Machine" 94 ⟨"CompiledProgram$Machine", "x", "(J)J"⟩ : Cond) ∈ tB := tB_of (List.mem_append_right _ (List.mem_of_getElem? (i := 481) (by decide +kernel))) rfl
theorem mw_482 : (.instanceMethod ⟨"CompiledProgram$Machine", "x", "(J)J"⟩ : Cond) ∈ tB := tB_of (List.mem_append_right _ (List.mem_of_getElem? (i := 482) (by decide +kernel))) rfl
theorem mw_483 : (.selects "CompiledProgram$Machine" ⟨"CompiledProgram$Machine", "x", "(J)J"⟩ ⟨"CompiledProgram$Machine", "x", "(J)J"⟩ : Cond) ∈ tB := tB_of (List.mem_append_right _ (List.mem_of_getElem? (i := 483) (by decide +kernel))) rfl
set_option maxRecDepth 100000 in
theorem mw_484 : (.code ⟨"CompiledProgram$Machine", "x", "(J)J"⟩ prog_6_method_3_code 3 (some FieldType.long) : Cond) ∈ tB := tB_of (List.mem_append_right _ (List.mem_of_getElem? (i := 484) rfl)) rfl
theorem mw_485 : (.methodLink "CompiledProgram$Machine" 97 ⟨"CompiledProgram$Memory", "write", "(JIJ)V"⟩ : Cond) ∈ tB := tB_of (List.mem_append_right _ (List.mem_of_getElem? (i := 485) (by decide +kernel))) rfl
theorem mw_486 : (.methodLink "CompiledProgram$Machine" 50 ⟨"CompiledProgram$Machine", "exchange", "(J)Z"⟩ : Cond) ∈ tB := tB_of (List.mem_append_right _ (List.mem_of_getElem? (i := 486) (by decide +kernel))) rfl
theorem mw_487 : (.instanceMethod ⟨"CompiledProgram$Machine", "exchange", "(J)Z"⟩ : Cond) ∈ tB := tB_of (List.mem_append_right _ (List.mem_of_getElem? (i := 487) (by decide +kernel))) rfl
theorem mw_488 : (.selects "CompiledProgram$Machine" ⟨"CompiledProgram$Machine", "exchange", "(J)Z"⟩ ⟨"CompiledProgram$Machine", "exchange", "(J)Z"⟩ : Cond) ∈ tB := tB_of (List.mem_append_right _ (List.mem_of_getElem? (i := 488) (by decide +kernel))) rfl
set_option maxRecDepth 100000 in
theorem mw_489 : (.code ⟨"CompiledProgram$Machine", "exchange", "(J)Z"⟩ prog_6_method_9_code 10 (some FieldType.boolean) : Cond) ∈ tB := tB_of (List.mem_append_right _ (List.mem_of_getElem? (i := 489) rfl)) rfl
theorem mw_490 : (.methodLink "CompiledProgram$Machine" 100 ⟨"CompiledProgram$Exchange", "become", "(IJJZ)J"⟩ : Cond) ∈ tB := tB_of (List.mem_append_right _ (List.mem_of_getElem? (i := 490) (by decide +kernel))) rfl
theorem mw_491 : (.static ⟨"CompiledProgram$Exchange", "become", "(IJJZ)J"⟩ : Cond) ∈ tB := tB_of (List.mem_append_right _ (List.mem_of_getElem? (i := 491) (by decide +kernel))) rfl
set_option maxRecDepth 100000 in
theorem mw_492 : (.code ⟨"CompiledProgram$Exchange", "become", "(IJJZ)J"⟩ prog_3_method_4_code 6 (some FieldType.long) : Cond) ∈ tB := tB_of (List.mem_append_right _ (List.mem_of_getElem? (i := 492) rfl)) rfl
theorem mw_493 : (.methodLink "CompiledProgram$Machine" 106 ⟨"CompiledProgram$Exchange", "changesSource", "(I)Z"⟩ : Cond) ∈ tB := tB_of (List.mem_append_right _ (List.mem_of_getElem? (i := 493) (by decide +kernel))) rfl
theorem mw_494 : (.methodLink "CompiledProgram$Machine" 57 ⟨"CompiledProgram$Machine", "jump", "(IJ)I"⟩ : Cond) ∈ tB := tB_of (List.mem_append_right _ (List.mem_of_getElem? (i := 494) (by decide +kernel))) rfl
theorem mw_495 : (.instanceMethod ⟨"CompiledProgram$Machine", "jump", "(IJ)I"⟩ : Cond) ∈ tB := tB_of (List.mem_append_right _ (List.mem_of_getElem? (i := 495) (by decide +kernel))) rfl
theorem mw_496 : (.selects "CompiledProgram$Machine" ⟨"CompiledProgram$Machine", "jump", "(IJ)I"⟩ ⟨"CompiledProgram$Machine", "jump", "(IJ)I"⟩ : Cond) ∈ tB := tB_of (List.mem_append_right _ (List.mem_of_getElem? (i := 496) (by decide +kernel))) rfl
set_option maxRecDepth 100000 in
theorem mw_497 : (.code ⟨"CompiledProgram$Machine", "jump", "(IJ)I"⟩ prog_6_method_10_code 4 (some FieldType.int) : Cond) ∈ tB := tB_of (List.mem_append_right _ (List.mem_of_getElem? (i := 497) rfl)) rfl
theorem mw_498 : (.methodLink "CompiledProgram$Machine" 110 ⟨"CompiledProgram$Fields", "isExit", "(J)Z"⟩ : Cond) ∈ tB := tB_of (List.mem_append_right _ (List.mem_of_getElem? (i := 498) (by decide +kernel))) rfl
theorem mw_499 : (.methodLink "CompiledProgram$Machine" 113 ⟨"CompiledProgram$Fields", "isCall", "(J)Z"⟩ : Cond) ∈ tB := tB_of (List.mem_append_right _ (List.mem_of_getElem? (i := 499) (by decide +kernel))) rfl
theorem mw_500 : (.static ⟨"CompiledProgram$Fields", "isCall", "(J)Z"⟩ : Cond) ∈ tB := tB_of (List.mem_append_right _ (List.mem_of_getElem? (i := 500) (by decide +kernel))) rfl
set_option maxRecDepth 100000 in
theorem mw_501 : (.code ⟨"CompiledProgram$Fields", "isCall", "(J)Z"⟩ prog_4_method_14_code 2 (some FieldType.boolean) : Cond) ∈ tB := tB_of (List.mem_append_right _ (List.mem_of_getElem? (i := 501) rfl)) rfl
theorem mw_502 : (.methodLink "CompiledProgram$Machine" 116 ⟨"CompiledProgram$Machine", "answerCall", "(I)V"⟩ : Cond) ∈ tB := tB_of (List.mem_append_right _ (List.mem_of_getElem? (i := 502) (by decide +kernel))) rfl
theorem mw_503 : (.instanceMethod ⟨"CompiledProgram$Machine", "answerCall", "(I)V"⟩ : Cond) ∈ tB := tB_of (List.mem_append_right _ (List.mem_of_getElem? (i := 503) (by decide +kernel))) rfl
theorem mw_504 : (.selects "CompiledProgram$Machine" ⟨"CompiledProgram$Machine", "answerCall", "(I)V"⟩ ⟨"CompiledProgram$Machine", "answerCall", "(I)V"⟩ : Cond) ∈ tB := tB_of (List.mem_append_right _ (List.mem_of_getElem? (i := 504) (by decide +kernel))) rfl
set_option maxRecDepth 100000 in
theorem mw_505 : (.code ⟨"CompiledProgram$Machine", "answerCall", "(I)V"⟩ prog_6_method_12_code 5 (none : Option FieldType) : Cond) ∈ tB := tB_of (List.mem_append_right _ (List.mem_of_getElem? (i := 505) rfl)) rfl
theorem mw_506 : (.constantLong "CompiledProgram$Machine" 140 31 : Cond) ∈ tB := tB_of (List.mem_append_right _ (List.mem_of_getElem? (i := 506) (by decide +kernel))) rfl
theorem mw_507 : (.methodLink "CompiledProgram$Machine" 120 ⟨"CompiledProgram$Fields", "jumpsAlways", "(J)Z"⟩ : Cond) ∈ tB := tB_of (List.mem_append_right _ (List.mem_of_getElem? (i := 507) (by decide +kernel))) rfl
theorem mw_508 : (.methodLink "CompiledProgram$Machine" 123 ⟨"CompiledProgram$Machine", "takesJump", "(J)Z"⟩ : Cond) ∈ tB := tB_of (List.mem_append_right _ (List.mem_of_getElem? (i := 508) (by decide +kernel))) rfl
theorem mw_509 : (.instanceMethod ⟨"CompiledProgram$Machine", "takesJump", "(J)Z"⟩ : Cond) ∈ tB := tB_of (List.mem_append_right _ (List.mem_of_getElem? (i := 509) (by decide +kernel))) rfl
theorem mw_510 : (.selects "CompiledProgram$Machine" ⟨"CompiledProgram$Machine", "takesJump", "(J)Z"⟩ ⟨"CompiledProgram$Machine", "takesJump", "(J)Z"⟩ : Cond) ∈ tB := tB_of (List.mem_append_right _ (List.mem_of_getElem? (i := 510) (by decide +kernel))) rfl
set_option maxRecDepth 100000 in
theorem mw_511 : (.code ⟨"CompiledProgram$Machine", "takesJump", "(J)Z"⟩ prog_6_method_11_code 7 (some FieldType.boolean) : Cond) ∈ tB := tB_of (List.mem_append_right _ (List.mem_of_getElem? (i := 511) rfl)) rfl
theorem mw_512 : (.methodLink "CompiledProgram$Machine" 130 ⟨"CompiledProgram$Machine", "operand", "(J)J"⟩ : Cond) ∈ tB := tB_of (List.mem_append_right _ (List.mem_of_getElem? (i := 512) (by decide +kernel))) rfl
theorem mw_513 : (.instanceMethod ⟨"CompiledProgram$Machine", "operand", "(J)J"⟩ : Cond) ∈ tB := tB_of (List.mem_append_right _ (List.mem_of_getElem? (i := 513) (by decide +kernel))) rfl
theorem mw_514 : (.selects "CompiledProgram$Machine" ⟨"CompiledProgram$Machine", "operand", "(J)J"⟩ ⟨"CompiledProgram$Machine", "operand", "(J)J"⟩ : Cond) ∈ tB := tB_of (List.mem_append_right _ (List.mem_of_getElem? (i := 514) (by decide +kernel))) rfl
set_option maxRecDepth 100000 in
theorem mw_515 : (.code ⟨"CompiledProgram$Machine", "operand", "(J)J"⟩ prog_6_method_5_code 3 (some FieldType.long) : Cond) ∈ tB := tB_of (List.mem_append_right _ (List.mem_of_getElem? (i := 515) rfl)) rfl
theorem mw_516 : (.methodLink "CompiledProgram$Machine" 70 ⟨"CompiledProgram$Fields", "usesSource", "(J)Z"⟩ : Cond) ∈ tB := tB_of (List.mem_append_right _ (List.mem_of_getElem? (i := 516) (by decide +kernel))) rfl
theorem mw_517 : (.methodLink "CompiledProgram$Machine" 133 ⟨"CompiledProgram$Fields", "operation", "(J)I"⟩ : Cond) ∈ tB := tB_of (List.mem_append_right _ (List.mem_of_getElem? (i := 517) (by decide +kernel))) rfl
theorem mw_518 : (.methodLink "CompiledProgram$Machine" 136 ⟨"CompiledProgram$Arithmetic", "isTaken", "(IJJ)Z"⟩ : Cond) ∈ tB := tB_of (List.mem_append_right _ (List.mem_of_getElem? (i := 518) (by decide +kernel))) rfl
theorem mw_519 : (.static ⟨"CompiledProgram$Arithmetic", "isTaken", "(IJJ)Z"⟩ : Cond) ∈ tB := tB_of (List.mem_append_right _ (List.mem_of_getElem? (i := 519) (by decide +kernel))) rfl
set_option maxRecDepth 100000 in
theorem mw_520 : (.code ⟨"CompiledProgram$Arithmetic", "isTaken", "(IJJ)Z"⟩ prog_2_method_10_code 9 (some FieldType.boolean) : Cond) ∈ tB := tB_of (List.mem_append_right _ (List.mem_of_getElem? (i := 520) rfl)) rfl
theorem mw_521 : (.constantLong "CompiledProgram$Arithmetic" 33 (-9223372036854775808) : Cond) ∈ tB := tB_of (List.mem_append_right _ (List.mem_of_getElem? (i := 521) (by decide +kernel))) rfl
theorem mw_522 : (.methodLink "CompiledProgram$Machine" 126 ⟨"CompiledProgram$Fields", "jumpFrom", "(IJ)J"⟩ : Cond) ∈ tB := tB_of (List.mem_append_right _ (List.mem_of_getElem? (i := 522) (by decide +kernel))) rfl
theorem mw_523 : (.methodLink "CompiledProgram$Machine" 64 ⟨"CompiledProgram$Machine", "computed", "(J)J"⟩ : Cond) ∈ tB := tB_of (List.mem_append_right _ (List.mem_of_getElem? (i := 523) (by decide +kernel))) rfl
theorem mw_524 : (.instanceMethod ⟨"CompiledProgram$Machine", "computed", "(J)J"⟩ : Cond) ∈ tB := tB_of (List.mem_append_right _ (List.mem_of_getElem? (i := 524) (by decide +kernel))) rfl
theorem mw_525 : (.selects "CompiledProgram$Machine" ⟨"CompiledProgram$Machine", "computed", "(J)J"⟩ ⟨"CompiledProgram$Machine", "computed", "(J)J"⟩ : Cond) ∈ tB := tB_of (List.mem_append_right _ (List.mem_of_getElem? (i := 525) (by decide +kernel))) rfl
set_option maxRecDepth 100000 in
theorem mw_526 : (.code ⟨"CompiledProgram$Machine", "computed", "(J)J"⟩ prog_6_method_13_code 4 (some FieldType.long) : Cond) ∈ tB := tB_of (List.mem_append_right _ (List.mem_of_getElem? (i := 526) rfl)) rfl
theorem mw_527 : (.methodLink "CompiledProgram$Machine" 142 ⟨"CompiledProgram$Machine", "turnedOrCut", "(J)J"⟩ : Cond) ∈ tB := tB_of (List.mem_append_right _ (List.mem_of_getElem? (i := 527) (by decide +kernel))) rfl
theorem mw_528 : (.instanceMethod ⟨"CompiledProgram$Machine", "turnedOrCut", "(J)J"⟩ : Cond) ∈ tB := tB_of (List.mem_append_right _ (List.mem_of_getElem? (i := 528) (by decide +kernel))) rfl
theorem mw_529 : (.selects "CompiledProgram$Machine" ⟨"CompiledProgram$Machine", "turnedOrCut", "(J)J"⟩ ⟨"CompiledProgram$Machine", "turnedOrCut", "(J)J"⟩ : Cond) ∈ tB := tB_of (List.mem_append_right _ (List.mem_of_getElem? (i := 529) (by decide +kernel))) rfl
set_option maxRecDepth 100000 in
theorem mw_530 : (.code ⟨"CompiledProgram$Machine", "turnedOrCut", "(J)J"⟩ prog_6_method_14_code 5 (some FieldType.long) : Cond) ∈ tB := tB_of (List.mem_append_right _ (List.mem_of_getElem? (i := 530) rfl)) rfl
theorem mw_531 : (.methodLink "CompiledProgram$Machine" 153 ⟨"CompiledProgram$Arithmetic", "turned", "(JI)J"⟩ : Cond) ∈ tB := tB_of (List.mem_append_right _ (List.mem_of_getElem? (i := 531) (by decide +kernel))) rfl
theorem mw_532 : (.static ⟨"CompiledProgram$Arithmetic", "turned", "(JI)J"⟩ : Cond) ∈ tB := tB_of (List.mem_append_right _ (List.mem_of_getElem? (i := 532) (by decide +kernel))) rfl
set_option maxRecDepth 100000 in
theorem mw_533 : (.code ⟨"CompiledProgram$Arithmetic", "turned", "(JI)J"⟩ prog_2_method_9_code 3 (some FieldType.long) : Cond) ∈ tB := tB_of (List.mem_append_right _ (List.mem_of_getElem? (i := 533) rfl)) rfl
theorem mw_534 : (.methodLink "CompiledProgram$Arithmetic" 35 ⟨"java/lang/Long", "reverseBytes", "(J)J"⟩ : Cond) ∈ tB := tB_of (List.mem_append_right _ (List.mem_of_getElem? (i := 534) (by decide +kernel))) rfl
theorem mw_535 : (.static ⟨"java/lang/Long", "reverseBytes", "(J)J"⟩ : Cond) ∈ tB := tB_of (List.mem_append_right _ (List.mem_of_getElem? (i := 535) (by decide +kernel))) rfl
set_option maxRecDepth 100000 in
theorem mw_536 : (.code ⟨"java/lang/Long", "reverseBytes", "(J)J"⟩ prog_17_method_58_code 2 (some FieldType.long) : Cond) ∈ tB := tB_of (List.mem_append_right _ (List.mem_of_getElem? (i := 536) rfl)) rfl
theorem mw_537 : (.constantLong "java/lang/Long" 327 71777214294589695 : Cond) ∈ tB := tB_of (List.mem_append_right _ (List.mem_of_getElem? (i := 537) (by decide +kernel))) rfl
theorem mw_538 : (.constantLong "java/lang/Long" 329 4294901760 : Cond) ∈ tB := tB_of (List.mem_append_right _ (List.mem_of_getElem? (i := 538) (by decide +kernel))) rfl
theorem mw_539 : (.methodLink "CompiledProgram$Machine" 145 ⟨"CompiledProgram$Arithmetic", "wide", "(IIJJ)J"⟩ : Cond) ∈ tB := tB_of (List.mem_append_right _ (List.mem_of_getElem? (i := 539) (by decide +kernel))) rfl
theorem mw_540 : (.static ⟨"CompiledProgram$Arithmetic", "wide", "(IIJJ)J"⟩ : Cond) ∈ tB := tB_of (List.mem_append_right _ (List.mem_of_getElem? (i := 540) (by decide +kernel))) rfl
set_option maxRecDepth 100000 in
theorem mw_541 : (.code ⟨"CompiledProgram$Arithmetic", "wide", "(IIJJ)J"⟩ prog_2_method_2_code 6 (some FieldType.long) : Cond) ∈ tB := tB_of (List.mem_append_right _ (List.mem_of_getElem? (i := 541) rfl)) rfl
theorem mw_542 : (.methodLink "CompiledProgram$Arithmetic" 7 ⟨"CompiledProgram$Arithmetic", "quotient", "(ZJJ)J"⟩ : Cond) ∈ tB := tB_of (List.mem_append_right _ (List.mem_of_getElem? (i := 542) (by decide +kernel))) rfl
theorem mw_543 : (.static ⟨"CompiledProgram$Arithmetic", "quotient", "(ZJJ)J"⟩ : Cond) ∈ tB := tB_of (List.mem_append_right _ (List.mem_of_getElem? (i := 543) (by decide +kernel))) rfl
set_option maxRecDepth 100000 in
theorem mw_544 : (.code ⟨"CompiledProgram$Arithmetic", "quotient", "(ZJJ)J"⟩ prog_2_method_4_code 5 (some FieldType.long) : Cond) ∈ tB := tB_of (List.mem_append_right _ (List.mem_of_getElem? (i := 544) rfl)) rfl
theorem mw_545 : (.methodLink "CompiledProgram$Arithmetic" 29 ⟨"CompiledProgram$Arithmetic", "unsignedQuotient", "(JJ)J"⟩ : Cond) ∈ tB := tB_of (List.mem_append_right _ (List.mem_of_getElem? (i := 545) (by decide +kernel))) rfl
theorem mw_546 : (.static ⟨"CompiledProgram$Arithmetic", "unsignedQuotient", "(JJ)J"⟩ : Cond) ∈ tB := tB_of (List.mem_append_right _ (List.mem_of_getElem? (i := 546) (by decide +kernel))) rfl
set_option maxRecDepth 100000 in
theorem mw_547 : (.code ⟨"CompiledProgram$Arithmetic", "unsignedQuotient", "(JJ)J"⟩ prog_2_method_5_code 8 (some FieldType.long) : Cond) ∈ tB := tB_of (List.mem_append_right _ (List.mem_of_getElem? (i := 547) rfl)) rfl
theorem mw_548 : (.constantLong "CompiledProgram$Arithmetic" 13 63 : Cond) ∈ tB := tB_of (List.mem_append_right _ (List.mem_of_getElem? (i := 548) (by decide +kernel))) rfl
theorem mw_549 : (.methodLink "CompiledProgram$Arithmetic" 15 ⟨"CompiledProgram$Arithmetic", "rest", "(ZJJ)J"⟩ : Cond) ∈ tB := tB_of (List.mem_append_right _ (List.mem_of_getElem? (i := 549) (by decide +kernel))) rfl
theorem mw_550 : (.static ⟨"CompiledProgram$Arithmetic", "rest", "(ZJJ)J"⟩ : Cond) ∈ tB := tB_of (List.mem_append_right _ (List.mem_of_getElem? (i := 550) (by decide +kernel))) rfl
set_option maxRecDepth 100000 in
theorem mw_551 : (.code ⟨"CompiledProgram$Arithmetic", "rest", "(ZJJ)J"⟩ prog_2_method_6_code 5 (some FieldType.long) : Cond) ∈ tB := tB_of (List.mem_append_right _ (List.mem_of_getElem? (i := 551) rfl)) rfl
theorem mw_552 : (.methodLink "CompiledProgram$Arithmetic" 18 ⟨"CompiledProgram$Arithmetic", "signed", "(JI)J"⟩ : Cond) ∈ tB := tB_of (List.mem_append_right _ (List.mem_of_getElem? (i := 552) (by decide +kernel))) rfl
theorem mw_553 : (.methodLink "CompiledProgram$Machine" 149 ⟨"CompiledProgram$Arithmetic", "narrow", "(IIII)J"⟩ : Cond) ∈ tB := tB_of (List.mem_append_right _ (List.mem_of_getElem? (i := 553) (by decide +kernel))) rfl
theorem mw_554 : (.static ⟨"CompiledProgram$Arithmetic", "narrow", "(IIII)J"⟩ : Cond) ∈ tB := tB_of (List.mem_append_right _ (List.mem_of_getElem? (i := 554) (by decide +kernel))) rfl
set_option maxRecDepth 100000 in
theorem mw_555 : (.code ⟨"CompiledProgram$Arithmetic", "narrow", "(IIII)J"⟩ prog_2_method_3_code 4 (some FieldType.long) : Cond) ∈ tB := tB_of (List.mem_append_right _ (List.mem_of_getElem? (i := 555) rfl)) rfl
theorem mw_556 : (.methodLink "CompiledProgram$Arithmetic" 22 ⟨"CompiledProgram$Arithmetic", "lowest", "(JI)J"⟩ : Cond) ∈ tB := tB_of (List.mem_append_right _ (List.mem_of_getElem? (i := 556) (by decide +kernel))) rfl
theorem mw_557 : (.methodLink "CompiledProgram$Arithmetic" 25 ⟨"CompiledProgram$Arithmetic", "wide", "(IIJJ)J"⟩ : Cond) ∈ tB := tB_of (List.mem_append_right _ (List.mem_of_getElem? (i := 557) (by decide +kernel))) rfl
end
section
theorem dFi_code_0 : decode cFi_code 0 = .ok (.lload_n 0, 1) := by decide +kernel
theorem dFi_code_1 : decode cFi_code 1 = .ok (.l2i, 1) := by decide +kernel
theorem dFi_code_2 : decode cFi_code 2 = .ok (.sipush 255, 3) := by decide +kernel
theorem dFi_code_5 : decode cFi_code 5 = .ok (.iand, 1) := by decide +kernel
theorem dFi_code_6 : decode cFi_code 6 = .ok (.ireturn, 1) := by decide +kernel
theorem dFi_kind_0 : decode cFi_kind 0 = .ok (.lload_n 0, 1) := by decide +kernel
theorem dFi_kind_1 : decode cFi_kind 1 = .ok (.l2i, 1) := by decide +kernel
theorem dFi_kind_2 : decode cFi_kind 2 = .ok (.bipush 7, 2) := by decide +kernel
theorem dFi_kind_4 : decode cFi_kind 4 = .ok (.iand, 1) := by decide +kernel
theorem dFi_kind_5 : decode cFi_kind 5 = .ok (.ireturn, 1) := by decide +kernel
theorem dFi_operation_0 : decode cFi_operation 0 = .ok (.lload_n 0, 1) := by decide +kernel
theorem dFi_operation_1 : decode cFi_operation 1 = .ok (.iconst 4, 1) := by decide +kernel
theorem dFi_operation_2 : decode cFi_operation 2 = .ok (.lushr, 1) := by decide +kernel
theorem dFi_operation_3 : decode cFi_operation 3 = .ok (.l2i, 1) := by decide +kernel
theorem dFi_operation_4 : decode cFi_operation 4 = .ok (.bipush 15, 2) := by decide +kernel
theorem dFi_operation_6 : decode cFi_operation 6 = .ok (.iand, 1) := by decide +kernel
theorem dFi_operation_7 : decode cFi_operation 7 = .ok (.ireturn, 1) := by decide +kernel
theorem dFi_usesSource_0 : decode cFi_usesSource 0 = .ok (.lload_n 0, 1) := by decide +kernel
theorem dFi_usesSource_1 : decode cFi_usesSource 1 = .ok (.ldc2_w 7, 3) := by decide +kernel
theorem dFi_usesSource_4 : decode cFi_usesSource 4 = .ok (.land, 1) := by decide +kernel
theorem dFi_usesSource_5 : decode cFi_usesSource 5 = .ok (.lconst 0, 1) := by decide +kernel
theorem dFi_usesSource_6 : decode cFi_usesSource 6 = .ok (.lcmp, 1) := by decide +kernel
theorem dFi_usesSource_7 : decode cFi_usesSource 7 = .ok (.ifCond .eq 7, 3) := by decide +kernel
theorem dFi_usesSource_10 : decode cFi_usesSource 10 = .ok (.iconst 1, 1) := by decide +kernel
theorem dFi_usesSource_11 : decode cFi_usesSource 11 = .ok (.goto 4, 3) := by decide +kernel
theorem dFi_usesSource_14 : decode cFi_usesSource 14 = .ok (.iconst 0, 1) := by decide +kernel
theorem dFi_usesSource_15 : decode cFi_usesSource 15 = .ok (.ireturn, 1) := by decide +kernel
theorem dFi_mode_0 : decode cFi_mode 0 = .ok (.lload_n 0, 1) := by decide +kernel
theorem dFi_mode_1 : decode cFi_mode 1 = .ok (.iconst 5, 1) := by decide +kernel
theorem dFi_mode_2 : decode cFi_mode 2 = .ok (.lushr, 1) := by decide +kernel
theorem dFi_mode_3 : decode cFi_mode 3 = .ok (.l2i, 1) := by decide +kernel
theorem dFi_mode_4 : decode cFi_mode 4 = .ok (.bipush 7, 2) := by decide +kernel
theorem dFi_mode_6 : decode cFi_mode 6 = .ok (.iand, 1) := by decide +kernel
theorem dFi_mode_7 : decode cFi_mode 7 = .ok (.ireturn, 1) := by decide +kernel
theorem dFi_size_0 : decode cFi_size 0 = .ok (.lload_n 0, 1) := by decide +kernel
theorem dFi_size_1 : decode cFi_size 1 = .ok (.iconst 3, 1) := by decide +kernel
theorem dFi_size_2 : decode cFi_size 2 = .ok (.lushr, 1) := by decide +kernel
theorem dFi_size_3 : decode cFi_size 3 = .ok (.l2i, 1) := by decide +kernel
theorem dFi_size_4 : decode cFi_size 4 = .ok (.iconst 3, 1) := by decide +kernel
theorem dFi_size_5 : decode cFi_size 5 = .ok (.iand, 1) := by decide +kernel
theorem dFi_size_6 : decode cFi_size 6 = .ok (.tableswitch 32 0 2 #[26, 28, 30], 26) := by decide +kernel
theorem dFi_size_32 : decode cFi_size 32 = .ok (.iconst 4, 1) := by decide +kernel
theorem dFi_size_33 : decode cFi_size 33 = .ok (.ireturn, 1) := by decide +kernel
theorem dFi_size_34 : decode cFi_size 34 = .ok (.iconst 2, 1) := by decide +kernel
theorem dFi_size_35 : decode cFi_size 35 = .ok (.ireturn, 1) := by decide +kernel
theorem dFi_size_36 : decode cFi_size 36 = .ok (.iconst 1, 1) := by decide +kernel
theorem dFi_size_37 : decode cFi_size 37 = .ok (.ireturn, 1) := by decide +kernel
theorem dFi_size_38 : decode cFi_size 38 = .ok (.bipush 8, 2) := by decide +kernel
theorem dFi_size_40 : decode cFi_size 40 = .ok (.ireturn, 1) := by decide +kernel
theorem dFi_target_0 : decode cFi_target 0 = .ok (.lload_n 0, 1) := by decide +kernel
theorem dFi_target_1 : decode cFi_target 1 = .ok (.bipush 8, 2) := by decide +kernel
theorem dFi_target_3 : decode cFi_target 3 = .ok (.lushr, 1) := by decide +kernel
theorem dFi_target_4 : decode cFi_target 4 = .ok (.l2i, 1) := by decide +kernel
theorem dFi_target_5 : decode cFi_target 5 = .ok (.bipush 15, 2) := by decide +kernel
theorem dFi_target_7 : decode cFi_target 7 = .ok (.iand, 1) := by decide +kernel
theorem dFi_target_8 : decode cFi_target 8 = .ok (.ireturn, 1) := by decide +kernel
theorem dFi_source_0 : decode cFi_source 0 = .ok (.lload_n 0, 1) := by decide +kernel
theorem dFi_source_1 : decode cFi_source 1 = .ok (.bipush 12, 2) := by decide +kernel
theorem dFi_source_3 : decode cFi_source 3 = .ok (.lushr, 1) := by decide +kernel
theorem dFi_source_4 : decode cFi_source 4 = .ok (.l2i, 1) := by decide +kernel
theorem dFi_source_5 : decode cFi_source 5 = .ok (.bipush 15, 2) := by decide +kernel
theorem dFi_source_7 : decode cFi_source 7 = .ok (.iand, 1) := by decide +kernel
theorem dFi_source_8 : decode cFi_source 8 = .ok (.ireturn, 1) := by decide +kernel
theorem dFi_offset_0 : decode cFi_offset 0 = .ok (.lload_n 0, 1) := by decide +kernel
theorem dFi_offset_1 : decode cFi_offset 1 = .ok (.bipush 16, 2) := by decide +kernel
theorem dFi_offset_3 : decode cFi_offset 3 = .ok (.lushr, 1) := by decide +kernel
theorem dFi_offset_4 : decode cFi_offset 4 = .ok (.l2i, 1) := by decide +kernel
theorem dFi_offset_5 : decode cFi_offset 5 = .ok (.i2s, 1) := by decide +kernel
theorem dFi_offset_6 : decode cFi_offset 6 = .ok (.ireturn, 1) := by decide +kernel
theorem dFi_immediate_0 : decode cFi_immediate 0 = .ok (.lload_n 0, 1) := by decide +kernel
theorem dFi_immediate_1 : decode cFi_immediate 1 = .ok (.bipush 32, 2) := by decide +kernel
theorem dFi_immediate_3 : decode cFi_immediate 3 = .ok (.lushr, 1) := by decide +kernel
theorem dFi_immediate_4 : decode cFi_immediate 4 = .ok (.l2i, 1) := by decide +kernel
theorem dFi_immediate_5 : decode cFi_immediate 5 = .ok (.ireturn, 1) := by decide +kernel
theorem dFi_isTwoPlaces_0 : decode cFi_isTwoPlaces 0 = .ok (.lload_n 0, 1) := by decide +kernel
theorem dFi_isTwoPlaces_1 : decode cFi_isTwoPlaces 1 = .ok (.invokestatic 9, 3) := by decide +kernel
theorem dFi_isTwoPlaces_4 : decode cFi_isTwoPlaces 4 = .ok (.bipush 24, 2) := by decide +kernel
theorem dFi_isTwoPlaces_6 : decode cFi_isTwoPlaces 6 = .ok (.if_icmp .ne 7, 3) := by decide +kernel
theorem dFi_isTwoPlaces_9 : decode cFi_isTwoPlaces 9 = .ok (.iconst 1, 1) := by decide +kernel
theorem dFi_isTwoPlaces_10 : decode cFi_isTwoPlaces 10 = .ok (.goto 4, 3) := by decide +kernel
theorem dFi_isTwoPlaces_13 : decode cFi_isTwoPlaces 13 = .ok (.iconst 0, 1) := by decide +kernel
theorem dFi_isTwoPlaces_14 : decode cFi_isTwoPlaces 14 = .ok (.ireturn, 1) := by decide +kernel
theorem dFi_isExit_0 : decode cFi_isExit 0 = .ok (.lload_n 0, 1) := by decide +kernel
theorem dFi_isExit_1 : decode cFi_isExit 1 = .ok (.invokestatic 9, 3) := by decide +kernel
theorem dFi_isExit_4 : decode cFi_isExit 4 = .ok (.sipush 149, 3) := by decide +kernel
theorem dFi_isExit_7 : decode cFi_isExit 7 = .ok (.if_icmp .ne 7, 3) := by decide +kernel
theorem dFi_isExit_10 : decode cFi_isExit 10 = .ok (.iconst 1, 1) := by decide +kernel
theorem dFi_isExit_11 : decode cFi_isExit 11 = .ok (.goto 4, 3) := by decide +kernel
theorem dFi_isExit_14 : decode cFi_isExit 14 = .ok (.iconst 0, 1) := by decide +kernel
theorem dFi_isExit_15 : decode cFi_isExit 15 = .ok (.ireturn, 1) := by decide +kernel
theorem dFi_isCall_0 : decode cFi_isCall 0 = .ok (.lload_n 0, 1) := by decide +kernel
theorem dFi_isCall_1 : decode cFi_isCall 1 = .ok (.invokestatic 9, 3) := by decide +kernel
theorem dFi_isCall_4 : decode cFi_isCall 4 = .ok (.sipush 133, 3) := by decide +kernel
theorem dFi_isCall_7 : decode cFi_isCall 7 = .ok (.if_icmp .ne 7, 3) := by decide +kernel
theorem dFi_isCall_10 : decode cFi_isCall 10 = .ok (.iconst 1, 1) := by decide +kernel
theorem dFi_isCall_11 : decode cFi_isCall 11 = .ok (.goto 4, 3) := by decide +kernel
theorem dFi_isCall_14 : decode cFi_isCall 14 = .ok (.iconst 0, 1) := by decide +kernel
theorem dFi_isCall_15 : decode cFi_isCall 15 = .ok (.ireturn, 1) := by decide +kernel
theorem dFi_jumpsAlways_0 : decode cFi_jumpsAlways 0 = .ok (.lload_n 0, 1) := by decide +kernel
theorem dFi_jumpsAlways_1 : decode cFi_jumpsAlways 1 = .ok (.invokestatic 9, 3) := by decide +kernel
theorem dFi_jumpsAlways_4 : decode cFi_jumpsAlways 4 = .ok (.iconst 5, 1) := by decide +kernel
theorem dFi_jumpsAlways_5 : decode cFi_jumpsAlways 5 = .ok (.if_icmp .eq 12, 3) := by decide +kernel
theorem dFi_jumpsAlways_8 : decode cFi_jumpsAlways 8 = .ok (.lload_n 0, 1) := by decide +kernel
theorem dFi_jumpsAlways_9 : decode cFi_jumpsAlways 9 = .ok (.invokestatic 9, 3) := by decide +kernel
theorem dFi_jumpsAlways_12 : decode cFi_jumpsAlways 12 = .ok (.bipush 6, 2) := by decide +kernel
theorem dFi_jumpsAlways_14 : decode cFi_jumpsAlways 14 = .ok (.if_icmp .ne 7, 3) := by decide +kernel
theorem dFi_jumpsAlways_17 : decode cFi_jumpsAlways 17 = .ok (.iconst 1, 1) := by decide +kernel
theorem dFi_jumpsAlways_18 : decode cFi_jumpsAlways 18 = .ok (.goto 4, 3) := by decide +kernel
theorem dFi_jumpsAlways_21 : decode cFi_jumpsAlways 21 = .ok (.iconst 0, 1) := by decide +kernel
theorem dFi_jumpsAlways_22 : decode cFi_jumpsAlways 22 = .ok (.ireturn, 1) := by decide +kernel
theorem dFi_jumpsPerhaps_0 : decode cFi_jumpsPerhaps 0 = .ok (.lload_n 0, 1) := by decide +kernel
theorem dFi_jumpsPerhaps_1 : decode cFi_jumpsPerhaps 1 = .ok (.invokestatic 15, 3) := by decide +kernel
theorem dFi_jumpsPerhaps_4 : decode cFi_jumpsPerhaps 4 = .ok (.istore_n 2, 1) := by decide +kernel
theorem dFi_jumpsPerhaps_5 : decode cFi_jumpsPerhaps 5 = .ok (.lload_n 0, 1) := by decide +kernel
theorem dFi_jumpsPerhaps_6 : decode cFi_jumpsPerhaps 6 = .ok (.invokestatic 18, 3) := by decide +kernel
theorem dFi_jumpsPerhaps_9 : decode cFi_jumpsPerhaps 9 = .ok (.iconst 5, 1) := by decide +kernel
theorem dFi_jumpsPerhaps_10 : decode cFi_jumpsPerhaps 10 = .ok (.if_icmp .eq 12, 3) := by decide +kernel
theorem dFi_jumpsPerhaps_13 : decode cFi_jumpsPerhaps 13 = .ok (.lload_n 0, 1) := by decide +kernel
theorem dFi_jumpsPerhaps_14 : decode cFi_jumpsPerhaps 14 = .ok (.invokestatic 18, 3) := by decide +kernel
theorem dFi_jumpsPerhaps_17 : decode cFi_jumpsPerhaps 17 = .ok (.bipush 6, 2) := by decide +kernel
theorem dFi_jumpsPerhaps_19 : decode cFi_jumpsPerhaps 19 = .ok (.if_icmp .ne 7, 3) := by decide +kernel
theorem dFi_jumpsPerhaps_22 : decode cFi_jumpsPerhaps 22 = .ok (.iconst 1, 1) := by decide +kernel
theorem dFi_jumpsPerhaps_23 : decode cFi_jumpsPerhaps 23 = .ok (.goto 4, 3) := by decide +kernel
theorem dFi_jumpsPerhaps_26 : decode cFi_jumpsPerhaps 26 = .ok (.iconst 0, 1) := by decide +kernel
theorem dFi_jumpsPerhaps_27 : decode cFi_jumpsPerhaps 27 = .ok (.istore_n 3, 1) := by decide +kernel
theorem dFi_jumpsPerhaps_28 : decode cFi_jumpsPerhaps 28 = .ok (.iload_n 3, 1) := by decide +kernel
theorem dFi_jumpsPerhaps_29 : decode cFi_jumpsPerhaps 29 = .ok (.ifCond .eq 30, 3) := by decide +kernel
theorem dFi_jumpsPerhaps_32 : decode cFi_jumpsPerhaps 32 = .ok (.iload_n 2, 1) := by decide +kernel
theorem dFi_jumpsPerhaps_33 : decode cFi_jumpsPerhaps 33 = .ok (.iconst 1, 1) := by decide +kernel
theorem dFi_jumpsPerhaps_34 : decode cFi_jumpsPerhaps 34 = .ok (.if_icmp .lt 9, 3) := by decide +kernel
theorem dFi_jumpsPerhaps_37 : decode cFi_jumpsPerhaps 37 = .ok (.iload_n 2, 1) := by decide +kernel
theorem dFi_jumpsPerhaps_38 : decode cFi_jumpsPerhaps 38 = .ok (.bipush 7, 2) := by decide +kernel
theorem dFi_jumpsPerhaps_40 : decode cFi_jumpsPerhaps 40 = .ok (.if_icmp .le 15, 3) := by decide +kernel
theorem dFi_jumpsPerhaps_43 : decode cFi_jumpsPerhaps 43 = .ok (.iload_n 2, 1) := by decide +kernel
theorem dFi_jumpsPerhaps_44 : decode cFi_jumpsPerhaps 44 = .ok (.bipush 10, 2) := by decide +kernel
theorem dFi_jumpsPerhaps_46 : decode cFi_jumpsPerhaps 46 = .ok (.if_icmp .lt 13, 3) := by decide +kernel
theorem dFi_jumpsPerhaps_49 : decode cFi_jumpsPerhaps 49 = .ok (.iload_n 2, 1) := by decide +kernel
theorem dFi_jumpsPerhaps_50 : decode cFi_jumpsPerhaps 50 = .ok (.bipush 13, 2) := by decide +kernel
theorem dFi_jumpsPerhaps_52 : decode cFi_jumpsPerhaps 52 = .ok (.if_icmp .gt 7, 3) := by decide +kernel
theorem dFi_jumpsPerhaps_55 : decode cFi_jumpsPerhaps 55 = .ok (.iconst 1, 1) := by decide +kernel
theorem dFi_jumpsPerhaps_56 : decode cFi_jumpsPerhaps 56 = .ok (.goto 4, 3) := by decide +kernel
theorem dFi_jumpsPerhaps_59 : decode cFi_jumpsPerhaps 59 = .ok (.iconst 0, 1) := by decide +kernel
theorem dFi_jumpsPerhaps_60 : decode cFi_jumpsPerhaps 60 = .ok (.ireturn, 1) := by decide +kernel
theorem dFi_jumpFrom_0 : decode cFi_jumpFrom 0 = .ok (.iload_n 0, 1) := by decide +kernel
theorem dFi_jumpFrom_1 : decode cFi_jumpFrom 1 = .ok (.i2l, 1) := by decide +kernel
theorem dFi_jumpFrom_2 : decode cFi_jumpFrom 2 = .ok (.lconst 1, 1) := by decide +kernel
theorem dFi_jumpFrom_3 : decode cFi_jumpFrom 3 = .ok (.ladd, 1) := by decide +kernel
theorem dFi_jumpFrom_4 : decode cFi_jumpFrom 4 = .ok (.lload_n 1, 1) := by decide +kernel
theorem dFi_jumpFrom_5 : decode cFi_jumpFrom 5 = .ok (.invokestatic 9, 3) := by decide +kernel
theorem dFi_jumpFrom_8 : decode cFi_jumpFrom 8 = .ok (.bipush 6, 2) := by decide +kernel
theorem dFi_jumpFrom_10 : decode cFi_jumpFrom 10 = .ok (.if_icmp .ne 10, 3) := by decide +kernel
theorem dFi_jumpFrom_13 : decode cFi_jumpFrom 13 = .ok (.lload_n 1, 1) := by decide +kernel
theorem dFi_jumpFrom_14 : decode cFi_jumpFrom 14 = .ok (.invokestatic 21, 3) := by decide +kernel
theorem dFi_jumpFrom_17 : decode cFi_jumpFrom 17 = .ok (.goto 7, 3) := by decide +kernel
theorem dFi_jumpFrom_20 : decode cFi_jumpFrom 20 = .ok (.lload_n 1, 1) := by decide +kernel
theorem dFi_jumpFrom_21 : decode cFi_jumpFrom 21 = .ok (.invokestatic 24, 3) := by decide +kernel
theorem dFi_jumpFrom_24 : decode cFi_jumpFrom 24 = .ok (.i2l, 1) := by decide +kernel
theorem dFi_jumpFrom_25 : decode cFi_jumpFrom 25 = .ok (.ladd, 1) := by decide +kernel
theorem dFi_jumpFrom_26 : decode cFi_jumpFrom 26 = .ok (.lreturn, 1) := by decide +kernel
end
section
theorem dJl_reverseBytes_0 : decode cJl_reverseBytes 0 = .ok (.lload_n 0, 1) := by decide +kernel
theorem dJl_reverseBytes_1 : decode cJl_reverseBytes 1 = .ok (.ldc2_w 327, 3) := by decide +kernel
theorem dJl_reverseBytes_4 : decode cJl_reverseBytes 4 = .ok (.land, 1) := by decide +kernel
theorem dJl_reverseBytes_5 : decode cJl_reverseBytes 5 = .ok (.bipush 8, 2) := by decide +kernel
theorem dJl_reverseBytes_7 : decode cJl_reverseBytes 7 = .ok (.lshl, 1) := by decide +kernel
theorem dJl_reverseBytes_8 : decode cJl_reverseBytes 8 = .ok (.lload_n 0, 1) := by decide +kernel
theorem dJl_reverseBytes_9 : decode cJl_reverseBytes 9 = .ok (.bipush 8, 2) := by decide +kernel
theorem dJl_reverseBytes_11 : decode cJl_reverseBytes 11 = .ok (.lushr, 1) := by decide +kernel
theorem dJl_reverseBytes_12 : decode cJl_reverseBytes 12 = .ok (.ldc2_w 327, 3) := by decide +kernel
theorem dJl_reverseBytes_15 : decode cJl_reverseBytes 15 = .ok (.land, 1) := by decide +kernel
theorem dJl_reverseBytes_16 : decode cJl_reverseBytes 16 = .ok (.lor, 1) := by decide +kernel
theorem dJl_reverseBytes_17 : decode cJl_reverseBytes 17 = .ok (.lstore_n 0, 1) := by decide +kernel
theorem dJl_reverseBytes_18 : decode cJl_reverseBytes 18 = .ok (.lload_n 0, 1) := by decide +kernel
theorem dJl_reverseBytes_19 : decode cJl_reverseBytes 19 = .ok (.bipush 48, 2) := by decide +kernel
theorem dJl_reverseBytes_21 : decode cJl_reverseBytes 21 = .ok (.lshl, 1) := by decide +kernel
theorem dJl_reverseBytes_22 : decode cJl_reverseBytes 22 = .ok (.lload_n 0, 1) := by decide +kernel
theorem dJl_reverseBytes_23 : decode cJl_reverseBytes 23 = .ok (.ldc2_w 329, 3) := by decide +kernel
theorem dJl_reverseBytes_26 : decode cJl_reverseBytes 26 = .ok (.land, 1) := by decide +kernel
theorem dJl_reverseBytes_27 : decode cJl_reverseBytes 27 = .ok (.bipush 16, 2) := by decide +kernel
theorem dJl_reverseBytes_29 : decode cJl_reverseBytes 29 = .ok (.lshl, 1) := by decide +kernel
theorem dJl_reverseBytes_30 : decode cJl_reverseBytes 30 = .ok (.lor, 1) := by decide +kernel
theorem dJl_reverseBytes_31 : decode cJl_reverseBytes 31 = .ok (.lload_n 0, 1) := by decide +kernel
theorem dJl_reverseBytes_32 : decode cJl_reverseBytes 32 = .ok (.bipush 16, 2) := by decide +kernel
theorem dJl_reverseBytes_34 : decode cJl_reverseBytes 34 = .ok (.lushr, 1) := by decide +kernel
theorem dJl_reverseBytes_35 : decode cJl_reverseBytes 35 = .ok (.ldc2_w 329, 3) := by decide +kernel
theorem dJl_reverseBytes_38 : decode cJl_reverseBytes 38 = .ok (.land, 1) := by decide +kernel
theorem dJl_reverseBytes_39 : decode cJl_reverseBytes 39 = .ok (.lor, 1) := by decide +kernel
theorem dJl_reverseBytes_40 : decode cJl_reverseBytes 40 = .ok (.lload_n 0, 1) := by decide +kernel
theorem dJl_reverseBytes_41 : decode cJl_reverseBytes 41 = .ok (.bipush 48, 2) := by decide +kernel
theorem dJl_reverseBytes_43 : decode cJl_reverseBytes 43 = .ok (.lushr, 1) := by decide +kernel
theorem dJl_reverseBytes_44 : decode cJl_reverseBytes 44 = .ok (.lor, 1) := by decide +kernel
theorem dJl_reverseBytes_45 : decode cJl_reverseBytes 45 = .ok (.lreturn, 1) := by decide +kernel
end
section
def f_Jl_reverseBytes (a0 : Int64) : Int64 :=
  ((((j_lshl ((j_lshl (a0 &&& (71777214294589695 : Int64)) (8 : Int32)) ||| ((j_lushr a0 (8 : Int32)) &&& (71777214294589695 : Int64))) (48 : Int32)) ||| (j_lshl (((j_lshl (a0 &&& (71777214294589695 : Int64)) (8 : Int32)) ||| ((j_lushr a0 (8 : Int32)) &&& (71777214294589695 : Int64))) &&& (4294901760 : Int64)) (16 : Int32))) ||| ((j_lushr ((j_lshl (a0 &&& (71777214294589695 : Int64)) (8 : Int32)) ||| ((j_lushr a0 (8 : Int32)) &&& (71777214294589695 : Int64))) (16 : Int32)) &&& (4294901760 : Int64))) ||| (j_lushr ((j_lshl (a0 &&& (71777214294589695 : Int64)) (8 : Int32)) ||| ((j_lushr a0 (8 : Int32)) &&& (71777214294589695 : Int64))) (48 : Int32)))
set_option maxHeartbeats 4000000 in
set_option maxRecDepth 100000 in
theorem c_Jl_reverseBytes (l : Launch) (Hp : Heap) (a0 : Int64) : Met l yJl_reverseBytes wsJl_reverseBytes ({ frames := 0, cells := 0, slots := 0, locals := 0 }) (va_Pc [.long a0] (fun U => U.heap = Hp)) (va_Ql (fun (r : Int64) (_ : Unit) => r = f_Jl_reverseBytes a0) (fun _ t => t.heap = Hp) (fun _ => False)) 0 0 (fun _ => False) := by
  refine Met.ofW (cc := cJl_reverseBytes) (maxL := 2) (ret := (some .long)) (by decide) rfl ?_
  intro p e s m args below meth c s₁ B hml hv
  obtain ⟨rfl, rfl⟩ := hv
  have hx := B.exec
  have hb := B.bytes
  have hr := B.returns
  have hT : ∀ w ∈ tB, w.before _ s = true := fun w h => atoms_spec (ws := wsJl_reverseBytes) B.pre w (List.mem_cons_of_mem _ h)
  have hown : s.vm.findClass "java/lang/Long" = some m.cls := findClass_of_methodNamed B.named
  have hlocks := B.notSynchronized
  have hS : va_S (fun _ => False) s.heap s.heap [] := va_S.rf
  have hl := lv_entry ([.long a0]) (n := 2) (Nat.le_of_ble_eq_true rfl)
  rw [lg_entry_eq]
  generalize (lg_sl ([.long a0]) ++ List.replicate (2 - (lg_sl ([.long a0])).length) Slot.unset).toArray = ls at hl ⊢
  have hl : lv_has ls 2 [(0, .long a0)] := hl
  refine lv_lload_n hx hb dJl_reverseBytes_0 rfl (lv_at hl 0 rfl) ?_
  refine lv_ldc2 (v := (71777214294589695 : Int64)) hx hb hown (hT _ mw_537) dJl_reverseBytes_1 ?_
  refine lv_land hx hb dJl_reverseBytes_4 ?_
  refine lv_bipush (v := (8 : Int32)) hx hb dJl_reverseBytes_5 (by decide) ?_
  refine lv_lshl (v := (j_lshl (a0 &&& (71777214294589695 : Int64)) (8 : Int32))) hx hb dJl_reverseBytes_7 rfl ?_
  refine lv_lload_n hx hb dJl_reverseBytes_8 rfl (lv_at hl 0 rfl) ?_
  refine lv_bipush (v := (8 : Int32)) hx hb dJl_reverseBytes_9 (by decide) ?_
  refine lv_lushr (v := (j_lushr a0 (8 : Int32))) hx hb dJl_reverseBytes_11 rfl ?_
  refine lv_ldc2 (v := (71777214294589695 : Int64)) hx hb hown (hT _ mw_537) dJl_reverseBytes_12 ?_
  refine lv_land hx hb dJl_reverseBytes_15 ?_
  refine lv_lor hx hb dJl_reverseBytes_16 ?_
  refine lv_lstore_n (lv' := [(0, .long ((j_lshl (a0 &&& (71777214294589695 : Int64)) (8 : Int32)) ||| ((j_lushr a0 (8 : Int32)) &&& (71777214294589695 : Int64))))]) hx hb dJl_reverseBytes_17 rfl hl (by decide) rfl (fun ls hl => ?_)
  refine lv_lload_n hx hb dJl_reverseBytes_18 rfl (lv_at hl 0 rfl) ?_
  refine lv_bipush (v := (48 : Int32)) hx hb dJl_reverseBytes_19 (by decide) ?_
  refine lv_lshl (v := (j_lshl ((j_lshl (a0 &&& (71777214294589695 : Int64)) (8 : Int32)) ||| ((j_lushr a0 (8 : Int32)) &&& (71777214294589695 : Int64))) (48 : Int32))) hx hb dJl_reverseBytes_21 rfl ?_
  refine lv_lload_n hx hb dJl_reverseBytes_22 rfl (lv_at hl 0 rfl) ?_
  refine lv_ldc2 (v := (4294901760 : Int64)) hx hb hown (hT _ mw_538) dJl_reverseBytes_23 ?_
  refine lv_land hx hb dJl_reverseBytes_26 ?_
  refine lv_bipush (v := (16 : Int32)) hx hb dJl_reverseBytes_27 (by decide) ?_
  refine lv_lshl (v := (j_lshl (((j_lshl (a0 &&& (71777214294589695 : Int64)) (8 : Int32)) ||| ((j_lushr a0 (8 : Int32)) &&& (71777214294589695 : Int64))) &&& (4294901760 : Int64)) (16 : Int32))) hx hb dJl_reverseBytes_29 rfl ?_
  refine lv_lor hx hb dJl_reverseBytes_30 ?_
  refine lv_lload_n hx hb dJl_reverseBytes_31 rfl (lv_at hl 0 rfl) ?_
  refine lv_bipush (v := (16 : Int32)) hx hb dJl_reverseBytes_32 (by decide) ?_
  refine lv_lushr (v := (j_lushr ((j_lshl (a0 &&& (71777214294589695 : Int64)) (8 : Int32)) ||| ((j_lushr a0 (8 : Int32)) &&& (71777214294589695 : Int64))) (16 : Int32))) hx hb dJl_reverseBytes_34 rfl ?_
  refine lv_ldc2 (v := (4294901760 : Int64)) hx hb hown (hT _ mw_538) dJl_reverseBytes_35 ?_
  refine lv_land hx hb dJl_reverseBytes_38 ?_
  refine lv_lor hx hb dJl_reverseBytes_39 ?_
  refine lv_lload_n hx hb dJl_reverseBytes_40 rfl (lv_at hl 0 rfl) ?_
  refine lv_bipush (v := (48 : Int32)) hx hb dJl_reverseBytes_41 (by decide) ?_
  refine lv_lushr (v := (j_lushr ((j_lshl (a0 &&& (71777214294589695 : Int64)) (8 : Int32)) ||| ((j_lushr a0 (8 : Int32)) &&& (71777214294589695 : Int64))) (48 : Int32))) hx hb dJl_reverseBytes_43 rfl ?_
  refine lv_lor hx hb dJl_reverseBytes_44 ?_
  exact W.lret (v := ((((j_lshl ((j_lshl (a0 &&& (71777214294589695 : Int64)) (8 : Int32)) ||| ((j_lushr a0 (8 : Int32)) &&& (71777214294589695 : Int64))) (48 : Int32)) ||| (j_lshl (((j_lshl (a0 &&& (71777214294589695 : Int64)) (8 : Int32)) ||| ((j_lushr a0 (8 : Int32)) &&& (71777214294589695 : Int64))) &&& (4294901760 : Int64)) (16 : Int32))) ||| ((j_lushr ((j_lshl (a0 &&& (71777214294589695 : Int64)) (8 : Int32)) ||| ((j_lushr a0 (8 : Int32)) &&& (71777214294589695 : Int64))) (16 : Int32)) &&& (4294901760 : Int64))) ||| (j_lushr ((j_lshl (a0 &&& (71777214294589695 : Int64)) (8 : Int32)) ||| ((j_lushr a0 (8 : Int32)) &&& (71777214294589695 : Int64))) (48 : Int32)))) hx hb hr (fun t ht hW => ⟨⟨((((j_lshl ((j_lshl (a0 &&& (71777214294589695 : Int64)) (8 : Int32)) ||| ((j_lushr a0 (8 : Int32)) &&& (71777214294589695 : Int64))) (48 : Int32)) ||| (j_lshl (((j_lshl (a0 &&& (71777214294589695 : Int64)) (8 : Int32)) ||| ((j_lushr a0 (8 : Int32)) &&& (71777214294589695 : Int64))) &&& (4294901760 : Int64)) (16 : Int32))) ||| ((j_lushr ((j_lshl (a0 &&& (71777214294589695 : Int64)) (8 : Int32)) ||| ((j_lushr a0 (8 : Int32)) &&& (71777214294589695 : Int64))) (16 : Int32)) &&& (4294901760 : Int64))) ||| (j_lushr ((j_lshl (a0 &&& (71777214294589695 : Int64)) (8 : Int32)) ||| ((j_lushr a0 (8 : Int32)) &&& (71777214294589695 : Int64))) (48 : Int32))), (), rfl, rfl, ht⟩, hS.F ht⟩) hS.2.2 dJl_reverseBytes_45
end
section
def f_Fi_code (a0 : Int64) : Int32 :=
  (((a0).toInt32) &&& (255 : Int32))
set_option maxHeartbeats 4000000 in
set_option maxRecDepth 100000 in
theorem c_Fi_code (l : Launch) (Hp : Heap) (a0 : Int64) : Met l yFi_code wsFi_code ({ frames := 0, cells := 0, slots := 0, locals := 0 }) (va_Pc [.long a0] (fun U => U.heap = Hp)) (va_Qi (fun (r : Int32) (_ : Unit) => r = f_Fi_code a0) (fun _ t => t.heap = Hp) (fun _ => False)) 0 0 (fun _ => False) := by
  refine Met.ofW (cc := cFi_code) (maxL := 2) (ret := (some .int)) (by decide) rfl ?_
  intro p e s m args below meth c s₁ B hml hv
  obtain ⟨rfl, rfl⟩ := hv
  have hx := B.exec
  have hb := B.bytes
  have hr := B.returns
  have hT : ∀ w ∈ tB, w.before _ s = true := fun w h => atoms_spec (ws := wsFi_code) B.pre w (List.mem_cons_of_mem _ h)
  have hown : s.vm.findClass "CompiledProgram$Fields" = some m.cls := findClass_of_methodNamed B.named
  have hlocks := B.notSynchronized
  have hS : va_S (fun _ => False) s.heap s.heap [] := va_S.rf
  have hl := lv_entry ([.long a0]) (n := 2) (Nat.le_of_ble_eq_true rfl)
  rw [lg_entry_eq]
  generalize (lg_sl ([.long a0]) ++ List.replicate (2 - (lg_sl ([.long a0])).length) Slot.unset).toArray = ls at hl ⊢
  have hl : lv_has ls 2 [(0, .long a0)] := hl
  refine lv_lload_n hx hb dFi_code_0 rfl (lv_at hl 0 rfl) ?_
  refine lv_l2i hx hb dFi_code_1 rfl ?_
  refine lv_sipush (v := (255 : Int32)) hx hb dFi_code_2 (by decide) ?_
  refine lv_iand hx hb dFi_code_5 ?_
  exact W.iret (v := (((a0).toInt32) &&& (255 : Int32))) hx hb hr (fun t ht hW => ⟨⟨(((a0).toInt32) &&& (255 : Int32)), (), rfl, rfl, ht⟩, hS.F ht⟩) hS.2.2 dFi_code_6

def f_Fi_kind (a0 : Int64) : Int32 :=
  (((a0).toInt32) &&& (7 : Int32))
set_option maxHeartbeats 4000000 in
set_option maxRecDepth 100000 in
theorem c_Fi_kind (l : Launch) (Hp : Heap) (a0 : Int64) : Met l yFi_kind wsFi_kind ({ frames := 0, cells := 0, slots := 0, locals := 0 }) (va_Pc [.long a0] (fun U => U.heap = Hp)) (va_Qi (fun (r : Int32) (_ : Unit) => r = f_Fi_kind a0) (fun _ t => t.heap = Hp) (fun _ => False)) 0 0 (fun _ => False) := by
  refine Met.ofW (cc := cFi_kind) (maxL := 2) (ret := (some .int)) (by decide) rfl ?_
  intro p e s m args below meth c s₁ B hml hv
  obtain ⟨rfl, rfl⟩ := hv
  have hx := B.exec
  have hb := B.bytes
  have hr := B.returns
  have hT : ∀ w ∈ tB, w.before _ s = true := fun w h => atoms_spec (ws := wsFi_kind) B.pre w (List.mem_cons_of_mem _ h)
  have hown : s.vm.findClass "CompiledProgram$Fields" = some m.cls := findClass_of_methodNamed B.named
  have hlocks := B.notSynchronized
  have hS : va_S (fun _ => False) s.heap s.heap [] := va_S.rf
  have hl := lv_entry ([.long a0]) (n := 2) (Nat.le_of_ble_eq_true rfl)
  rw [lg_entry_eq]
  generalize (lg_sl ([.long a0]) ++ List.replicate (2 - (lg_sl ([.long a0])).length) Slot.unset).toArray = ls at hl ⊢
  have hl : lv_has ls 2 [(0, .long a0)] := hl
  refine lv_lload_n hx hb dFi_kind_0 rfl (lv_at hl 0 rfl) ?_
  refine lv_l2i hx hb dFi_kind_1 rfl ?_
  refine lv_bipush (v := (7 : Int32)) hx hb dFi_kind_2 (by decide) ?_
  refine lv_iand hx hb dFi_kind_4 ?_
  exact W.iret (v := (((a0).toInt32) &&& (7 : Int32))) hx hb hr (fun t ht hW => ⟨⟨(((a0).toInt32) &&& (7 : Int32)), (), rfl, rfl, ht⟩, hS.F ht⟩) hS.2.2 dFi_kind_5

def f_Fi_operation (a0 : Int64) : Int32 :=
  (((j_lushr a0 (4 : Int32)).toInt32) &&& (15 : Int32))
set_option maxHeartbeats 4000000 in
set_option maxRecDepth 100000 in
theorem c_Fi_operation (l : Launch) (Hp : Heap) (a0 : Int64) : Met l yFi_operation wsFi_operation ({ frames := 0, cells := 0, slots := 0, locals := 0 }) (va_Pc [.long a0] (fun U => U.heap = Hp)) (va_Qi (fun (r : Int32) (_ : Unit) => r = f_Fi_operation a0) (fun _ t => t.heap = Hp) (fun _ => False)) 0 0 (fun _ => False) := by
  refine Met.ofW (cc := cFi_operation) (maxL := 2) (ret := (some .int)) (by decide) rfl ?_
  intro p e s m args below meth c s₁ B hml hv
  obtain ⟨rfl, rfl⟩ := hv
  have hx := B.exec
  have hb := B.bytes
  have hr := B.returns
  have hT : ∀ w ∈ tB, w.before _ s = true := fun w h => atoms_spec (ws := wsFi_operation) B.pre w (List.mem_cons_of_mem _ h)
  have hown : s.vm.findClass "CompiledProgram$Fields" = some m.cls := findClass_of_methodNamed B.named
  have hlocks := B.notSynchronized
  have hS : va_S (fun _ => False) s.heap s.heap [] := va_S.rf
  have hl := lv_entry ([.long a0]) (n := 2) (Nat.le_of_ble_eq_true rfl)
  rw [lg_entry_eq]
  generalize (lg_sl ([.long a0]) ++ List.replicate (2 - (lg_sl ([.long a0])).length) Slot.unset).toArray = ls at hl ⊢
  have hl : lv_has ls 2 [(0, .long a0)] := hl
  refine lv_lload_n hx hb dFi_operation_0 rfl (lv_at hl 0 rfl) ?_
  refine lv_iconst (v := (4 : Int32)) hx hb dFi_operation_1 (by decide) ?_
  refine lv_lushr (v := (j_lushr a0 (4 : Int32))) hx hb dFi_operation_2 rfl ?_
  refine lv_l2i hx hb dFi_operation_3 rfl ?_
  refine lv_bipush (v := (15 : Int32)) hx hb dFi_operation_4 (by decide) ?_
  refine lv_iand hx hb dFi_operation_6 ?_
  exact W.iret (v := (((j_lushr a0 (4 : Int32)).toInt32) &&& (15 : Int32))) hx hb hr (fun t ht hW => ⟨⟨(((j_lushr a0 (4 : Int32)).toInt32) &&& (15 : Int32)), (), rfl, rfl, ht⟩, hS.F ht⟩) hS.2.2 dFi_operation_7

def f_Fi_usesSource (a0 : Int64) : Bool :=
  if (a0 &&& (8 : Int64)) = (0 : Int64) then
    false
  else
    true
set_option maxHeartbeats 4000000 in
set_option maxRecDepth 100000 in
theorem c_Fi_usesSource (l : Launch) (Hp : Heap) (a0 : Int64) : Met l yFi_usesSource wsFi_usesSource ({ frames := 0, cells := 0, slots := 0, locals := 0 }) (va_Pc [.long a0] (fun U => U.heap = Hp)) (va_Qi (fun (r : Int32) (_ : Unit) => r = (bI (f_Fi_usesSource a0))) (fun _ t => t.heap = Hp) (fun _ => False)) 0 0 (fun _ => False) := by
  refine Met.ofW (cc := cFi_usesSource) (maxL := 2) (ret := (some .boolean)) (by decide) rfl ?_
  intro p e s m args below meth c s₁ B hml hv
  obtain ⟨rfl, rfl⟩ := hv
  have hx := B.exec
  have hb := B.bytes
  have hr := B.returns
  have hT : ∀ w ∈ tB, w.before _ s = true := fun w h => atoms_spec (ws := wsFi_usesSource) B.pre w (List.mem_cons_of_mem _ h)
  have hown : s.vm.findClass "CompiledProgram$Fields" = some m.cls := findClass_of_methodNamed B.named
  have hlocks := B.notSynchronized
  have hS : va_S (fun _ => False) s.heap s.heap [] := va_S.rf
  have hl := lv_entry ([.long a0]) (n := 2) (Nat.le_of_ble_eq_true rfl)
  rw [lg_entry_eq]
  generalize (lg_sl ([.long a0]) ++ List.replicate (2 - (lg_sl ([.long a0])).length) Slot.unset).toArray = ls at hl ⊢
  have hl : lv_has ls 2 [(0, .long a0)] := hl
  refine lv_lload_n hx hb dFi_usesSource_0 rfl (lv_at hl 0 rfl) ?_
  refine lv_ldc2 (v := (8 : Int64)) hx hb hown (hT _ mw_195) dFi_usesSource_1 ?_
  refine lv_land hx hb dFi_usesSource_4 ?_
  refine lv_lconst (v := (0 : Int64)) hx hb dFi_usesSource_5 (by decide) ?_
  refine W.lcmp hx hb dFi_usesSource_6 ?_
  refine lv_if_eq (tgt := 14) hx hb dFi_usesSource_7 (by decide) (fun c1 => ?_) (fun c1 => ?_)
  · have c1 := (lg_cmp_eq _ _).mp c1
    refine lv_iconst (v := (0 : Int32)) hx hb dFi_usesSource_14 (by decide) ?_
    exact W.zret (v := (0 : Int32)) hx hb hr rfl (fun t ht hW => ⟨⟨(0 : Int32), (), rfl, (by unfold f_Fi_usesSource; rw [if_pos c1]; try rfl), ht⟩, hS.F ht⟩) hS.2.2 dFi_usesSource_15
  · have c1 := mt (lg_cmp_eq _ _).mpr c1
    refine lv_iconst (v := (1 : Int32)) hx hb dFi_usesSource_10 (by decide) ?_
    refine lv_goto (tgt := 15) hx hb dFi_usesSource_11 (by decide) ?_
    exact W.zret (v := (1 : Int32)) hx hb hr rfl (fun t ht hW => ⟨⟨(1 : Int32), (), rfl, (by unfold f_Fi_usesSource; rw [if_neg c1]; try rfl), ht⟩, hS.F ht⟩) hS.2.2 dFi_usesSource_15

def f_Fi_mode (a0 : Int64) : Int32 :=
  (((j_lushr a0 (5 : Int32)).toInt32) &&& (7 : Int32))
set_option maxHeartbeats 4000000 in
set_option maxRecDepth 100000 in
theorem c_Fi_mode (l : Launch) (Hp : Heap) (a0 : Int64) : Met l yFi_mode wsFi_mode ({ frames := 0, cells := 0, slots := 0, locals := 0 }) (va_Pc [.long a0] (fun U => U.heap = Hp)) (va_Qi (fun (r : Int32) (_ : Unit) => r = f_Fi_mode a0) (fun _ t => t.heap = Hp) (fun _ => False)) 0 0 (fun _ => False) := by
  refine Met.ofW (cc := cFi_mode) (maxL := 2) (ret := (some .int)) (by decide) rfl ?_
  intro p e s m args below meth c s₁ B hml hv
  obtain ⟨rfl, rfl⟩ := hv
  have hx := B.exec
  have hb := B.bytes
  have hr := B.returns
  have hT : ∀ w ∈ tB, w.before _ s = true := fun w h => atoms_spec (ws := wsFi_mode) B.pre w (List.mem_cons_of_mem _ h)
  have hown : s.vm.findClass "CompiledProgram$Fields" = some m.cls := findClass_of_methodNamed B.named
  have hlocks := B.notSynchronized
  have hS : va_S (fun _ => False) s.heap s.heap [] := va_S.rf
  have hl := lv_entry ([.long a0]) (n := 2) (Nat.le_of_ble_eq_true rfl)
  rw [lg_entry_eq]
  generalize (lg_sl ([.long a0]) ++ List.replicate (2 - (lg_sl ([.long a0])).length) Slot.unset).toArray = ls at hl ⊢
  have hl : lv_has ls 2 [(0, .long a0)] := hl
  refine lv_lload_n hx hb dFi_mode_0 rfl (lv_at hl 0 rfl) ?_
  refine lv_iconst (v := (5 : Int32)) hx hb dFi_mode_1 (by decide) ?_
  refine lv_lushr (v := (j_lushr a0 (5 : Int32))) hx hb dFi_mode_2 rfl ?_
  refine lv_l2i hx hb dFi_mode_3 rfl ?_
  refine lv_bipush (v := (7 : Int32)) hx hb dFi_mode_4 (by decide) ?_
  refine lv_iand hx hb dFi_mode_6 ?_
  exact W.iret (v := (((j_lushr a0 (5 : Int32)).toInt32) &&& (7 : Int32))) hx hb hr (fun t ht hW => ⟨⟨(((j_lushr a0 (5 : Int32)).toInt32) &&& (7 : Int32)), (), rfl, rfl, ht⟩, hS.F ht⟩) hS.2.2 dFi_mode_7

def f_Fi_size (a0 : Int64) : Int32 :=
  if (((j_lushr a0 (3 : Int32)).toInt32) &&& (3 : Int32)) = (0 : Int32) then
    (4 : Int32)
  else
    if (((j_lushr a0 (3 : Int32)).toInt32) &&& (3 : Int32)) = (1 : Int32) then
      (2 : Int32)
    else
      if (((j_lushr a0 (3 : Int32)).toInt32) &&& (3 : Int32)) = (2 : Int32) then
        (1 : Int32)
      else
        (8 : Int32)
set_option maxHeartbeats 4000000 in
set_option maxRecDepth 100000 in
theorem c_Fi_size (l : Launch) (Hp : Heap) (a0 : Int64) : Met l yFi_size wsFi_size ({ frames := 0, cells := 0, slots := 0, locals := 0 }) (va_Pc [.long a0] (fun U => U.heap = Hp)) (va_Qi (fun (r : Int32) (_ : Unit) => r = f_Fi_size a0) (fun _ t => t.heap = Hp) (fun _ => False)) 0 0 (fun _ => False) := by
  refine Met.ofW (cc := cFi_size) (maxL := 2) (ret := (some .int)) (by decide) rfl ?_
  intro p e s m args below meth c s₁ B hml hv
  obtain ⟨rfl, rfl⟩ := hv
  have hx := B.exec
  have hb := B.bytes
  have hr := B.returns
  have hT : ∀ w ∈ tB, w.before _ s = true := fun w h => atoms_spec (ws := wsFi_size) B.pre w (List.mem_cons_of_mem _ h)
  have hown : s.vm.findClass "CompiledProgram$Fields" = some m.cls := findClass_of_methodNamed B.named
  have hlocks := B.notSynchronized
  have hS : va_S (fun _ => False) s.heap s.heap [] := va_S.rf
  have hl := lv_entry ([.long a0]) (n := 2) (Nat.le_of_ble_eq_true rfl)
  rw [lg_entry_eq]
  generalize (lg_sl ([.long a0]) ++ List.replicate (2 - (lg_sl ([.long a0])).length) Slot.unset).toArray = ls at hl ⊢
  have hl : lv_has ls 2 [(0, .long a0)] := hl
  refine lv_lload_n hx hb dFi_size_0 rfl (lv_at hl 0 rfl) ?_
  refine lv_iconst (v := (3 : Int32)) hx hb dFi_size_1 (by decide) ?_
  refine lv_lushr (v := (j_lushr a0 (3 : Int32))) hx hb dFi_size_2 rfl ?_
  refine lv_l2i hx hb dFi_size_3 rfl ?_
  refine lv_iconst (v := (3 : Int32)) hx hb dFi_size_4 (by decide) ?_
  refine lv_iand hx hb dFi_size_5 ?_
  by_cases c1 : (((j_lushr a0 (3 : Int32)).toInt32) &&& (3 : Int32)) = (0 : Int32)
  · skip
    refine lv_tableIn (tgt := 32) (off := 26) hx hb dFi_size_6 (by rw [c1]; decide) (by rw [c1]; decide) (by rw [c1]; rfl) (by decide) ?_
    refine lv_iconst (v := (4 : Int32)) hx hb dFi_size_32 (by decide) ?_
    exact W.iret (v := (4 : Int32)) hx hb hr (fun t ht hW => ⟨⟨(4 : Int32), (), rfl, (by unfold f_Fi_size; rw [if_pos c1]; try rfl), ht⟩, hS.F ht⟩) hS.2.2 dFi_size_33
  by_cases c2 : (((j_lushr a0 (3 : Int32)).toInt32) &&& (3 : Int32)) = (1 : Int32)
  · skip
    refine lv_tableIn (tgt := 34) (off := 28) hx hb dFi_size_6 (by rw [c2]; decide) (by rw [c2]; decide) (by rw [c2]; rfl) (by decide) ?_
    refine lv_iconst (v := (2 : Int32)) hx hb dFi_size_34 (by decide) ?_
    exact W.iret (v := (2 : Int32)) hx hb hr (fun t ht hW => ⟨⟨(2 : Int32), (), rfl, (by unfold f_Fi_size; rw [if_neg c1, if_pos c2]; try rfl), ht⟩, hS.F ht⟩) hS.2.2 dFi_size_35
  by_cases c3 : (((j_lushr a0 (3 : Int32)).toInt32) &&& (3 : Int32)) = (2 : Int32)
  · skip
    refine lv_tableIn (tgt := 36) (off := 30) hx hb dFi_size_6 (by rw [c3]; decide) (by rw [c3]; decide) (by rw [c3]; rfl) (by decide) ?_
    refine lv_iconst (v := (1 : Int32)) hx hb dFi_size_36 (by decide) ?_
    exact W.iret (v := (1 : Int32)) hx hb hr (fun t ht hW => ⟨⟨(1 : Int32), (), rfl, (by unfold f_Fi_size; rw [if_neg c1, if_neg c2, if_pos c3]; try rfl), ht⟩, hS.F ht⟩) hS.2.2 dFi_size_37
  refine lv_tableOut (tgt := 38) hx hb dFi_size_6 (by have h0 := lv_neT c1 (a := 0) (by decide); have h1 := lv_neT c2 (a := 1) (by decide); have h2 := lv_neT c3 (a := 2) (by decide); omega) (by decide) ?_
  refine lv_bipush (v := (8 : Int32)) hx hb dFi_size_38 (by decide) ?_
  exact W.iret (v := (8 : Int32)) hx hb hr (fun t ht hW => ⟨⟨(8 : Int32), (), rfl, (by unfold f_Fi_size; rw [if_neg c1, if_neg c2, if_neg c3]; try rfl), ht⟩, hS.F ht⟩) hS.2.2 dFi_size_40

def f_Fi_target (a0 : Int64) : Int32 :=
  (((j_lushr a0 (8 : Int32)).toInt32) &&& (15 : Int32))
set_option maxHeartbeats 4000000 in
set_option maxRecDepth 100000 in
theorem c_Fi_target (l : Launch) (Hp : Heap) (a0 : Int64) : Met l yFi_target wsFi_target ({ frames := 0, cells := 0, slots := 0, locals := 0 }) (va_Pc [.long a0] (fun U => U.heap = Hp)) (va_Qi (fun (r : Int32) (_ : Unit) => r = f_Fi_target a0) (fun _ t => t.heap = Hp) (fun _ => False)) 0 0 (fun _ => False) := by
  refine Met.ofW (cc := cFi_target) (maxL := 2) (ret := (some .int)) (by decide) rfl ?_
  intro p e s m args below meth c s₁ B hml hv
  obtain ⟨rfl, rfl⟩ := hv
  have hx := B.exec
  have hb := B.bytes
  have hr := B.returns
  have hT : ∀ w ∈ tB, w.before _ s = true := fun w h => atoms_spec (ws := wsFi_target) B.pre w (List.mem_cons_of_mem _ h)
  have hown : s.vm.findClass "CompiledProgram$Fields" = some m.cls := findClass_of_methodNamed B.named
  have hlocks := B.notSynchronized
  have hS : va_S (fun _ => False) s.heap s.heap [] := va_S.rf
  have hl := lv_entry ([.long a0]) (n := 2) (Nat.le_of_ble_eq_true rfl)
  rw [lg_entry_eq]
  generalize (lg_sl ([.long a0]) ++ List.replicate (2 - (lg_sl ([.long a0])).length) Slot.unset).toArray = ls at hl ⊢
  have hl : lv_has ls 2 [(0, .long a0)] := hl
  refine lv_lload_n hx hb dFi_target_0 rfl (lv_at hl 0 rfl) ?_
  refine lv_bipush (v := (8 : Int32)) hx hb dFi_target_1 (by decide) ?_
  refine lv_lushr (v := (j_lushr a0 (8 : Int32))) hx hb dFi_target_3 rfl ?_
  refine lv_l2i hx hb dFi_target_4 rfl ?_
  refine lv_bipush (v := (15 : Int32)) hx hb dFi_target_5 (by decide) ?_
  refine lv_iand hx hb dFi_target_7 ?_
  exact W.iret (v := (((j_lushr a0 (8 : Int32)).toInt32) &&& (15 : Int32))) hx hb hr (fun t ht hW => ⟨⟨(((j_lushr a0 (8 : Int32)).toInt32) &&& (15 : Int32)), (), rfl, rfl, ht⟩, hS.F ht⟩) hS.2.2 dFi_target_8

def f_Fi_source (a0 : Int64) : Int32 :=
  (((j_lushr a0 (12 : Int32)).toInt32) &&& (15 : Int32))
set_option maxHeartbeats 4000000 in
set_option maxRecDepth 100000 in
theorem c_Fi_source (l : Launch) (Hp : Heap) (a0 : Int64) : Met l yFi_source wsFi_source ({ frames := 0, cells := 0, slots := 0, locals := 0 }) (va_Pc [.long a0] (fun U => U.heap = Hp)) (va_Qi (fun (r : Int32) (_ : Unit) => r = f_Fi_source a0) (fun _ t => t.heap = Hp) (fun _ => False)) 0 0 (fun _ => False) := by
  refine Met.ofW (cc := cFi_source) (maxL := 2) (ret := (some .int)) (by decide) rfl ?_
  intro p e s m args below meth c s₁ B hml hv
  obtain ⟨rfl, rfl⟩ := hv
  have hx := B.exec
  have hb := B.bytes
  have hr := B.returns
  have hT : ∀ w ∈ tB, w.before _ s = true := fun w h => atoms_spec (ws := wsFi_source) B.pre w (List.mem_cons_of_mem _ h)
  have hown : s.vm.findClass "CompiledProgram$Fields" = some m.cls := findClass_of_methodNamed B.named
  have hlocks := B.notSynchronized
  have hS : va_S (fun _ => False) s.heap s.heap [] := va_S.rf
  have hl := lv_entry ([.long a0]) (n := 2) (Nat.le_of_ble_eq_true rfl)
  rw [lg_entry_eq]
  generalize (lg_sl ([.long a0]) ++ List.replicate (2 - (lg_sl ([.long a0])).length) Slot.unset).toArray = ls at hl ⊢
  have hl : lv_has ls 2 [(0, .long a0)] := hl
  refine lv_lload_n hx hb dFi_source_0 rfl (lv_at hl 0 rfl) ?_
  refine lv_bipush (v := (12 : Int32)) hx hb dFi_source_1 (by decide) ?_
  refine lv_lushr (v := (j_lushr a0 (12 : Int32))) hx hb dFi_source_3 rfl ?_
  refine lv_l2i hx hb dFi_source_4 rfl ?_
  refine lv_bipush (v := (15 : Int32)) hx hb dFi_source_5 (by decide) ?_
  refine lv_iand hx hb dFi_source_7 ?_
  exact W.iret (v := (((j_lushr a0 (12 : Int32)).toInt32) &&& (15 : Int32))) hx hb hr (fun t ht hW => ⟨⟨(((j_lushr a0 (12 : Int32)).toInt32) &&& (15 : Int32)), (), rfl, rfl, ht⟩, hS.F ht⟩) hS.2.2 dFi_source_8

def f_Fi_offset (a0 : Int64) : Int32 :=
  (j_i2s ((j_lushr a0 (16 : Int32)).toInt32))
set_option maxHeartbeats 4000000 in
set_option maxRecDepth 100000 in
theorem c_Fi_offset (l : Launch) (Hp : Heap) (a0 : Int64) : Met l yFi_offset wsFi_offset ({ frames := 0, cells := 0, slots := 0, locals := 0 }) (va_Pc [.long a0] (fun U => U.heap = Hp)) (va_Qi (fun (r : Int32) (_ : Unit) => r = f_Fi_offset a0) (fun _ t => t.heap = Hp) (fun _ => False)) 0 0 (fun _ => False) := by
  refine Met.ofW (cc := cFi_offset) (maxL := 2) (ret := (some .int)) (by decide) rfl ?_
  intro p e s m args below meth c s₁ B hml hv
  obtain ⟨rfl, rfl⟩ := hv
  have hx := B.exec
  have hb := B.bytes
  have hr := B.returns
  have hT : ∀ w ∈ tB, w.before _ s = true := fun w h => atoms_spec (ws := wsFi_offset) B.pre w (List.mem_cons_of_mem _ h)
  have hown : s.vm.findClass "CompiledProgram$Fields" = some m.cls := findClass_of_methodNamed B.named
  have hlocks := B.notSynchronized
  have hS : va_S (fun _ => False) s.heap s.heap [] := va_S.rf
  have hl := lv_entry ([.long a0]) (n := 2) (Nat.le_of_ble_eq_true rfl)
  rw [lg_entry_eq]
  generalize (lg_sl ([.long a0]) ++ List.replicate (2 - (lg_sl ([.long a0])).length) Slot.unset).toArray = ls at hl ⊢
  have hl : lv_has ls 2 [(0, .long a0)] := hl
  refine lv_lload_n hx hb dFi_offset_0 rfl (lv_at hl 0 rfl) ?_
  refine lv_bipush (v := (16 : Int32)) hx hb dFi_offset_1 (by decide) ?_
  refine lv_lushr (v := (j_lushr a0 (16 : Int32))) hx hb dFi_offset_3 rfl ?_
  refine lv_l2i hx hb dFi_offset_4 rfl ?_
  refine lv_i2s (v := (j_i2s ((j_lushr a0 (16 : Int32)).toInt32))) hx hb dFi_offset_5 rfl ?_
  exact W.iret (v := (j_i2s ((j_lushr a0 (16 : Int32)).toInt32))) hx hb hr (fun t ht hW => ⟨⟨(j_i2s ((j_lushr a0 (16 : Int32)).toInt32)), (), rfl, rfl, ht⟩, hS.F ht⟩) hS.2.2 dFi_offset_6

def f_Fi_immediate (a0 : Int64) : Int32 :=
  ((j_lushr a0 (32 : Int32)).toInt32)
set_option maxHeartbeats 4000000 in
set_option maxRecDepth 100000 in
theorem c_Fi_immediate (l : Launch) (Hp : Heap) (a0 : Int64) : Met l yFi_immediate wsFi_immediate ({ frames := 0, cells := 0, slots := 0, locals := 0 }) (va_Pc [.long a0] (fun U => U.heap = Hp)) (va_Qi (fun (r : Int32) (_ : Unit) => r = f_Fi_immediate a0) (fun _ t => t.heap = Hp) (fun _ => False)) 0 0 (fun _ => False) := by
  refine Met.ofW (cc := cFi_immediate) (maxL := 2) (ret := (some .int)) (by decide) rfl ?_
  intro p e s m args below meth c s₁ B hml hv
  obtain ⟨rfl, rfl⟩ := hv
  have hx := B.exec
  have hb := B.bytes
  have hr := B.returns
  have hT : ∀ w ∈ tB, w.before _ s = true := fun w h => atoms_spec (ws := wsFi_immediate) B.pre w (List.mem_cons_of_mem _ h)
  have hown : s.vm.findClass "CompiledProgram$Fields" = some m.cls := findClass_of_methodNamed B.named
  have hlocks := B.notSynchronized
  have hS : va_S (fun _ => False) s.heap s.heap [] := va_S.rf
  have hl := lv_entry ([.long a0]) (n := 2) (Nat.le_of_ble_eq_true rfl)
  rw [lg_entry_eq]
  generalize (lg_sl ([.long a0]) ++ List.replicate (2 - (lg_sl ([.long a0])).length) Slot.unset).toArray = ls at hl ⊢
  have hl : lv_has ls 2 [(0, .long a0)] := hl
  refine lv_lload_n hx hb dFi_immediate_0 rfl (lv_at hl 0 rfl) ?_
  refine lv_bipush (v := (32 : Int32)) hx hb dFi_immediate_1 (by decide) ?_
  refine lv_lushr (v := (j_lushr a0 (32 : Int32))) hx hb dFi_immediate_3 rfl ?_
  refine lv_l2i hx hb dFi_immediate_4 rfl ?_
  exact W.iret (v := ((j_lushr a0 (32 : Int32)).toInt32)) hx hb hr (fun t ht hW => ⟨⟨((j_lushr a0 (32 : Int32)).toInt32), (), rfl, rfl, ht⟩, hS.F ht⟩) hS.2.2 dFi_immediate_5

def f_Fi_isTwoPlaces (a0 : Int64) : Bool :=
  if (f_Fi_code a0) = (24 : Int32) then
    true
  else
    false
set_option maxHeartbeats 4000000 in
set_option maxRecDepth 100000 in
theorem c_Fi_isTwoPlaces (l : Launch) (Hp : Heap) (a0 : Int64) : Met l yFi_isTwoPlaces wsFi_isTwoPlaces ({ frames := 1, cells := 0, slots := 0, locals := 21 }) (va_Pc [.long a0] (fun U => U.heap = Hp)) (va_Qi (fun (r : Int32) (_ : Unit) => r = (bI (f_Fi_isTwoPlaces a0))) (fun _ t => t.heap = Hp) (fun _ => False)) 0 0 (fun _ => False) := by
  refine Met.ofW (cc := cFi_isTwoPlaces) (maxL := 2) (ret := (some .boolean)) (by decide) rfl ?_
  intro p e s m args below meth c s₁ B hml hv
  obtain ⟨rfl, rfl⟩ := hv
  have hx := B.exec
  have hb := B.bytes
  have hr := B.returns
  have hT : ∀ w ∈ tB, w.before _ s = true := fun w h => atoms_spec (ws := wsFi_isTwoPlaces) B.pre w (List.mem_cons_of_mem _ h)
  have hown : s.vm.findClass "CompiledProgram$Fields" = some m.cls := findClass_of_methodNamed B.named
  have hlocks := B.notSynchronized
  have hS : va_S (fun _ => False) s.heap s.heap [] := va_S.rf
  have hl := lv_entry ([.long a0]) (n := 2) (Nat.le_of_ble_eq_true rfl)
  rw [lg_entry_eq]
  generalize (lg_sl ([.long a0]) ++ List.replicate (2 - (lg_sl ([.long a0])).length) Slot.unset).toArray = ls at hl ⊢
  have hl : lv_has ls 2 [(0, .long a0)] := hl
  refine lv_lload_n hx hb dFi_isTwoPlaces_0 rfl (lv_at hl 0 rfl) ?_
  refine va_calli (va_runS (As := [.long a0]) (rest := []) ⟨hx, hb, hml, hown, hT⟩ (c_Fi_code l s.heap a0) (cwS 1 hT (gB_S mw_143 mw_144 mw_16 mw_145) rfl rfl rfl (by decide +kernel) ⟨Nat.le_of_ble_eq_true rfl, Nat.le_of_ble_eq_true rfl⟩) ⟨fun _ _ _ _ q => q, fun U hU hW => ⟨rfl, hU⟩⟩ rfl rfl hl.1 rfl (lv_room (Nat.le_of_ble_eq_true rfl)) dFi_isTwoPlaces_1 ⟨Nat.zero_le _, Nat.zero_le _⟩) hS (fun _ _ h => h.elim) (fun _ h => h.elim) (fun r u t H1 locs ht hvm hw hB hz hk hS => ?_)
  obtain rfl : s.heap = H1 := hB.symm.trans ht
  subst hw
  refine lv_bipush (v := (24 : Int32)) hx hb dFi_isTwoPlaces_4 (by decide) ?_
  refine lv_icmp_ne (tgt := 13) hx hb dFi_isTwoPlaces_6 (by decide) (fun c1 => ?_) (fun c1 => ?_)
  · skip
    refine lv_iconst (v := (0 : Int32)) hx hb dFi_isTwoPlaces_13 (by decide) ?_
    exact W.zret (v := (0 : Int32)) hx hb hr rfl (fun t ht hW => ⟨⟨(0 : Int32), (), rfl, (by unfold f_Fi_isTwoPlaces; rw [if_neg c1]; try rfl), ht⟩, hS.F ht⟩) hS.2.2 dFi_isTwoPlaces_14
  · skip
    refine lv_iconst (v := (1 : Int32)) hx hb dFi_isTwoPlaces_9 (by decide) ?_
    refine lv_goto (tgt := 14) hx hb dFi_isTwoPlaces_10 (by decide) ?_
    exact W.zret (v := (1 : Int32)) hx hb hr rfl (fun t ht hW => ⟨⟨(1 : Int32), (), rfl, (by unfold f_Fi_isTwoPlaces; rw [if_pos c1]; try rfl), ht⟩, hS.F ht⟩) hS.2.2 dFi_isTwoPlaces_14

def f_Fi_isExit (a0 : Int64) : Bool :=
  if (f_Fi_code a0) = (149 : Int32) then
    true
  else
    false
set_option maxHeartbeats 4000000 in
set_option maxRecDepth 100000 in
theorem c_Fi_isExit (l : Launch) (Hp : Heap) (a0 : Int64) : Met l yFi_isExit wsFi_isExit ({ frames := 1, cells := 0, slots := 0, locals := 21 }) (va_Pc [.long a0] (fun U => U.heap = Hp)) (va_Qi (fun (r : Int32) (_ : Unit) => r = (bI (f_Fi_isExit a0))) (fun _ t => t.heap = Hp) (fun _ => False)) 0 0 (fun _ => False) := by
  refine Met.ofW (cc := cFi_isExit) (maxL := 2) (ret := (some .boolean)) (by decide) rfl ?_
  intro p e s m args below meth c s₁ B hml hv
  obtain ⟨rfl, rfl⟩ := hv
  have hx := B.exec
  have hb := B.bytes
  have hr := B.returns
  have hT : ∀ w ∈ tB, w.before _ s = true := fun w h => atoms_spec (ws := wsFi_isExit) B.pre w (List.mem_cons_of_mem _ h)
  have hown : s.vm.findClass "CompiledProgram$Fields" = some m.cls := findClass_of_methodNamed B.named
  have hlocks := B.notSynchronized
  have hS : va_S (fun _ => False) s.heap s.heap [] := va_S.rf
  have hl := lv_entry ([.long a0]) (n := 2) (Nat.le_of_ble_eq_true rfl)
  rw [lg_entry_eq]
  generalize (lg_sl ([.long a0]) ++ List.replicate (2 - (lg_sl ([.long a0])).length) Slot.unset).toArray = ls at hl ⊢
  have hl : lv_has ls 2 [(0, .long a0)] := hl
  refine lv_lload_n hx hb dFi_isExit_0 rfl (lv_at hl 0 rfl) ?_
  refine va_calli (va_runS (As := [.long a0]) (rest := []) ⟨hx, hb, hml, hown, hT⟩ (c_Fi_code l s.heap a0) (cwS 1 hT (gB_S mw_143 mw_144 mw_16 mw_145) rfl rfl rfl (by decide +kernel) ⟨Nat.le_of_ble_eq_true rfl, Nat.le_of_ble_eq_true rfl⟩) ⟨fun _ _ _ _ q => q, fun U hU hW => ⟨rfl, hU⟩⟩ rfl rfl hl.1 rfl (lv_room (Nat.le_of_ble_eq_true rfl)) dFi_isExit_1 ⟨Nat.zero_le _, Nat.zero_le _⟩) hS (fun _ _ h => h.elim) (fun _ h => h.elim) (fun r u t H1 locs ht hvm hw hB hz hk hS => ?_)
  obtain rfl : s.heap = H1 := hB.symm.trans ht
  subst hw
  refine lv_sipush (v := (149 : Int32)) hx hb dFi_isExit_4 (by decide) ?_
  refine lv_icmp_ne (tgt := 14) hx hb dFi_isExit_7 (by decide) (fun c1 => ?_) (fun c1 => ?_)
  · skip
    refine lv_iconst (v := (0 : Int32)) hx hb dFi_isExit_14 (by decide) ?_
    exact W.zret (v := (0 : Int32)) hx hb hr rfl (fun t ht hW => ⟨⟨(0 : Int32), (), rfl, (by unfold f_Fi_isExit; rw [if_neg c1]; try rfl), ht⟩, hS.F ht⟩) hS.2.2 dFi_isExit_15
  · skip
    refine lv_iconst (v := (1 : Int32)) hx hb dFi_isExit_10 (by decide) ?_
    refine lv_goto (tgt := 15) hx hb dFi_isExit_11 (by decide) ?_
    exact W.zret (v := (1 : Int32)) hx hb hr rfl (fun t ht hW => ⟨⟨(1 : Int32), (), rfl, (by unfold f_Fi_isExit; rw [if_pos c1]; try rfl), ht⟩, hS.F ht⟩) hS.2.2 dFi_isExit_15

def f_Fi_isCall (a0 : Int64) : Bool :=
  if (f_Fi_code a0) = (133 : Int32) then
    true
  else
    false
set_option maxHeartbeats 4000000 in
set_option maxRecDepth 100000 in
theorem c_Fi_isCall (l : Launch) (Hp : Heap) (a0 : Int64) : Met l yFi_isCall wsFi_isCall ({ frames := 1, cells := 0, slots := 0, locals := 21 }) (va_Pc [.long a0] (fun U => U.heap = Hp)) (va_Qi (fun (r : Int32) (_ : Unit) => r = (bI (f_Fi_isCall a0))) (fun _ t => t.heap = Hp) (fun _ => False)) 0 0 (fun _ => False) := by
  refine Met.ofW (cc := cFi_isCall) (maxL := 2) (ret := (some .boolean)) (by decide) rfl ?_
  intro p e s m args below meth c s₁ B hml hv
  obtain ⟨rfl, rfl⟩ := hv
  have hx := B.exec
  have hb := B.bytes
  have hr := B.returns
  have hT : ∀ w ∈ tB, w.before _ s = true := fun w h => atoms_spec (ws := wsFi_isCall) B.pre w (List.mem_cons_of_mem _ h)
  have hown : s.vm.findClass "CompiledProgram$Fields" = some m.cls := findClass_of_methodNamed B.named
  have hlocks := B.notSynchronized
  have hS : va_S (fun _ => False) s.heap s.heap [] := va_S.rf
  have hl := lv_entry ([.long a0]) (n := 2) (Nat.le_of_ble_eq_true rfl)
  rw [lg_entry_eq]
  generalize (lg_sl ([.long a0]) ++ List.replicate (2 - (lg_sl ([.long a0])).length) Slot.unset).toArray = ls at hl ⊢
  have hl : lv_has ls 2 [(0, .long a0)] := hl
  refine lv_lload_n hx hb dFi_isCall_0 rfl (lv_at hl 0 rfl) ?_
  refine va_calli (va_runS (As := [.long a0]) (rest := []) ⟨hx, hb, hml, hown, hT⟩ (c_Fi_code l s.heap a0) (cwS 1 hT (gB_S mw_143 mw_144 mw_16 mw_145) rfl rfl rfl (by decide +kernel) ⟨Nat.le_of_ble_eq_true rfl, Nat.le_of_ble_eq_true rfl⟩) ⟨fun _ _ _ _ q => q, fun U hU hW => ⟨rfl, hU⟩⟩ rfl rfl hl.1 rfl (lv_room (Nat.le_of_ble_eq_true rfl)) dFi_isCall_1 ⟨Nat.zero_le _, Nat.zero_le _⟩) hS (fun _ _ h => h.elim) (fun _ h => h.elim) (fun r u t H1 locs ht hvm hw hB hz hk hS => ?_)
  obtain rfl : s.heap = H1 := hB.symm.trans ht
  subst hw
  refine lv_sipush (v := (133 : Int32)) hx hb dFi_isCall_4 (by decide) ?_
  refine lv_icmp_ne (tgt := 14) hx hb dFi_isCall_7 (by decide) (fun c1 => ?_) (fun c1 => ?_)
  · skip
    refine lv_iconst (v := (0 : Int32)) hx hb dFi_isCall_14 (by decide) ?_
    exact W.zret (v := (0 : Int32)) hx hb hr rfl (fun t ht hW => ⟨⟨(0 : Int32), (), rfl, (by unfold f_Fi_isCall; rw [if_neg c1]; try rfl), ht⟩, hS.F ht⟩) hS.2.2 dFi_isCall_15
  · skip
    refine lv_iconst (v := (1 : Int32)) hx hb dFi_isCall_10 (by decide) ?_
    refine lv_goto (tgt := 15) hx hb dFi_isCall_11 (by decide) ?_
    exact W.zret (v := (1 : Int32)) hx hb hr rfl (fun t ht hW => ⟨⟨(1 : Int32), (), rfl, (by unfold f_Fi_isCall; rw [if_pos c1]; try rfl), ht⟩, hS.F ht⟩) hS.2.2 dFi_isCall_15

def f_Fi_jumpsAlways (a0 : Int64) : Bool :=
  if (f_Fi_code a0) = (5 : Int32) then
    true
  else
    if (f_Fi_code a0) = (6 : Int32) then
      true
    else
      false
set_option maxHeartbeats 4000000 in
set_option maxRecDepth 100000 in
theorem c_Fi_jumpsAlways (l : Launch) (Hp : Heap) (a0 : Int64) : Met l yFi_jumpsAlways wsFi_jumpsAlways ({ frames := 1, cells := 0, slots := 0, locals := 21 }) (va_Pc [.long a0] (fun U => U.heap = Hp)) (va_Qi (fun (r : Int32) (_ : Unit) => r = (bI (f_Fi_jumpsAlways a0))) (fun _ t => t.heap = Hp) (fun _ => False)) 0 0 (fun _ => False) := by
  refine Met.ofW (cc := cFi_jumpsAlways) (maxL := 2) (ret := (some .boolean)) (by decide) rfl ?_
  intro p e s m args below meth c s₁ B hml hv
  obtain ⟨rfl, rfl⟩ := hv
  have hx := B.exec
  have hb := B.bytes
  have hr := B.returns
  have hT : ∀ w ∈ tB, w.before _ s = true := fun w h => atoms_spec (ws := wsFi_jumpsAlways) B.pre w (List.mem_cons_of_mem _ h)
  have hown : s.vm.findClass "CompiledProgram$Fields" = some m.cls := findClass_of_methodNamed B.named
  have hlocks := B.notSynchronized
  have hS : va_S (fun _ => False) s.heap s.heap [] := va_S.rf
  have hl := lv_entry ([.long a0]) (n := 2) (Nat.le_of_ble_eq_true rfl)
  rw [lg_entry_eq]
  generalize (lg_sl ([.long a0]) ++ List.replicate (2 - (lg_sl ([.long a0])).length) Slot.unset).toArray = ls at hl ⊢
  have hl : lv_has ls 2 [(0, .long a0)] := hl
  refine lv_lload_n hx hb dFi_jumpsAlways_0 rfl (lv_at hl 0 rfl) ?_
  refine va_calli (va_runS (As := [.long a0]) (rest := []) ⟨hx, hb, hml, hown, hT⟩ (c_Fi_code l s.heap a0) (cwS 1 hT (gB_S mw_143 mw_144 mw_16 mw_145) rfl rfl rfl (by decide +kernel) ⟨Nat.le_of_ble_eq_true rfl, Nat.le_of_ble_eq_true rfl⟩) ⟨fun _ _ _ _ q => q, fun U hU hW => ⟨rfl, hU⟩⟩ rfl rfl hl.1 rfl (lv_room (Nat.le_of_ble_eq_true rfl)) dFi_jumpsAlways_1 ⟨Nat.zero_le _, Nat.zero_le _⟩) hS (fun _ _ h => h.elim) (fun _ h => h.elim) (fun r u t H1 locs ht hvm hw hB hz hk hS => ?_)
  obtain rfl : s.heap = H1 := hB.symm.trans ht
  subst hw
  refine lv_iconst (v := (5 : Int32)) hx hb dFi_jumpsAlways_4 (by decide) ?_
  refine lv_icmp_eq (tgt := 17) hx hb dFi_jumpsAlways_5 (by decide) (fun c1 => ?_) (fun c1 => ?_)
  · skip
    refine lv_iconst (v := (1 : Int32)) hx hb dFi_jumpsAlways_17 (by decide) ?_
    refine lv_goto (tgt := 22) hx hb dFi_jumpsAlways_18 (by decide) ?_
    exact W.zret (v := (1 : Int32)) hx hb hr rfl (fun t ht hW => ⟨⟨(1 : Int32), (), rfl, (by unfold f_Fi_jumpsAlways; rw [if_pos c1]; try rfl), ht⟩, hS.F ht⟩) hS.2.2 dFi_jumpsAlways_22
  · skip
    refine lv_lload_n hx hb dFi_jumpsAlways_8 rfl (lv_at hl 0 rfl) ?_
    refine va_calli (va_runS (As := [.long a0]) (rest := []) ⟨hx, hb, hml, hown, hT⟩ (c_Fi_code l s.heap a0) (cwS 1 hT (gB_S mw_143 mw_144 mw_16 mw_145) rfl rfl rfl (by decide +kernel) ⟨Nat.le_of_ble_eq_true rfl, Nat.le_of_ble_eq_true rfl⟩) ⟨fun _ _ _ _ q => q, fun U hU hW => ⟨rfl, hU⟩⟩ rfl rfl hl.1 rfl (lv_room (Nat.le_of_ble_eq_true rfl)) dFi_jumpsAlways_9 ⟨Nat.zero_le _, Nat.zero_le _⟩) hS (fun _ _ h => h.elim) (fun _ h => h.elim) (fun r u t H1 locs ht hvm hw hB hz hk hS => ?_)
    obtain rfl : s.heap = H1 := hB.symm.trans ht
    subst hw
    refine lv_bipush (v := (6 : Int32)) hx hb dFi_jumpsAlways_12 (by decide) ?_
    refine lv_icmp_ne (tgt := 21) hx hb dFi_jumpsAlways_14 (by decide) (fun c2 => ?_) (fun c2 => ?_)
    · skip
      refine lv_iconst (v := (0 : Int32)) hx hb dFi_jumpsAlways_21 (by decide) ?_
      exact W.zret (v := (0 : Int32)) hx hb hr rfl (fun t ht hW => ⟨⟨(0 : Int32), (), rfl, (by unfold f_Fi_jumpsAlways; rw [if_neg c1, if_neg c2]; try rfl), ht⟩, hS.F ht⟩) hS.2.2 dFi_jumpsAlways_22
    · skip
      refine lv_iconst (v := (1 : Int32)) hx hb dFi_jumpsAlways_17 (by decide) ?_
      refine lv_goto (tgt := 22) hx hb dFi_jumpsAlways_18 (by decide) ?_
      exact W.zret (v := (1 : Int32)) hx hb hr rfl (fun t ht hW => ⟨⟨(1 : Int32), (), rfl, (by unfold f_Fi_jumpsAlways; rw [if_neg c1, if_pos c2]; try rfl), ht⟩, hS.F ht⟩) hS.2.2 dFi_jumpsAlways_22

def f_Fi_jumpsPerhaps (a0 : Int64) : Bool :=
  if (f_Fi_kind a0) = (5 : Int32) then
    if (f_Fi_operation a0) < (1 : Int32) then
      if (f_Fi_operation a0) < (10 : Int32) then
        false
      else
        if (13 : Int32) < (f_Fi_operation a0) then
          false
        else
          true
    else
      if (f_Fi_operation a0) ≤ (7 : Int32) then
        true
      else
        if (f_Fi_operation a0) < (10 : Int32) then
          false
        else
          if (13 : Int32) < (f_Fi_operation a0) then
            false
          else
            true
  else
    if (f_Fi_kind a0) = (6 : Int32) then
      if (f_Fi_operation a0) < (1 : Int32) then
        if (f_Fi_operation a0) < (10 : Int32) then
          false
        else
          if (13 : Int32) < (f_Fi_operation a0) then
            false
          else
            true
      else
        if (f_Fi_operation a0) ≤ (7 : Int32) then
          true
        else
          if (f_Fi_operation a0) < (10 : Int32) then
            false
          else
            if (13 : Int32) < (f_Fi_operation a0) then
              false
            else
              true
    else
      false
set_option maxHeartbeats 4000000 in
set_option maxRecDepth 100000 in
theorem c_Fi_jumpsPerhaps (l : Launch) (Hp : Heap) (a0 : Int64) : Met l yFi_jumpsPerhaps wsFi_jumpsPerhaps ({ frames := 1, cells := 0, slots := 0, locals := 21 }) (va_Pc [.long a0] (fun U => U.heap = Hp)) (va_Qi (fun (r : Int32) (_ : Unit) => r = (bI (f_Fi_jumpsPerhaps a0))) (fun _ t => t.heap = Hp) (fun _ => False)) 0 0 (fun _ => False) := by
  refine Met.ofW (cc := cFi_jumpsPerhaps) (maxL := 4) (ret := (some .boolean)) (by decide) rfl ?_
  intro p e s m args below meth c s₁ B hml hv
  obtain ⟨rfl, rfl⟩ := hv
  have hx := B.exec
  have hb := B.bytes
  have hr := B.returns
  have hT : ∀ w ∈ tB, w.before _ s = true := fun w h => atoms_spec (ws := wsFi_jumpsPerhaps) B.pre w (List.mem_cons_of_mem _ h)
  have hown : s.vm.findClass "CompiledProgram$Fields" = some m.cls := findClass_of_methodNamed B.named
  have hlocks := B.notSynchronized
  have hS : va_S (fun _ => False) s.heap s.heap [] := va_S.rf
  have hl := lv_entry ([.long a0]) (n := 4) (Nat.le_of_ble_eq_true rfl)
  rw [lg_entry_eq]
  generalize (lg_sl ([.long a0]) ++ List.replicate (4 - (lg_sl ([.long a0])).length) Slot.unset).toArray = ls at hl ⊢
  have hl : lv_has ls 4 [(0, .long a0)] := hl
  refine lv_lload_n hx hb dFi_jumpsPerhaps_0 rfl (lv_at hl 0 rfl) ?_
  refine va_calli (va_runS (As := [.long a0]) (rest := []) ⟨hx, hb, hml, hown, hT⟩ (c_Fi_operation l s.heap a0) (cwS 1 hT (gB_S mw_182 mw_183 mw_16 mw_184) rfl rfl rfl (by decide +kernel) ⟨Nat.le_of_ble_eq_true rfl, Nat.le_of_ble_eq_true rfl⟩) ⟨fun _ _ _ _ q => q, fun U hU hW => ⟨rfl, hU⟩⟩ rfl rfl hl.1 rfl (lv_room (Nat.le_of_ble_eq_true rfl)) dFi_jumpsPerhaps_1 ⟨Nat.zero_le _, Nat.zero_le _⟩) hS (fun _ _ h => h.elim) (fun _ h => h.elim) (fun r u t H1 locs ht hvm hw hB hz hk hS => ?_)
  obtain rfl : s.heap = H1 := hB.symm.trans ht
  subst hw
  refine lv_istore_n (lv' := [(2, .int (f_Fi_operation a0)), (0, .long a0)]) hx hb dFi_jumpsPerhaps_4 rfl hl (by decide) rfl (fun ls hl => ?_)
  refine lv_lload_n hx hb dFi_jumpsPerhaps_5 rfl (lv_at hl 1 rfl) ?_
  refine va_calli (va_runS (As := [.long a0]) (rest := []) ⟨hx, hb, hml, hown, hT⟩ (c_Fi_kind l s.heap a0) (cwS 1 hT (gB_S mw_185 mw_132 mw_16 mw_133) rfl rfl rfl (by decide +kernel) ⟨Nat.le_of_ble_eq_true rfl, Nat.le_of_ble_eq_true rfl⟩) ⟨fun _ _ _ _ q => q, fun U hU hW => ⟨rfl, hU⟩⟩ rfl rfl hl.1 rfl (lv_room (Nat.le_of_ble_eq_true rfl)) dFi_jumpsPerhaps_6 ⟨Nat.zero_le _, Nat.zero_le _⟩) hS (fun _ _ h => h.elim) (fun _ h => h.elim) (fun r u t H1 locs ht hvm hw hB hz hk hS => ?_)
  obtain rfl : s.heap = H1 := hB.symm.trans ht
  subst hw
  refine lv_iconst (v := (5 : Int32)) hx hb dFi_jumpsPerhaps_9 (by decide) ?_
  refine lv_icmp_eq (tgt := 22) hx hb dFi_jumpsPerhaps_10 (by decide) (fun c1 => ?_) (fun c1 => ?_)
  · skip
    refine lv_iconst (v := (1 : Int32)) hx hb dFi_jumpsPerhaps_22 (by decide) ?_
    refine lv_goto (tgt := 27) hx hb dFi_jumpsPerhaps_23 (by decide) ?_
    refine lv_istore_n (lv' := [(3, .int (1 : Int32)), (2, .int (f_Fi_operation a0)), (0, .long a0)]) hx hb dFi_jumpsPerhaps_27 rfl hl (by decide) rfl (fun ls hl => ?_)
    refine lv_iload_n hx hb dFi_jumpsPerhaps_28 rfl (lv_at hl 0 rfl) ?_
    refine lv_if_eq (tgt := 59) hx hb dFi_jumpsPerhaps_29 (by decide) (fun c2 => absurd c2 (by decide)) (fun _ => ?_)
    refine lv_iload_n hx hb dFi_jumpsPerhaps_32 rfl (lv_at hl 1 rfl) ?_
    refine lv_iconst (v := (1 : Int32)) hx hb dFi_jumpsPerhaps_33 (by decide) ?_
    refine lv_icmp_lt (tgt := 43) hx hb dFi_jumpsPerhaps_34 (by decide) (fun c3 => ?_) (fun c3 => ?_)
    · skip
      refine lv_iload_n hx hb dFi_jumpsPerhaps_43 rfl (lv_at hl 1 rfl) ?_
      refine lv_bipush (v := (10 : Int32)) hx hb dFi_jumpsPerhaps_44 (by decide) ?_
      refine lv_icmp_lt (tgt := 59) hx hb dFi_jumpsPerhaps_46 (by decide) (fun c4 => ?_) (fun c4 => ?_)
      · skip
        refine lv_iconst (v := (0 : Int32)) hx hb dFi_jumpsPerhaps_59 (by decide) ?_
        exact W.zret (v := (0 : Int32)) hx hb hr rfl (fun t ht hW => ⟨⟨(0 : Int32), (), rfl, (by unfold f_Fi_jumpsPerhaps; rw [if_pos c1, if_pos c3, if_pos c4]; try rfl), ht⟩, hS.F ht⟩) hS.2.2 dFi_jumpsPerhaps_60
      · skip
        refine lv_iload_n hx hb dFi_jumpsPerhaps_49 rfl (lv_at hl 1 rfl) ?_
        refine lv_bipush (v := (13 : Int32)) hx hb dFi_jumpsPerhaps_50 (by decide) ?_
        refine lv_icmp_gt (tgt := 59) hx hb dFi_jumpsPerhaps_52 (by decide) (fun c5 => ?_) (fun c5 => ?_)
        · skip
          refine lv_iconst (v := (0 : Int32)) hx hb dFi_jumpsPerhaps_59 (by decide) ?_
          exact W.zret (v := (0 : Int32)) hx hb hr rfl (fun t ht hW => ⟨⟨(0 : Int32), (), rfl, (by unfold f_Fi_jumpsPerhaps; rw [if_pos c1, if_pos c3, if_neg c4, if_pos c5]; try rfl), ht⟩, hS.F ht⟩) hS.2.2 dFi_jumpsPerhaps_60
        · skip
          refine lv_iconst (v := (1 : Int32)) hx hb dFi_jumpsPerhaps_55 (by decide) ?_
          refine lv_goto (tgt := 60) hx hb dFi_jumpsPerhaps_56 (by decide) ?_
          exact W.zret (v := (1 : Int32)) hx hb hr rfl (fun t ht hW => ⟨⟨(1 : Int32), (), rfl, (by unfold f_Fi_jumpsPerhaps; rw [if_pos c1, if_pos c3, if_neg c4, if_neg c5]; try rfl), ht⟩, hS.F ht⟩) hS.2.2 dFi_jumpsPerhaps_60
    · skip
      refine lv_iload_n hx hb dFi_jumpsPerhaps_37 rfl (lv_at hl 1 rfl) ?_
      refine lv_bipush (v := (7 : Int32)) hx hb dFi_jumpsPerhaps_38 (by decide) ?_
      refine lv_icmp_le (tgt := 55) hx hb dFi_jumpsPerhaps_40 (by decide) (fun c6 => ?_) (fun c6 => ?_)
      · skip
        refine lv_iconst (v := (1 : Int32)) hx hb dFi_jumpsPerhaps_55 (by decide) ?_
        refine lv_goto (tgt := 60) hx hb dFi_jumpsPerhaps_56 (by decide) ?_
        exact W.zret (v := (1 : Int32)) hx hb hr rfl (fun t ht hW => ⟨⟨(1 : Int32), (), rfl, (by unfold f_Fi_jumpsPerhaps; rw [if_pos c1, if_neg c3, if_pos c6]; try rfl), ht⟩, hS.F ht⟩) hS.2.2 dFi_jumpsPerhaps_60
      · skip
        refine lv_iload_n hx hb dFi_jumpsPerhaps_43 rfl (lv_at hl 1 rfl) ?_
        refine lv_bipush (v := (10 : Int32)) hx hb dFi_jumpsPerhaps_44 (by decide) ?_
        refine lv_icmp_lt (tgt := 59) hx hb dFi_jumpsPerhaps_46 (by decide) (fun c7 => ?_) (fun c7 => ?_)
        · skip
          refine lv_iconst (v := (0 : Int32)) hx hb dFi_jumpsPerhaps_59 (by decide) ?_
          exact W.zret (v := (0 : Int32)) hx hb hr rfl (fun t ht hW => ⟨⟨(0 : Int32), (), rfl, (by unfold f_Fi_jumpsPerhaps; rw [if_pos c1, if_neg c3, if_neg c6, if_pos c7]; try rfl), ht⟩, hS.F ht⟩) hS.2.2 dFi_jumpsPerhaps_60
        · skip
          refine lv_iload_n hx hb dFi_jumpsPerhaps_49 rfl (lv_at hl 1 rfl) ?_
          refine lv_bipush (v := (13 : Int32)) hx hb dFi_jumpsPerhaps_50 (by decide) ?_
          refine lv_icmp_gt (tgt := 59) hx hb dFi_jumpsPerhaps_52 (by decide) (fun c8 => ?_) (fun c8 => ?_)
          · skip
            refine lv_iconst (v := (0 : Int32)) hx hb dFi_jumpsPerhaps_59 (by decide) ?_
            exact W.zret (v := (0 : Int32)) hx hb hr rfl (fun t ht hW => ⟨⟨(0 : Int32), (), rfl, (by unfold f_Fi_jumpsPerhaps; rw [if_pos c1, if_neg c3, if_neg c6, if_neg c7, if_pos c8]; try rfl), ht⟩, hS.F ht⟩) hS.2.2 dFi_jumpsPerhaps_60
          · skip
            refine lv_iconst (v := (1 : Int32)) hx hb dFi_jumpsPerhaps_55 (by decide) ?_
            refine lv_goto (tgt := 60) hx hb dFi_jumpsPerhaps_56 (by decide) ?_
            exact W.zret (v := (1 : Int32)) hx hb hr rfl (fun t ht hW => ⟨⟨(1 : Int32), (), rfl, (by unfold f_Fi_jumpsPerhaps; rw [if_pos c1, if_neg c3, if_neg c6, if_neg c7, if_neg c8]; try rfl), ht⟩, hS.F ht⟩) hS.2.2 dFi_jumpsPerhaps_60
  · skip
    refine lv_lload_n hx hb dFi_jumpsPerhaps_13 rfl (lv_at hl 1 rfl) ?_
    refine va_calli (va_runS (As := [.long a0]) (rest := []) ⟨hx, hb, hml, hown, hT⟩ (c_Fi_kind l s.heap a0) (cwS 1 hT (gB_S mw_185 mw_132 mw_16 mw_133) rfl rfl rfl (by decide +kernel) ⟨Nat.le_of_ble_eq_true rfl, Nat.le_of_ble_eq_true rfl⟩) ⟨fun _ _ _ _ q => q, fun U hU hW => ⟨rfl, hU⟩⟩ rfl rfl hl.1 rfl (lv_room (Nat.le_of_ble_eq_true rfl)) dFi_jumpsPerhaps_14 ⟨Nat.zero_le _, Nat.zero_le _⟩) hS (fun _ _ h => h.elim) (fun _ h => h.elim) (fun r u t H1 locs ht hvm hw hB hz hk hS => ?_)
    obtain rfl : s.heap = H1 := hB.symm.trans ht
    subst hw
    refine lv_bipush (v := (6 : Int32)) hx hb dFi_jumpsPerhaps_17 (by decide) ?_
    refine lv_icmp_ne (tgt := 26) hx hb dFi_jumpsPerhaps_19 (by decide) (fun c9 => ?_) (fun c9 => ?_)
    · skip
      refine lv_iconst (v := (0 : Int32)) hx hb dFi_jumpsPerhaps_26 (by decide) ?_
      refine lv_istore_n (lv' := [(3, .int (0 : Int32)), (2, .int (f_Fi_operation a0)), (0, .long a0)]) hx hb dFi_jumpsPerhaps_27 rfl hl (by decide) rfl (fun ls hl => ?_)
      refine lv_iload_n hx hb dFi_jumpsPerhaps_28 rfl (lv_at hl 0 rfl) ?_
      refine lv_if_eq (tgt := 59) hx hb dFi_jumpsPerhaps_29 (by decide) (fun _ => ?_) (fun c10 => absurd c10 (by decide))
      refine lv_iconst (v := (0 : Int32)) hx hb dFi_jumpsPerhaps_59 (by decide) ?_
      exact W.zret (v := (0 : Int32)) hx hb hr rfl (fun t ht hW => ⟨⟨(0 : Int32), (), rfl, (by unfold f_Fi_jumpsPerhaps; rw [if_neg c1, if_neg c9]; try rfl), ht⟩, hS.F ht⟩) hS.2.2 dFi_jumpsPerhaps_60
    · skip
      refine lv_iconst (v := (1 : Int32)) hx hb dFi_jumpsPerhaps_22 (by decide) ?_
      refine lv_goto (tgt := 27) hx hb dFi_jumpsPerhaps_23 (by decide) ?_
      refine lv_istore_n (lv' := [(3, .int (1 : Int32)), (2, .int (f_Fi_operation a0)), (0, .long a0)]) hx hb dFi_jumpsPerhaps_27 rfl hl (by decide) rfl (fun ls hl => ?_)
      refine lv_iload_n hx hb dFi_jumpsPerhaps_28 rfl (lv_at hl 0 rfl) ?_
      refine lv_if_eq (tgt := 59) hx hb dFi_jumpsPerhaps_29 (by decide) (fun c11 => absurd c11 (by decide)) (fun _ => ?_)
      refine lv_iload_n hx hb dFi_jumpsPerhaps_32 rfl (lv_at hl 1 rfl) ?_
      refine lv_iconst (v := (1 : Int32)) hx hb dFi_jumpsPerhaps_33 (by decide) ?_
      refine lv_icmp_lt (tgt := 43) hx hb dFi_jumpsPerhaps_34 (by decide) (fun c12 => ?_) (fun c12 => ?_)
      · skip
        refine lv_iload_n hx hb dFi_jumpsPerhaps_43 rfl (lv_at hl 1 rfl) ?_
        refine lv_bipush (v := (10 : Int32)) hx hb dFi_jumpsPerhaps_44 (by decide) ?_
        refine lv_icmp_lt (tgt := 59) hx hb dFi_jumpsPerhaps_46 (by decide) (fun c13 => ?_) (fun c13 => ?_)
        · skip
          refine lv_iconst (v := (0 : Int32)) hx hb dFi_jumpsPerhaps_59 (by decide) ?_
          exact W.zret (v := (0 : Int32)) hx hb hr rfl (fun t ht hW => ⟨⟨(0 : Int32), (), rfl, (by unfold f_Fi_jumpsPerhaps; rw [if_neg c1, if_pos c9, if_pos c12, if_pos c13]; try rfl), ht⟩, hS.F ht⟩) hS.2.2 dFi_jumpsPerhaps_60
        · skip
          refine lv_iload_n hx hb dFi_jumpsPerhaps_49 rfl (lv_at hl 1 rfl) ?_
          refine lv_bipush (v := (13 : Int32)) hx hb dFi_jumpsPerhaps_50 (by decide) ?_
          refine lv_icmp_gt (tgt := 59) hx hb dFi_jumpsPerhaps_52 (by decide) (fun c14 => ?_) (fun c14 => ?_)
          · skip
            refine lv_iconst (v := (0 : Int32)) hx hb dFi_jumpsPerhaps_59 (by decide) ?_
            exact W.zret (v := (0 : Int32)) hx hb hr rfl (fun t ht hW => ⟨⟨(0 : Int32), (), rfl, (by unfold f_Fi_jumpsPerhaps; rw [if_neg c1, if_pos c9, if_pos c12, if_neg c13, if_pos c14]; try rfl), ht⟩, hS.F ht⟩) hS.2.2 dFi_jumpsPerhaps_60
          · skip
            refine lv_iconst (v := (1 : Int32)) hx hb dFi_jumpsPerhaps_55 (by decide) ?_
            refine lv_goto (tgt := 60) hx hb dFi_jumpsPerhaps_56 (by decide) ?_
            exact W.zret (v := (1 : Int32)) hx hb hr rfl (fun t ht hW => ⟨⟨(1 : Int32), (), rfl, (by unfold f_Fi_jumpsPerhaps; rw [if_neg c1, if_pos c9, if_pos c12, if_neg c13, if_neg c14]; try rfl), ht⟩, hS.F ht⟩) hS.2.2 dFi_jumpsPerhaps_60
      · skip
        refine lv_iload_n hx hb dFi_jumpsPerhaps_37 rfl (lv_at hl 1 rfl) ?_
        refine lv_bipush (v := (7 : Int32)) hx hb dFi_jumpsPerhaps_38 (by decide) ?_
        refine lv_icmp_le (tgt := 55) hx hb dFi_jumpsPerhaps_40 (by decide) (fun c15 => ?_) (fun c15 => ?_)
        · skip
          refine lv_iconst (v := (1 : Int32)) hx hb dFi_jumpsPerhaps_55 (by decide) ?_
          refine lv_goto (tgt := 60) hx hb dFi_jumpsPerhaps_56 (by decide) ?_
          exact W.zret (v := (1 : Int32)) hx hb hr rfl (fun t ht hW => ⟨⟨(1 : Int32), (), rfl, (by unfold f_Fi_jumpsPerhaps; rw [if_neg c1, if_pos c9, if_neg c12, if_pos c15]; try rfl), ht⟩, hS.F ht⟩) hS.2.2 dFi_jumpsPerhaps_60
        · skip
          refine lv_iload_n hx hb dFi_jumpsPerhaps_43 rfl (lv_at hl 1 rfl) ?_
          refine lv_bipush (v := (10 : Int32)) hx hb dFi_jumpsPerhaps_44 (by decide) ?_
          refine lv_icmp_lt (tgt := 59) hx hb dFi_jumpsPerhaps_46 (by decide) (fun c16 => ?_) (fun c16 => ?_)
          · skip
            refine lv_iconst (v := (0 : Int32)) hx hb dFi_jumpsPerhaps_59 (by decide) ?_
            exact W.zret (v := (0 : Int32)) hx hb hr rfl (fun t ht hW => ⟨⟨(0 : Int32), (), rfl, (by unfold f_Fi_jumpsPerhaps; rw [if_neg c1, if_pos c9, if_neg c12, if_neg c15, if_pos c16]; try rfl), ht⟩, hS.F ht⟩) hS.2.2 dFi_jumpsPerhaps_60
          · skip
            refine lv_iload_n hx hb dFi_jumpsPerhaps_49 rfl (lv_at hl 1 rfl) ?_
            refine lv_bipush (v := (13 : Int32)) hx hb dFi_jumpsPerhaps_50 (by decide) ?_
            refine lv_icmp_gt (tgt := 59) hx hb dFi_jumpsPerhaps_52 (by decide) (fun c17 => ?_) (fun c17 => ?_)
            · skip
              refine lv_iconst (v := (0 : Int32)) hx hb dFi_jumpsPerhaps_59 (by decide) ?_
              exact W.zret (v := (0 : Int32)) hx hb hr rfl (fun t ht hW => ⟨⟨(0 : Int32), (), rfl, (by unfold f_Fi_jumpsPerhaps; rw [if_neg c1, if_pos c9, if_neg c12, if_neg c15, if_neg c16, if_pos c17]; try rfl), ht⟩, hS.F ht⟩) hS.2.2 dFi_jumpsPerhaps_60
            · skip
              refine lv_iconst (v := (1 : Int32)) hx hb dFi_jumpsPerhaps_55 (by decide) ?_
              refine lv_goto (tgt := 60) hx hb dFi_jumpsPerhaps_56 (by decide) ?_
              exact W.zret (v := (1 : Int32)) hx hb hr rfl (fun t ht hW => ⟨⟨(1 : Int32), (), rfl, (by unfold f_Fi_jumpsPerhaps; rw [if_neg c1, if_pos c9, if_neg c12, if_neg c15, if_neg c16, if_neg c17]; try rfl), ht⟩, hS.F ht⟩) hS.2.2 dFi_jumpsPerhaps_60

def f_Fi_jumpFrom (a0 : Int32) (a1 : Int64) : Int64 :=
  if (f_Fi_code a1) = (6 : Int32) then
    ((((a0).toInt64) + (1 : Int64)) + ((f_Fi_immediate a1).toInt64))
  else
    ((((a0).toInt64) + (1 : Int64)) + ((f_Fi_offset a1).toInt64))
set_option maxHeartbeats 4000000 in
set_option maxRecDepth 100000 in
theorem c_Fi_jumpFrom (l : Launch) (Hp : Heap) (a0 : Int32) (a1 : Int64) : Met l yFi_jumpFrom wsFi_jumpFrom ({ frames := 1, cells := 0, slots := 0, locals := 21 }) (va_Pc [.int a0, .long a1] (fun U => U.heap = Hp)) (va_Ql (fun (r : Int64) (_ : Unit) => r = f_Fi_jumpFrom a0 a1) (fun _ t => t.heap = Hp) (fun _ => False)) 0 0 (fun _ => False) := by
  refine Met.ofW (cc := cFi_jumpFrom) (maxL := 3) (ret := (some .long)) (by decide) rfl ?_
  intro p e s m args below meth c s₁ B hml hv
  obtain ⟨rfl, rfl⟩ := hv
  have hx := B.exec
  have hb := B.bytes
  have hr := B.returns
  have hT : ∀ w ∈ tB, w.before _ s = true := fun w h => atoms_spec (ws := wsFi_jumpFrom) B.pre w (List.mem_cons_of_mem _ h)
  have hown : s.vm.findClass "CompiledProgram$Fields" = some m.cls := findClass_of_methodNamed B.named
  have hlocks := B.notSynchronized
  have hS : va_S (fun _ => False) s.heap s.heap [] := va_S.rf
  have hl := lv_entry ([.int a0, .long a1]) (n := 3) (Nat.le_of_ble_eq_true rfl)
  rw [lg_entry_eq]
  generalize (lg_sl ([.int a0, .long a1]) ++ List.replicate (3 - (lg_sl ([.int a0, .long a1])).length) Slot.unset).toArray = ls at hl ⊢
  have hl : lv_has ls 3 [(0, .int a0), (1, .long a1)] := hl
  refine lv_iload_n hx hb dFi_jumpFrom_0 rfl (lv_at hl 0 rfl) ?_
  refine lv_i2l hx hb dFi_jumpFrom_1 rfl ?_
  refine lv_lconst (v := (1 : Int64)) hx hb dFi_jumpFrom_2 (by decide) ?_
  refine lv_ladd hx hb dFi_jumpFrom_3 ?_
  refine lv_lload_n hx hb dFi_jumpFrom_4 rfl (lv_at hl 1 rfl) ?_
  refine va_calli (va_runS (As := [.long a1]) (rest := [.long (((a0).toInt64) + (1 : Int64))]) ⟨hx, hb, hml, hown, hT⟩ (c_Fi_code l s.heap a1) (cwS 1 hT (gB_S mw_143 mw_144 mw_16 mw_145) rfl rfl rfl (by decide +kernel) ⟨Nat.le_of_ble_eq_true rfl, Nat.le_of_ble_eq_true rfl⟩) ⟨fun _ _ _ _ q => q, fun U hU hW => ⟨rfl, hU⟩⟩ rfl rfl hl.1 rfl (lv_room (Nat.le_of_ble_eq_true rfl)) dFi_jumpFrom_5 ⟨Nat.zero_le _, Nat.zero_le _⟩) hS (fun _ _ h => h.elim) (fun _ h => h.elim) (fun r u t H1 locs ht hvm hw hB hz hk hS => ?_)
  obtain rfl : s.heap = H1 := hB.symm.trans ht
  subst hw
  refine lv_bipush (v := (6 : Int32)) hx hb dFi_jumpFrom_8 (by decide) ?_
  refine lv_icmp_ne (tgt := 20) hx hb dFi_jumpFrom_10 (by decide) (fun c1 => ?_) (fun c1 => ?_)
  · skip
    refine lv_lload_n hx hb dFi_jumpFrom_20 rfl (lv_at hl 1 rfl) ?_
    refine va_calli (va_runS (As := [.long a1]) (rest := [.long (((a0).toInt64) + (1 : Int64))]) ⟨hx, hb, hml, hown, hT⟩ (c_Fi_offset l s.heap a1) (cwS 1 hT (gB_S mw_230 mw_150 mw_16 mw_151) rfl rfl rfl (by decide +kernel) ⟨Nat.le_of_ble_eq_true rfl, Nat.le_of_ble_eq_true rfl⟩) ⟨fun _ _ _ _ q => q, fun U hU hW => ⟨rfl, hU⟩⟩ rfl rfl hl.1 rfl (lv_room (Nat.le_of_ble_eq_true rfl)) dFi_jumpFrom_21 ⟨Nat.zero_le _, Nat.zero_le _⟩) hS (fun _ _ h => h.elim) (fun _ h => h.elim) (fun r u t H1 locs ht hvm hw hB hz hk hS => ?_)
    obtain rfl : s.heap = H1 := hB.symm.trans ht
    subst hw
    refine lv_i2l hx hb dFi_jumpFrom_24 rfl ?_
    refine lv_ladd hx hb dFi_jumpFrom_25 ?_
    exact W.lret (v := ((((a0).toInt64) + (1 : Int64)) + ((f_Fi_offset a1).toInt64))) hx hb hr (fun t ht hW => ⟨⟨((((a0).toInt64) + (1 : Int64)) + ((f_Fi_offset a1).toInt64)), (), rfl, (by unfold f_Fi_jumpFrom; rw [if_neg c1]; try rfl), ht⟩, hS.F ht⟩) hS.2.2 dFi_jumpFrom_26
  · skip
    refine lv_lload_n hx hb dFi_jumpFrom_13 rfl (lv_at hl 1 rfl) ?_
    refine va_calli (va_runS (As := [.long a1]) (rest := [.long (((a0).toInt64) + (1 : Int64))]) ⟨hx, hb, hml, hown, hT⟩ (c_Fi_immediate l s.heap a1) (cwS 1 hT (gB_S mw_229 mw_153 mw_16 mw_154) rfl rfl rfl (by decide +kernel) ⟨Nat.le_of_ble_eq_true rfl, Nat.le_of_ble_eq_true rfl⟩) ⟨fun _ _ _ _ q => q, fun U hU hW => ⟨rfl, hU⟩⟩ rfl rfl hl.1 rfl (lv_room (Nat.le_of_ble_eq_true rfl)) dFi_jumpFrom_14 ⟨Nat.zero_le _, Nat.zero_le _⟩) hS (fun _ _ h => h.elim) (fun _ h => h.elim) (fun r u t H1 locs ht hvm hw hB hz hk hS => ?_)
    obtain rfl : s.heap = H1 := hB.symm.trans ht
    subst hw
    refine lv_goto (tgt := 24) hx hb dFi_jumpFrom_17 (by decide) ?_
    refine lv_i2l hx hb dFi_jumpFrom_24 rfl ?_
    refine lv_ladd hx hb dFi_jumpFrom_25 ?_
    exact W.lret (v := ((((a0).toInt64) + (1 : Int64)) + ((f_Fi_immediate a1).toInt64))) hx hb hr (fun t ht hW => ⟨⟨((((a0).toInt64) + (1 : Int64)) + ((f_Fi_immediate a1).toInt64)), (), rfl, (by unfold f_Fi_jumpFrom; rw [if_pos c1]; try rfl), ht⟩, hS.F ht⟩) hS.2.2 dFi_jumpFrom_26
end
