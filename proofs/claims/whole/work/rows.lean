section
-- ===== PART A: goes FIRST, ahead of the names: the tables' words, and 'selects' of the private methods out of them =====
/-- a private method of a class that the tables say can be made, by its rows of tables_1 -/
def lw_okq (q : MethodName × Nat) : Prop := (q.1.cls ≠ "java/lang/invoke/MethodHandle" ∧ q.1.cls ≠ "java/lang/invoke/VarHandle") ∧ Cond.instantiable q.1.cls q.2 ∈ tables_1 ∧ Cond.privateMethod q.1 ∈ tables_1 ∧ Cond.instanceMethod q.1 ∈ tables_1
theorem lw_p0 : lw_okq (⟨"java/lang/Throwable", "fillInStackTrace", "(I)Ljava/lang/Throwable;"⟩, 6) := ⟨⟨by decide +kernel, by decide +kernel⟩, List.mem_of_getElem? (i := 298) (by decide +kernel), List.mem_of_getElem? (i := 296) (by decide +kernel), List.mem_of_getElem? (i := 297) (by decide +kernel)⟩
theorem lw_p1 : lw_okq (⟨"CompiledProgramModel", "wrongPlace", "(I)I"⟩, 15) := ⟨⟨by decide +kernel, by decide +kernel⟩, List.mem_of_getElem? (i := 559) (by decide +kernel), List.mem_of_getElem? (i := 629) (by decide +kernel), List.mem_of_getElem? (i := 630) (by decide +kernel)⟩
theorem lw_p2 : lw_okq (⟨"CompiledProgramModel", "isInstruction", "([III)Z"⟩, 15) := ⟨⟨by decide +kernel, by decide +kernel⟩, List.mem_of_getElem? (i := 559) (by decide +kernel), List.mem_of_getElem? (i := 633) (by decide +kernel), List.mem_of_getElem? (i := 634) (by decide +kernel)⟩
theorem lw_p3 : lw_okq (⟨"CompiledProgramModel", "take", "([II)V"⟩, 15) := ⟨⟨by decide +kernel, by decide +kernel⟩, List.mem_of_getElem? (i := 559) (by decide +kernel), List.mem_of_getElem? (i := 637) (by decide +kernel), List.mem_of_getElem? (i := 638) (by decide +kernel)⟩
theorem lw_p4 : lw_okq (⟨"CompiledProgramModel", "kind", "()I"⟩, 15) := ⟨⟨by decide +kernel, by decide +kernel⟩, List.mem_of_getElem? (i := 559) (by decide +kernel), List.mem_of_getElem? (i := 644) (by decide +kernel), List.mem_of_getElem? (i := 645) (by decide +kernel)⟩
theorem lw_p5 : lw_okq (⟨"CompiledProgramModel", "isArithmetic", "()Z"⟩, 15) := ⟨⟨by decide +kernel, by decide +kernel⟩, List.mem_of_getElem? (i := 559) (by decide +kernel), List.mem_of_getElem? (i := 648) (by decide +kernel), List.mem_of_getElem? (i := 649) (by decide +kernel)⟩
theorem lw_p6 : lw_okq (⟨"CompiledProgramModel", "n", "()I"⟩, 15) := ⟨⟨by decide +kernel, by decide +kernel⟩, List.mem_of_getElem? (i := 559) (by decide +kernel), List.mem_of_getElem? (i := 652) (by decide +kernel), List.mem_of_getElem? (i := 653) (by decide +kernel)⟩
theorem lw_p7 : lw_okq (⟨"CompiledProgramModel", "bit3", "()Z"⟩, 15) := ⟨⟨by decide +kernel, by decide +kernel⟩, List.mem_of_getElem? (i := 559) (by decide +kernel), List.mem_of_getElem? (i := 656) (by decide +kernel), List.mem_of_getElem? (i := 657) (by decide +kernel)⟩
theorem lw_p8 : lw_okq (⟨"CompiledProgramModel", "hasSource", "()Z"⟩, 15) := ⟨⟨by decide +kernel, by decide +kernel⟩, List.mem_of_getElem? (i := 559) (by decide +kernel), List.mem_of_getElem? (i := 660) (by decide +kernel), List.mem_of_getElem? (i := 661) (by decide +kernel)⟩
theorem lw_p9 : lw_okq (⟨"CompiledProgramModel", "isJump", "()Z"⟩, 15) := ⟨⟨by decide +kernel, by decide +kernel⟩, List.mem_of_getElem? (i := 559) (by decide +kernel), List.mem_of_getElem? (i := 664) (by decide +kernel), List.mem_of_getElem? (i := 665) (by decide +kernel)⟩
theorem lw_p10 : lw_okq (⟨"CompiledProgramModel", "mode", "()I"⟩, 15) := ⟨⟨by decide +kernel, by decide +kernel⟩, List.mem_of_getElem? (i := 559) (by decide +kernel), List.mem_of_getElem? (i := 668) (by decide +kernel), List.mem_of_getElem? (i := 669) (by decide +kernel)⟩
theorem lw_p11 : lw_okq (⟨"CompiledProgramModel", "size", "()I"⟩, 15) := ⟨⟨by decide +kernel, by decide +kernel⟩, List.mem_of_getElem? (i := 559) (by decide +kernel), List.mem_of_getElem? (i := 672) (by decide +kernel), List.mem_of_getElem? (i := 673) (by decide +kernel)⟩
theorem lw_p12 : lw_okq (⟨"CompiledProgramModel", "isAtomic", "()Z"⟩, 15) := ⟨⟨by decide +kernel, by decide +kernel⟩, List.mem_of_getElem? (i := 559) (by decide +kernel), List.mem_of_getElem? (i := 676) (by decide +kernel), List.mem_of_getElem? (i := 677) (by decide +kernel)⟩
theorem lw_p13 : lw_okq (⟨"CompiledProgramModel", "isWide", "()Z"⟩, 15) := ⟨⟨by decide +kernel, by decide +kernel⟩, List.mem_of_getElem? (i := 559) (by decide +kernel), List.mem_of_getElem? (i := 680) (by decide +kernel), List.mem_of_getElem? (i := 681) (by decide +kernel)⟩
theorem lw_p14 : lw_okq (⟨"CompiledProgramModel", "wrongWay", "(I)I"⟩, 15) := ⟨⟨by decide +kernel, by decide +kernel⟩, List.mem_of_getElem? (i := 559) (by decide +kernel), List.mem_of_getElem? (i := 684) (by decide +kernel), List.mem_of_getElem? (i := 685) (by decide +kernel)⟩
theorem lw_p15 : lw_okq (⟨"CompiledProgramModel", "isGoal", "(JI)Z"⟩, 15) := ⟨⟨by decide +kernel, by decide +kernel⟩, List.mem_of_getElem? (i := 559) (by decide +kernel), List.mem_of_getElem? (i := 688) (by decide +kernel), List.mem_of_getElem? (i := 689) (by decide +kernel)⟩
def lw_privs_1 : List (MethodName × Nat) := [(⟨"java/lang/Throwable", "fillInStackTrace", "(I)Ljava/lang/Throwable;"⟩, 6), (⟨"CompiledProgramModel", "wrongPlace", "(I)I"⟩, 15), (⟨"CompiledProgramModel", "isInstruction", "([III)Z"⟩, 15), (⟨"CompiledProgramModel", "take", "([II)V"⟩, 15), (⟨"CompiledProgramModel", "kind", "()I"⟩, 15), (⟨"CompiledProgramModel", "isArithmetic", "()Z"⟩, 15), (⟨"CompiledProgramModel", "n", "()I"⟩, 15), (⟨"CompiledProgramModel", "bit3", "()Z"⟩, 15), (⟨"CompiledProgramModel", "hasSource", "()Z"⟩, 15), (⟨"CompiledProgramModel", "isJump", "()Z"⟩, 15), (⟨"CompiledProgramModel", "mode", "()I"⟩, 15), (⟨"CompiledProgramModel", "size", "()I"⟩, 15), (⟨"CompiledProgramModel", "isAtomic", "()Z"⟩, 15), (⟨"CompiledProgramModel", "isWide", "()Z"⟩, 15), (⟨"CompiledProgramModel", "wrongWay", "(I)I"⟩, 15), (⟨"CompiledProgramModel", "isGoal", "(JI)Z"⟩, 15)]
theorem lw_r1 : ∀ q ∈ lw_privs_1, lw_okq q := List.forall_mem_cons.mpr ⟨lw_p0, List.forall_mem_cons.mpr ⟨lw_p1, List.forall_mem_cons.mpr ⟨lw_p2, List.forall_mem_cons.mpr ⟨lw_p3, List.forall_mem_cons.mpr ⟨lw_p4, List.forall_mem_cons.mpr ⟨lw_p5, List.forall_mem_cons.mpr ⟨lw_p6, List.forall_mem_cons.mpr ⟨lw_p7, List.forall_mem_cons.mpr ⟨lw_p8, List.forall_mem_cons.mpr ⟨lw_p9, List.forall_mem_cons.mpr ⟨lw_p10, List.forall_mem_cons.mpr ⟨lw_p11, List.forall_mem_cons.mpr ⟨lw_p12, List.forall_mem_cons.mpr ⟨lw_p13, List.forall_mem_cons.mpr ⟨lw_p14, List.forall_mem_cons.mpr ⟨lw_p15, fun _ h => absurd h List.not_mem_nil⟩⟩⟩⟩⟩⟩⟩⟩⟩⟩⟩⟩⟩⟩⟩⟩
theorem lw_p16 : lw_okq (⟨"CompiledProgramModel", "store", "(JIJ)V"⟩, 15) := ⟨⟨by decide +kernel, by decide +kernel⟩, List.mem_of_getElem? (i := 559) (by decide +kernel), List.mem_of_getElem? (i := 713) (by decide +kernel), List.mem_of_getElem? (i := 714) (by decide +kernel)⟩
theorem lw_p17 : lw_okq (⟨"CompiledProgramModel", "load", "(JI)J"⟩, 15) := ⟨⟨by decide +kernel, by decide +kernel⟩, List.mem_of_getElem? (i := 559) (by decide +kernel), List.mem_of_getElem? (i := 721) (by decide +kernel), List.mem_of_getElem? (i := 722) (by decide +kernel)⟩
theorem lw_p18 : lw_okq (⟨"CompiledProgramModel", "does", "(I)Z"⟩, 15) := ⟨⟨by decide +kernel, by decide +kernel⟩, List.mem_of_getElem? (i := 559) (by decide +kernel), List.mem_of_getElem? (i := 731) (by decide +kernel), List.mem_of_getElem? (i := 732) (by decide +kernel)⟩
theorem lw_p19 : lw_okq (⟨"CompiledProgramModel", "arithmetic", "()V"⟩, 15) := ⟨⟨by decide +kernel, by decide +kernel⟩, List.mem_of_getElem? (i := 559) (by decide +kernel), List.mem_of_getElem? (i := 735) (by decide +kernel), List.mem_of_getElem? (i := 736) (by decide +kernel)⟩
theorem lw_p20 : lw_okq (⟨"CompiledProgramModel", "reckoned", "(JJI)J"⟩, 15) := ⟨⟨by decide +kernel, by decide +kernel⟩, List.mem_of_getElem? (i := 559) (by decide +kernel), List.mem_of_getElem? (i := 746) (by decide +kernel), List.mem_of_getElem? (i := 747) (by decide +kernel)⟩
theorem lw_p21 : lw_okq (⟨"CompiledProgramModel", "jump", "(I)V"⟩, 15) := ⟨⟨by decide +kernel, by decide +kernel⟩, List.mem_of_getElem? (i := 559) (by decide +kernel), List.mem_of_getElem? (i := 763) (by decide +kernel), List.mem_of_getElem? (i := 764) (by decide +kernel)⟩
theorem lw_p22 : lw_okq (⟨"CompiledProgramModel", "call", "()V"⟩, 15) := ⟨⟨by decide +kernel, by decide +kernel⟩, List.mem_of_getElem? (i := 559) (by decide +kernel), List.mem_of_getElem? (i := 767) (by decide +kernel), List.mem_of_getElem? (i := 768) (by decide +kernel)⟩
theorem lw_p23 : lw_okq (⟨"CompiledProgramModel", "isSo", "(JJ)Z"⟩, 15) := ⟨⟨by decide +kernel, by decide +kernel⟩, List.mem_of_getElem? (i := 559) (by decide +kernel), List.mem_of_getElem? (i := 772) (by decide +kernel), List.mem_of_getElem? (i := 773) (by decide +kernel)⟩
theorem lw_p24 : lw_okq (⟨"CompiledProgramModel", "access", "()Z"⟩, 15) := ⟨⟨by decide +kernel, by decide +kernel⟩, List.mem_of_getElem? (i := 559) (by decide +kernel), List.mem_of_getElem? (i := 777) (by decide +kernel), List.mem_of_getElem? (i := 778) (by decide +kernel)⟩
theorem lw_p25 : lw_okq (⟨"CompiledProgramModel", "atomic", "(JI)Z"⟩, 15) := ⟨⟨by decide +kernel, by decide +kernel⟩, List.mem_of_getElem? (i := 559) (by decide +kernel), List.mem_of_getElem? (i := 781) (by decide +kernel), List.mem_of_getElem? (i := 782) (by decide +kernel)⟩
def lw_privs_2 : List (MethodName × Nat) := [(⟨"CompiledProgramModel", "store", "(JIJ)V"⟩, 15), (⟨"CompiledProgramModel", "load", "(JI)J"⟩, 15), (⟨"CompiledProgramModel", "does", "(I)Z"⟩, 15), (⟨"CompiledProgramModel", "arithmetic", "()V"⟩, 15), (⟨"CompiledProgramModel", "reckoned", "(JJI)J"⟩, 15), (⟨"CompiledProgramModel", "jump", "(I)V"⟩, 15), (⟨"CompiledProgramModel", "call", "()V"⟩, 15), (⟨"CompiledProgramModel", "isSo", "(JJ)Z"⟩, 15), (⟨"CompiledProgramModel", "access", "()Z"⟩, 15), (⟨"CompiledProgramModel", "atomic", "(JI)Z"⟩, 15)]
theorem lw_r2 : ∀ q ∈ lw_privs_2, lw_okq q := List.forall_mem_cons.mpr ⟨lw_p16, List.forall_mem_cons.mpr ⟨lw_p17, List.forall_mem_cons.mpr ⟨lw_p18, List.forall_mem_cons.mpr ⟨lw_p19, List.forall_mem_cons.mpr ⟨lw_p20, List.forall_mem_cons.mpr ⟨lw_p21, List.forall_mem_cons.mpr ⟨lw_p22, List.forall_mem_cons.mpr ⟨lw_p23, List.forall_mem_cons.mpr ⟨lw_p24, List.forall_mem_cons.mpr ⟨lw_p25, fun _ h => absurd h List.not_mem_nil⟩⟩⟩⟩⟩⟩⟩⟩⟩⟩
def lw_privs : List (MethodName × Nat) := lw_privs_1 ++ (lw_privs_2)
def lw_tbl : List Cond := k2_sels lw_privs ++ tables_1
theorem lw_privs_ok : ∀ q ∈ lw_privs, lw_okq q := by
  show ∀ q ∈ lw_privs_1 ++ (lw_privs_2), lw_okq q
  exact List.forall_mem_append.mpr ⟨lw_r1, lw_r2⟩
end
section
def tB : List Cond := lw_tbl.filter goodWord
theorem tB_of {w : Cond} (h : w ∈ lw_tbl) (g : goodWord w = true) : w ∈ tB := List.mem_filter.mpr ⟨h, g⟩
theorem tB_tbl {w : Cond} (h : w ∈ tB) : w ∈ lw_tbl := (List.mem_filter.mp h).1
theorem tb_all {w : Cond} (h : w ∈ tB) : (w.onTables && w.keeps) = true ∨ ∃ ty, w = .arrayClass ty := good_of_word (List.mem_filter.mp h).2
theorem tb_in {ws : List Cond} (h : ∀ w ∈ ws, w ∈ tB) : GoodIn tB ws := fun w hw => ⟨h w hw, tb_all (h w hw)⟩
theorem gB_S {own : String} {idx : Nat} {y : MethodName} {c : Cond} (h1 : Cond.methodLink own idx y ∈ tB) (h2 : Cond.static y ∈ tB) (h3 : Cond.initialized own ∈ tB) (h4 : c ∈ tB) : GoodIn tB (wsS own idx y (c :: tB)) := tb_in (by
  intro w hw
  simp only [wsS, List.cons_append, List.nil_append, List.mem_cons] at hw
  rcases hw with rfl | rfl | rfl | rfl | h <;> assumption)
theorem gB_SV {own : String} {idx : Nat} {y : MethodName} {c : Cond} (h1 : Cond.methodLink own idx y ∈ tB) (h2 : Cond.static y ∈ tB) (h3 : Cond.initialized y.cls ∈ tB) (h4 : c ∈ tB) : GoodIn tB (va_wsS own idx y (c :: tB)) := tb_in (by
  intro w hw
  simp only [va_wsS, List.cons_append, List.nil_append, List.mem_cons] at hw
  rcases hw with rfl | rfl | rfl | rfl | h <;> assumption)
theorem gB_V {own C : String} {idx : Nat} {y : MethodName} {c : Cond} (h1 : Cond.methodLink own idx y ∈ tB) (h2 : Cond.instanceMethod y ∈ tB) (h3 : Cond.selects C y y ∈ tB) (h5 : Cond.initialized C ∈ tB) (h4 : c ∈ tB) : GoodIn tB (wsV own idx C y (c :: tB)) := tb_in (by
  intro w hw
  simp only [wsV, List.cons_append, List.nil_append, List.mem_cons] at hw
  rcases hw with rfl | rfl | rfl | rfl | rfl | h <;> assumption)
theorem gB_I {c : Cond} (h4 : c ∈ tB) : GoodIn tB (c :: tB) := tb_in (by
  intro w hw
  simp only [List.mem_cons] at hw
  rcases hw with rfl | h <;> assumption)
def bI (b : Bool) : Int32 := if b = true then 1 else 0
theorem bI_z {b : Bool} (h : bI b = 0) : ¬ b = true := by
  intro q; subst q; exact absurd h (by decide)
theorem bI_n {b : Bool} (h : ¬ bI b = 0) : b = true := by
  cases b
  · exact absurd rfl h
  · rfl
theorem bI_nar (b : Bool) : narrow .boolean (.int (bI b)) = .int (bI b) := by cases b <;> rfl
def j_iushr (x y : Int32) : Int32 := (x.toUInt32 >>> (y.toUInt32 &&& Int32.toUInt32 31)).toInt32
def j_lushr (x : Int64) (y : Int32) : Int64 := (x.toUInt64 >>> (y.toInt64.toUInt64 &&& Int64.toUInt64 63)).toInt64
def j_lshl (x : Int64) (y : Int32) : Int64 := x <<< (y.toInt64 &&& 63)
def j_lshr (x : Int64) (y : Int32) : Int64 := x >>> (y.toInt64 &&& 63)
def j_i2b (x : Int32) : Int32 := x.toInt8.toInt32
def j_i2s (x : Int32) : Int32 := x.toInt16.toInt32
-- whole numbers of ints
theorem bm32 {x : Int} (h1 : -2147483648 ≤ x) (h2 : x < 2147483648) : x.bmod (2 ^ 32) = x := by
  exact Int.bmod_eq_of_le_mul_two (by omega) (by omega)
theorem i_add {x y : Int32} (h1 : -2147483648 ≤ x.toInt + y.toInt) (h2 : x.toInt + y.toInt < 2147483648) : (x + y).toInt = x.toInt + y.toInt := by
  rw [Int32.toInt_add]; exact bm32 h1 h2
theorem i_sub {x y : Int32} (h1 : -2147483648 ≤ x.toInt - y.toInt) (h2 : x.toInt - y.toInt < 2147483648) : (x - y).toInt = x.toInt - y.toInt := by
  rw [Int32.toInt_sub]; exact bm32 h1 h2
theorem i_lim (x : Int32) : -2147483648 ≤ x.toInt ∧ x.toInt < 2147483648 := ⟨x.le_toInt, x.toInt_lt⟩
theorem i_m1 : (-1 : Int32).toInt = -1 := by decide
theorem i_0 : (0 : Int32).toInt = 0 := by decide
theorem i_1 : (1 : Int32).toInt = 1 := by decide
theorem i_dec {k : Int32} (h : ¬ k < 0) : (k + (-1 : Int32)).toInt = k.toInt - 1 := by
  rw [Int32.lt_iff_toInt_lt, i_0] at h
  have := i_lim k
  rw [i_add (by rw [i_m1]; omega) (by rw [i_m1]; omega), i_m1]; omega
theorem i_nlt0 {k : Int32} (h : ¬ k < 0) : 0 ≤ k.toInt := by
  rw [Int32.lt_iff_toInt_lt, i_0] at h; omega
theorem i_nle {a b : Int32} (h : ¬ a ≤ b) : b.toInt < a.toInt := by
  rw [Int32.le_iff_toInt_le] at h; omega
theorem i_nlt {a b : Int32} (h : ¬ a < b) : b.toInt ≤ a.toInt := by
  rw [Int32.lt_iff_toInt_lt] at h; omega
theorem l_0 : (0 : Int64).toInt = 0 := by decide
theorem l_nlt {a b : Int64} (h : ¬ a < b) : b.toInt ≤ a.toInt := by
  rw [Int64.lt_iff_toInt_lt] at h; omega
theorem l_nle {a b : Int64} (h : ¬ a ≤ b) : b.toInt < a.toInt := by
  rw [Int64.le_iff_toInt_le] at h; omega
theorem l_pne {a : Int64} (h : (0 : Int64) < a) : ¬ a = 0 := by
  intro q; subst q; exact absurd h (by decide)
end
section
abbrev RPr : String := "CompiledProgram$Program"
def TPr : u_T := fun k => match k with
  | 0 => ("CompiledProgram$Program", "row", "[J", false)
  | _ => ("CompiledProgram$Program", "count", "I", false)
def tyPr : Nat → FieldType := fun k => match k with
  | 0 => .array .long
  | _ => .int
theorem nmPr : ∀ a, a < 2 → ∀ b, b < 2 → a ≠ b → (TPr a).2.1 ≠ (TPr b).2.1 := by decide +kernel
theorem tyPr_ok : ∀ k, k < 2 → parseFieldDescriptor (TPr k).2.2.1 = some (tyPr k) := by decide +kernel
theorem inPr : ∀ w ∈ u_ws RPr TPr 2, w ∈ tB := by decide +kernel
abbrev RMe : String := "CompiledProgram$Memory"
def TMe : u_T := fun k => match k with
  | _ => ("CompiledProgram$Memory", "bytes", "[B", true)
def tyMe : Nat → FieldType := fun k => match k with
  | _ => .array .byte
theorem nmMe : ∀ a, a < 1 → ∀ b, b < 1 → a ≠ b → (TMe a).2.1 ≠ (TMe b).2.1 := by decide +kernel
theorem tyMe_ok : ∀ k, k < 1 → parseFieldDescriptor (TMe k).2.2.1 = some (tyMe k) := by decide +kernel
theorem inMe : ∀ w ∈ u_ws RMe TMe 1, w ∈ tB := by decide +kernel
abbrev RMa : String := "CompiledProgram$Machine"
def TMa : u_T := fun k => match k with
  | 0 => ("CompiledProgram$Machine", "registers", "[J", true)
  | _ => ("CompiledProgram$Machine", "memory", "LCompiledProgram$Memory;", true)
def tyMa : Nat → FieldType := fun k => match k with
  | 0 => .array .long
  | _ => .object "CompiledProgram$Memory"
theorem nmMa : ∀ a, a < 2 → ∀ b, b < 2 → a ≠ b → (TMa a).2.1 ≠ (TMa b).2.1 := by decide +kernel
theorem tyMa_ok : ∀ k, k < 2 → parseFieldDescriptor (TMa k).2.2.1 = some (tyMa k) := by decide +kernel
theorem inMa : ∀ w ∈ u_ws RMa TMa 2, w ∈ tB := by decide +kernel
abbrev RTa : String := "CompiledProgram$Tape"
def TTa : u_T := fun k => match k with
  | 0 => ("CompiledProgram$Tape", "bytes", "[B", false)
  | _ => ("CompiledProgram$Tape", "length", "I", false)
def tyTa : Nat → FieldType := fun k => match k with
  | 0 => .array .byte
  | _ => .int
theorem nmTa : ∀ a, a < 2 → ∀ b, b < 2 → a ≠ b → (TTa a).2.1 ≠ (TTa b).2.1 := by decide +kernel
theorem tyTa_ok : ∀ k, k < 2 → parseFieldDescriptor (TTa k).2.2.1 = some (tyTa k) := by decide +kernel
theorem inTa : ∀ w ∈ u_ws RTa TTa 2, w ∈ tB := by decide +kernel
abbrev RCp : String := "CompiledProgram"
def TCp : u_T := fun k => match k with
  | 0 => ("CompiledProgram", "tape", "LCompiledProgram$Tape;", true)
  | 1 => ("CompiledProgram", "program", "LCompiledProgram$Program;", true)
  | 2 => ("CompiledProgram", "machine", "LCompiledProgram$Machine;", true)
  | 3 => ("CompiledProgram", "latestPlace", "I", false)
  | _ => ("CompiledProgram", "latestSteps", "I", false)
def tyCp : Nat → FieldType := fun k => match k with
  | 0 => .object "CompiledProgram$Tape"
  | 1 => .object "CompiledProgram$Program"
  | 2 => .object "CompiledProgram$Machine"
  | 3 => .int
  | _ => .int
theorem nmCp : ∀ a, a < 5 → ∀ b, b < 5 → a ≠ b → (TCp a).2.1 ≠ (TCp b).2.1 := by decide +kernel
theorem tyCp_ok : ∀ k, k < 5 → parseFieldDescriptor (TCp k).2.2.1 = some (tyCp k) := by decide +kernel
theorem inCp : ∀ w ∈ u_ws RCp TCp 5, w ∈ tB := by decide +kernel
abbrev RMo : String := "CompiledProgramModel"
def TMo : u_T := fun k => match k with
  | 0 => ("CompiledProgramModel", "thrown", "I", false)
  | 1 => ("CompiledProgramModel", "tape", "[I", true)
  | 2 => ("CompiledProgramModel", "taped", "I", false)
  | 3 => ("CompiledProgramModel", "program", "[I", true)
  | 4 => ("CompiledProgramModel", "places", "I", false)
  | 5 => ("CompiledProgramModel", "registers", "[J", true)
  | 6 => ("CompiledProgramModel", "memory", "[I", true)
  | 7 => ("CompiledProgramModel", "place", "I", false)
  | 8 => ("CompiledProgramModel", "steps", "I", false)
  | 9 => ("CompiledProgramModel", "code", "I", false)
  | 10 => ("CompiledProgramModel", "d", "I", false)
  | 11 => ("CompiledProgramModel", "s", "I", false)
  | 12 => ("CompiledProgramModel", "o", "I", false)
  | 13 => ("CompiledProgramModel", "i", "I", false)
  | _ => ("CompiledProgramModel", "next", "I", false)
def tyMo : Nat → FieldType := fun k => match k with
  | 0 => .int
  | 1 => .array .int
  | 2 => .int
  | 3 => .array .int
  | 4 => .int
  | 5 => .array .long
  | 6 => .array .int
  | 7 => .int
  | 8 => .int
  | 9 => .int
  | 10 => .int
  | 11 => .int
  | 12 => .int
  | 13 => .int
  | _ => .int
theorem nmMo : ∀ a, a < 15 → ∀ b, b < 15 → a ≠ b → (TMo a).2.1 ≠ (TMo b).2.1 := by decide +kernel
theorem tyMo_ok : ∀ k, k < 15 → parseFieldDescriptor (TMo k).2.2.1 = some (tyMo k) := by decide +kernel
theorem inMo : ∀ w ∈ u_ws RMo TMo 15, w ∈ tB := by decide +kernel
abbrev vwCl : List vw_C := [(RPr, TPr, 2), (RMe, TMe, 1), (RMa, TMa, 2), (RTa, TTa, 2), (RCp, TCp, 5), (RMo, TMo, 15)]
abbrev cAr_wide : ByteArray := prog_2_method_2_code
abbrev yAr_wide : MethodName := ⟨"CompiledProgram$Arithmetic", "wide", "(IIJJ)J"⟩
abbrev wsAr_wide : List Cond := .code yAr_wide cAr_wide 6 (some .long) :: tB
abbrev cAr_narrow : ByteArray := prog_2_method_3_code
abbrev yAr_narrow : MethodName := ⟨"CompiledProgram$Arithmetic", "narrow", "(IIII)J"⟩
abbrev wsAr_narrow : List Cond := .code yAr_narrow cAr_narrow 4 (some .long) :: tB
abbrev cAr_quotient : ByteArray := prog_2_method_4_code
abbrev yAr_quotient : MethodName := ⟨"CompiledProgram$Arithmetic", "quotient", "(ZJJ)J"⟩
abbrev wsAr_quotient : List Cond := .code yAr_quotient cAr_quotient 5 (some .long) :: tB
abbrev cAr_unsignedQuotient : ByteArray := prog_2_method_5_code
abbrev yAr_unsignedQuotient : MethodName := ⟨"CompiledProgram$Arithmetic", "unsignedQuotient", "(JJ)J"⟩
abbrev wsAr_unsignedQuotient : List Cond := .code yAr_unsignedQuotient cAr_unsignedQuotient 8 (some .long) :: tB
abbrev cAr_rest : ByteArray := prog_2_method_6_code
abbrev yAr_rest : MethodName := ⟨"CompiledProgram$Arithmetic", "rest", "(ZJJ)J"⟩
abbrev wsAr_rest : List Cond := .code yAr_rest cAr_rest 5 (some .long) :: tB
abbrev cAr_lowest : ByteArray := prog_2_method_7_code
abbrev yAr_lowest : MethodName := ⟨"CompiledProgram$Arithmetic", "lowest", "(JI)J"⟩
abbrev wsAr_lowest : List Cond := .code yAr_lowest cAr_lowest 3 (some .long) :: tB
abbrev cAr_signed : ByteArray := prog_2_method_8_code
abbrev yAr_signed : MethodName := ⟨"CompiledProgram$Arithmetic", "signed", "(JI)J"⟩
abbrev wsAr_signed : List Cond := .code yAr_signed cAr_signed 3 (some .long) :: tB
abbrev cAr_turned : ByteArray := prog_2_method_9_code
abbrev yAr_turned : MethodName := ⟨"CompiledProgram$Arithmetic", "turned", "(JI)J"⟩
abbrev wsAr_turned : List Cond := .code yAr_turned cAr_turned 3 (some .long) :: tB
abbrev cAr_isTaken : ByteArray := prog_2_method_10_code
abbrev yAr_isTaken : MethodName := ⟨"CompiledProgram$Arithmetic", "isTaken", "(IJJ)Z"⟩
abbrev wsAr_isTaken : List Cond := .code yAr_isTaken cAr_isTaken 9 (some .boolean) :: tB
abbrev cEx_isKnown : ByteArray := prog_3_method_2_code
abbrev yEx_isKnown : MethodName := ⟨"CompiledProgram$Exchange", "isKnown", "(I)Z"⟩
abbrev wsEx_isKnown : List Cond := .code yEx_isKnown cEx_isKnown 1 (some .boolean) :: tB
abbrev cEx_changesSource : ByteArray := prog_3_method_3_code
abbrev yEx_changesSource : MethodName := ⟨"CompiledProgram$Exchange", "changesSource", "(I)Z"⟩
abbrev wsEx_changesSource : List Cond := .code yEx_changesSource cEx_changesSource 1 (some .boolean) :: tB
abbrev cEx_become : ByteArray := prog_3_method_4_code
abbrev yEx_become : MethodName := ⟨"CompiledProgram$Exchange", "become", "(IJJZ)J"⟩
abbrev wsEx_become : List Cond := .code yEx_become cEx_become 6 (some .long) :: tB
abbrev cFi_code : ByteArray := prog_4_method_2_code
abbrev yFi_code : MethodName := ⟨"CompiledProgram$Fields", "code", "(J)I"⟩
abbrev wsFi_code : List Cond := .code yFi_code cFi_code 2 (some .int) :: tB
abbrev cFi_kind : ByteArray := prog_4_method_3_code
abbrev yFi_kind : MethodName := ⟨"CompiledProgram$Fields", "kind", "(J)I"⟩
abbrev wsFi_kind : List Cond := .code yFi_kind cFi_kind 2 (some .int) :: tB
abbrev cFi_operation : ByteArray := prog_4_method_4_code
abbrev yFi_operation : MethodName := ⟨"CompiledProgram$Fields", "operation", "(J)I"⟩
abbrev wsFi_operation : List Cond := .code yFi_operation cFi_operation 2 (some .int) :: tB
abbrev cFi_usesSource : ByteArray := prog_4_method_5_code
abbrev yFi_usesSource : MethodName := ⟨"CompiledProgram$Fields", "usesSource", "(J)Z"⟩
abbrev wsFi_usesSource : List Cond := .code yFi_usesSource cFi_usesSource 2 (some .boolean) :: tB
abbrev cFi_mode : ByteArray := prog_4_method_6_code
abbrev yFi_mode : MethodName := ⟨"CompiledProgram$Fields", "mode", "(J)I"⟩
abbrev wsFi_mode : List Cond := .code yFi_mode cFi_mode 2 (some .int) :: tB
abbrev cFi_size : ByteArray := prog_4_method_7_code
abbrev yFi_size : MethodName := ⟨"CompiledProgram$Fields", "size", "(J)I"⟩
abbrev wsFi_size : List Cond := .code yFi_size cFi_size 2 (some .int) :: tB
abbrev cFi_target : ByteArray := prog_4_method_8_code
abbrev yFi_target : MethodName := ⟨"CompiledProgram$Fields", "target", "(J)I"⟩
abbrev wsFi_target : List Cond := .code yFi_target cFi_target 2 (some .int) :: tB
abbrev cFi_source : ByteArray := prog_4_method_9_code
abbrev yFi_source : MethodName := ⟨"CompiledProgram$Fields", "source", "(J)I"⟩
abbrev wsFi_source : List Cond := .code yFi_source cFi_source 2 (some .int) :: tB
abbrev cFi_offset : ByteArray := prog_4_method_10_code
abbrev yFi_offset : MethodName := ⟨"CompiledProgram$Fields", "offset", "(J)I"⟩
abbrev wsFi_offset : List Cond := .code yFi_offset cFi_offset 2 (some .int) :: tB
abbrev cFi_immediate : ByteArray := prog_4_method_11_code
abbrev yFi_immediate : MethodName := ⟨"CompiledProgram$Fields", "immediate", "(J)I"⟩
abbrev wsFi_immediate : List Cond := .code yFi_immediate cFi_immediate 2 (some .int) :: tB
abbrev cFi_isTwoPlaces : ByteArray := prog_4_method_12_code
abbrev yFi_isTwoPlaces : MethodName := ⟨"CompiledProgram$Fields", "isTwoPlaces", "(J)Z"⟩
abbrev wsFi_isTwoPlaces : List Cond := .code yFi_isTwoPlaces cFi_isTwoPlaces 2 (some .boolean) :: tB
abbrev cFi_isExit : ByteArray := prog_4_method_13_code
abbrev yFi_isExit : MethodName := ⟨"CompiledProgram$Fields", "isExit", "(J)Z"⟩
abbrev wsFi_isExit : List Cond := .code yFi_isExit cFi_isExit 2 (some .boolean) :: tB
abbrev cFi_isCall : ByteArray := prog_4_method_14_code
abbrev yFi_isCall : MethodName := ⟨"CompiledProgram$Fields", "isCall", "(J)Z"⟩
abbrev wsFi_isCall : List Cond := .code yFi_isCall cFi_isCall 2 (some .boolean) :: tB
abbrev cFi_jumpsAlways : ByteArray := prog_4_method_15_code
abbrev yFi_jumpsAlways : MethodName := ⟨"CompiledProgram$Fields", "jumpsAlways", "(J)Z"⟩
abbrev wsFi_jumpsAlways : List Cond := .code yFi_jumpsAlways cFi_jumpsAlways 2 (some .boolean) :: tB
abbrev cFi_jumpsPerhaps : ByteArray := prog_4_method_16_code
abbrev yFi_jumpsPerhaps : MethodName := ⟨"CompiledProgram$Fields", "jumpsPerhaps", "(J)Z"⟩
abbrev wsFi_jumpsPerhaps : List Cond := .code yFi_jumpsPerhaps cFi_jumpsPerhaps 4 (some .boolean) :: tB
abbrev cFi_jumpFrom : ByteArray := prog_4_method_17_code
abbrev yFi_jumpFrom : MethodName := ⟨"CompiledProgram$Fields", "jumpFrom", "(IJ)J"⟩
abbrev wsFi_jumpFrom : List Cond := .code yFi_jumpFrom cFi_jumpFrom 3 (some .long) :: tB
abbrev cFo_firstWrongForItself : ByteArray := prog_5_method_2_code
abbrev yFo_firstWrongForItself : MethodName := ⟨"CompiledProgram$Form", "firstWrongForItself", "(LCompiledProgram$Program;Z)I"⟩
abbrev wsFo_firstWrongForItself : List Cond := .code yFo_firstWrongForItself cFo_firstWrongForItself 5 (some .int) :: tB
abbrev cFo_firstGoingWrong : ByteArray := prog_5_method_3_code
abbrev yFo_firstGoingWrong : MethodName := ⟨"CompiledProgram$Form", "firstGoingWrong", "(LCompiledProgram$Program;)I"⟩
abbrev wsFo_firstGoingWrong : List Cond := .code yFo_firstGoingWrong cFo_firstGoingWrong 4 (some .int) :: tB
abbrev cFo_goesOnRightly : ByteArray := prog_5_method_4_code
abbrev yFo_goesOnRightly : MethodName := ⟨"CompiledProgram$Form", "goesOnRightly", "(LCompiledProgram$Program;IJ)Z"⟩
abbrev wsFo_goesOnRightly : List Cond := .code yFo_goesOnRightly cFo_goesOnRightly 4 (some .boolean) :: tB
abbrev cFo_isStart : ByteArray := prog_5_method_5_code
abbrev yFo_isStart : MethodName := ⟨"CompiledProgram$Form", "isStart", "(LCompiledProgram$Program;J)Z"⟩
abbrev wsFo_isStart : List Cond := .code yFo_isStart cFo_isStart 3 (some .boolean) :: tB
abbrev cFo_isInstruction : ByteArray := prog_5_method_6_code
abbrev yFo_isInstruction : MethodName := ⟨"CompiledProgram$Form", "isInstruction", "(J)Z"⟩
abbrev wsFo_isInstruction : List Cond := .code yFo_isInstruction cFo_isInstruction 2 (some .boolean) :: tB
abbrev cFo_isFirstOfTwo : ByteArray := prog_5_method_7_code
abbrev yFo_isFirstOfTwo : MethodName := ⟨"CompiledProgram$Form", "isFirstOfTwo", "(J)Z"⟩
abbrev wsFo_isFirstOfTwo : List Cond := .code yFo_isFirstOfTwo cFo_isFirstOfTwo 3 (some .boolean) :: tB
abbrev cFo_isSecondOf : ByteArray := prog_5_method_8_code
abbrev yFo_isSecondOf : MethodName := ⟨"CompiledProgram$Form", "isSecondOf", "(JJ)Z"⟩
abbrev wsFo_isSecondOf : List Cond := .code yFo_isSecondOf cFo_isSecondOf 5 (some .boolean) :: tB
abbrev cFo_isRead : ByteArray := prog_5_method_9_code
abbrev yFo_isRead : MethodName := ⟨"CompiledProgram$Form", "isRead", "(J)Z"⟩
abbrev wsFo_isRead : List Cond := .code yFo_isRead cFo_isRead 3 (some .boolean) :: tB
abbrev cFo_isWriteOfNumber : ByteArray := prog_5_method_10_code
abbrev yFo_isWriteOfNumber : MethodName := ⟨"CompiledProgram$Form", "isWriteOfNumber", "(J)Z"⟩
abbrev wsFo_isWriteOfNumber : List Cond := .code yFo_isWriteOfNumber cFo_isWriteOfNumber 2 (some .boolean) :: tB
abbrev cFo_isWriteOfRegister : ByteArray := prog_5_method_11_code
abbrev yFo_isWriteOfRegister : MethodName := ⟨"CompiledProgram$Form", "isWriteOfRegister", "(J)Z"⟩
abbrev wsFo_isWriteOfRegister : List Cond := .code yFo_isWriteOfRegister cFo_isWriteOfRegister 2 (some .boolean) :: tB
abbrev cFo_isExchange : ByteArray := prog_5_method_12_code
abbrev yFo_isExchange : MethodName := ⟨"CompiledProgram$Form", "isExchange", "(J)Z"⟩
abbrev wsFo_isExchange : List Cond := .code yFo_isExchange cFo_isExchange 2 (some .boolean) :: tB
abbrev cFo_isPerhapsJump : ByteArray := prog_5_method_13_code
abbrev yFo_isPerhapsJump : MethodName := ⟨"CompiledProgram$Form", "isPerhapsJump", "(J)Z"⟩
abbrev wsFo_isPerhapsJump : List Cond := .code yFo_isPerhapsJump cFo_isPerhapsJump 2 (some .boolean) :: tB
abbrev cFo_isCallOrExitOrJump : ByteArray := prog_5_method_14_code
abbrev yFo_isCallOrExitOrJump : MethodName := ⟨"CompiledProgram$Form", "isCallOrExitOrJump", "(J)Z"⟩
abbrev wsFo_isCallOrExitOrJump : List Cond := .code yFo_isCallOrExitOrJump cFo_isCallOrExitOrJump 2 (some .boolean) :: tB
abbrev cFo_hasOperand : ByteArray := prog_5_method_15_code
abbrev yFo_hasOperand : MethodName := ⟨"CompiledProgram$Form", "hasOperand", "(J)Z"⟩
abbrev wsFo_hasOperand : List Cond := .code yFo_hasOperand cFo_hasOperand 2 (some .boolean) :: tB
abbrev cFo_isArithmetic : ByteArray := prog_5_method_16_code
abbrev yFo_isArithmetic : MethodName := ⟨"CompiledProgram$Form", "isArithmetic", "(J)Z"⟩
abbrev wsFo_isArithmetic : List Cond := .code yFo_isArithmetic cFo_isArithmetic 2 (some .boolean) :: tB
abbrev cFo_isMoveOffset : ByteArray := prog_5_method_17_code
abbrev yFo_isMoveOffset : MethodName := ⟨"CompiledProgram$Form", "isMoveOffset", "(J)Z"⟩
abbrev wsFo_isMoveOffset : List Cond := .code yFo_isMoveOffset cFo_isMoveOffset 2 (some .boolean) :: tB
abbrev cFo_isTurning : ByteArray := prog_5_method_18_code
abbrev yFo_isTurning : MethodName := ⟨"CompiledProgram$Form", "isTurning", "(J)Z"⟩
abbrev wsFo_isTurning : List Cond := .code yFo_isTurning cFo_isTurning 3 (some .boolean) :: tB
abbrev cMa_follow : ByteArray := prog_6_method_2_code
abbrev yMa_follow : MethodName := ⟨"CompiledProgram$Machine", "follow", "(LCompiledProgram$Program;I)I"⟩
abbrev wsMa_follow : List Cond := .code yMa_follow cMa_follow 5 (some .int) :: tB
abbrev cMa_x : ByteArray := prog_6_method_3_code
abbrev yMa_x : MethodName := ⟨"CompiledProgram$Machine", "x", "(J)J"⟩
abbrev wsMa_x : List Cond := .code yMa_x cMa_x 3 (some .long) :: tB
abbrev cMa_y : ByteArray := prog_6_method_4_code
abbrev yMa_y : MethodName := ⟨"CompiledProgram$Machine", "y", "(J)J"⟩
abbrev wsMa_y : List Cond := .code yMa_y cMa_y 3 (some .long) :: tB
abbrev cMa_operand : ByteArray := prog_6_method_5_code
abbrev yMa_operand : MethodName := ⟨"CompiledProgram$Machine", "operand", "(J)J"⟩
abbrev wsMa_operand : List Cond := .code yMa_operand cMa_operand 3 (some .long) :: tB
abbrev cMa_takeTwoPlaces : ByteArray := prog_6_method_6_code
abbrev yMa_takeTwoPlaces : MethodName := ⟨"CompiledProgram$Machine", "takeTwoPlaces", "(JJ)V"⟩
abbrev wsMa_takeTwoPlaces : List Cond := .code yMa_takeTwoPlaces cMa_takeTwoPlaces 7 none :: tB
abbrev cMa_read : ByteArray := prog_6_method_7_code
abbrev yMa_read : MethodName := ⟨"CompiledProgram$Machine", "read", "(J)Z"⟩
abbrev wsMa_read : List Cond := .code yMa_read cMa_read 8 (some .boolean) :: tB
abbrev cMa_write : ByteArray := prog_6_method_8_code
abbrev yMa_write : MethodName := ⟨"CompiledProgram$Machine", "write", "(JJ)Z"⟩
abbrev wsMa_write : List Cond := .code yMa_write cMa_write 8 (some .boolean) :: tB
abbrev cMa_exchange : ByteArray := prog_6_method_9_code
abbrev yMa_exchange : MethodName := ⟨"CompiledProgram$Machine", "exchange", "(J)Z"⟩
abbrev wsMa_exchange : List Cond := .code yMa_exchange cMa_exchange 10 (some .boolean) :: tB
abbrev cMa_jump : ByteArray := prog_6_method_10_code
abbrev yMa_jump : MethodName := ⟨"CompiledProgram$Machine", "jump", "(IJ)I"⟩
abbrev wsMa_jump : List Cond := .code yMa_jump cMa_jump 4 (some .int) :: tB
abbrev cMa_takesJump : ByteArray := prog_6_method_11_code
abbrev yMa_takesJump : MethodName := ⟨"CompiledProgram$Machine", "takesJump", "(J)Z"⟩
abbrev wsMa_takesJump : List Cond := .code yMa_takesJump cMa_takesJump 7 (some .boolean) :: tB
abbrev cMa_answerCall : ByteArray := prog_6_method_12_code
abbrev yMa_answerCall : MethodName := ⟨"CompiledProgram$Machine", "answerCall", "(I)V"⟩
abbrev wsMa_answerCall : List Cond := .code yMa_answerCall cMa_answerCall 5 none :: tB
abbrev cMa_computed : ByteArray := prog_6_method_13_code
abbrev yMa_computed : MethodName := ⟨"CompiledProgram$Machine", "computed", "(J)J"⟩
abbrev wsMa_computed : List Cond := .code yMa_computed cMa_computed 4 (some .long) :: tB
abbrev cMa_turnedOrCut : ByteArray := prog_6_method_14_code
abbrev yMa_turnedOrCut : MethodName := ⟨"CompiledProgram$Machine", "turnedOrCut", "(J)J"⟩
abbrev wsMa_turnedOrCut : List Cond := .code yMa_turnedOrCut cMa_turnedOrCut 5 (some .long) :: tB
abbrev cMe_holds : ByteArray := prog_7_method_2_code
abbrev yMe_holds : MethodName := ⟨"CompiledProgram$Memory", "holds", "(JI)Z"⟩
abbrev wsMe_holds : List Cond := .code yMe_holds cMe_holds 6 (some .boolean) :: tB
abbrev cMe_read : ByteArray := prog_7_method_3_code
abbrev yMe_read : MethodName := ⟨"CompiledProgram$Memory", "read", "(JI)J"⟩
abbrev wsMe_read : List Cond := .code yMe_read cMe_read 8 (some .long) :: tB
abbrev cMe_write : ByteArray := prog_7_method_4_code
abbrev yMe_write : MethodName := ⟨"CompiledProgram$Memory", "write", "(JIJ)V"⟩
abbrev wsMe_write : List Cond := .code yMe_write cMe_write 8 none :: tB
abbrev cPr_has : ByteArray := prog_8_method_3_code
abbrev yPr_has : MethodName := ⟨"CompiledProgram$Program", "has", "(J)Z"⟩
abbrev wsPr_has : List Cond := .code yPr_has cPr_has 3 (some .boolean) :: tB
abbrev cPr_at : ByteArray := prog_8_method_4_code
abbrev yPr_at : MethodName := ⟨"CompiledProgram$Program", "at", "(I)J"⟩
abbrev wsPr_at : List Cond := .code yPr_at cPr_at 2 (some .long) :: tB
abbrev cTa_hasRoom : ByteArray := prog_9_method_2_code
abbrev yTa_hasRoom : MethodName := ⟨"CompiledProgram$Tape", "hasRoom", "()Z"⟩
abbrev wsTa_hasRoom : List Cond := .code yTa_hasRoom cTa_hasRoom 1 (some .boolean) :: tB
abbrev cTa_type : ByteArray := prog_9_method_4_code
abbrev yTa_type : MethodName := ⟨"CompiledProgram$Tape", "type", "(I)V"⟩
abbrev wsTa_type : List Cond := .code yTa_type cTa_type 2 none :: tB
abbrev cTa_placeAt : ByteArray := prog_9_method_5_code
abbrev yTa_placeAt : MethodName := ⟨"CompiledProgram$Tape", "placeAt", "(I)J"⟩
abbrev wsTa_placeAt : List Cond := .code yTa_placeAt cTa_placeAt 6 (some .long) :: tB
abbrev cJl_reverseBytes : ByteArray := prog_17_method_58_code
abbrev yJl_reverseBytes : MethodName := ⟨"java/lang/Long", "reverseBytes", "(J)J"⟩
abbrev wsJl_reverseBytes : List Cond := .code yJl_reverseBytes cJl_reverseBytes 2 (some .long) :: tB
end
section
theorem mw_3 : (.initialized "CompiledProgram$Program" : Cond) ∈ tB := tB_of (List.mem_append_right _ (List.mem_of_getElem? (i := 3) (by decide +kernel))) rfl
theorem mw_4 : (.initialized "CompiledProgram$Machine" : Cond) ∈ tB := tB_of (List.mem_append_right _ (List.mem_of_getElem? (i := 4) (by decide +kernel))) rfl
theorem mw_5 : (.initialized "CompiledProgram$Memory" : Cond) ∈ tB := tB_of (List.mem_append_right _ (List.mem_of_getElem? (i := 5) (by decide +kernel))) rfl
theorem mw_15 : (.initialized "CompiledProgram$Form" : Cond) ∈ tB := tB_of (List.mem_append_right _ (List.mem_of_getElem? (i := 15) (by decide +kernel))) rfl
theorem mw_16 : (.initialized "CompiledProgram$Fields" : Cond) ∈ tB := tB_of (List.mem_append_right _ (List.mem_of_getElem? (i := 16) (by decide +kernel))) rfl
theorem mw_17 : (.initialized "CompiledProgram$Exchange" : Cond) ∈ tB := tB_of (List.mem_append_right _ (List.mem_of_getElem? (i := 17) (by decide +kernel))) rfl
theorem mw_19 : (.initialized "CompiledProgram$Arithmetic" : Cond) ∈ tB := tB_of (List.mem_append_right _ (List.mem_of_getElem? (i := 19) (by decide +kernel))) rfl
theorem mw_20 : (.initialized "java/lang/Long" : Cond) ∈ tB := tB_of (List.mem_append_right _ (List.mem_of_getElem? (i := 20) (by decide +kernel))) rfl
theorem mw_35 : (.fieldLink "CompiledProgram$Tape" 7 "CompiledProgram$Tape" "bytes" "[B" : Cond) ∈ tB := tB_of (List.mem_append_right _ (List.mem_of_getElem? (i := 35) (by decide +kernel))) rfl
theorem mw_36 : (.fieldLink "CompiledProgram$Tape" 13 "CompiledProgram$Tape" "length" "I" : Cond) ∈ tB := tB_of (List.mem_append_right _ (List.mem_of_getElem? (i := 36) (by decide +kernel))) rfl
theorem mw_51 : (.fieldLink "CompiledProgram$Program" 7 "CompiledProgram$Program" "row" "[J" : Cond) ∈ tB := tB_of (List.mem_append_right _ (List.mem_of_getElem? (i := 51) (by decide +kernel))) rfl
theorem mw_52 : (.fieldLink "CompiledProgram$Program" 13 "CompiledProgram$Program" "count" "I" : Cond) ∈ tB := tB_of (List.mem_append_right _ (List.mem_of_getElem? (i := 52) (by decide +kernel))) rfl
theorem mw_53 : (.fieldLink "CompiledProgram$Form" 9 "CompiledProgram$Program" "count" "I" : Cond) ∈ tB := tB_of (List.mem_append_right _ (List.mem_of_getElem? (i := 53) (by decide +kernel))) rfl
theorem mw_73 : (.fieldLink "CompiledProgram$Memory" 9 "CompiledProgram$Memory" "bytes" "[B" : Cond) ∈ tB := tB_of (List.mem_append_right _ (List.mem_of_getElem? (i := 73) (by decide +kernel))) rfl
theorem mw_77 : (.fieldLink "CompiledProgram$Machine" 7 "CompiledProgram$Machine" "registers" "[J" : Cond) ∈ tB := tB_of (List.mem_append_right _ (List.mem_of_getElem? (i := 77) (by decide +kernel))) rfl
theorem mw_79 : (.fieldLink "CompiledProgram$Machine" 16 "CompiledProgram$Machine" "memory" "LCompiledProgram$Memory;" : Cond) ∈ tB := tB_of (List.mem_append_right _ (List.mem_of_getElem? (i := 79) (by decide +kernel))) rfl
theorem mw_120 : (.methodLink "CompiledProgram$Form" 15 ⟨"CompiledProgram$Program", "at", "(I)J"⟩ : Cond) ∈ tB := tB_of (List.mem_append_right _ (List.mem_of_getElem? (i := 120) (by decide +kernel))) rfl
theorem mw_121 : (.instanceMethod ⟨"CompiledProgram$Program", "at", "(I)J"⟩ : Cond) ∈ tB := tB_of (List.mem_append_right _ (List.mem_of_getElem? (i := 121) (by decide +kernel))) rfl
theorem mw_122 : (.selects "CompiledProgram$Program" ⟨"CompiledProgram$Program", "at", "(I)J"⟩ ⟨"CompiledProgram$Program", "at", "(I)J"⟩ : Cond) ∈ tB := tB_of (List.mem_append_right _ (List.mem_of_getElem? (i := 122) (by decide +kernel))) rfl
set_option maxRecDepth 100000 in
theorem mw_123 : (.code ⟨"CompiledProgram$Program", "at", "(I)J"⟩ prog_8_method_4_code 2 (some FieldType.long) : Cond) ∈ tB := tB_of (List.mem_append_right _ (List.mem_of_getElem? (i := 123) rfl)) rfl
theorem mw_124 : (.methodLink "CompiledProgram$Program" 32 ⟨"CompiledProgram$Program", "has", "(J)Z"⟩ : Cond) ∈ tB := tB_of (List.mem_append_right _ (List.mem_of_getElem? (i := 124) (by decide +kernel))) rfl
theorem mw_125 : (.instanceMethod ⟨"CompiledProgram$Program", "has", "(J)Z"⟩ : Cond) ∈ tB := tB_of (List.mem_append_right _ (List.mem_of_getElem? (i := 125) (by decide +kernel))) rfl
theorem mw_126 : (.selects "CompiledProgram$Program" ⟨"CompiledProgram$Program", "has", "(J)Z"⟩ ⟨"CompiledProgram$Program", "has", "(J)Z"⟩ : Cond) ∈ tB := tB_of (List.mem_append_right _ (List.mem_of_getElem? (i := 126) (by decide +kernel))) rfl
set_option maxRecDepth 100000 in
theorem mw_127 : (.code ⟨"CompiledProgram$Program", "has", "(J)Z"⟩ prog_8_method_3_code 3 (some FieldType.boolean) : Cond) ∈ tB := tB_of (List.mem_append_right _ (List.mem_of_getElem? (i := 127) rfl)) rfl
theorem mw_128 : (.methodLink "CompiledProgram$Form" 19 ⟨"CompiledProgram$Form", "isInstruction", "(J)Z"⟩ : Cond) ∈ tB := tB_of (List.mem_append_right _ (List.mem_of_getElem? (i := 128) (by decide +kernel))) rfl
theorem mw_129 : (.static ⟨"CompiledProgram$Form", "isInstruction", "(J)Z"⟩ : Cond) ∈ tB := tB_of (List.mem_append_right _ (List.mem_of_getElem? (i := 129) (by decide +kernel))) rfl
set_option maxRecDepth 100000 in
theorem mw_130 : (.code ⟨"CompiledProgram$Form", "isInstruction", "(J)Z"⟩ prog_5_method_6_code 2 (some FieldType.boolean) : Cond) ∈ tB := tB_of (List.mem_append_right _ (List.mem_of_getElem? (i := 130) rfl)) rfl
theorem mw_131 : (.methodLink "CompiledProgram$Form" 62 ⟨"CompiledProgram$Fields", "kind", "(J)I"⟩ : Cond) ∈ tB := tB_of (List.mem_append_right _ (List.mem_of_getElem? (i := 131) (by decide +kernel))) rfl
theorem mw_132 : (.static ⟨"CompiledProgram$Fields", "kind", "(J)I"⟩ : Cond) ∈ tB := tB_of (List.mem_append_right _ (List.mem_of_getElem? (i := 132) (by decide +kernel))) rfl
set_option maxRecDepth 100000 in
theorem mw_133 : (.code ⟨"CompiledProgram$Fields", "kind", "(J)I"⟩ prog_4_method_3_code 2 (some FieldType.int) : Cond) ∈ tB := tB_of (List.mem_append_right _ (List.mem_of_getElem? (i := 133) rfl)) rfl
theorem mw_134 : (.methodLink "CompiledProgram$Form" 65 ⟨"CompiledProgram$Form", "isFirstOfTwo", "(J)Z"⟩ : Cond) ∈ tB := tB_of (List.mem_append_right _ (List.mem_of_getElem? (i := 134) (by decide +kernel))) rfl
theorem mw_135 : (.static ⟨"CompiledProgram$Form", "isFirstOfTwo", "(J)Z"⟩ : Cond) ∈ tB := tB_of (List.mem_append_right _ (List.mem_of_getElem? (i := 135) (by decide +kernel))) rfl
set_option maxRecDepth 100000 in
theorem mw_136 : (.code ⟨"CompiledProgram$Form", "isFirstOfTwo", "(J)Z"⟩ prog_5_method_7_code 3 (some FieldType.boolean) : Cond) ∈ tB := tB_of (List.mem_append_right _ (List.mem_of_getElem? (i := 136) rfl)) rfl
theorem mw_137 : (.methodLink "CompiledProgram$Form" 92 ⟨"CompiledProgram$Fields", "source", "(J)I"⟩ : Cond) ∈ tB := tB_of (List.mem_append_right _ (List.mem_of_getElem? (i := 137) (by decide +kernel))) rfl
theorem mw_138 : (.static ⟨"CompiledProgram$Fields", "source", "(J)I"⟩ : Cond) ∈ tB := tB_of (List.mem_append_right _ (List.mem_of_getElem? (i := 138) (by decide +kernel))) rfl
set_option maxRecDepth 100000 in
theorem mw_139 : (.code ⟨"CompiledProgram$Fields", "source", "(J)I"⟩ prog_4_method_9_code 2 (some FieldType.int) : Cond) ∈ tB := tB_of (List.mem_append_right _ (List.mem_of_getElem? (i := 139) rfl)) rfl
theorem mw_140 : (.methodLink "CompiledProgram$Form" 25 ⟨"CompiledProgram$Fields", "isTwoPlaces", "(J)Z"⟩ : Cond) ∈ tB := tB_of (List.mem_append_right _ (List.mem_of_getElem? (i := 140) (by decide +kernel))) rfl
theorem mw_141 : (.static ⟨"CompiledProgram$Fields", "isTwoPlaces", "(J)Z"⟩ : Cond) ∈ tB := tB_of (List.mem_append_right _ (List.mem_of_getElem? (i := 141) (by decide +kernel))) rfl
set_option maxRecDepth 100000 in
theorem mw_142 : (.code ⟨"CompiledProgram$Fields", "isTwoPlaces", "(J)Z"⟩ prog_4_method_12_code 2 (some FieldType.boolean) : Cond) ∈ tB := tB_of (List.mem_append_right _ (List.mem_of_getElem? (i := 142) rfl)) rfl
theorem mw_143 : (.methodLink "CompiledProgram$Fields" 9 ⟨"CompiledProgram$Fields", "code", "(J)I"⟩ : Cond) ∈ tB := tB_of (List.mem_append_right _ (List.mem_of_getElem? (i := 143) (by decide +kernel))) rfl
theorem mw_144 : (.static ⟨"CompiledProgram$Fields", "code", "(J)I"⟩ : Cond) ∈ tB := tB_of (List.mem_append_right _ (List.mem_of_getElem? (i := 144) (by decide +kernel))) rfl
set_option maxRecDepth 100000 in
theorem mw_145 : (.code ⟨"CompiledProgram$Fields", "code", "(J)I"⟩ prog_4_method_2_code 2 (some FieldType.int) : Cond) ∈ tB := tB_of (List.mem_append_right _ (List.mem_of_getElem? (i := 145) rfl)) rfl
theorem mw_146 : (.methodLink "CompiledProgram$Form" 95 ⟨"CompiledProgram$Fields", "target", "(J)I"⟩ : Cond) ∈ tB := tB_of (List.mem_append_right _ (List.mem_of_getElem? (i := 146) (by decide +kernel))) rfl
theorem mw_147 : (.static ⟨"CompiledProgram$Fields", "target", "(J)I"⟩ : Cond) ∈ tB := tB_of (List.mem_append_right _ (List.mem_of_getElem? (i := 147) (by decide +kernel))) rfl
set_option maxRecDepth 100000 in
theorem mw_148 : (.code ⟨"CompiledProgram$Fields", "target", "(J)I"⟩ prog_4_method_8_code 2 (some FieldType.int) : Cond) ∈ tB := tB_of (List.mem_append_right _ (List.mem_of_getElem? (i := 148) rfl)) rfl
theorem mw_149 : (.methodLink "CompiledProgram$Form" 98 ⟨"CompiledProgram$Fields", "offset", "(J)I"⟩ : Cond) ∈ tB := tB_of (List.mem_append_right _ (List.mem_of_getElem? (i := 149) (by decide +kernel))) rfl
theorem mw_150 : (.static ⟨"CompiledProgram$Fields", "offset", "(J)I"⟩ : Cond) ∈ tB := tB_of (List.mem_append_right _ (List.mem_of_getElem? (i := 150) (by decide +kernel))) rfl
set_option maxRecDepth 100000 in
theorem mw_151 : (.code ⟨"CompiledProgram$Fields", "offset", "(J)I"⟩ prog_4_method_10_code 2 (some FieldType.int) : Cond) ∈ tB := tB_of (List.mem_append_right _ (List.mem_of_getElem? (i := 151) rfl)) rfl
theorem mw_152 : (.methodLink "CompiledProgram$Form" 101 ⟨"CompiledProgram$Fields", "immediate", "(J)I"⟩ : Cond) ∈ tB := tB_of (List.mem_append_right _ (List.mem_of_getElem? (i := 152) (by decide +kernel))) rfl
theorem mw_153 : (.static ⟨"CompiledProgram$Fields", "immediate", "(J)I"⟩ : Cond) ∈ tB := tB_of (List.mem_append_right _ (List.mem_of_getElem? (i := 153) (by decide +kernel))) rfl
set_option maxRecDepth 100000 in
theorem mw_154 : (.code ⟨"CompiledProgram$Fields", "immediate", "(J)I"⟩ prog_4_method_11_code 2 (some FieldType.int) : Cond) ∈ tB := tB_of (List.mem_append_right _ (List.mem_of_getElem? (i := 154) rfl)) rfl
theorem mw_155 : (.methodLink "CompiledProgram$Form" 68 ⟨"CompiledProgram$Form", "isRead", "(J)Z"⟩ : Cond) ∈ tB := tB_of (List.mem_append_right _ (List.mem_of_getElem? (i := 155) (by decide +kernel))) rfl
theorem mw_156 : (.static ⟨"CompiledProgram$Form", "isRead", "(J)Z"⟩ : Cond) ∈ tB := tB_of (List.mem_append_right _ (List.mem_of_getElem? (i := 156) (by decide +kernel))) rfl
set_option maxRecDepth 100000 in
theorem mw_157 : (.code ⟨"CompiledProgram$Form", "isRead", "(J)Z"⟩ prog_5_method_9_code 3 (some FieldType.boolean) : Cond) ∈ tB := tB_of (List.mem_append_right _ (List.mem_of_getElem? (i := 157) rfl)) rfl
theorem mw_158 : (.methodLink "CompiledProgram$Form" 74 ⟨"CompiledProgram$Fields", "mode", "(J)I"⟩ : Cond) ∈ tB := tB_of (List.mem_append_right _ (List.mem_of_getElem? (i := 158) (by decide +kernel))) rfl
theorem mw_159 : (.static ⟨"CompiledProgram$Fields", "mode", "(J)I"⟩ : Cond) ∈ tB := tB_of (List.mem_append_right _ (List.mem_of_getElem? (i := 159) (by decide +kernel))) rfl
set_option maxRecDepth 100000 in
theorem mw_160 : (.code ⟨"CompiledProgram$Fields", "mode", "(J)I"⟩ prog_4_method_6_code 2 (some FieldType.int) : Cond) ∈ tB := tB_of (List.mem_append_right _ (List.mem_of_getElem? (i := 160) rfl)) rfl
theorem mw_161 : (.methodLink "CompiledProgram$Form" 104 ⟨"CompiledProgram$Fields", "size", "(J)I"⟩ : Cond) ∈ tB := tB_of (List.mem_append_right _ (List.mem_of_getElem? (i := 161) (by decide +kernel))) rfl
theorem mw_162 : (.static ⟨"CompiledProgram$Fields", "size", "(J)I"⟩ : Cond) ∈ tB := tB_of (List.mem_append_right _ (List.mem_of_getElem? (i := 162) (by decide +kernel))) rfl
set_option maxRecDepth 100000 in
theorem mw_163 : (.code ⟨"CompiledProgram$Fields", "size", "(J)I"⟩ prog_4_method_7_code 2 (some FieldType.int) : Cond) ∈ tB := tB_of (List.mem_append_right _ (List.mem_of_getElem? (i := 163) rfl)) rfl
theorem mw_164 : (.methodLink "CompiledProgram$Form" 71 ⟨"CompiledProgram$Form", "isWriteOfNumber", "(J)Z"⟩ : Cond) ∈ tB := tB_of (List.mem_append_right _ (List.mem_of_getElem? (i := 164) (by decide +kernel))) rfl
theorem mw_165 : (.static ⟨"CompiledProgram$Form", "isWriteOfNumber", "(J)Z"⟩ : Cond) ∈ tB := tB_of (List.mem_append_right _ (List.mem_of_getElem? (i := 165) (by decide +kernel))) rfl
set_option maxRecDepth 100000 in
theorem mw_166 : (.code ⟨"CompiledProgram$Form", "isWriteOfNumber", "(J)Z"⟩ prog_5_method_10_code 2 (some FieldType.boolean) : Cond) ∈ tB := tB_of (List.mem_append_right _ (List.mem_of_getElem? (i := 166) rfl)) rfl
theorem mw_167 : (.methodLink "CompiledProgram$Form" 77 ⟨"CompiledProgram$Form", "isExchange", "(J)Z"⟩ : Cond) ∈ tB := tB_of (List.mem_append_right _ (List.mem_of_getElem? (i := 167) (by decide +kernel))) rfl
theorem mw_168 : (.static ⟨"CompiledProgram$Form", "isExchange", "(J)Z"⟩ : Cond) ∈ tB := tB_of (List.mem_append_right _ (List.mem_of_getElem? (i := 168) (by decide +kernel))) rfl
set_option maxRecDepth 100000 in
theorem mw_169 : (.code ⟨"CompiledProgram$Form", "isExchange", "(J)Z"⟩ prog_5_method_12_code 2 (some FieldType.boolean) : Cond) ∈ tB := tB_of (List.mem_append_right _ (List.mem_of_getElem? (i := 169) rfl)) rfl
theorem mw_170 : (.methodLink "CompiledProgram$Form" 107 ⟨"CompiledProgram$Exchange", "isKnown", "(I)Z"⟩ : Cond) ∈ tB := tB_of (List.mem_append_right _ (List.mem_of_getElem? (i := 170) (by decide +kernel))) rfl
theorem mw_171 : (.static ⟨"CompiledProgram$Exchange", "isKnown", "(I)Z"⟩ : Cond) ∈ tB := tB_of (List.mem_append_right _ (List.mem_of_getElem? (i := 171) (by decide +kernel))) rfl
set_option maxRecDepth 100000 in
theorem mw_172 : (.code ⟨"CompiledProgram$Exchange", "isKnown", "(I)Z"⟩ prog_3_method_2_code 1 (some FieldType.boolean) : Cond) ∈ tB := tB_of (List.mem_append_right _ (List.mem_of_getElem? (i := 172) rfl)) rfl
theorem mw_173 : (.methodLink "CompiledProgram$Form" 113 ⟨"CompiledProgram$Exchange", "changesSource", "(I)Z"⟩ : Cond) ∈ tB := tB_of (List.mem_append_right _ (List.mem_of_getElem? (i := 173) (by decide +kernel))) rfl
theorem mw_174 : (.static ⟨"CompiledProgram$Exchange", "changesSource", "(I)Z"⟩ : Cond) ∈ tB := tB_of (List.mem_append_right _ (List.mem_of_getElem? (i := 174) (by decide +kernel))) rfl
set_option maxRecDepth 100000 in
theorem mw_175 : (.code ⟨"CompiledProgram$Exchange", "changesSource", "(I)Z"⟩ prog_3_method_3_code 1 (some FieldType.boolean) : Cond) ∈ tB := tB_of (List.mem_append_right _ (List.mem_of_getElem? (i := 175) rfl)) rfl
theorem mw_176 : (.methodLink "CompiledProgram$Form" 80 ⟨"CompiledProgram$Form", "isWriteOfRegister", "(J)Z"⟩ : Cond) ∈ tB := tB_of (List.mem_append_right _ (List.mem_of_getElem? (i := 176) (by decide +kernel))) rfl
theorem mw_177 : (.static ⟨"CompiledProgram$Form", "isWriteOfRegister", "(J)Z"⟩ : Cond) ∈ tB := tB_of (List.mem_append_right _ (List.mem_of_getElem? (i := 177) (by decide +kernel))) rfl
set_option maxRecDepth 100000 in
theorem mw_178 : (.code ⟨"CompiledProgram$Form", "isWriteOfRegister", "(J)Z"⟩ prog_5_method_11_code 2 (some FieldType.boolean) : Cond) ∈ tB := tB_of (List.mem_append_right _ (List.mem_of_getElem? (i := 178) rfl)) rfl
theorem mw_179 : (.methodLink "CompiledProgram$Form" 55 ⟨"CompiledProgram$Fields", "jumpsPerhaps", "(J)Z"⟩ : Cond) ∈ tB := tB_of (List.mem_append_right _ (List.mem_of_getElem? (i := 179) (by decide +kernel))) rfl
theorem mw_180 : (.static ⟨"CompiledProgram$Fields", "jumpsPerhaps", "(J)Z"⟩ : Cond) ∈ tB := tB_of (List.mem_append_right _ (List.mem_of_getElem? (i := 180) (by decide +kernel))) rfl
set_option maxRecDepth 100000 in
theorem mw_181 : (.code ⟨"CompiledProgram$Fields", "jumpsPerhaps", "(J)Z"⟩ prog_4_method_16_code 4 (some FieldType.boolean) : Cond) ∈ tB := tB_of (List.mem_append_right _ (List.mem_of_getElem? (i := 181) rfl)) rfl
theorem mw_182 : (.methodLink "CompiledProgram$Fields" 15 ⟨"CompiledProgram$Fields", "operation", "(J)I"⟩ : Cond) ∈ tB := tB_of (List.mem_append_right _ (List.mem_of_getElem? (i := 182) (by decide +kernel))) rfl
theorem mw_183 : (.static ⟨"CompiledProgram$Fields", "operation", "(J)I"⟩ : Cond) ∈ tB := tB_of (List.mem_append_right _ (List.mem_of_getElem? (i := 183) (by decide +kernel))) rfl
set_option maxRecDepth 100000 in
theorem mw_184 : (.code ⟨"CompiledProgram$Fields", "operation", "(J)I"⟩ prog_4_method_4_code 2 (some FieldType.int) : Cond) ∈ tB := tB_of (List.mem_append_right _ (List.mem_of_getElem? (i := 184) rfl)) rfl
theorem mw_185 : (.methodLink "CompiledProgram$Fields" 18 ⟨"CompiledProgram$Fields", "kind", "(J)I"⟩ : Cond) ∈ tB := tB_of (List.mem_append_right _ (List.mem_of_getElem? (i := 185) (by decide +kernel))) rfl
theorem mw_186 : (.methodLink "CompiledProgram$Form" 83 ⟨"CompiledProgram$Form", "isPerhapsJump", "(J)Z"⟩ : Cond) ∈ tB := tB_of (List.mem_append_right _ (List.mem_of_getElem? (i := 186) (by decide +kernel))) rfl
theorem mw_187 : (.static ⟨"CompiledProgram$Form", "isPerhapsJump", "(J)Z"⟩ : Cond) ∈ tB := tB_of (List.mem_append_right _ (List.mem_of_getElem? (i := 187) (by decide +kernel))) rfl
set_option maxRecDepth 100000 in
theorem mw_188 : (.code ⟨"CompiledProgram$Form", "isPerhapsJump", "(J)Z"⟩ prog_5_method_13_code 2 (some FieldType.boolean) : Cond) ∈ tB := tB_of (List.mem_append_right _ (List.mem_of_getElem? (i := 188) rfl)) rfl
theorem mw_189 : (.methodLink "CompiledProgram$Form" 116 ⟨"CompiledProgram$Form", "hasOperand", "(J)Z"⟩ : Cond) ∈ tB := tB_of (List.mem_append_right _ (List.mem_of_getElem? (i := 189) (by decide +kernel))) rfl
theorem mw_190 : (.static ⟨"CompiledProgram$Form", "hasOperand", "(J)Z"⟩ : Cond) ∈ tB := tB_of (List.mem_append_right _ (List.mem_of_getElem? (i := 190) (by decide +kernel))) rfl
set_option maxRecDepth 100000 in
theorem mw_191 : (.code ⟨"CompiledProgram$Form", "hasOperand", "(J)Z"⟩ prog_5_method_15_code 2 (some FieldType.boolean) : Cond) ∈ tB := tB_of (List.mem_append_right _ (List.mem_of_getElem? (i := 191) rfl)) rfl
theorem mw_192 : (.methodLink "CompiledProgram$Form" 119 ⟨"CompiledProgram$Fields", "usesSource", "(J)Z"⟩ : Cond) ∈ tB := tB_of (List.mem_append_right _ (List.mem_of_getElem? (i := 192) (by decide +kernel))) rfl
theorem mw_193 : (.static ⟨"CompiledProgram$Fields", "usesSource", "(J)Z"⟩ : Cond) ∈ tB := tB_of (List.mem_append_right _ (List.mem_of_getElem? (i := 193) (by decide +kernel))) rfl
set_option maxRecDepth 100000 in
theorem mw_194 : (.code ⟨"CompiledProgram$Fields", "usesSource", "(J)Z"⟩ prog_4_method_5_code 2 (some FieldType.boolean) : Cond) ∈ tB := tB_of (List.mem_append_right _ (List.mem_of_getElem? (i := 194) rfl)) rfl
theorem mw_195 : (.constantLong "CompiledProgram$Fields" 7 8 : Cond) ∈ tB := tB_of (List.mem_append_right _ (List.mem_of_getElem? (i := 195) (by decide +kernel))) rfl
theorem mw_196 : (.methodLink "CompiledProgram$Form" 86 ⟨"CompiledProgram$Form", "isCallOrExitOrJump", "(J)Z"⟩ : Cond) ∈ tB := tB_of (List.mem_append_right _ (List.mem_of_getElem? (i := 196) (by decide +kernel))) rfl
theorem mw_197 : (.static ⟨"CompiledProgram$Form", "isCallOrExitOrJump", "(J)Z"⟩ : Cond) ∈ tB := tB_of (List.mem_append_right _ (List.mem_of_getElem? (i := 197) (by decide +kernel))) rfl
set_option maxRecDepth 100000 in
theorem mw_198 : (.code ⟨"CompiledProgram$Form", "isCallOrExitOrJump", "(J)Z"⟩ prog_5_method_14_code 2 (some FieldType.boolean) : Cond) ∈ tB := tB_of (List.mem_append_right _ (List.mem_of_getElem? (i := 198) rfl)) rfl
theorem mw_199 : (.methodLink "CompiledProgram$Form" 58 ⟨"CompiledProgram$Fields", "code", "(J)I"⟩ : Cond) ∈ tB := tB_of (List.mem_append_right _ (List.mem_of_getElem? (i := 199) (by decide +kernel))) rfl
theorem mw_200 : (.methodLink "CompiledProgram$Form" 89 ⟨"CompiledProgram$Form", "isArithmetic", "(J)Z"⟩ : Cond) ∈ tB := tB_of (List.mem_append_right _ (List.mem_of_getElem? (i := 200) (by decide +kernel))) rfl
theorem mw_201 : (.static ⟨"CompiledProgram$Form", "isArithmetic", "(J)Z"⟩ : Cond) ∈ tB := tB_of (List.mem_append_right _ (List.mem_of_getElem? (i := 201) (by decide +kernel))) rfl
set_option maxRecDepth 100000 in
theorem mw_202 : (.code ⟨"CompiledProgram$Form", "isArithmetic", "(J)Z"⟩ prog_5_method_16_code 2 (some FieldType.boolean) : Cond) ∈ tB := tB_of (List.mem_append_right _ (List.mem_of_getElem? (i := 202) rfl)) rfl
theorem mw_203 : (.methodLink "CompiledProgram$Form" 122 ⟨"CompiledProgram$Fields", "operation", "(J)I"⟩ : Cond) ∈ tB := tB_of (List.mem_append_right _ (List.mem_of_getElem? (i := 203) (by decide +kernel))) rfl
theorem mw_204 : (.methodLink "CompiledProgram$Form" 125 ⟨"CompiledProgram$Form", "isMoveOffset", "(J)Z"⟩ : Cond) ∈ tB := tB_of (List.mem_append_right _ (List.mem_of_getElem? (i := 204) (by decide +kernel))) rfl
theorem mw_205 : (.static ⟨"CompiledProgram$Form", "isMoveOffset", "(J)Z"⟩ : Cond) ∈ tB := tB_of (List.mem_append_right _ (List.mem_of_getElem? (i := 205) (by decide +kernel))) rfl
set_option maxRecDepth 100000 in
theorem mw_206 : (.code ⟨"CompiledProgram$Form", "isMoveOffset", "(J)Z"⟩ prog_5_method_17_code 2 (some FieldType.boolean) : Cond) ∈ tB := tB_of (List.mem_append_right _ (List.mem_of_getElem? (i := 206) rfl)) rfl
theorem mw_207 : (.methodLink "CompiledProgram$Form" 128 ⟨"CompiledProgram$Form", "isTurning", "(J)Z"⟩ : Cond) ∈ tB := tB_of (List.mem_append_right _ (List.mem_of_getElem? (i := 207) (by decide +kernel))) rfl
theorem mw_208 : (.static ⟨"CompiledProgram$Form", "isTurning", "(J)Z"⟩ : Cond) ∈ tB := tB_of (List.mem_append_right _ (List.mem_of_getElem? (i := 208) (by decide +kernel))) rfl
set_option maxRecDepth 100000 in
theorem mw_209 : (.code ⟨"CompiledProgram$Form", "isTurning", "(J)Z"⟩ prog_5_method_18_code 3 (some FieldType.boolean) : Cond) ∈ tB := tB_of (List.mem_append_right _ (List.mem_of_getElem? (i := 209) rfl)) rfl
theorem mw_210 : (.methodLink "CompiledProgram$Form" 30 ⟨"CompiledProgram$Program", "has", "(J)Z"⟩ : Cond) ∈ tB := tB_of (List.mem_append_right _ (List.mem_of_getElem? (i := 210) (by decide +kernel))) rfl
theorem mw_211 : (.methodLink "CompiledProgram$Form" 33 ⟨"CompiledProgram$Form", "isSecondOf", "(JJ)Z"⟩ : Cond) ∈ tB := tB_of (List.mem_append_right _ (List.mem_of_getElem? (i := 211) (by decide +kernel))) rfl
theorem mw_212 : (.static ⟨"CompiledProgram$Form", "isSecondOf", "(JJ)Z"⟩ : Cond) ∈ tB := tB_of (List.mem_append_right _ (List.mem_of_getElem? (i := 212) (by decide +kernel))) rfl
set_option maxRecDepth 100000 in
theorem mw_213 : (.code ⟨"CompiledProgram$Form", "isSecondOf", "(JJ)Z"⟩ prog_5_method_8_code 5 (some FieldType.boolean) : Cond) ∈ tB := tB_of (List.mem_append_right _ (List.mem_of_getElem? (i := 213) rfl)) rfl
theorem mw_217 : (.methodLink "CompiledProgram$Form" 37 ⟨"CompiledProgram$Form", "goesOnRightly", "(LCompiledProgram$Program;IJ)Z"⟩ : Cond) ∈ tB := tB_of (List.mem_append_right _ (List.mem_of_getElem? (i := 217) (by decide +kernel))) rfl
theorem mw_218 : (.static ⟨"CompiledProgram$Form", "goesOnRightly", "(LCompiledProgram$Program;IJ)Z"⟩ : Cond) ∈ tB := tB_of (List.mem_append_right _ (List.mem_of_getElem? (i := 218) (by decide +kernel))) rfl
set_option maxRecDepth 100000 in
theorem mw_219 : (.code ⟨"CompiledProgram$Form", "goesOnRightly", "(LCompiledProgram$Program;IJ)Z"⟩ prog_5_method_4_code 4 (some FieldType.boolean) : Cond) ∈ tB := tB_of (List.mem_append_right _ (List.mem_of_getElem? (i := 219) rfl)) rfl
theorem mw_220 : (.methodLink "CompiledProgram$Form" 41 ⟨"CompiledProgram$Fields", "isExit", "(J)Z"⟩ : Cond) ∈ tB := tB_of (List.mem_append_right _ (List.mem_of_getElem? (i := 220) (by decide +kernel))) rfl
theorem mw_221 : (.static ⟨"CompiledProgram$Fields", "isExit", "(J)Z"⟩ : Cond) ∈ tB := tB_of (List.mem_append_right _ (List.mem_of_getElem? (i := 221) (by decide +kernel))) rfl
set_option maxRecDepth 100000 in
theorem mw_222 : (.code ⟨"CompiledProgram$Fields", "isExit", "(J)Z"⟩ prog_4_method_13_code 2 (some FieldType.boolean) : Cond) ∈ tB := tB_of (List.mem_append_right _ (List.mem_of_getElem? (i := 222) rfl)) rfl
theorem mw_223 : (.methodLink "CompiledProgram$Form" 44 ⟨"CompiledProgram$Fields", "jumpsAlways", "(J)Z"⟩ : Cond) ∈ tB := tB_of (List.mem_append_right _ (List.mem_of_getElem? (i := 223) (by decide +kernel))) rfl
theorem mw_224 : (.static ⟨"CompiledProgram$Fields", "jumpsAlways", "(J)Z"⟩ : Cond) ∈ tB := tB_of (List.mem_append_right _ (List.mem_of_getElem? (i := 224) (by decide +kernel))) rfl
set_option maxRecDepth 100000 in
theorem mw_225 : (.code ⟨"CompiledProgram$Fields", "jumpsAlways", "(J)Z"⟩ prog_4_method_15_code 2 (some FieldType.boolean) : Cond) ∈ tB := tB_of (List.mem_append_right _ (List.mem_of_getElem? (i := 225) rfl)) rfl
theorem mw_226 : (.methodLink "CompiledProgram$Form" 47 ⟨"CompiledProgram$Fields", "jumpFrom", "(IJ)J"⟩ : Cond) ∈ tB := tB_of (List.mem_append_right _ (List.mem_of_getElem? (i := 226) (by decide +kernel))) rfl
theorem mw_227 : (.static ⟨"CompiledProgram$Fields", "jumpFrom", "(IJ)J"⟩ : Cond) ∈ tB := tB_of (List.mem_append_right _ (List.mem_of_getElem? (i := 227) (by decide +kernel))) rfl
set_option maxRecDepth 100000 in
theorem mw_228 : (.code ⟨"CompiledProgram$Fields", "jumpFrom", "(IJ)J"⟩ prog_4_method_17_code 3 (some FieldType.long) : Cond) ∈ tB := tB_of (List.mem_append_right _ (List.mem_of_getElem? (i := 228) rfl)) rfl
theorem mw_229 : (.methodLink "CompiledProgram$Fields" 21 ⟨"CompiledProgram$Fields", "immediate", "(J)I"⟩ : Cond) ∈ tB := tB_of (List.mem_append_right _ (List.mem_of_getElem? (i := 229) (by decide +kernel))) rfl
theorem mw_230 : (.methodLink "CompiledProgram$Fields" 24 ⟨"CompiledProgram$Fields", "offset", "(J)I"⟩ : Cond) ∈ tB := tB_of (List.mem_append_right _ (List.mem_of_getElem? (i := 230) (by decide +kernel))) rfl
theorem mw_231 : (.methodLink "CompiledProgram$Form" 51 ⟨"CompiledProgram$Form", "isStart", "(LCompiledProgram$Program;J)Z"⟩ : Cond) ∈ tB := tB_of (List.mem_append_right _ (List.mem_of_getElem? (i := 231) (by decide +kernel))) rfl
theorem mw_232 : (.static ⟨"CompiledProgram$Form", "isStart", "(LCompiledProgram$Program;J)Z"⟩ : Cond) ∈ tB := tB_of (List.mem_append_right _ (List.mem_of_getElem? (i := 232) (by decide +kernel))) rfl
set_option maxRecDepth 100000 in
theorem mw_233 : (.code ⟨"CompiledProgram$Form", "isStart", "(LCompiledProgram$Program;J)Z"⟩ prog_5_method_5_code 3 (some FieldType.boolean) : Cond) ∈ tB := tB_of (List.mem_append_right _ (List.mem_of_getElem? (i := 233) rfl)) rfl
theorem mw_258 : (.constant "CompiledProgram$Tape" 17 32768 : Cond) ∈ tB := tB_of (List.mem_append_right _ (List.mem_of_getElem? (i := 258) (by decide +kernel))) rfl
theorem mw_414 : (.instanceMethod ⟨"CompiledProgram$Memory", "holds", "(JI)Z"⟩ : Cond) ∈ tB := tB_of (List.mem_append_right _ (List.mem_of_getElem? (i := 414) (by decide +kernel))) rfl
theorem mw_415 : (.selects "CompiledProgram$Memory" ⟨"CompiledProgram$Memory", "holds", "(JI)Z"⟩ ⟨"CompiledProgram$Memory", "holds", "(JI)Z"⟩ : Cond) ∈ tB := tB_of (List.mem_append_right _ (List.mem_of_getElem? (i := 415) (by decide +kernel))) rfl
set_option maxRecDepth 100000 in
theorem mw_416 : (.code ⟨"CompiledProgram$Memory", "holds", "(JI)Z"⟩ prog_7_method_2_code 6 (some FieldType.boolean) : Cond) ∈ tB := tB_of (List.mem_append_right _ (List.mem_of_getElem? (i := 416) rfl)) rfl
theorem mw_417 : (.constantLong "CompiledProgram$Memory" 13 2147483648 : Cond) ∈ tB := tB_of (List.mem_append_right _ (List.mem_of_getElem? (i := 417) (by decide +kernel))) rfl
theorem mw_420 : (.instanceMethod ⟨"CompiledProgram$Memory", "write", "(JIJ)V"⟩ : Cond) ∈ tB := tB_of (List.mem_append_right _ (List.mem_of_getElem? (i := 420) (by decide +kernel))) rfl
theorem mw_421 : (.selects "CompiledProgram$Memory" ⟨"CompiledProgram$Memory", "write", "(JIJ)V"⟩ ⟨"CompiledProgram$Memory", "write", "(JIJ)V"⟩ : Cond) ∈ tB := tB_of (List.mem_append_right _ (List.mem_of_getElem? (i := 421) (by decide +kernel))) rfl
set_option maxRecDepth 100000 in
theorem mw_422 : (.code ⟨"CompiledProgram$Memory", "write", "(JIJ)V"⟩ prog_7_method_4_code 8 (none : Option FieldType) : Cond) ∈ tB := tB_of (List.mem_append_right _ (List.mem_of_getElem? (i := 422) rfl)) rfl
theorem mw_423 : (.methodLink "CompiledProgram$Memory" 15 ⟨"CompiledProgram$Memory", "holds", "(JI)Z"⟩ : Cond) ∈ tB := tB_of (List.mem_append_right _ (List.mem_of_getElem? (i := 423) (by decide +kernel))) rfl
theorem mw_432 : (.instanceMethod ⟨"CompiledProgram$Memory", "read", "(JI)J"⟩ : Cond) ∈ tB := tB_of (List.mem_append_right _ (List.mem_of_getElem? (i := 432) (by decide +kernel))) rfl
theorem mw_433 : (.selects "CompiledProgram$Memory" ⟨"CompiledProgram$Memory", "read", "(JI)J"⟩ ⟨"CompiledProgram$Memory", "read", "(JI)J"⟩ : Cond) ∈ tB := tB_of (List.mem_append_right _ (List.mem_of_getElem? (i := 433) (by decide +kernel))) rfl
set_option maxRecDepth 100000 in
theorem mw_434 : (.code ⟨"CompiledProgram$Memory", "read", "(JI)J"⟩ prog_7_method_3_code 8 (some FieldType.long) : Cond) ∈ tB := tB_of (List.mem_append_right _ (List.mem_of_getElem? (i := 434) rfl)) rfl
theorem mw_449 : (.methodLink "CompiledProgram$Machine" 20 ⟨"CompiledProgram$Program", "at", "(I)J"⟩ : Cond) ∈ tB := tB_of (List.mem_append_right _ (List.mem_of_getElem? (i := 449) (by decide +kernel))) rfl
theorem mw_450 : (.methodLink "CompiledProgram$Machine" 26 ⟨"CompiledProgram$Fields", "kind", "(J)I"⟩ : Cond) ∈ tB := tB_of (List.mem_append_right _ (List.mem_of_getElem? (i := 450) (by decide +kernel))) rfl
theorem mw_451 : (.methodLink "CompiledProgram$Machine" 32 ⟨"CompiledProgram$Machine", "takeTwoPlaces", "(JJ)V"⟩ : Cond) ∈ tB := tB_of (List.mem_append_right _ (List.mem_of_getElem? (i := 451) (by decide +kernel))) rfl
theorem mw_452 : (.instanceMethod ⟨"CompiledProgram$Machine", "takeTwoPlaces", "(JJ)V"⟩ : Cond) ∈ tB := tB_of (List.mem_append_right _ (List.mem_of_getElem? (i := 452) (by decide +kernel))) rfl
theorem mw_453 : (.selects "CompiledProgram$Machine" ⟨"CompiledProgram$Machine", "takeTwoPlaces", "(JJ)V"⟩ ⟨"CompiledProgram$Machine", "takeTwoPlaces", "(JJ)V"⟩ : Cond) ∈ tB := tB_of (List.mem_append_right _ (List.mem_of_getElem? (i := 453) (by decide +kernel))) rfl
set_option maxRecDepth 100000 in
theorem mw_454 : (.code ⟨"CompiledProgram$Machine", "takeTwoPlaces", "(JJ)V"⟩ prog_6_method_6_code 7 (none : Option FieldType) : Cond) ∈ tB := tB_of (List.mem_append_right _ (List.mem_of_getElem? (i := 454) rfl)) rfl
theorem mw_455 : (.methodLink "CompiledProgram$Machine" 40 ⟨"CompiledProgram$Fields", "immediate", "(J)I"⟩ : Cond) ∈ tB := tB_of (List.mem_append_right _ (List.mem_of_getElem? (i := 455) (by decide +kernel))) rfl
theorem mw_456 : (.methodLink "CompiledProgram$Machine" 61 ⟨"CompiledProgram$Fields", "target", "(J)I"⟩ : Cond) ∈ tB := tB_of (List.mem_append_right _ (List.mem_of_getElem? (i := 456) (by decide +kernel))) rfl
theorem mw_457 : (.methodLink "CompiledProgram$Machine" 73 ⟨"CompiledProgram$Arithmetic", "lowest", "(JI)J"⟩ : Cond) ∈ tB := tB_of (List.mem_append_right _ (List.mem_of_getElem? (i := 457) (by decide +kernel))) rfl
theorem mw_458 : (.static ⟨"CompiledProgram$Arithmetic", "lowest", "(JI)J"⟩ : Cond) ∈ tB := tB_of (List.mem_append_right _ (List.mem_of_getElem? (i := 458) (by decide +kernel))) rfl
set_option maxRecDepth 100000 in
theorem mw_459 : (.code ⟨"CompiledProgram$Arithmetic", "lowest", "(JI)J"⟩ prog_2_method_7_code 3 (some FieldType.long) : Cond) ∈ tB := tB_of (List.mem_append_right _ (List.mem_of_getElem? (i := 459) rfl)) rfl
theorem mw_460 : (.methodLink "CompiledProgram$Machine" 36 ⟨"CompiledProgram$Machine", "read", "(J)Z"⟩ : Cond) ∈ tB := tB_of (List.mem_append_right _ (List.mem_of_getElem? (i := 460) (by decide +kernel))) rfl
theorem mw_461 : (.instanceMethod ⟨"CompiledProgram$Machine", "read", "(J)Z"⟩ : Cond) ∈ tB := tB_of (List.mem_append_right _ (List.mem_of_getElem? (i := 461) (by decide +kernel))) rfl
theorem mw_462 : (.selects "CompiledProgram$Machine" ⟨"CompiledProgram$Machine", "read", "(J)Z"⟩ ⟨"CompiledProgram$Machine", "read", "(J)Z"⟩ : Cond) ∈ tB := tB_of (List.mem_append_right _ (List.mem_of_getElem? (i := 462) (by decide +kernel))) rfl
set_option maxRecDepth 100000 in
theorem mw_463 : (.code ⟨"CompiledProgram$Machine", "read", "(J)Z"⟩ prog_6_method_7_code 8 (some FieldType.boolean) : Cond) ∈ tB := tB_of (List.mem_append_right _ (List.mem_of_getElem? (i := 463) rfl)) rfl
theorem mw_464 : (.methodLink "CompiledProgram$Machine" 79 ⟨"CompiledProgram$Fields", "size", "(J)I"⟩ : Cond) ∈ tB := tB_of (List.mem_append_right _ (List.mem_of_getElem? (i := 464) (by decide +kernel))) rfl
theorem mw_465 : (.methodLink "CompiledProgram$Machine" 53 ⟨"CompiledProgram$Machine", "y", "(J)J"⟩ : Cond) ∈ tB := tB_of (List.mem_append_right _ (List.mem_of_getElem? (i := 465) (by decide +kernel))) rfl
theorem mw_466 : (.instanceMethod ⟨"CompiledProgram$Machine", "y", "(J)J"⟩ : Cond) ∈ tB := tB_of (List.mem_append_right _ (List.mem_of_getElem? (i := 466) (by decide +kernel))) rfl
theorem mw_467 : (.selects "CompiledProgram$Machine" ⟨"CompiledProgram$Machine", "y", "(J)J"⟩ ⟨"CompiledProgram$Machine", "y", "(J)J"⟩ : Cond) ∈ tB := tB_of (List.mem_append_right _ (List.mem_of_getElem? (i := 467) (by decide +kernel))) rfl
set_option maxRecDepth 100000 in
theorem mw_468 : (.code ⟨"CompiledProgram$Machine", "y", "(J)J"⟩ prog_6_method_4_code 3 (some FieldType.long) : Cond) ∈ tB := tB_of (List.mem_append_right _ (List.mem_of_getElem? (i := 468) rfl)) rfl
theorem mw_469 : (.methodLink "CompiledProgram$Machine" 67 ⟨"CompiledProgram$Fields", "source", "(J)I"⟩ : Cond) ∈ tB := tB_of (List.mem_append_right _ (List.mem_of_getElem? (i := 469) (by decide +kernel))) rfl
theorem mw_470 : (.methodLink "CompiledProgram$Machine" 82 ⟨"CompiledProgram$Fields", "offset", "(J)I"⟩ : Cond) ∈ tB := tB_of (List.mem_append_right _ (List.mem_of_getElem? (i := 470) (by decide +kernel))) rfl
theorem mw_471 : (.methodLink "CompiledProgram$Machine" 85 ⟨"CompiledProgram$Memory", "holds", "(JI)Z"⟩ : Cond) ∈ tB := tB_of (List.mem_append_right _ (List.mem_of_getElem? (i := 471) (by decide +kernel))) rfl
theorem mw_472 : (.methodLink "CompiledProgram$Machine" 89 ⟨"CompiledProgram$Memory", "read", "(JI)J"⟩ : Cond) ∈ tB := tB_of (List.mem_append_right _ (List.mem_of_getElem? (i := 472) (by decide +kernel))) rfl
theorem mw_473 : (.methodLink "CompiledProgram$Machine" 47 ⟨"CompiledProgram$Fields", "mode", "(J)I"⟩ : Cond) ∈ tB := tB_of (List.mem_append_right _ (List.mem_of_getElem? (i := 473) (by decide +kernel))) rfl
theorem mw_474 : (.methodLink "CompiledProgram$Machine" 91 ⟨"CompiledProgram$Arithmetic", "signed", "(JI)J"⟩ : Cond) ∈ tB := tB_of (List.mem_append_right _ (List.mem_of_getElem? (i := 474) (by decide +kernel))) rfl
theorem mw_475 : (.static ⟨"CompiledProgram$Arithmetic", "signed", "(JI)J"⟩ : Cond) ∈ tB := tB_of (List.mem_append_right _ (List.mem_of_getElem? (i := 475) (by decide +kernel))) rfl
set_option maxRecDepth 100000 in
theorem mw_476 : (.code ⟨"CompiledProgram$Arithmetic", "signed", "(JI)J"⟩ prog_2_method_8_code 3 (some FieldType.long) : Cond) ∈ tB := tB_of (List.mem_append_right _ (List.mem_of_getElem? (i := 476) rfl)) rfl
theorem mw_477 : (.methodLink "CompiledProgram$Machine" 43 ⟨"CompiledProgram$Machine", "write", "(JJ)Z"⟩ : Cond) ∈ tB := tB_of (List.mem_append_right _ (List.mem_of_getElem? (i := 477) (by decide +kernel))) rfl
theorem mw_478 : (.instanceMethod ⟨"CompiledProgram$Machine", "write", "(JJ)Z"⟩ : Cond) ∈ tB := tB_of (List.mem_append_right _ (List.mem_of_getElem? (i := 478) (by decide +kernel))) rfl
theorem mw_479 : (.selects "CompiledProgram$Machine" ⟨"CompiledProgram$Machine", "write", "(JJ)Z"⟩ ⟨"CompiledProgram$Machine", "write", "(JJ)Z"⟩ : Cond) ∈ tB := tB_of (List.mem_append_right _ (List.mem_of_getElem? (i := 479) (by decide +kernel))) rfl
set_option maxRecDepth 100000 in
theorem mw_480 : (.code ⟨"CompiledProgram$Machine", "write", "(JJ)Z"⟩ prog_6_method_8_code 8 (some FieldType.boolean) : Cond) ∈ tB := tB_of (List.mem_append_right _ (List.mem_of_getElem? (i := 480) rfl)) rfl
theorem mw_481 : (.methodLink "CompiledProgram$Machine" 94 ⟨"CompiledProgram$Machine", "x", "(J)J"⟩ : Cond) ∈ tB := tB_of (List.mem_append_right _ (List.mem_of_getElem? (i := 481) (by decide +kernel))) rfl
theorem mw_482 : (.instanceMethod ⟨"CompiledProgram$Machine", "x", "(J)J"⟩ : Cond) ∈ tB := tB_of (List.mem_append_right _ (List.mem_of_getElem? (i := 482) (by decide +kernel))) rfl
theorem mw_483 : (.selects "CompiledProgram$Machine" ⟨"CompiledProgram$Machine", "x", "(J)J"⟩ ⟨"CompiledProgram$Machine", "x", "(J)J"⟩ : Cond) ∈ tB := tB_of (List.mem_append_right _ (List.mem_of_getElem? (i := 483) (by decide +kernel))) rfl
set_option maxRecDepth 100000 in
theorem mw_484 : (.code ⟨"CompiledProgram$Machine", "x", "(J)J"⟩ prog_6_method_3_code 3 (some FieldType.long) : Cond) ∈ tB := tB_of (List.mem_append_right _ (List.mem_of_getElem? (i := 484) rfl)) rfl
theorem mw_485 : (.methodLink "CompiledProgram$Machine" 97 ⟨"CompiledProgram$Memory", "write", "(JIJ)V"⟩ : Cond) ∈ tB := tB_of (List.mem_append_right _ (List.mem_of_getElem? (i := 485) (by decide +kernel))) rfl
theorem mw_486 : (.methodLink "CompiledProgram$Machine" 50 ⟨"CompiledProgram$Machine", "exchange", "(J)Z"⟩ : Cond) ∈ tB := tB_of (List.mem_append_right _ (List.mem_of_getElem? (i := 486) (by decide +kernel))) rfl
theorem mw_487 : (.instanceMethod ⟨"CompiledProgram$Machine", "exchange", "(J)Z"⟩ : Cond) ∈ tB := tB_of (List.mem_append_right _ (List.mem_of_getElem? (i := 487) (by decide +kernel))) rfl
theorem mw_488 : (.selects "CompiledProgram$Machine" ⟨"CompiledProgram$Machine", "exchange", "(J)Z"⟩ ⟨"CompiledProgram$Machine", "exchange", "(J)Z"⟩ : Cond) ∈ tB := tB_of (List.mem_append_right _ (List.mem_of_getElem? (i := 488) (by decide +kernel))) rfl
set_option maxRecDepth 100000 in
theorem mw_489 : (.code ⟨"CompiledProgram$Machine", "exchange", "(J)Z"⟩ prog_6_method_9_code 10 (some FieldType.boolean) : Cond) ∈ tB := tB_of (List.mem_append_right _ (List.mem_of_getElem? (i := 489) rfl)) rfl
theorem mw_490 : (.methodLink "CompiledProgram$Machine" 100 ⟨"CompiledProgram$Exchange", "become", "(IJJZ)J"⟩ : Cond) ∈ tB := tB_of (List.mem_append_right _ (List.mem_of_getElem? (i := 490) (by decide +kernel))) rfl
theorem mw_491 : (.static ⟨"CompiledProgram$Exchange", "become", "(IJJZ)J"⟩ : Cond) ∈ tB := tB_of (List.mem_append_right _ (List.mem_of_getElem? (i := 491) (by decide +kernel))) rfl
set_option maxRecDepth 100000 in
theorem mw_492 : (.code ⟨"CompiledProgram$Exchange", "become", "(IJJZ)J"⟩ prog_3_method_4_code 6 (some FieldType.long) : Cond) ∈ tB := tB_of (List.mem_append_right _ (List.mem_of_getElem? (i := 492) rfl)) rfl
theorem mw_493 : (.methodLink "CompiledProgram$Machine" 106 ⟨"CompiledProgram$Exchange", "changesSource", "(I)Z"⟩ : Cond) ∈ tB := tB_of (List.mem_append_right _ (List.mem_of_getElem? (i := 493) (by decide +kernel))) rfl
theorem mw_494 : (.methodLink "CompiledProgram$Machine" 57 ⟨"CompiledProgram$Machine", "jump", "(IJ)I"⟩ : Cond) ∈ tB := tB_of (List.mem_append_right _ (List.mem_of_getElem? (i := 494) (by decide +kernel))) rfl
theorem mw_495 : (.instanceMethod ⟨"CompiledProgram$Machine", "jump", "(IJ)I"⟩ : Cond) ∈ tB := tB_of (List.mem_append_right _ (List.mem_of_getElem? (i := 495) (by decide +kernel))) rfl
theorem mw_496 : (.selects "CompiledProgram$Machine" ⟨"CompiledProgram$Machine", "jump", "(IJ)I"⟩ ⟨"CompiledProgram$Machine", "jump", "(IJ)I"⟩ : Cond) ∈ tB := tB_of (List.mem_append_right _ (List.mem_of_getElem? (i := 496) (by decide +kernel))) rfl
set_option maxRecDepth 100000 in
theorem mw_497 : (.code ⟨"CompiledProgram$Machine", "jump", "(IJ)I"⟩ prog_6_method_10_code 4 (some FieldType.int) : Cond) ∈ tB := tB_of (List.mem_append_right _ (List.mem_of_getElem? (i := 497) rfl)) rfl
theorem mw_498 : (.methodLink "CompiledProgram$Machine" 110 ⟨"CompiledProgram$Fields", "isExit", "(J)Z"⟩ : Cond) ∈ tB := tB_of (List.mem_append_right _ (List.mem_of_getElem? (i := 498) (by decide +kernel))) rfl
theorem mw_499 : (.methodLink "CompiledProgram$Machine" 113 ⟨"CompiledProgram$Fields", "isCall", "(J)Z"⟩ : Cond) ∈ tB := tB_of (List.mem_append_right _ (List.mem_of_getElem? (i := 499) (by decide +kernel))) rfl
theorem mw_500 : (.static ⟨"CompiledProgram$Fields", "isCall", "(J)Z"⟩ : Cond) ∈ tB := tB_of (List.mem_append_right _ (List.mem_of_getElem? (i := 500) (by decide +kernel))) rfl
set_option maxRecDepth 100000 in
theorem mw_501 : (.code ⟨"CompiledProgram$Fields", "isCall", "(J)Z"⟩ prog_4_method_14_code 2 (some FieldType.boolean) : Cond) ∈ tB := tB_of (List.mem_append_right _ (List.mem_of_getElem? (i := 501) rfl)) rfl
theorem mw_502 : (.methodLink "CompiledProgram$Machine" 116 ⟨"CompiledProgram$Machine", "answerCall", "(I)V"⟩ : Cond) ∈ tB := tB_of (List.mem_append_right _ (List.mem_of_getElem? (i := 502) (by decide +kernel))) rfl
theorem mw_503 : (.instanceMethod ⟨"CompiledProgram$Machine", "answerCall", "(I)V"⟩ : Cond) ∈ tB := tB_of (List.mem_append_right _ (List.mem_of_getElem? (i := 503) (by decide +kernel))) rfl
theorem mw_504 : (.selects "CompiledProgram$Machine" ⟨"CompiledProgram$Machine", "answerCall", "(I)V"⟩ ⟨"CompiledProgram$Machine", "answerCall", "(I)V"⟩ : Cond) ∈ tB := tB_of (List.mem_append_right _ (List.mem_of_getElem? (i := 504) (by decide +kernel))) rfl
set_option maxRecDepth 100000 in
theorem mw_505 : (.code ⟨"CompiledProgram$Machine", "answerCall", "(I)V"⟩ prog_6_method_12_code 5 (none : Option FieldType) : Cond) ∈ tB := tB_of (List.mem_append_right _ (List.mem_of_getElem? (i := 505) rfl)) rfl
theorem mw_506 : (.constantLong "CompiledProgram$Machine" 140 31 : Cond) ∈ tB := tB_of (List.mem_append_right _ (List.mem_of_getElem? (i := 506) (by decide +kernel))) rfl
theorem mw_507 : (.methodLink "CompiledProgram$Machine" 120 ⟨"CompiledProgram$Fields", "jumpsAlways", "(J)Z"⟩ : Cond) ∈ tB := tB_of (List.mem_append_right _ (List.mem_of_getElem? (i := 507) (by decide +kernel))) rfl
theorem mw_508 : (.methodLink "CompiledProgram$Machine" 123 ⟨"CompiledProgram$Machine", "takesJump", "(J)Z"⟩ : Cond) ∈ tB := tB_of (List.mem_append_right _ (List.mem_of_getElem? (i := 508) (by decide +kernel))) rfl
theorem mw_509 : (.instanceMethod ⟨"CompiledProgram$Machine", "takesJump", "(J)Z"⟩ : Cond) ∈ tB := tB_of (List.mem_append_right _ (List.mem_of_getElem? (i := 509) (by decide +kernel))) rfl
theorem mw_510 : (.selects "CompiledProgram$Machine" ⟨"CompiledProgram$Machine", "takesJump", "(J)Z"⟩ ⟨"CompiledProgram$Machine", "takesJump", "(J)Z"⟩ : Cond) ∈ tB := tB_of (List.mem_append_right _ (List.mem_of_getElem? (i := 510) (by decide +kernel))) rfl
set_option maxRecDepth 100000 in
theorem mw_511 : (.code ⟨"CompiledProgram$Machine", "takesJump", "(J)Z"⟩ prog_6_method_11_code 7 (some FieldType.boolean) : Cond) ∈ tB := tB_of (List.mem_append_right _ (List.mem_of_getElem? (i := 511) rfl)) rfl
theorem mw_512 : (.methodLink "CompiledProgram$Machine" 130 ⟨"CompiledProgram$Machine", "operand", "(J)J"⟩ : Cond) ∈ tB := tB_of (List.mem_append_right _ (List.mem_of_getElem? (i := 512) (by decide +kernel))) rfl
theorem mw_513 : (.instanceMethod ⟨"CompiledProgram$Machine", "operand", "(J)J"⟩ : Cond) ∈ tB := tB_of (List.mem_append_right _ (List.mem_of_getElem? (i := 513) (by decide +kernel))) rfl
theorem mw_514 : (.selects "CompiledProgram$Machine" ⟨"CompiledProgram$Machine", "operand", "(J)J"⟩ ⟨"CompiledProgram$Machine", "operand", "(J)J"⟩ : Cond) ∈ tB := tB_of (List.mem_append_right _ (List.mem_of_getElem? (i := 514) (by decide +kernel))) rfl
set_option maxRecDepth 100000 in
theorem mw_515 : (.code ⟨"CompiledProgram$Machine", "operand", "(J)J"⟩ prog_6_method_5_code 3 (some FieldType.long) : Cond) ∈ tB := tB_of (List.mem_append_right _ (List.mem_of_getElem? (i := 515) rfl)) rfl
theorem mw_516 : (.methodLink "CompiledProgram$Machine" 70 ⟨"CompiledProgram$Fields", "usesSource", "(J)Z"⟩ : Cond) ∈ tB := tB_of (List.mem_append_right _ (List.mem_of_getElem? (i := 516) (by decide +kernel))) rfl
theorem mw_517 : (.methodLink "CompiledProgram$Machine" 133 ⟨"CompiledProgram$Fields", "operation", "(J)I"⟩ : Cond) ∈ tB := tB_of (List.mem_append_right _ (List.mem_of_getElem? (i := 517) (by decide +kernel))) rfl
theorem mw_518 : (.methodLink "CompiledProgram$Machine" 136 ⟨"CompiledProgram$Arithmetic", "isTaken", "(IJJ)Z"⟩ : Cond) ∈ tB := tB_of (List.mem_append_right _ (List.mem_of_getElem? (i := 518) (by decide +kernel))) rfl
theorem mw_519 : (.static ⟨"CompiledProgram$Arithmetic", "isTaken", "(IJJ)Z"⟩ : Cond) ∈ tB := tB_of (List.mem_append_right _ (List.mem_of_getElem? (i := 519) (by decide +kernel))) rfl
set_option maxRecDepth 100000 in
theorem mw_520 : (.code ⟨"CompiledProgram$Arithmetic", "isTaken", "(IJJ)Z"⟩ prog_2_method_10_code 9 (some FieldType.boolean) : Cond) ∈ tB := tB_of (List.mem_append_right _ (List.mem_of_getElem? (i := 520) rfl)) rfl
theorem mw_521 : (.constantLong "CompiledProgram$Arithmetic" 33 (-9223372036854775808) : Cond) ∈ tB := tB_of (List.mem_append_right _ (List.mem_of_getElem? (i := 521) (by decide +kernel))) rfl
theorem mw_522 : (.methodLink "CompiledProgram$Machine" 126 ⟨"CompiledProgram$Fields", "jumpFrom", "(IJ)J"⟩ : Cond) ∈ tB := tB_of (List.mem_append_right _ (List.mem_of_getElem? (i := 522) (by decide +kernel))) rfl
theorem mw_523 : (.methodLink "CompiledProgram$Machine" 64 ⟨"CompiledProgram$Machine", "computed", "(J)J"⟩ : Cond) ∈ tB := tB_of (List.mem_append_right _ (List.mem_of_getElem? (i := 523) (by decide +kernel))) rfl
theorem mw_524 : (.instanceMethod ⟨"CompiledProgram$Machine", "computed", "(J)J"⟩ : Cond) ∈ tB := tB_of (List.mem_append_right _ (List.mem_of_getElem? (i := 524) (by decide +kernel))) rfl
theorem mw_525 : (.selects "CompiledProgram$Machine" ⟨"CompiledProgram$Machine", "computed", "(J)J"⟩ ⟨"CompiledProgram$Machine", "computed", "(J)J"⟩ : Cond) ∈ tB := tB_of (List.mem_append_right _ (List.mem_of_getElem? (i := 525) (by decide +kernel))) rfl
set_option maxRecDepth 100000 in
theorem mw_526 : (.code ⟨"CompiledProgram$Machine", "computed", "(J)J"⟩ prog_6_method_13_code 4 (some FieldType.long) : Cond) ∈ tB := tB_of (List.mem_append_right _ (List.mem_of_getElem? (i := 526) rfl)) rfl
theorem mw_527 : (.methodLink "CompiledProgram$Machine" 142 ⟨"CompiledProgram$Machine", "turnedOrCut", "(J)J"⟩ : Cond) ∈ tB := tB_of (List.mem_append_right _ (List.mem_of_getElem? (i := 527) (by decide +kernel))) rfl
theorem mw_528 : (.instanceMethod ⟨"CompiledProgram$Machine", "turnedOrCut", "(J)J"⟩ : Cond) ∈ tB := tB_of (List.mem_append_right _ (List.mem_of_getElem? (i := 528) (by decide +kernel))) rfl
theorem mw_529 : (.selects "CompiledProgram$Machine" ⟨"CompiledProgram$Machine", "turnedOrCut", "(J)J"⟩ ⟨"CompiledProgram$Machine", "turnedOrCut", "(J)J"⟩ : Cond) ∈ tB := tB_of (List.mem_append_right _ (List.mem_of_getElem? (i := 529) (by decide +kernel))) rfl
set_option maxRecDepth 100000 in
theorem mw_530 : (.code ⟨"CompiledProgram$Machine", "turnedOrCut", "(J)J"⟩ prog_6_method_14_code 5 (some FieldType.long) : Cond) ∈ tB := tB_of (List.mem_append_right _ (List.mem_of_getElem? (i := 530) rfl)) rfl
theorem mw_531 : (.methodLink "CompiledProgram$Machine" 153 ⟨"CompiledProgram$Arithmetic", "turned", "(JI)J"⟩ : Cond) ∈ tB := tB_of (List.mem_append_right _ (List.mem_of_getElem? (i := 531) (by decide +kernel))) rfl
theorem mw_532 : (.static ⟨"CompiledProgram$Arithmetic", "turned", "(JI)J"⟩ : Cond) ∈ tB := tB_of (List.mem_append_right _ (List.mem_of_getElem? (i := 532) (by decide +kernel))) rfl
set_option maxRecDepth 100000 in
theorem mw_533 : (.code ⟨"CompiledProgram$Arithmetic", "turned", "(JI)J"⟩ prog_2_method_9_code 3 (some FieldType.long) : Cond) ∈ tB := tB_of (List.mem_append_right _ (List.mem_of_getElem? (i := 533) rfl)) rfl
theorem mw_534 : (.methodLink "CompiledProgram$Arithmetic" 35 ⟨"java/lang/Long", "reverseBytes", "(J)J"⟩ : Cond) ∈ tB := tB_of (List.mem_append_right _ (List.mem_of_getElem? (i := 534) (by decide +kernel))) rfl
theorem mw_535 : (.static ⟨"java/lang/Long", "reverseBytes", "(J)J"⟩ : Cond) ∈ tB := tB_of (List.mem_append_right _ (List.mem_of_getElem? (i := 535) (by decide +kernel))) rfl
set_option maxRecDepth 100000 in
theorem mw_536 : (.code ⟨"java/lang/Long", "reverseBytes", "(J)J"⟩ prog_17_method_58_code 2 (some FieldType.long) : Cond) ∈ tB := tB_of (List.mem_append_right _ (List.mem_of_getElem? (i := 536) rfl)) rfl
theorem mw_537 : (.constantLong "java/lang/Long" 327 71777214294589695 : Cond) ∈ tB := tB_of (List.mem_append_right _ (List.mem_of_getElem? (i := 537) (by decide +kernel))) rfl
theorem mw_538 : (.constantLong "java/lang/Long" 329 4294901760 : Cond) ∈ tB := tB_of (List.mem_append_right _ (List.mem_of_getElem? (i := 538) (by decide +kernel))) rfl
theorem mw_539 : (.methodLink "CompiledProgram$Machine" 145 ⟨"CompiledProgram$Arithmetic", "wide", "(IIJJ)J"⟩ : Cond) ∈ tB := tB_of (List.mem_append_right _ (List.mem_of_getElem? (i := 539) (by decide +kernel))) rfl
theorem mw_540 : (.static ⟨"CompiledProgram$Arithmetic", "wide", "(IIJJ)J"⟩ : Cond) ∈ tB := tB_of (List.mem_append_right _ (List.mem_of_getElem? (i := 540) (by decide +kernel))) rfl
set_option maxRecDepth 100000 in
theorem mw_541 : (.code ⟨"CompiledProgram$Arithmetic", "wide", "(IIJJ)J"⟩ prog_2_method_2_code 6 (some FieldType.long) : Cond) ∈ tB := tB_of (List.mem_append_right _ (List.mem_of_getElem? (i := 541) rfl)) rfl
theorem mw_542 : (.methodLink "CompiledProgram$Arithmetic" 7 ⟨"CompiledProgram$Arithmetic", "quotient", "(ZJJ)J"⟩ : Cond) ∈ tB := tB_of (List.mem_append_right _ (List.mem_of_getElem? (i := 542) (by decide +kernel))) rfl
theorem mw_543 : (.static ⟨"CompiledProgram$Arithmetic", "quotient", "(ZJJ)J"⟩ : Cond) ∈ tB := tB_of (List.mem_append_right _ (List.mem_of_getElem? (i := 543) (by decide +kernel))) rfl
set_option maxRecDepth 100000 in
theorem mw_544 : (.code ⟨"CompiledProgram$Arithmetic", "quotient", "(ZJJ)J"⟩ prog_2_method_4_code 5 (some FieldType.long) : Cond) ∈ tB := tB_of (List.mem_append_right _ (List.mem_of_getElem? (i := 544) rfl)) rfl
theorem mw_545 : (.methodLink "CompiledProgram$Arithmetic" 29 ⟨"CompiledProgram$Arithmetic", "unsignedQuotient", "(JJ)J"⟩ : Cond) ∈ tB := tB_of (List.mem_append_right _ (List.mem_of_getElem? (i := 545) (by decide +kernel))) rfl
theorem mw_546 : (.static ⟨"CompiledProgram$Arithmetic", "unsignedQuotient", "(JJ)J"⟩ : Cond) ∈ tB := tB_of (List.mem_append_right _ (List.mem_of_getElem? (i := 546) (by decide +kernel))) rfl
set_option maxRecDepth 100000 in
theorem mw_547 : (.code ⟨"CompiledProgram$Arithmetic", "unsignedQuotient", "(JJ)J"⟩ prog_2_method_5_code 8 (some FieldType.long) : Cond) ∈ tB := tB_of (List.mem_append_right _ (List.mem_of_getElem? (i := 547) rfl)) rfl
theorem mw_548 : (.constantLong "CompiledProgram$Arithmetic" 13 63 : Cond) ∈ tB := tB_of (List.mem_append_right _ (List.mem_of_getElem? (i := 548) (by decide +kernel))) rfl
theorem mw_549 : (.methodLink "CompiledProgram$Arithmetic" 15 ⟨"CompiledProgram$Arithmetic", "rest", "(ZJJ)J"⟩ : Cond) ∈ tB := tB_of (List.mem_append_right _ (List.mem_of_getElem? (i := 549) (by decide +kernel))) rfl
theorem mw_550 : (.static ⟨"CompiledProgram$Arithmetic", "rest", "(ZJJ)J"⟩ : Cond) ∈ tB := tB_of (List.mem_append_right _ (List.mem_of_getElem? (i := 550) (by decide +kernel))) rfl
set_option maxRecDepth 100000 in
theorem mw_551 : (.code ⟨"CompiledProgram$Arithmetic", "rest", "(ZJJ)J"⟩ prog_2_method_6_code 5 (some FieldType.long) : Cond) ∈ tB := tB_of (List.mem_append_right _ (List.mem_of_getElem? (i := 551) rfl)) rfl
theorem mw_552 : (.methodLink "CompiledProgram$Arithmetic" 18 ⟨"CompiledProgram$Arithmetic", "signed", "(JI)J"⟩ : Cond) ∈ tB := tB_of (List.mem_append_right _ (List.mem_of_getElem? (i := 552) (by decide +kernel))) rfl
theorem mw_553 : (.methodLink "CompiledProgram$Machine" 149 ⟨"CompiledProgram$Arithmetic", "narrow", "(IIII)J"⟩ : Cond) ∈ tB := tB_of (List.mem_append_right _ (List.mem_of_getElem? (i := 553) (by decide +kernel))) rfl
theorem mw_554 : (.static ⟨"CompiledProgram$Arithmetic", "narrow", "(IIII)J"⟩ : Cond) ∈ tB := tB_of (List.mem_append_right _ (List.mem_of_getElem? (i := 554) (by decide +kernel))) rfl
set_option maxRecDepth 100000 in
theorem mw_555 : (.code ⟨"CompiledProgram$Arithmetic", "narrow", "(IIII)J"⟩ prog_2_method_3_code 4 (some FieldType.long) : Cond) ∈ tB := tB_of (List.mem_append_right _ (List.mem_of_getElem? (i := 555) rfl)) rfl
theorem mw_556 : (.methodLink "CompiledProgram$Arithmetic" 22 ⟨"CompiledProgram$Arithmetic", "lowest", "(JI)J"⟩ : Cond) ∈ tB := tB_of (List.mem_append_right _ (List.mem_of_getElem? (i := 556) (by decide +kernel))) rfl
theorem mw_557 : (.methodLink "CompiledProgram$Arithmetic" 25 ⟨"CompiledProgram$Arithmetic", "wide", "(IIJJ)J"⟩ : Cond) ∈ tB := tB_of (List.mem_append_right _ (List.mem_of_getElem? (i := 557) (by decide +kernel))) rfl
end
section
theorem dAr_wide_0 : decode cAr_wide 0 = .ok (.iload_n 0, 1) := by decide +kernel
theorem dAr_wide_1 : decode cAr_wide 1 = .ok (.tableswitch 180 0 12 #[67, 72, 77, 82, 99, 104, 109, 119, 129, 132, 149, 154, 170], 67) := by decide +kernel
theorem dAr_wide_68 : decode cAr_wide 68 = .ok (.lload_n 2, 1) := by decide +kernel
theorem dAr_wide_69 : decode cAr_wide 69 = .ok (.lload 4, 2) := by decide +kernel
theorem dAr_wide_71 : decode cAr_wide 71 = .ok (.ladd, 1) := by decide +kernel
theorem dAr_wide_72 : decode cAr_wide 72 = .ok (.lreturn, 1) := by decide +kernel
theorem dAr_wide_73 : decode cAr_wide 73 = .ok (.lload_n 2, 1) := by decide +kernel
theorem dAr_wide_74 : decode cAr_wide 74 = .ok (.lload 4, 2) := by decide +kernel
theorem dAr_wide_76 : decode cAr_wide 76 = .ok (.lsub, 1) := by decide +kernel
theorem dAr_wide_77 : decode cAr_wide 77 = .ok (.lreturn, 1) := by decide +kernel
theorem dAr_wide_78 : decode cAr_wide 78 = .ok (.lload_n 2, 1) := by decide +kernel
theorem dAr_wide_79 : decode cAr_wide 79 = .ok (.lload 4, 2) := by decide +kernel
theorem dAr_wide_81 : decode cAr_wide 81 = .ok (.lmul, 1) := by decide +kernel
theorem dAr_wide_82 : decode cAr_wide 82 = .ok (.lreturn, 1) := by decide +kernel
theorem dAr_wide_83 : decode cAr_wide 83 = .ok (.iload_n 1, 1) := by decide +kernel
theorem dAr_wide_84 : decode cAr_wide 84 = .ok (.iconst 1, 1) := by decide +kernel
theorem dAr_wide_85 : decode cAr_wide 85 = .ok (.if_icmp .ne 7, 3) := by decide +kernel
theorem dAr_wide_88 : decode cAr_wide 88 = .ok (.iconst 1, 1) := by decide +kernel
theorem dAr_wide_89 : decode cAr_wide 89 = .ok (.goto 4, 3) := by decide +kernel
theorem dAr_wide_92 : decode cAr_wide 92 = .ok (.iconst 0, 1) := by decide +kernel
theorem dAr_wide_93 : decode cAr_wide 93 = .ok (.lload_n 2, 1) := by decide +kernel
theorem dAr_wide_94 : decode cAr_wide 94 = .ok (.lload 4, 2) := by decide +kernel
theorem dAr_wide_96 : decode cAr_wide 96 = .ok (.invokestatic 7, 3) := by decide +kernel
theorem dAr_wide_99 : decode cAr_wide 99 = .ok (.lreturn, 1) := by decide +kernel
theorem dAr_wide_100 : decode cAr_wide 100 = .ok (.lload_n 2, 1) := by decide +kernel
theorem dAr_wide_101 : decode cAr_wide 101 = .ok (.lload 4, 2) := by decide +kernel
theorem dAr_wide_103 : decode cAr_wide 103 = .ok (.lor, 1) := by decide +kernel
theorem dAr_wide_104 : decode cAr_wide 104 = .ok (.lreturn, 1) := by decide +kernel
theorem dAr_wide_105 : decode cAr_wide 105 = .ok (.lload_n 2, 1) := by decide +kernel
theorem dAr_wide_106 : decode cAr_wide 106 = .ok (.lload 4, 2) := by decide +kernel
theorem dAr_wide_108 : decode cAr_wide 108 = .ok (.land, 1) := by decide +kernel
theorem dAr_wide_109 : decode cAr_wide 109 = .ok (.lreturn, 1) := by decide +kernel
theorem dAr_wide_110 : decode cAr_wide 110 = .ok (.lload_n 2, 1) := by decide +kernel
theorem dAr_wide_111 : decode cAr_wide 111 = .ok (.lload 4, 2) := by decide +kernel
theorem dAr_wide_113 : decode cAr_wide 113 = .ok (.ldc2_w 13, 3) := by decide +kernel
theorem dAr_wide_116 : decode cAr_wide 116 = .ok (.land, 1) := by decide +kernel
theorem dAr_wide_117 : decode cAr_wide 117 = .ok (.l2i, 1) := by decide +kernel
theorem dAr_wide_118 : decode cAr_wide 118 = .ok (.lshl, 1) := by decide +kernel
theorem dAr_wide_119 : decode cAr_wide 119 = .ok (.lreturn, 1) := by decide +kernel
theorem dAr_wide_120 : decode cAr_wide 120 = .ok (.lload_n 2, 1) := by decide +kernel
theorem dAr_wide_121 : decode cAr_wide 121 = .ok (.lload 4, 2) := by decide +kernel
theorem dAr_wide_123 : decode cAr_wide 123 = .ok (.ldc2_w 13, 3) := by decide +kernel
theorem dAr_wide_126 : decode cAr_wide 126 = .ok (.land, 1) := by decide +kernel
theorem dAr_wide_127 : decode cAr_wide 127 = .ok (.l2i, 1) := by decide +kernel
theorem dAr_wide_128 : decode cAr_wide 128 = .ok (.lushr, 1) := by decide +kernel
theorem dAr_wide_129 : decode cAr_wide 129 = .ok (.lreturn, 1) := by decide +kernel
theorem dAr_wide_130 : decode cAr_wide 130 = .ok (.lload_n 2, 1) := by decide +kernel
theorem dAr_wide_131 : decode cAr_wide 131 = .ok (.lneg, 1) := by decide +kernel
theorem dAr_wide_132 : decode cAr_wide 132 = .ok (.lreturn, 1) := by decide +kernel
theorem dAr_wide_133 : decode cAr_wide 133 = .ok (.iload_n 1, 1) := by decide +kernel
theorem dAr_wide_134 : decode cAr_wide 134 = .ok (.iconst 1, 1) := by decide +kernel
theorem dAr_wide_135 : decode cAr_wide 135 = .ok (.if_icmp .ne 7, 3) := by decide +kernel
theorem dAr_wide_138 : decode cAr_wide 138 = .ok (.iconst 1, 1) := by decide +kernel
theorem dAr_wide_139 : decode cAr_wide 139 = .ok (.goto 4, 3) := by decide +kernel
theorem dAr_wide_142 : decode cAr_wide 142 = .ok (.iconst 0, 1) := by decide +kernel
theorem dAr_wide_143 : decode cAr_wide 143 = .ok (.lload_n 2, 1) := by decide +kernel
theorem dAr_wide_144 : decode cAr_wide 144 = .ok (.lload 4, 2) := by decide +kernel
theorem dAr_wide_146 : decode cAr_wide 146 = .ok (.invokestatic 15, 3) := by decide +kernel
theorem dAr_wide_149 : decode cAr_wide 149 = .ok (.lreturn, 1) := by decide +kernel
theorem dAr_wide_150 : decode cAr_wide 150 = .ok (.lload_n 2, 1) := by decide +kernel
theorem dAr_wide_151 : decode cAr_wide 151 = .ok (.lload 4, 2) := by decide +kernel
theorem dAr_wide_153 : decode cAr_wide 153 = .ok (.lxor, 1) := by decide +kernel
theorem dAr_wide_154 : decode cAr_wide 154 = .ok (.lreturn, 1) := by decide +kernel
theorem dAr_wide_155 : decode cAr_wide 155 = .ok (.iload_n 1, 1) := by decide +kernel
theorem dAr_wide_156 : decode cAr_wide 156 = .ok (.ifCond .ne 8, 3) := by decide +kernel
theorem dAr_wide_159 : decode cAr_wide 159 = .ok (.lload 4, 2) := by decide +kernel
theorem dAr_wide_161 : decode cAr_wide 161 = .ok (.goto 9, 3) := by decide +kernel
theorem dAr_wide_164 : decode cAr_wide 164 = .ok (.lload 4, 2) := by decide +kernel
theorem dAr_wide_166 : decode cAr_wide 166 = .ok (.iload_n 1, 1) := by decide +kernel
theorem dAr_wide_167 : decode cAr_wide 167 = .ok (.invokestatic 18, 3) := by decide +kernel
theorem dAr_wide_170 : decode cAr_wide 170 = .ok (.lreturn, 1) := by decide +kernel
theorem dAr_wide_171 : decode cAr_wide 171 = .ok (.lload_n 2, 1) := by decide +kernel
theorem dAr_wide_172 : decode cAr_wide 172 = .ok (.lload 4, 2) := by decide +kernel
theorem dAr_wide_174 : decode cAr_wide 174 = .ok (.ldc2_w 13, 3) := by decide +kernel
theorem dAr_wide_177 : decode cAr_wide 177 = .ok (.land, 1) := by decide +kernel
theorem dAr_wide_178 : decode cAr_wide 178 = .ok (.l2i, 1) := by decide +kernel
theorem dAr_wide_179 : decode cAr_wide 179 = .ok (.lshr, 1) := by decide +kernel
theorem dAr_wide_180 : decode cAr_wide 180 = .ok (.lreturn, 1) := by decide +kernel
theorem dAr_wide_181 : decode cAr_wide 181 = .ok (.lload_n 2, 1) := by decide +kernel
theorem dAr_wide_182 : decode cAr_wide 182 = .ok (.lreturn, 1) := by decide +kernel
theorem dAr_narrow_0 : decode cAr_narrow 0 = .ok (.iload_n 0, 1) := by decide +kernel
theorem dAr_narrow_1 : decode cAr_narrow 1 = .ok (.tableswitch 174 3 12 #[55, 174, 174, 95, 108, 174, 121, 174, 174, 161], 55) := by decide +kernel
theorem dAr_narrow_56 : decode cAr_narrow 56 = .ok (.iload_n 1, 1) := by decide +kernel
theorem dAr_narrow_57 : decode cAr_narrow 57 = .ok (.iconst 1, 1) := by decide +kernel
theorem dAr_narrow_58 : decode cAr_narrow 58 = .ok (.if_icmp .ne 14, 3) := by decide +kernel
theorem dAr_narrow_61 : decode cAr_narrow 61 = .ok (.iconst 1, 1) := by decide +kernel
theorem dAr_narrow_62 : decode cAr_narrow 62 = .ok (.iload_n 2, 1) := by decide +kernel
theorem dAr_narrow_63 : decode cAr_narrow 63 = .ok (.i2l, 1) := by decide +kernel
theorem dAr_narrow_64 : decode cAr_narrow 64 = .ok (.iload_n 3, 1) := by decide +kernel
theorem dAr_narrow_65 : decode cAr_narrow 65 = .ok (.i2l, 1) := by decide +kernel
theorem dAr_narrow_66 : decode cAr_narrow 66 = .ok (.invokestatic 7, 3) := by decide +kernel
theorem dAr_narrow_69 : decode cAr_narrow 69 = .ok (.goto 21, 3) := by decide +kernel
theorem dAr_narrow_72 : decode cAr_narrow 72 = .ok (.iconst 0, 1) := by decide +kernel
theorem dAr_narrow_73 : decode cAr_narrow 73 = .ok (.iload_n 2, 1) := by decide +kernel
theorem dAr_narrow_74 : decode cAr_narrow 74 = .ok (.i2l, 1) := by decide +kernel
theorem dAr_narrow_75 : decode cAr_narrow 75 = .ok (.bipush 32, 2) := by decide +kernel
theorem dAr_narrow_77 : decode cAr_narrow 77 = .ok (.invokestatic 22, 3) := by decide +kernel
theorem dAr_narrow_80 : decode cAr_narrow 80 = .ok (.iload_n 3, 1) := by decide +kernel
theorem dAr_narrow_81 : decode cAr_narrow 81 = .ok (.i2l, 1) := by decide +kernel
theorem dAr_narrow_82 : decode cAr_narrow 82 = .ok (.bipush 32, 2) := by decide +kernel
theorem dAr_narrow_84 : decode cAr_narrow 84 = .ok (.invokestatic 22, 3) := by decide +kernel
theorem dAr_narrow_87 : decode cAr_narrow 87 = .ok (.invokestatic 7, 3) := by decide +kernel
theorem dAr_narrow_90 : decode cAr_narrow 90 = .ok (.bipush 32, 2) := by decide +kernel
theorem dAr_narrow_92 : decode cAr_narrow 92 = .ok (.invokestatic 22, 3) := by decide +kernel
theorem dAr_narrow_95 : decode cAr_narrow 95 = .ok (.lreturn, 1) := by decide +kernel
theorem dAr_narrow_96 : decode cAr_narrow 96 = .ok (.iload_n 2, 1) := by decide +kernel
theorem dAr_narrow_97 : decode cAr_narrow 97 = .ok (.iload_n 3, 1) := by decide +kernel
theorem dAr_narrow_98 : decode cAr_narrow 98 = .ok (.bipush 31, 2) := by decide +kernel
theorem dAr_narrow_100 : decode cAr_narrow 100 = .ok (.iand, 1) := by decide +kernel
theorem dAr_narrow_101 : decode cAr_narrow 101 = .ok (.ishl, 1) := by decide +kernel
theorem dAr_narrow_102 : decode cAr_narrow 102 = .ok (.i2l, 1) := by decide +kernel
theorem dAr_narrow_103 : decode cAr_narrow 103 = .ok (.bipush 32, 2) := by decide +kernel
theorem dAr_narrow_105 : decode cAr_narrow 105 = .ok (.invokestatic 22, 3) := by decide +kernel
theorem dAr_narrow_108 : decode cAr_narrow 108 = .ok (.lreturn, 1) := by decide +kernel
theorem dAr_narrow_109 : decode cAr_narrow 109 = .ok (.iload_n 2, 1) := by decide +kernel
theorem dAr_narrow_110 : decode cAr_narrow 110 = .ok (.iload_n 3, 1) := by decide +kernel
theorem dAr_narrow_111 : decode cAr_narrow 111 = .ok (.bipush 31, 2) := by decide +kernel
theorem dAr_narrow_113 : decode cAr_narrow 113 = .ok (.iand, 1) := by decide +kernel
theorem dAr_narrow_114 : decode cAr_narrow 114 = .ok (.iushr, 1) := by decide +kernel
theorem dAr_narrow_115 : decode cAr_narrow 115 = .ok (.i2l, 1) := by decide +kernel
theorem dAr_narrow_116 : decode cAr_narrow 116 = .ok (.bipush 32, 2) := by decide +kernel
theorem dAr_narrow_118 : decode cAr_narrow 118 = .ok (.invokestatic 22, 3) := by decide +kernel
theorem dAr_narrow_121 : decode cAr_narrow 121 = .ok (.lreturn, 1) := by decide +kernel
theorem dAr_narrow_122 : decode cAr_narrow 122 = .ok (.iload_n 1, 1) := by decide +kernel
theorem dAr_narrow_123 : decode cAr_narrow 123 = .ok (.iconst 1, 1) := by decide +kernel
theorem dAr_narrow_124 : decode cAr_narrow 124 = .ok (.if_icmp .ne 14, 3) := by decide +kernel
theorem dAr_narrow_127 : decode cAr_narrow 127 = .ok (.iconst 1, 1) := by decide +kernel
theorem dAr_narrow_128 : decode cAr_narrow 128 = .ok (.iload_n 2, 1) := by decide +kernel
theorem dAr_narrow_129 : decode cAr_narrow 129 = .ok (.i2l, 1) := by decide +kernel
theorem dAr_narrow_130 : decode cAr_narrow 130 = .ok (.iload_n 3, 1) := by decide +kernel
theorem dAr_narrow_131 : decode cAr_narrow 131 = .ok (.i2l, 1) := by decide +kernel
theorem dAr_narrow_132 : decode cAr_narrow 132 = .ok (.invokestatic 15, 3) := by decide +kernel
theorem dAr_narrow_135 : decode cAr_narrow 135 = .ok (.goto 21, 3) := by decide +kernel
theorem dAr_narrow_138 : decode cAr_narrow 138 = .ok (.iconst 0, 1) := by decide +kernel
theorem dAr_narrow_139 : decode cAr_narrow 139 = .ok (.iload_n 2, 1) := by decide +kernel
theorem dAr_narrow_140 : decode cAr_narrow 140 = .ok (.i2l, 1) := by decide +kernel
theorem dAr_narrow_141 : decode cAr_narrow 141 = .ok (.bipush 32, 2) := by decide +kernel
theorem dAr_narrow_143 : decode cAr_narrow 143 = .ok (.invokestatic 22, 3) := by decide +kernel
theorem dAr_narrow_146 : decode cAr_narrow 146 = .ok (.iload_n 3, 1) := by decide +kernel
theorem dAr_narrow_147 : decode cAr_narrow 147 = .ok (.i2l, 1) := by decide +kernel
theorem dAr_narrow_148 : decode cAr_narrow 148 = .ok (.bipush 32, 2) := by decide +kernel
theorem dAr_narrow_150 : decode cAr_narrow 150 = .ok (.invokestatic 22, 3) := by decide +kernel
theorem dAr_narrow_153 : decode cAr_narrow 153 = .ok (.invokestatic 15, 3) := by decide +kernel
theorem dAr_narrow_156 : decode cAr_narrow 156 = .ok (.bipush 32, 2) := by decide +kernel
theorem dAr_narrow_158 : decode cAr_narrow 158 = .ok (.invokestatic 22, 3) := by decide +kernel
theorem dAr_narrow_161 : decode cAr_narrow 161 = .ok (.lreturn, 1) := by decide +kernel
theorem dAr_narrow_162 : decode cAr_narrow 162 = .ok (.iload_n 2, 1) := by decide +kernel
theorem dAr_narrow_163 : decode cAr_narrow 163 = .ok (.iload_n 3, 1) := by decide +kernel
theorem dAr_narrow_164 : decode cAr_narrow 164 = .ok (.bipush 31, 2) := by decide +kernel
theorem dAr_narrow_166 : decode cAr_narrow 166 = .ok (.iand, 1) := by decide +kernel
theorem dAr_narrow_167 : decode cAr_narrow 167 = .ok (.ishr, 1) := by decide +kernel
theorem dAr_narrow_168 : decode cAr_narrow 168 = .ok (.i2l, 1) := by decide +kernel
theorem dAr_narrow_169 : decode cAr_narrow 169 = .ok (.bipush 32, 2) := by decide +kernel
theorem dAr_narrow_171 : decode cAr_narrow 171 = .ok (.invokestatic 22, 3) := by decide +kernel
theorem dAr_narrow_174 : decode cAr_narrow 174 = .ok (.lreturn, 1) := by decide +kernel
theorem dAr_narrow_175 : decode cAr_narrow 175 = .ok (.iload_n 0, 1) := by decide +kernel
theorem dAr_narrow_176 : decode cAr_narrow 176 = .ok (.iload_n 1, 1) := by decide +kernel
theorem dAr_narrow_177 : decode cAr_narrow 177 = .ok (.iload_n 2, 1) := by decide +kernel
theorem dAr_narrow_178 : decode cAr_narrow 178 = .ok (.i2l, 1) := by decide +kernel
theorem dAr_narrow_179 : decode cAr_narrow 179 = .ok (.iload_n 3, 1) := by decide +kernel
theorem dAr_narrow_180 : decode cAr_narrow 180 = .ok (.i2l, 1) := by decide +kernel
theorem dAr_narrow_181 : decode cAr_narrow 181 = .ok (.invokestatic 25, 3) := by decide +kernel
theorem dAr_narrow_184 : decode cAr_narrow 184 = .ok (.bipush 32, 2) := by decide +kernel
theorem dAr_narrow_186 : decode cAr_narrow 186 = .ok (.invokestatic 22, 3) := by decide +kernel
theorem dAr_narrow_189 : decode cAr_narrow 189 = .ok (.lreturn, 1) := by decide +kernel
theorem dAr_quotient_0 : decode cAr_quotient 0 = .ok (.lload_n 3, 1) := by decide +kernel
theorem dAr_quotient_1 : decode cAr_quotient 1 = .ok (.lconst 0, 1) := by decide +kernel
theorem dAr_quotient_2 : decode cAr_quotient 2 = .ok (.lcmp, 1) := by decide +kernel
theorem dAr_quotient_3 : decode cAr_quotient 3 = .ok (.ifCond .ne 5, 3) := by decide +kernel
theorem dAr_quotient_6 : decode cAr_quotient 6 = .ok (.lconst 0, 1) := by decide +kernel
theorem dAr_quotient_7 : decode cAr_quotient 7 = .ok (.lreturn, 1) := by decide +kernel
theorem dAr_quotient_8 : decode cAr_quotient 8 = .ok (.iload_n 0, 1) := by decide +kernel
theorem dAr_quotient_9 : decode cAr_quotient 9 = .ok (.ifCond .eq 9, 3) := by decide +kernel
theorem dAr_quotient_12 : decode cAr_quotient 12 = .ok (.lload_n 1, 1) := by decide +kernel
theorem dAr_quotient_13 : decode cAr_quotient 13 = .ok (.lload_n 3, 1) := by decide +kernel
theorem dAr_quotient_14 : decode cAr_quotient 14 = .ok (.ldiv, 1) := by decide +kernel
theorem dAr_quotient_15 : decode cAr_quotient 15 = .ok (.goto 8, 3) := by decide +kernel
theorem dAr_quotient_18 : decode cAr_quotient 18 = .ok (.lload_n 1, 1) := by decide +kernel
theorem dAr_quotient_19 : decode cAr_quotient 19 = .ok (.lload_n 3, 1) := by decide +kernel
theorem dAr_quotient_20 : decode cAr_quotient 20 = .ok (.invokestatic 29, 3) := by decide +kernel
theorem dAr_quotient_23 : decode cAr_quotient 23 = .ok (.lreturn, 1) := by decide +kernel
theorem dAr_unsignedQuotient_0 : decode cAr_unsignedQuotient 0 = .ok (.lload_n 2, 1) := by decide +kernel
theorem dAr_unsignedQuotient_1 : decode cAr_unsignedQuotient 1 = .ok (.lconst 0, 1) := by decide +kernel
theorem dAr_unsignedQuotient_2 : decode cAr_unsignedQuotient 2 = .ok (.lcmp, 1) := by decide +kernel
theorem dAr_unsignedQuotient_3 : decode cAr_unsignedQuotient 3 = .ok (.ifCond .gt 23, 3) := by decide +kernel
theorem dAr_unsignedQuotient_6 : decode cAr_unsignedQuotient 6 = .ok (.lload_n 0, 1) := by decide +kernel
theorem dAr_unsignedQuotient_7 : decode cAr_unsignedQuotient 7 = .ok (.ldc2_w 33, 3) := by decide +kernel
theorem dAr_unsignedQuotient_10 : decode cAr_unsignedQuotient 10 = .ok (.lxor, 1) := by decide +kernel
theorem dAr_unsignedQuotient_11 : decode cAr_unsignedQuotient 11 = .ok (.lload_n 2, 1) := by decide +kernel
theorem dAr_unsignedQuotient_12 : decode cAr_unsignedQuotient 12 = .ok (.ldc2_w 33, 3) := by decide +kernel
theorem dAr_unsignedQuotient_15 : decode cAr_unsignedQuotient 15 = .ok (.lxor, 1) := by decide +kernel
theorem dAr_unsignedQuotient_16 : decode cAr_unsignedQuotient 16 = .ok (.lcmp, 1) := by decide +kernel
theorem dAr_unsignedQuotient_17 : decode cAr_unsignedQuotient 17 = .ok (.ifCond .lt 7, 3) := by decide +kernel
theorem dAr_unsignedQuotient_20 : decode cAr_unsignedQuotient 20 = .ok (.lconst 1, 1) := by decide +kernel
theorem dAr_unsignedQuotient_21 : decode cAr_unsignedQuotient 21 = .ok (.goto 4, 3) := by decide +kernel
theorem dAr_unsignedQuotient_24 : decode cAr_unsignedQuotient 24 = .ok (.lconst 0, 1) := by decide +kernel
theorem dAr_unsignedQuotient_25 : decode cAr_unsignedQuotient 25 = .ok (.lreturn, 1) := by decide +kernel
theorem dAr_unsignedQuotient_26 : decode cAr_unsignedQuotient 26 = .ok (.lload_n 0, 1) := by decide +kernel
theorem dAr_unsignedQuotient_27 : decode cAr_unsignedQuotient 27 = .ok (.iconst 1, 1) := by decide +kernel
theorem dAr_unsignedQuotient_28 : decode cAr_unsignedQuotient 28 = .ok (.lushr, 1) := by decide +kernel
theorem dAr_unsignedQuotient_29 : decode cAr_unsignedQuotient 29 = .ok (.lload_n 2, 1) := by decide +kernel
theorem dAr_unsignedQuotient_30 : decode cAr_unsignedQuotient 30 = .ok (.ldiv, 1) := by decide +kernel
theorem dAr_unsignedQuotient_31 : decode cAr_unsignedQuotient 31 = .ok (.iconst 1, 1) := by decide +kernel
theorem dAr_unsignedQuotient_32 : decode cAr_unsignedQuotient 32 = .ok (.lshl, 1) := by decide +kernel
theorem dAr_unsignedQuotient_33 : decode cAr_unsignedQuotient 33 = .ok (.lstore 4, 2) := by decide +kernel
theorem dAr_unsignedQuotient_35 : decode cAr_unsignedQuotient 35 = .ok (.lload_n 0, 1) := by decide +kernel
theorem dAr_unsignedQuotient_36 : decode cAr_unsignedQuotient 36 = .ok (.lload 4, 2) := by decide +kernel
theorem dAr_unsignedQuotient_38 : decode cAr_unsignedQuotient 38 = .ok (.lload_n 2, 1) := by decide +kernel
theorem dAr_unsignedQuotient_39 : decode cAr_unsignedQuotient 39 = .ok (.lmul, 1) := by decide +kernel
theorem dAr_unsignedQuotient_40 : decode cAr_unsignedQuotient 40 = .ok (.lsub, 1) := by decide +kernel
theorem dAr_unsignedQuotient_41 : decode cAr_unsignedQuotient 41 = .ok (.lstore 6, 2) := by decide +kernel
theorem dAr_unsignedQuotient_43 : decode cAr_unsignedQuotient 43 = .ok (.lload 6, 2) := by decide +kernel
theorem dAr_unsignedQuotient_45 : decode cAr_unsignedQuotient 45 = .ok (.ldc2_w 33, 3) := by decide +kernel
theorem dAr_unsignedQuotient_48 : decode cAr_unsignedQuotient 48 = .ok (.lxor, 1) := by decide +kernel
theorem dAr_unsignedQuotient_49 : decode cAr_unsignedQuotient 49 = .ok (.lload_n 2, 1) := by decide +kernel
theorem dAr_unsignedQuotient_50 : decode cAr_unsignedQuotient 50 = .ok (.ldc2_w 33, 3) := by decide +kernel
theorem dAr_unsignedQuotient_53 : decode cAr_unsignedQuotient 53 = .ok (.lxor, 1) := by decide +kernel
theorem dAr_unsignedQuotient_54 : decode cAr_unsignedQuotient 54 = .ok (.lcmp, 1) := by decide +kernel
theorem dAr_unsignedQuotient_55 : decode cAr_unsignedQuotient 55 = .ok (.ifCond .lt 10, 3) := by decide +kernel
theorem dAr_unsignedQuotient_58 : decode cAr_unsignedQuotient 58 = .ok (.lload 4, 2) := by decide +kernel
theorem dAr_unsignedQuotient_60 : decode cAr_unsignedQuotient 60 = .ok (.lconst 1, 1) := by decide +kernel
theorem dAr_unsignedQuotient_61 : decode cAr_unsignedQuotient 61 = .ok (.ladd, 1) := by decide +kernel
theorem dAr_unsignedQuotient_62 : decode cAr_unsignedQuotient 62 = .ok (.goto 5, 3) := by decide +kernel
theorem dAr_unsignedQuotient_65 : decode cAr_unsignedQuotient 65 = .ok (.lload 4, 2) := by decide +kernel
theorem dAr_unsignedQuotient_67 : decode cAr_unsignedQuotient 67 = .ok (.lreturn, 1) := by decide +kernel
theorem dAr_rest_0 : decode cAr_rest 0 = .ok (.lload_n 1, 1) := by decide +kernel
theorem dAr_rest_1 : decode cAr_rest 1 = .ok (.lload_n 3, 1) := by decide +kernel
theorem dAr_rest_2 : decode cAr_rest 2 = .ok (.iload_n 0, 1) := by decide +kernel
theorem dAr_rest_3 : decode cAr_rest 3 = .ok (.lload_n 1, 1) := by decide +kernel
theorem dAr_rest_4 : decode cAr_rest 4 = .ok (.lload_n 3, 1) := by decide +kernel
theorem dAr_rest_5 : decode cAr_rest 5 = .ok (.invokestatic 7, 3) := by decide +kernel
theorem dAr_rest_8 : decode cAr_rest 8 = .ok (.lmul, 1) := by decide +kernel
theorem dAr_rest_9 : decode cAr_rest 9 = .ok (.lsub, 1) := by decide +kernel
theorem dAr_rest_10 : decode cAr_rest 10 = .ok (.lreturn, 1) := by decide +kernel
theorem dAr_lowest_0 : decode cAr_lowest 0 = .ok (.iload_n 2, 1) := by decide +kernel
theorem dAr_lowest_1 : decode cAr_lowest 1 = .ok (.bipush 64, 2) := by decide +kernel
theorem dAr_lowest_3 : decode cAr_lowest 3 = .ok (.if_icmp .lt 7, 3) := by decide +kernel
theorem dAr_lowest_6 : decode cAr_lowest 6 = .ok (.lload_n 0, 1) := by decide +kernel
theorem dAr_lowest_7 : decode cAr_lowest 7 = .ok (.goto 10, 3) := by decide +kernel
theorem dAr_lowest_10 : decode cAr_lowest 10 = .ok (.lload_n 0, 1) := by decide +kernel
theorem dAr_lowest_11 : decode cAr_lowest 11 = .ok (.lconst 1, 1) := by decide +kernel
theorem dAr_lowest_12 : decode cAr_lowest 12 = .ok (.iload_n 2, 1) := by decide +kernel
theorem dAr_lowest_13 : decode cAr_lowest 13 = .ok (.lshl, 1) := by decide +kernel
theorem dAr_lowest_14 : decode cAr_lowest 14 = .ok (.lconst 1, 1) := by decide +kernel
theorem dAr_lowest_15 : decode cAr_lowest 15 = .ok (.lsub, 1) := by decide +kernel
theorem dAr_lowest_16 : decode cAr_lowest 16 = .ok (.land, 1) := by decide +kernel
theorem dAr_lowest_17 : decode cAr_lowest 17 = .ok (.lreturn, 1) := by decide +kernel
theorem dAr_signed_0 : decode cAr_signed 0 = .ok (.iload_n 2, 1) := by decide +kernel
theorem dAr_signed_1 : decode cAr_signed 1 = .ok (.bipush 64, 2) := by decide +kernel
theorem dAr_signed_3 : decode cAr_signed 3 = .ok (.if_icmp .lt 7, 3) := by decide +kernel
theorem dAr_signed_6 : decode cAr_signed 6 = .ok (.lload_n 0, 1) := by decide +kernel
theorem dAr_signed_7 : decode cAr_signed 7 = .ok (.goto 14, 3) := by decide +kernel
theorem dAr_signed_10 : decode cAr_signed 10 = .ok (.lload_n 0, 1) := by decide +kernel
theorem dAr_signed_11 : decode cAr_signed 11 = .ok (.bipush 64, 2) := by decide +kernel
theorem dAr_signed_13 : decode cAr_signed 13 = .ok (.iload_n 2, 1) := by decide +kernel
theorem dAr_signed_14 : decode cAr_signed 14 = .ok (.isub, 1) := by decide +kernel
theorem dAr_signed_15 : decode cAr_signed 15 = .ok (.lshl, 1) := by decide +kernel
theorem dAr_signed_16 : decode cAr_signed 16 = .ok (.bipush 64, 2) := by decide +kernel
theorem dAr_signed_18 : decode cAr_signed 18 = .ok (.iload_n 2, 1) := by decide +kernel
theorem dAr_signed_19 : decode cAr_signed 19 = .ok (.isub, 1) := by decide +kernel
theorem dAr_signed_20 : decode cAr_signed 20 = .ok (.lshr, 1) := by decide +kernel
theorem dAr_signed_21 : decode cAr_signed 21 = .ok (.lreturn, 1) := by decide +kernel
theorem dAr_turned_0 : decode cAr_turned 0 = .ok (.lload_n 0, 1) := by decide +kernel
theorem dAr_turned_1 : decode cAr_turned 1 = .ok (.invokestatic 35, 3) := by decide +kernel
theorem dAr_turned_4 : decode cAr_turned 4 = .ok (.bipush 64, 2) := by decide +kernel
theorem dAr_turned_6 : decode cAr_turned 6 = .ok (.iload_n 2, 1) := by decide +kernel
theorem dAr_turned_7 : decode cAr_turned 7 = .ok (.isub, 1) := by decide +kernel
theorem dAr_turned_8 : decode cAr_turned 8 = .ok (.lushr, 1) := by decide +kernel
theorem dAr_turned_9 : decode cAr_turned 9 = .ok (.lreturn, 1) := by decide +kernel
theorem dAr_isTaken_0 : decode cAr_isTaken 0 = .ok (.lload_n 1, 1) := by decide +kernel
theorem dAr_isTaken_1 : decode cAr_isTaken 1 = .ok (.ldc2_w 33, 3) := by decide +kernel
theorem dAr_isTaken_4 : decode cAr_isTaken 4 = .ok (.lxor, 1) := by decide +kernel
theorem dAr_isTaken_5 : decode cAr_isTaken 5 = .ok (.lstore 5, 2) := by decide +kernel
theorem dAr_isTaken_7 : decode cAr_isTaken 7 = .ok (.lload_n 3, 1) := by decide +kernel
theorem dAr_isTaken_8 : decode cAr_isTaken 8 = .ok (.ldc2_w 33, 3) := by decide +kernel
theorem dAr_isTaken_11 : decode cAr_isTaken 11 = .ok (.lxor, 1) := by decide +kernel
theorem dAr_isTaken_12 : decode cAr_isTaken 12 = .ok (.lstore 7, 2) := by decide +kernel
theorem dAr_isTaken_14 : decode cAr_isTaken 14 = .ok (.iload_n 0, 1) := by decide +kernel
theorem dAr_isTaken_15 : decode cAr_isTaken 15 = .ok (.tableswitch 207 1 13 #[65, 77, 91, 105, 119, 131, 143, 207, 207, 155, 169, 183, 195], 65) := by decide +kernel
theorem dAr_isTaken_80 : decode cAr_isTaken 80 = .ok (.lload_n 1, 1) := by decide +kernel
theorem dAr_isTaken_81 : decode cAr_isTaken 81 = .ok (.lload_n 3, 1) := by decide +kernel
theorem dAr_isTaken_82 : decode cAr_isTaken 82 = .ok (.lcmp, 1) := by decide +kernel
theorem dAr_isTaken_83 : decode cAr_isTaken 83 = .ok (.ifCond .ne 7, 3) := by decide +kernel
theorem dAr_isTaken_86 : decode cAr_isTaken 86 = .ok (.iconst 1, 1) := by decide +kernel
theorem dAr_isTaken_87 : decode cAr_isTaken 87 = .ok (.goto 4, 3) := by decide +kernel
theorem dAr_isTaken_90 : decode cAr_isTaken 90 = .ok (.iconst 0, 1) := by decide +kernel
theorem dAr_isTaken_91 : decode cAr_isTaken 91 = .ok (.ireturn, 1) := by decide +kernel
theorem dAr_isTaken_92 : decode cAr_isTaken 92 = .ok (.lload 5, 2) := by decide +kernel
theorem dAr_isTaken_94 : decode cAr_isTaken 94 = .ok (.lload 7, 2) := by decide +kernel
theorem dAr_isTaken_96 : decode cAr_isTaken 96 = .ok (.lcmp, 1) := by decide +kernel
theorem dAr_isTaken_97 : decode cAr_isTaken 97 = .ok (.ifCond .le 7, 3) := by decide +kernel
theorem dAr_isTaken_100 : decode cAr_isTaken 100 = .ok (.iconst 1, 1) := by decide +kernel
theorem dAr_isTaken_101 : decode cAr_isTaken 101 = .ok (.goto 4, 3) := by decide +kernel
theorem dAr_isTaken_104 : decode cAr_isTaken 104 = .ok (.iconst 0, 1) := by decide +kernel
theorem dAr_isTaken_105 : decode cAr_isTaken 105 = .ok (.ireturn, 1) := by decide +kernel
theorem dAr_isTaken_106 : decode cAr_isTaken 106 = .ok (.lload 5, 2) := by decide +kernel
theorem dAr_isTaken_108 : decode cAr_isTaken 108 = .ok (.lload 7, 2) := by decide +kernel
theorem dAr_isTaken_110 : decode cAr_isTaken 110 = .ok (.lcmp, 1) := by decide +kernel
theorem dAr_isTaken_111 : decode cAr_isTaken 111 = .ok (.ifCond .lt 7, 3) := by decide +kernel
theorem dAr_isTaken_114 : decode cAr_isTaken 114 = .ok (.iconst 1, 1) := by decide +kernel
theorem dAr_isTaken_115 : decode cAr_isTaken 115 = .ok (.goto 4, 3) := by decide +kernel
theorem dAr_isTaken_118 : decode cAr_isTaken 118 = .ok (.iconst 0, 1) := by decide +kernel
theorem dAr_isTaken_119 : decode cAr_isTaken 119 = .ok (.ireturn, 1) := by decide +kernel
theorem dAr_isTaken_120 : decode cAr_isTaken 120 = .ok (.lload_n 1, 1) := by decide +kernel
theorem dAr_isTaken_121 : decode cAr_isTaken 121 = .ok (.lload_n 3, 1) := by decide +kernel
theorem dAr_isTaken_122 : decode cAr_isTaken 122 = .ok (.land, 1) := by decide +kernel
theorem dAr_isTaken_123 : decode cAr_isTaken 123 = .ok (.lconst 0, 1) := by decide +kernel
theorem dAr_isTaken_124 : decode cAr_isTaken 124 = .ok (.lcmp, 1) := by decide +kernel
theorem dAr_isTaken_125 : decode cAr_isTaken 125 = .ok (.ifCond .eq 7, 3) := by decide +kernel
theorem dAr_isTaken_128 : decode cAr_isTaken 128 = .ok (.iconst 1, 1) := by decide +kernel
theorem dAr_isTaken_129 : decode cAr_isTaken 129 = .ok (.goto 4, 3) := by decide +kernel
theorem dAr_isTaken_132 : decode cAr_isTaken 132 = .ok (.iconst 0, 1) := by decide +kernel
theorem dAr_isTaken_133 : decode cAr_isTaken 133 = .ok (.ireturn, 1) := by decide +kernel
theorem dAr_isTaken_134 : decode cAr_isTaken 134 = .ok (.lload_n 1, 1) := by decide +kernel
theorem dAr_isTaken_135 : decode cAr_isTaken 135 = .ok (.lload_n 3, 1) := by decide +kernel
theorem dAr_isTaken_136 : decode cAr_isTaken 136 = .ok (.lcmp, 1) := by decide +kernel
theorem dAr_isTaken_137 : decode cAr_isTaken 137 = .ok (.ifCond .eq 7, 3) := by decide +kernel
theorem dAr_isTaken_140 : decode cAr_isTaken 140 = .ok (.iconst 1, 1) := by decide +kernel
theorem dAr_isTaken_141 : decode cAr_isTaken 141 = .ok (.goto 4, 3) := by decide +kernel
theorem dAr_isTaken_144 : decode cAr_isTaken 144 = .ok (.iconst 0, 1) := by decide +kernel
theorem dAr_isTaken_145 : decode cAr_isTaken 145 = .ok (.ireturn, 1) := by decide +kernel
theorem dAr_isTaken_146 : decode cAr_isTaken 146 = .ok (.lload_n 1, 1) := by decide +kernel
theorem dAr_isTaken_147 : decode cAr_isTaken 147 = .ok (.lload_n 3, 1) := by decide +kernel
theorem dAr_isTaken_148 : decode cAr_isTaken 148 = .ok (.lcmp, 1) := by decide +kernel
theorem dAr_isTaken_149 : decode cAr_isTaken 149 = .ok (.ifCond .le 7, 3) := by decide +kernel
theorem dAr_isTaken_152 : decode cAr_isTaken 152 = .ok (.iconst 1, 1) := by decide +kernel
theorem dAr_isTaken_153 : decode cAr_isTaken 153 = .ok (.goto 4, 3) := by decide +kernel
theorem dAr_isTaken_156 : decode cAr_isTaken 156 = .ok (.iconst 0, 1) := by decide +kernel
theorem dAr_isTaken_157 : decode cAr_isTaken 157 = .ok (.ireturn, 1) := by decide +kernel
theorem dAr_isTaken_158 : decode cAr_isTaken 158 = .ok (.lload_n 1, 1) := by decide +kernel
theorem dAr_isTaken_159 : decode cAr_isTaken 159 = .ok (.lload_n 3, 1) := by decide +kernel
theorem dAr_isTaken_160 : decode cAr_isTaken 160 = .ok (.lcmp, 1) := by decide +kernel
theorem dAr_isTaken_161 : decode cAr_isTaken 161 = .ok (.ifCond .lt 7, 3) := by decide +kernel
theorem dAr_isTaken_164 : decode cAr_isTaken 164 = .ok (.iconst 1, 1) := by decide +kernel
theorem dAr_isTaken_165 : decode cAr_isTaken 165 = .ok (.goto 4, 3) := by decide +kernel
theorem dAr_isTaken_168 : decode cAr_isTaken 168 = .ok (.iconst 0, 1) := by decide +kernel
theorem dAr_isTaken_169 : decode cAr_isTaken 169 = .ok (.ireturn, 1) := by decide +kernel
theorem dAr_isTaken_170 : decode cAr_isTaken 170 = .ok (.lload 5, 2) := by decide +kernel
theorem dAr_isTaken_172 : decode cAr_isTaken 172 = .ok (.lload 7, 2) := by decide +kernel
theorem dAr_isTaken_174 : decode cAr_isTaken 174 = .ok (.lcmp, 1) := by decide +kernel
theorem dAr_isTaken_175 : decode cAr_isTaken 175 = .ok (.ifCond .ge 7, 3) := by decide +kernel
theorem dAr_isTaken_178 : decode cAr_isTaken 178 = .ok (.iconst 1, 1) := by decide +kernel
theorem dAr_isTaken_179 : decode cAr_isTaken 179 = .ok (.goto 4, 3) := by decide +kernel
theorem dAr_isTaken_182 : decode cAr_isTaken 182 = .ok (.iconst 0, 1) := by decide +kernel
theorem dAr_isTaken_183 : decode cAr_isTaken 183 = .ok (.ireturn, 1) := by decide +kernel
theorem dAr_isTaken_184 : decode cAr_isTaken 184 = .ok (.lload 5, 2) := by decide +kernel
theorem dAr_isTaken_186 : decode cAr_isTaken 186 = .ok (.lload 7, 2) := by decide +kernel
theorem dAr_isTaken_188 : decode cAr_isTaken 188 = .ok (.lcmp, 1) := by decide +kernel
theorem dAr_isTaken_189 : decode cAr_isTaken 189 = .ok (.ifCond .gt 7, 3) := by decide +kernel
theorem dAr_isTaken_192 : decode cAr_isTaken 192 = .ok (.iconst 1, 1) := by decide +kernel
theorem dAr_isTaken_193 : decode cAr_isTaken 193 = .ok (.goto 4, 3) := by decide +kernel
theorem dAr_isTaken_196 : decode cAr_isTaken 196 = .ok (.iconst 0, 1) := by decide +kernel
theorem dAr_isTaken_197 : decode cAr_isTaken 197 = .ok (.ireturn, 1) := by decide +kernel
theorem dAr_isTaken_198 : decode cAr_isTaken 198 = .ok (.lload_n 1, 1) := by decide +kernel
theorem dAr_isTaken_199 : decode cAr_isTaken 199 = .ok (.lload_n 3, 1) := by decide +kernel
theorem dAr_isTaken_200 : decode cAr_isTaken 200 = .ok (.lcmp, 1) := by decide +kernel
theorem dAr_isTaken_201 : decode cAr_isTaken 201 = .ok (.ifCond .ge 7, 3) := by decide +kernel
theorem dAr_isTaken_204 : decode cAr_isTaken 204 = .ok (.iconst 1, 1) := by decide +kernel
theorem dAr_isTaken_205 : decode cAr_isTaken 205 = .ok (.goto 4, 3) := by decide +kernel
theorem dAr_isTaken_208 : decode cAr_isTaken 208 = .ok (.iconst 0, 1) := by decide +kernel
theorem dAr_isTaken_209 : decode cAr_isTaken 209 = .ok (.ireturn, 1) := by decide +kernel
theorem dAr_isTaken_210 : decode cAr_isTaken 210 = .ok (.lload_n 1, 1) := by decide +kernel
theorem dAr_isTaken_211 : decode cAr_isTaken 211 = .ok (.lload_n 3, 1) := by decide +kernel
theorem dAr_isTaken_212 : decode cAr_isTaken 212 = .ok (.lcmp, 1) := by decide +kernel
theorem dAr_isTaken_213 : decode cAr_isTaken 213 = .ok (.ifCond .gt 7, 3) := by decide +kernel
theorem dAr_isTaken_216 : decode cAr_isTaken 216 = .ok (.iconst 1, 1) := by decide +kernel
theorem dAr_isTaken_217 : decode cAr_isTaken 217 = .ok (.goto 4, 3) := by decide +kernel
theorem dAr_isTaken_220 : decode cAr_isTaken 220 = .ok (.iconst 0, 1) := by decide +kernel
theorem dAr_isTaken_221 : decode cAr_isTaken 221 = .ok (.ireturn, 1) := by decide +kernel
theorem dAr_isTaken_222 : decode cAr_isTaken 222 = .ok (.iconst 0, 1) := by decide +kernel
theorem dAr_isTaken_223 : decode cAr_isTaken 223 = .ok (.ireturn, 1) := by decide +kernel
end
section
theorem dEx_isKnown_0 : decode cEx_isKnown 0 = .ok (.iload_n 0, 1) := by decide +kernel
theorem dEx_isKnown_1 : decode cEx_isKnown 1 = .ok (.lookupswitch 77 #[(0, 75), (1, 75), (64, 75), (65, 75), (80, 75), (81, 75), (160, 75), (161, 75)], 75) := by decide +kernel
theorem dEx_isKnown_76 : decode cEx_isKnown 76 = .ok (.iconst 1, 1) := by decide +kernel
theorem dEx_isKnown_77 : decode cEx_isKnown 77 = .ok (.ireturn, 1) := by decide +kernel
theorem dEx_isKnown_78 : decode cEx_isKnown 78 = .ok (.iload_n 0, 1) := by decide +kernel
theorem dEx_isKnown_79 : decode cEx_isKnown 79 = .ok (.sipush 225, 3) := by decide +kernel
theorem dEx_isKnown_82 : decode cEx_isKnown 82 = .ok (.if_icmp .eq 10, 3) := by decide +kernel
theorem dEx_isKnown_85 : decode cEx_isKnown 85 = .ok (.iload_n 0, 1) := by decide +kernel
theorem dEx_isKnown_86 : decode cEx_isKnown 86 = .ok (.sipush 241, 3) := by decide +kernel
theorem dEx_isKnown_89 : decode cEx_isKnown 89 = .ok (.if_icmp .ne 7, 3) := by decide +kernel
theorem dEx_isKnown_92 : decode cEx_isKnown 92 = .ok (.iconst 1, 1) := by decide +kernel
theorem dEx_isKnown_93 : decode cEx_isKnown 93 = .ok (.goto 4, 3) := by decide +kernel
theorem dEx_isKnown_96 : decode cEx_isKnown 96 = .ok (.iconst 0, 1) := by decide +kernel
theorem dEx_isKnown_97 : decode cEx_isKnown 97 = .ok (.ireturn, 1) := by decide +kernel
theorem dEx_changesSource_0 : decode cEx_changesSource 0 = .ok (.iload_n 0, 1) := by decide +kernel
theorem dEx_changesSource_1 : decode cEx_changesSource 1 = .ok (.iconst 1, 1) := by decide +kernel
theorem dEx_changesSource_2 : decode cEx_changesSource 2 = .ok (.iand, 1) := by decide +kernel
theorem dEx_changesSource_3 : decode cEx_changesSource 3 = .ok (.iconst 1, 1) := by decide +kernel
theorem dEx_changesSource_4 : decode cEx_changesSource 4 = .ok (.if_icmp .ne 14, 3) := by decide +kernel
theorem dEx_changesSource_7 : decode cEx_changesSource 7 = .ok (.iload_n 0, 1) := by decide +kernel
theorem dEx_changesSource_8 : decode cEx_changesSource 8 = .ok (.sipush 241, 3) := by decide +kernel
theorem dEx_changesSource_11 : decode cEx_changesSource 11 = .ok (.if_icmp .eq 7, 3) := by decide +kernel
theorem dEx_changesSource_14 : decode cEx_changesSource 14 = .ok (.iconst 1, 1) := by decide +kernel
theorem dEx_changesSource_15 : decode cEx_changesSource 15 = .ok (.goto 4, 3) := by decide +kernel
theorem dEx_changesSource_18 : decode cEx_changesSource 18 = .ok (.iconst 0, 1) := by decide +kernel
theorem dEx_changesSource_19 : decode cEx_changesSource 19 = .ok (.ireturn, 1) := by decide +kernel
theorem dEx_become_0 : decode cEx_become 0 = .ok (.iload_n 0, 1) := by decide +kernel
theorem dEx_become_1 : decode cEx_become 1 = .ok (.lookupswitch 101 #[(0, 83), (1, 83), (64, 87), (65, 87), (80, 91), (81, 91), (160, 95), (161, 95), (225, 99)], 83) := by decide +kernel
theorem dEx_become_84 : decode cEx_become 84 = .ok (.lload_n 1, 1) := by decide +kernel
theorem dEx_become_85 : decode cEx_become 85 = .ok (.lload_n 3, 1) := by decide +kernel
theorem dEx_become_86 : decode cEx_become 86 = .ok (.ladd, 1) := by decide +kernel
theorem dEx_become_87 : decode cEx_become 87 = .ok (.lreturn, 1) := by decide +kernel
theorem dEx_become_88 : decode cEx_become 88 = .ok (.lload_n 1, 1) := by decide +kernel
theorem dEx_become_89 : decode cEx_become 89 = .ok (.lload_n 3, 1) := by decide +kernel
theorem dEx_become_90 : decode cEx_become 90 = .ok (.lor, 1) := by decide +kernel
theorem dEx_become_91 : decode cEx_become 91 = .ok (.lreturn, 1) := by decide +kernel
theorem dEx_become_92 : decode cEx_become 92 = .ok (.lload_n 1, 1) := by decide +kernel
theorem dEx_become_93 : decode cEx_become 93 = .ok (.lload_n 3, 1) := by decide +kernel
theorem dEx_become_94 : decode cEx_become 94 = .ok (.land, 1) := by decide +kernel
theorem dEx_become_95 : decode cEx_become 95 = .ok (.lreturn, 1) := by decide +kernel
theorem dEx_become_96 : decode cEx_become 96 = .ok (.lload_n 1, 1) := by decide +kernel
theorem dEx_become_97 : decode cEx_become 97 = .ok (.lload_n 3, 1) := by decide +kernel
theorem dEx_become_98 : decode cEx_become 98 = .ok (.lxor, 1) := by decide +kernel
theorem dEx_become_99 : decode cEx_become 99 = .ok (.lreturn, 1) := by decide +kernel
theorem dEx_become_100 : decode cEx_become 100 = .ok (.lload_n 3, 1) := by decide +kernel
theorem dEx_become_101 : decode cEx_become 101 = .ok (.lreturn, 1) := by decide +kernel
theorem dEx_become_102 : decode cEx_become 102 = .ok (.iload 5, 2) := by decide +kernel
theorem dEx_become_104 : decode cEx_become 104 = .ok (.ifCond .eq 7, 3) := by decide +kernel
theorem dEx_become_107 : decode cEx_become 107 = .ok (.lload_n 3, 1) := by decide +kernel
theorem dEx_become_108 : decode cEx_become 108 = .ok (.goto 4, 3) := by decide +kernel
theorem dEx_become_111 : decode cEx_become 111 = .ok (.lload_n 1, 1) := by decide +kernel
theorem dEx_become_112 : decode cEx_become 112 = .ok (.lreturn, 1) := by decide +kernel
end
section
theorem dFi_code_0 : decode cFi_code 0 = .ok (.lload_n 0, 1) := by decide +kernel
theorem dFi_code_1 : decode cFi_code 1 = .ok (.l2i, 1) := by decide +kernel
theorem dFi_code_2 : decode cFi_code 2 = .ok (.sipush 255, 3) := by decide +kernel
theorem dFi_code_5 : decode cFi_code 5 = .ok (.iand, 1) := by decide +kernel
theorem dFi_code_6 : decode cFi_code 6 = .ok (.ireturn, 1) := by decide +kernel
theorem dFi_kind_0 : decode cFi_kind 0 = .ok (.lload_n 0, 1) := by decide +kernel
theorem dFi_kind_1 : decode cFi_kind 1 = .ok (.l2i, 1) := by decide +kernel
theorem dFi_kind_2 : decode cFi_kind 2 = .ok (.bipush 7, 2) := by decide +kernel
theorem dFi_kind_4 : decode cFi_kind 4 = .ok (.iand, 1) := by decide +kernel
theorem dFi_kind_5 : decode cFi_kind 5 = .ok (.ireturn, 1) := by decide +kernel
theorem dFi_operation_0 : decode cFi_operation 0 = .ok (.lload_n 0, 1) := by decide +kernel
theorem dFi_operation_1 : decode cFi_operation 1 = .ok (.iconst 4, 1) := by decide +kernel
theorem dFi_operation_2 : decode cFi_operation 2 = .ok (.lushr, 1) := by decide +kernel
theorem dFi_operation_3 : decode cFi_operation 3 = .ok (.l2i, 1) := by decide +kernel
theorem dFi_operation_4 : decode cFi_operation 4 = .ok (.bipush 15, 2) := by decide +kernel
theorem dFi_operation_6 : decode cFi_operation 6 = .ok (.iand, 1) := by decide +kernel
theorem dFi_operation_7 : decode cFi_operation 7 = .ok (.ireturn, 1) := by decide +kernel
theorem dFi_usesSource_0 : decode cFi_usesSource 0 = .ok (.lload_n 0, 1) := by decide +kernel
theorem dFi_usesSource_1 : decode cFi_usesSource 1 = .ok (.ldc2_w 7, 3) := by decide +kernel
theorem dFi_usesSource_4 : decode cFi_usesSource 4 = .ok (.land, 1) := by decide +kernel
theorem dFi_usesSource_5 : decode cFi_usesSource 5 = .ok (.lconst 0, 1) := by decide +kernel
theorem dFi_usesSource_6 : decode cFi_usesSource 6 = .ok (.lcmp, 1) := by decide +kernel
theorem dFi_usesSource_7 : decode cFi_usesSource 7 = .ok (.ifCond .eq 7, 3) := by decide +kernel
theorem dFi_usesSource_10 : decode cFi_usesSource 10 = .ok (.iconst 1, 1) := by decide +kernel
theorem dFi_usesSource_11 : decode cFi_usesSource 11 = .ok (.goto 4, 3) := by decide +kernel
theorem dFi_usesSource_14 : decode cFi_usesSource 14 = .ok (.iconst 0, 1) := by decide +kernel
theorem dFi_usesSource_15 : decode cFi_usesSource 15 = .ok (.ireturn, 1) := by decide +kernel
theorem dFi_mode_0 : decode cFi_mode 0 = .ok (.lload_n 0, 1) := by decide +kernel
theorem dFi_mode_1 : decode cFi_mode 1 = .ok (.iconst 5, 1) := by decide +kernel
theorem dFi_mode_2 : decode cFi_mode 2 = .ok (.lushr, 1) := by decide +kernel
theorem dFi_mode_3 : decode cFi_mode 3 = .ok (.l2i, 1) := by decide +kernel
theorem dFi_mode_4 : decode cFi_mode 4 = .ok (.bipush 7, 2) := by decide +kernel
theorem dFi_mode_6 : decode cFi_mode 6 = .ok (.iand, 1) := by decide +kernel
theorem dFi_mode_7 : decode cFi_mode 7 = .ok (.ireturn, 1) := by decide +kernel
theorem dFi_size_0 : decode cFi_size 0 = .ok (.lload_n 0, 1) := by decide +kernel
theorem dFi_size_1 : decode cFi_size 1 = .ok (.iconst 3, 1) := by decide +kernel
theorem dFi_size_2 : decode cFi_size 2 = .ok (.lushr, 1) := by decide +kernel
theorem dFi_size_3 : decode cFi_size 3 = .ok (.l2i, 1) := by decide +kernel
theorem dFi_size_4 : decode cFi_size 4 = .ok (.iconst 3, 1) := by decide +kernel
theorem dFi_size_5 : decode cFi_size 5 = .ok (.iand, 1) := by decide +kernel
theorem dFi_size_6 : decode cFi_size 6 = .ok (.tableswitch 32 0 2 #[26, 28, 30], 26) := by decide +kernel
theorem dFi_size_32 : decode cFi_size 32 = .ok (.iconst 4, 1) := by decide +kernel
theorem dFi_size_33 : decode cFi_size 33 = .ok (.ireturn, 1) := by decide +kernel
theorem dFi_size_34 : decode cFi_size 34 = .ok (.iconst 2, 1) := by decide +kernel
theorem dFi_size_35 : decode cFi_size 35 = .ok (.ireturn, 1) := by decide +kernel
theorem dFi_size_36 : decode cFi_size 36 = .ok (.iconst 1, 1) := by decide +kernel
theorem dFi_size_37 : decode cFi_size 37 = .ok (.ireturn, 1) := by decide +kernel
theorem dFi_size_38 : decode cFi_size 38 = .ok (.bipush 8, 2) := by decide +kernel
theorem dFi_size_40 : decode cFi_size 40 = .ok (.ireturn, 1) := by decide +kernel
theorem dFi_target_0 : decode cFi_target 0 = .ok (.lload_n 0, 1) := by decide +kernel
theorem dFi_target_1 : decode cFi_target 1 = .ok (.bipush 8, 2) := by decide +kernel
theorem dFi_target_3 : decode cFi_target 3 = .ok (.lushr, 1) := by decide +kernel
theorem dFi_target_4 : decode cFi_target 4 = .ok (.l2i, 1) := by decide +kernel
theorem dFi_target_5 : decode cFi_target 5 = .ok (.bipush 15, 2) := by decide +kernel
theorem dFi_target_7 : decode cFi_target 7 = .ok (.iand, 1) := by decide +kernel
theorem dFi_target_8 : decode cFi_target 8 = .ok (.ireturn, 1) := by decide +kernel
theorem dFi_source_0 : decode cFi_source 0 = .ok (.lload_n 0, 1) := by decide +kernel
theorem dFi_source_1 : decode cFi_source 1 = .ok (.bipush 12, 2) := by decide +kernel
theorem dFi_source_3 : decode cFi_source 3 = .ok (.lushr, 1) := by decide +kernel
theorem dFi_source_4 : decode cFi_source 4 = .ok (.l2i, 1) := by decide +kernel
theorem dFi_source_5 : decode cFi_source 5 = .ok (.bipush 15, 2) := by decide +kernel
theorem dFi_source_7 : decode cFi_source 7 = .ok (.iand, 1) := by decide +kernel
theorem dFi_source_8 : decode cFi_source 8 = .ok (.ireturn, 1) := by decide +kernel
theorem dFi_offset_0 : decode cFi_offset 0 = .ok (.lload_n 0, 1) := by decide +kernel
theorem dFi_offset_1 : decode cFi_offset 1 = .ok (.bipush 16, 2) := by decide +kernel
theorem dFi_offset_3 : decode cFi_offset 3 = .ok (.lushr, 1) := by decide +kernel
theorem dFi_offset_4 : decode cFi_offset 4 = .ok (.l2i, 1) := by decide +kernel
theorem dFi_offset_5 : decode cFi_offset 5 = .ok (.i2s, 1) := by decide +kernel
theorem dFi_offset_6 : decode cFi_offset 6 = .ok (.ireturn, 1) := by decide +kernel
theorem dFi_immediate_0 : decode cFi_immediate 0 = .ok (.lload_n 0, 1) := by decide +kernel
theorem dFi_immediate_1 : decode cFi_immediate 1 = .ok (.bipush 32, 2) := by decide +kernel
theorem dFi_immediate_3 : decode cFi_immediate 3 = .ok (.lushr, 1) := by decide +kernel
theorem dFi_immediate_4 : decode cFi_immediate 4 = .ok (.l2i, 1) := by decide +kernel
theorem dFi_immediate_5 : decode cFi_immediate 5 = .ok (.ireturn, 1) := by decide +kernel
theorem dFi_isTwoPlaces_0 : decode cFi_isTwoPlaces 0 = .ok (.lload_n 0, 1) := by decide +kernel
theorem dFi_isTwoPlaces_1 : decode cFi_isTwoPlaces 1 = .ok (.invokestatic 9, 3) := by decide +kernel
theorem dFi_isTwoPlaces_4 : decode cFi_isTwoPlaces 4 = .ok (.bipush 24, 2) := by decide +kernel
theorem dFi_isTwoPlaces_6 : decode cFi_isTwoPlaces 6 = .ok (.if_icmp .ne 7, 3) := by decide +kernel
theorem dFi_isTwoPlaces_9 : decode cFi_isTwoPlaces 9 = .ok (.iconst 1, 1) := by decide +kernel
theorem dFi_isTwoPlaces_10 : decode cFi_isTwoPlaces 10 = .ok (.goto 4, 3) := by decide +kernel
theorem dFi_isTwoPlaces_13 : decode cFi_isTwoPlaces 13 = .ok (.iconst 0, 1) := by decide +kernel
theorem dFi_isTwoPlaces_14 : decode cFi_isTwoPlaces 14 = .ok (.ireturn, 1) := by decide +kernel
theorem dFi_isExit_0 : decode cFi_isExit 0 = .ok (.lload_n 0, 1) := by decide +kernel
theorem dFi_isExit_1 : decode cFi_isExit 1 = .ok (.invokestatic 9, 3) := by decide +kernel
theorem dFi_isExit_4 : decode cFi_isExit 4 = .ok (.sipush 149, 3) := by decide +kernel
theorem dFi_isExit_7 : decode cFi_isExit 7 = .ok (.if_icmp .ne 7, 3) := by decide +kernel
theorem dFi_isExit_10 : decode cFi_isExit 10 = .ok (.iconst 1, 1) := by decide +kernel
theorem dFi_isExit_11 : decode cFi_isExit 11 = .ok (.goto 4, 3) := by decide +kernel
theorem dFi_isExit_14 : decode cFi_isExit 14 = .ok (.iconst 0, 1) := by decide +kernel
theorem dFi_isExit_15 : decode cFi_isExit 15 = .ok (.ireturn, 1) := by decide +kernel
theorem dFi_isCall_0 : decode cFi_isCall 0 = .ok (.lload_n 0, 1) := by decide +kernel
theorem dFi_isCall_1 : decode cFi_isCall 1 = .ok (.invokestatic 9, 3) := by decide +kernel
theorem dFi_isCall_4 : decode cFi_isCall 4 = .ok (.sipush 133, 3) := by decide +kernel
theorem dFi_isCall_7 : decode cFi_isCall 7 = .ok (.if_icmp .ne 7, 3) := by decide +kernel
theorem dFi_isCall_10 : decode cFi_isCall 10 = .ok (.iconst 1, 1) := by decide +kernel
theorem dFi_isCall_11 : decode cFi_isCall 11 = .ok (.goto 4, 3) := by decide +kernel
theorem dFi_isCall_14 : decode cFi_isCall 14 = .ok (.iconst 0, 1) := by decide +kernel
theorem dFi_isCall_15 : decode cFi_isCall 15 = .ok (.ireturn, 1) := by decide +kernel
theorem dFi_jumpsAlways_0 : decode cFi_jumpsAlways 0 = .ok (.lload_n 0, 1) := by decide +kernel
theorem dFi_jumpsAlways_1 : decode cFi_jumpsAlways 1 = .ok (.invokestatic 9, 3) := by decide +kernel
theorem dFi_jumpsAlways_4 : decode cFi_jumpsAlways 4 = .ok (.iconst 5, 1) := by decide +kernel
theorem dFi_jumpsAlways_5 : decode cFi_jumpsAlways 5 = .ok (.if_icmp .eq 12, 3) := by decide +kernel
theorem dFi_jumpsAlways_8 : decode cFi_jumpsAlways 8 = .ok (.lload_n 0, 1) := by decide +kernel
theorem dFi_jumpsAlways_9 : decode cFi_jumpsAlways 9 = .ok (.invokestatic 9, 3) := by decide +kernel
theorem dFi_jumpsAlways_12 : decode cFi_jumpsAlways 12 = .ok (.bipush 6, 2) := by decide +kernel
theorem dFi_jumpsAlways_14 : decode cFi_jumpsAlways 14 = .ok (.if_icmp .ne 7, 3) := by decide +kernel
theorem dFi_jumpsAlways_17 : decode cFi_jumpsAlways 17 = .ok (.iconst 1, 1) := by decide +kernel
theorem dFi_jumpsAlways_18 : decode cFi_jumpsAlways 18 = .ok (.goto 4, 3) := by decide +kernel
theorem dFi_jumpsAlways_21 : decode cFi_jumpsAlways 21 = .ok (.iconst 0, 1) := by decide +kernel
theorem dFi_jumpsAlways_22 : decode cFi_jumpsAlways 22 = .ok (.ireturn, 1) := by decide +kernel
theorem dFi_jumpsPerhaps_0 : decode cFi_jumpsPerhaps 0 = .ok (.lload_n 0, 1) := by decide +kernel
theorem dFi_jumpsPerhaps_1 : decode cFi_jumpsPerhaps 1 = .ok (.invokestatic 15, 3) := by decide +kernel
theorem dFi_jumpsPerhaps_4 : decode cFi_jumpsPerhaps 4 = .ok (.istore_n 2, 1) := by decide +kernel
theorem dFi_jumpsPerhaps_5 : decode cFi_jumpsPerhaps 5 = .ok (.lload_n 0, 1) := by decide +kernel
theorem dFi_jumpsPerhaps_6 : decode cFi_jumpsPerhaps 6 = .ok (.invokestatic 18, 3) := by decide +kernel
theorem dFi_jumpsPerhaps_9 : decode cFi_jumpsPerhaps 9 = .ok (.iconst 5, 1) := by decide +kernel
theorem dFi_jumpsPerhaps_10 : decode cFi_jumpsPerhaps 10 = .ok (.if_icmp .eq 12, 3) := by decide +kernel
theorem dFi_jumpsPerhaps_13 : decode cFi_jumpsPerhaps 13 = .ok (.lload_n 0, 1) := by decide +kernel
theorem dFi_jumpsPerhaps_14 : decode cFi_jumpsPerhaps 14 = .ok (.invokestatic 18, 3) := by decide +kernel
theorem dFi_jumpsPerhaps_17 : decode cFi_jumpsPerhaps 17 = .ok (.bipush 6, 2) := by decide +kernel
theorem dFi_jumpsPerhaps_19 : decode cFi_jumpsPerhaps 19 = .ok (.if_icmp .ne 7, 3) := by decide +kernel
theorem dFi_jumpsPerhaps_22 : decode cFi_jumpsPerhaps 22 = .ok (.iconst 1, 1) := by decide +kernel
theorem dFi_jumpsPerhaps_23 : decode cFi_jumpsPerhaps 23 = .ok (.goto 4, 3) := by decide +kernel
theorem dFi_jumpsPerhaps_26 : decode cFi_jumpsPerhaps 26 = .ok (.iconst 0, 1) := by decide +kernel
theorem dFi_jumpsPerhaps_27 : decode cFi_jumpsPerhaps 27 = .ok (.istore_n 3, 1) := by decide +kernel
theorem dFi_jumpsPerhaps_28 : decode cFi_jumpsPerhaps 28 = .ok (.iload_n 3, 1) := by decide +kernel
theorem dFi_jumpsPerhaps_29 : decode cFi_jumpsPerhaps 29 = .ok (.ifCond .eq 30, 3) := by decide +kernel
theorem dFi_jumpsPerhaps_32 : decode cFi_jumpsPerhaps 32 = .ok (.iload_n 2, 1) := by decide +kernel
theorem dFi_jumpsPerhaps_33 : decode cFi_jumpsPerhaps 33 = .ok (.iconst 1, 1) := by decide +kernel
theorem dFi_jumpsPerhaps_34 : decode cFi_jumpsPerhaps 34 = .ok (.if_icmp .lt 9, 3) := by decide +kernel
theorem dFi_jumpsPerhaps_37 : decode cFi_jumpsPerhaps 37 = .ok (.iload_n 2, 1) := by decide +kernel
theorem dFi_jumpsPerhaps_38 : decode cFi_jumpsPerhaps 38 = .ok (.bipush 7, 2) := by decide +kernel
theorem dFi_jumpsPerhaps_40 : decode cFi_jumpsPerhaps 40 = .ok (.if_icmp .le 15, 3) := by decide +kernel
theorem dFi_jumpsPerhaps_43 : decode cFi_jumpsPerhaps 43 = .ok (.iload_n 2, 1) := by decide +kernel
theorem dFi_jumpsPerhaps_44 : decode cFi_jumpsPerhaps 44 = .ok (.bipush 10, 2) := by decide +kernel
theorem dFi_jumpsPerhaps_46 : decode cFi_jumpsPerhaps 46 = .ok (.if_icmp .lt 13, 3) := by decide +kernel
theorem dFi_jumpsPerhaps_49 : decode cFi_jumpsPerhaps 49 = .ok (.iload_n 2, 1) := by decide +kernel
theorem dFi_jumpsPerhaps_50 : decode cFi_jumpsPerhaps 50 = .ok (.bipush 13, 2) := by decide +kernel
theorem dFi_jumpsPerhaps_52 : decode cFi_jumpsPerhaps 52 = .ok (.if_icmp .gt 7, 3) := by decide +kernel
theorem dFi_jumpsPerhaps_55 : decode cFi_jumpsPerhaps 55 = .ok (.iconst 1, 1) := by decide +kernel
theorem dFi_jumpsPerhaps_56 : decode cFi_jumpsPerhaps 56 = .ok (.goto 4, 3) := by decide +kernel
theorem dFi_jumpsPerhaps_59 : decode cFi_jumpsPerhaps 59 = .ok (.iconst 0, 1) := by decide +kernel
theorem dFi_jumpsPerhaps_60 : decode cFi_jumpsPerhaps 60 = .ok (.ireturn, 1) := by decide +kernel
theorem dFi_jumpFrom_0 : decode cFi_jumpFrom 0 = .ok (.iload_n 0, 1) := by decide +kernel
theorem dFi_jumpFrom_1 : decode cFi_jumpFrom 1 = .ok (.i2l, 1) := by decide +kernel
theorem dFi_jumpFrom_2 : decode cFi_jumpFrom 2 = .ok (.lconst 1, 1) := by decide +kernel
theorem dFi_jumpFrom_3 : decode cFi_jumpFrom 3 = .ok (.ladd, 1) := by decide +kernel
theorem dFi_jumpFrom_4 : decode cFi_jumpFrom 4 = .ok (.lload_n 1, 1) := by decide +kernel
theorem dFi_jumpFrom_5 : decode cFi_jumpFrom 5 = .ok (.invokestatic 9, 3) := by decide +kernel
theorem dFi_jumpFrom_8 : decode cFi_jumpFrom 8 = .ok (.bipush 6, 2) := by decide +kernel
theorem dFi_jumpFrom_10 : decode cFi_jumpFrom 10 = .ok (.if_icmp .ne 10, 3) := by decide +kernel
theorem dFi_jumpFrom_13 : decode cFi_jumpFrom 13 = .ok (.lload_n 1, 1) := by decide +kernel
theorem dFi_jumpFrom_14 : decode cFi_jumpFrom 14 = .ok (.invokestatic 21, 3) := by decide +kernel
theorem dFi_jumpFrom_17 : decode cFi_jumpFrom 17 = .ok (.goto 7, 3) := by decide +kernel
theorem dFi_jumpFrom_20 : decode cFi_jumpFrom 20 = .ok (.lload_n 1, 1) := by decide +kernel
theorem dFi_jumpFrom_21 : decode cFi_jumpFrom 21 = .ok (.invokestatic 24, 3) := by decide +kernel
theorem dFi_jumpFrom_24 : decode cFi_jumpFrom 24 = .ok (.i2l, 1) := by decide +kernel
theorem dFi_jumpFrom_25 : decode cFi_jumpFrom 25 = .ok (.ladd, 1) := by decide +kernel
theorem dFi_jumpFrom_26 : decode cFi_jumpFrom 26 = .ok (.lreturn, 1) := by decide +kernel
end
section
theorem dFo_firstWrongForItself_0 : decode cFo_firstWrongForItself 0 = .ok (.iconst 0, 1) := by decide +kernel
theorem dFo_firstWrongForItself_1 : decode cFo_firstWrongForItself 1 = .ok (.istore_n 2, 1) := by decide +kernel
theorem dFo_firstWrongForItself_2 : decode cFo_firstWrongForItself 2 = .ok (.iload_n 2, 1) := by decide +kernel
theorem dFo_firstWrongForItself_3 : decode cFo_firstWrongForItself 3 = .ok (.aload_n 0, 1) := by decide +kernel
theorem dFo_firstWrongForItself_4 : decode cFo_firstWrongForItself 4 = .ok (.getfield 9, 3) := by decide +kernel
theorem dFo_firstWrongForItself_7 : decode cFo_firstWrongForItself 7 = .ok (.if_icmp .ge 61, 3) := by decide +kernel
theorem dFo_firstWrongForItself_10 : decode cFo_firstWrongForItself 10 = .ok (.aload_n 0, 1) := by decide +kernel
theorem dFo_firstWrongForItself_11 : decode cFo_firstWrongForItself 11 = .ok (.iload_n 2, 1) := by decide +kernel
theorem dFo_firstWrongForItself_12 : decode cFo_firstWrongForItself 12 = .ok (.invokevirtual 15, 3) := by decide +kernel
theorem dFo_firstWrongForItself_15 : decode cFo_firstWrongForItself 15 = .ok (.lstore_n 3, 1) := by decide +kernel
theorem dFo_firstWrongForItself_16 : decode cFo_firstWrongForItself 16 = .ok (.lload_n 3, 1) := by decide +kernel
theorem dFo_firstWrongForItself_17 : decode cFo_firstWrongForItself 17 = .ok (.invokestatic 19, 3) := by decide +kernel
theorem dFo_firstWrongForItself_20 : decode cFo_firstWrongForItself 20 = .ok (.ifCond .ne 5, 3) := by decide +kernel
theorem dFo_firstWrongForItself_23 : decode cFo_firstWrongForItself 23 = .ok (.iload_n 2, 1) := by decide +kernel
theorem dFo_firstWrongForItself_24 : decode cFo_firstWrongForItself 24 = .ok (.ireturn, 1) := by decide +kernel
theorem dFo_firstWrongForItself_25 : decode cFo_firstWrongForItself 25 = .ok (.lload_n 3, 1) := by decide +kernel
theorem dFo_firstWrongForItself_26 : decode cFo_firstWrongForItself 26 = .ok (.invokestatic 25, 3) := by decide +kernel
theorem dFo_firstWrongForItself_29 : decode cFo_firstWrongForItself 29 = .ok (.ifCond .eq 33, 3) := by decide +kernel
theorem dFo_firstWrongForItself_32 : decode cFo_firstWrongForItself 32 = .ok (.aload_n 0, 1) := by decide +kernel
theorem dFo_firstWrongForItself_33 : decode cFo_firstWrongForItself 33 = .ok (.iload_n 2, 1) := by decide +kernel
theorem dFo_firstWrongForItself_34 : decode cFo_firstWrongForItself 34 = .ok (.iconst 1, 1) := by decide +kernel
theorem dFo_firstWrongForItself_35 : decode cFo_firstWrongForItself 35 = .ok (.iadd, 1) := by decide +kernel
theorem dFo_firstWrongForItself_36 : decode cFo_firstWrongForItself 36 = .ok (.i2l, 1) := by decide +kernel
theorem dFo_firstWrongForItself_37 : decode cFo_firstWrongForItself 37 = .ok (.invokevirtual 30, 3) := by decide +kernel
theorem dFo_firstWrongForItself_40 : decode cFo_firstWrongForItself 40 = .ok (.ifCond .eq 17, 3) := by decide +kernel
theorem dFo_firstWrongForItself_43 : decode cFo_firstWrongForItself 43 = .ok (.lload_n 3, 1) := by decide +kernel
theorem dFo_firstWrongForItself_44 : decode cFo_firstWrongForItself 44 = .ok (.aload_n 0, 1) := by decide +kernel
theorem dFo_firstWrongForItself_45 : decode cFo_firstWrongForItself 45 = .ok (.iload_n 2, 1) := by decide +kernel
theorem dFo_firstWrongForItself_46 : decode cFo_firstWrongForItself 46 = .ok (.iconst 1, 1) := by decide +kernel
theorem dFo_firstWrongForItself_47 : decode cFo_firstWrongForItself 47 = .ok (.iadd, 1) := by decide +kernel
theorem dFo_firstWrongForItself_48 : decode cFo_firstWrongForItself 48 = .ok (.invokevirtual 15, 3) := by decide +kernel
theorem dFo_firstWrongForItself_51 : decode cFo_firstWrongForItself 51 = .ok (.invokestatic 33, 3) := by decide +kernel
theorem dFo_firstWrongForItself_54 : decode cFo_firstWrongForItself 54 = .ok (.ifCond .ne 5, 3) := by decide +kernel
theorem dFo_firstWrongForItself_57 : decode cFo_firstWrongForItself 57 = .ok (.iload_n 2, 1) := by decide +kernel
theorem dFo_firstWrongForItself_58 : decode cFo_firstWrongForItself 58 = .ok (.ireturn, 1) := by decide +kernel
theorem dFo_firstWrongForItself_59 : decode cFo_firstWrongForItself 59 = .ok (.iinc 2 1, 3) := by decide +kernel
theorem dFo_firstWrongForItself_62 : decode cFo_firstWrongForItself 62 = .ok (.iinc 2 1, 3) := by decide +kernel
theorem dFo_firstWrongForItself_65 : decode cFo_firstWrongForItself 65 = .ok (.goto (-63), 3) := by decide +kernel
theorem dFo_firstWrongForItself_68 : decode cFo_firstWrongForItself 68 = .ok (.iload_n 1, 1) := by decide +kernel
theorem dFo_firstWrongForItself_69 : decode cFo_firstWrongForItself 69 = .ok (.ifCond .ne 10, 3) := by decide +kernel
theorem dFo_firstWrongForItself_72 : decode cFo_firstWrongForItself 72 = .ok (.aload_n 0, 1) := by decide +kernel
theorem dFo_firstWrongForItself_73 : decode cFo_firstWrongForItself 73 = .ok (.getfield 9, 3) := by decide +kernel
theorem dFo_firstWrongForItself_76 : decode cFo_firstWrongForItself 76 = .ok (.ifCond .ne 10, 3) := by decide +kernel
theorem dFo_firstWrongForItself_79 : decode cFo_firstWrongForItself 79 = .ok (.aload_n 0, 1) := by decide +kernel
theorem dFo_firstWrongForItself_80 : decode cFo_firstWrongForItself 80 = .ok (.getfield 9, 3) := by decide +kernel
theorem dFo_firstWrongForItself_83 : decode cFo_firstWrongForItself 83 = .ok (.goto 4, 3) := by decide +kernel
theorem dFo_firstWrongForItself_86 : decode cFo_firstWrongForItself 86 = .ok (.iconst (-1), 1) := by decide +kernel
theorem dFo_firstWrongForItself_87 : decode cFo_firstWrongForItself 87 = .ok (.ireturn, 1) := by decide +kernel
theorem dFo_firstGoingWrong_0 : decode cFo_firstGoingWrong 0 = .ok (.iconst 0, 1) := by decide +kernel
theorem dFo_firstGoingWrong_1 : decode cFo_firstGoingWrong 1 = .ok (.istore_n 1, 1) := by decide +kernel
theorem dFo_firstGoingWrong_2 : decode cFo_firstGoingWrong 2 = .ok (.iload_n 1, 1) := by decide +kernel
theorem dFo_firstGoingWrong_3 : decode cFo_firstGoingWrong 3 = .ok (.aload_n 0, 1) := by decide +kernel
theorem dFo_firstGoingWrong_4 : decode cFo_firstGoingWrong 4 = .ok (.getfield 9, 3) := by decide +kernel
theorem dFo_firstGoingWrong_7 : decode cFo_firstGoingWrong 7 = .ok (.if_icmp .ge 36, 3) := by decide +kernel
theorem dFo_firstGoingWrong_10 : decode cFo_firstGoingWrong 10 = .ok (.aload_n 0, 1) := by decide +kernel
theorem dFo_firstGoingWrong_11 : decode cFo_firstGoingWrong 11 = .ok (.iload_n 1, 1) := by decide +kernel
theorem dFo_firstGoingWrong_12 : decode cFo_firstGoingWrong 12 = .ok (.invokevirtual 15, 3) := by decide +kernel
theorem dFo_firstGoingWrong_15 : decode cFo_firstGoingWrong 15 = .ok (.lstore_n 2, 1) := by decide +kernel
theorem dFo_firstGoingWrong_16 : decode cFo_firstGoingWrong 16 = .ok (.aload_n 0, 1) := by decide +kernel
theorem dFo_firstGoingWrong_17 : decode cFo_firstGoingWrong 17 = .ok (.iload_n 1, 1) := by decide +kernel
theorem dFo_firstGoingWrong_18 : decode cFo_firstGoingWrong 18 = .ok (.lload_n 2, 1) := by decide +kernel
theorem dFo_firstGoingWrong_19 : decode cFo_firstGoingWrong 19 = .ok (.invokestatic 37, 3) := by decide +kernel
theorem dFo_firstGoingWrong_22 : decode cFo_firstGoingWrong 22 = .ok (.ifCond .ne 5, 3) := by decide +kernel
theorem dFo_firstGoingWrong_25 : decode cFo_firstGoingWrong 25 = .ok (.iload_n 1, 1) := by decide +kernel
theorem dFo_firstGoingWrong_26 : decode cFo_firstGoingWrong 26 = .ok (.ireturn, 1) := by decide +kernel
theorem dFo_firstGoingWrong_27 : decode cFo_firstGoingWrong 27 = .ok (.lload_n 2, 1) := by decide +kernel
theorem dFo_firstGoingWrong_28 : decode cFo_firstGoingWrong 28 = .ok (.invokestatic 25, 3) := by decide +kernel
theorem dFo_firstGoingWrong_31 : decode cFo_firstGoingWrong 31 = .ok (.ifCond .eq 6, 3) := by decide +kernel
theorem dFo_firstGoingWrong_34 : decode cFo_firstGoingWrong 34 = .ok (.iinc 1 1, 3) := by decide +kernel
theorem dFo_firstGoingWrong_37 : decode cFo_firstGoingWrong 37 = .ok (.iinc 1 1, 3) := by decide +kernel
theorem dFo_firstGoingWrong_40 : decode cFo_firstGoingWrong 40 = .ok (.goto (-38), 3) := by decide +kernel
theorem dFo_firstGoingWrong_43 : decode cFo_firstGoingWrong 43 = .ok (.iconst (-1), 1) := by decide +kernel
theorem dFo_firstGoingWrong_44 : decode cFo_firstGoingWrong 44 = .ok (.ireturn, 1) := by decide +kernel
theorem dFo_goesOnRightly_0 : decode cFo_goesOnRightly 0 = .ok (.lload_n 2, 1) := by decide +kernel
theorem dFo_goesOnRightly_1 : decode cFo_goesOnRightly 1 = .ok (.invokestatic 41, 3) := by decide +kernel
theorem dFo_goesOnRightly_4 : decode cFo_goesOnRightly 4 = .ok (.ifCond .eq 5, 3) := by decide +kernel
theorem dFo_goesOnRightly_7 : decode cFo_goesOnRightly 7 = .ok (.iconst 1, 1) := by decide +kernel
theorem dFo_goesOnRightly_8 : decode cFo_goesOnRightly 8 = .ok (.ireturn, 1) := by decide +kernel
theorem dFo_goesOnRightly_9 : decode cFo_goesOnRightly 9 = .ok (.lload_n 2, 1) := by decide +kernel
theorem dFo_goesOnRightly_10 : decode cFo_goesOnRightly 10 = .ok (.invokestatic 44, 3) := by decide +kernel
theorem dFo_goesOnRightly_13 : decode cFo_goesOnRightly 13 = .ok (.ifCond .eq 13, 3) := by decide +kernel
theorem dFo_goesOnRightly_16 : decode cFo_goesOnRightly 16 = .ok (.aload_n 0, 1) := by decide +kernel
theorem dFo_goesOnRightly_17 : decode cFo_goesOnRightly 17 = .ok (.iload_n 1, 1) := by decide +kernel
theorem dFo_goesOnRightly_18 : decode cFo_goesOnRightly 18 = .ok (.lload_n 2, 1) := by decide +kernel
theorem dFo_goesOnRightly_19 : decode cFo_goesOnRightly 19 = .ok (.invokestatic 47, 3) := by decide +kernel
theorem dFo_goesOnRightly_22 : decode cFo_goesOnRightly 22 = .ok (.invokestatic 51, 3) := by decide +kernel
theorem dFo_goesOnRightly_25 : decode cFo_goesOnRightly 25 = .ok (.ireturn, 1) := by decide +kernel
theorem dFo_goesOnRightly_26 : decode cFo_goesOnRightly 26 = .ok (.lload_n 2, 1) := by decide +kernel
theorem dFo_goesOnRightly_27 : decode cFo_goesOnRightly 27 = .ok (.invokestatic 55, 3) := by decide +kernel
theorem dFo_goesOnRightly_30 : decode cFo_goesOnRightly 30 = .ok (.ifCond .eq 17, 3) := by decide +kernel
theorem dFo_goesOnRightly_33 : decode cFo_goesOnRightly 33 = .ok (.aload_n 0, 1) := by decide +kernel
theorem dFo_goesOnRightly_34 : decode cFo_goesOnRightly 34 = .ok (.iload_n 1, 1) := by decide +kernel
theorem dFo_goesOnRightly_35 : decode cFo_goesOnRightly 35 = .ok (.lload_n 2, 1) := by decide +kernel
theorem dFo_goesOnRightly_36 : decode cFo_goesOnRightly 36 = .ok (.invokestatic 47, 3) := by decide +kernel
theorem dFo_goesOnRightly_39 : decode cFo_goesOnRightly 39 = .ok (.invokestatic 51, 3) := by decide +kernel
theorem dFo_goesOnRightly_42 : decode cFo_goesOnRightly 42 = .ok (.ifCond .ne 5, 3) := by decide +kernel
theorem dFo_goesOnRightly_45 : decode cFo_goesOnRightly 45 = .ok (.iconst 0, 1) := by decide +kernel
theorem dFo_goesOnRightly_46 : decode cFo_goesOnRightly 46 = .ok (.ireturn, 1) := by decide +kernel
theorem dFo_goesOnRightly_47 : decode cFo_goesOnRightly 47 = .ok (.aload_n 0, 1) := by decide +kernel
theorem dFo_goesOnRightly_48 : decode cFo_goesOnRightly 48 = .ok (.iload_n 1, 1) := by decide +kernel
theorem dFo_goesOnRightly_49 : decode cFo_goesOnRightly 49 = .ok (.lload_n 2, 1) := by decide +kernel
theorem dFo_goesOnRightly_50 : decode cFo_goesOnRightly 50 = .ok (.invokestatic 25, 3) := by decide +kernel
theorem dFo_goesOnRightly_53 : decode cFo_goesOnRightly 53 = .ok (.ifCond .eq 7, 3) := by decide +kernel
theorem dFo_goesOnRightly_56 : decode cFo_goesOnRightly 56 = .ok (.iconst 2, 1) := by decide +kernel
theorem dFo_goesOnRightly_57 : decode cFo_goesOnRightly 57 = .ok (.goto 4, 3) := by decide +kernel
theorem dFo_goesOnRightly_60 : decode cFo_goesOnRightly 60 = .ok (.iconst 1, 1) := by decide +kernel
theorem dFo_goesOnRightly_61 : decode cFo_goesOnRightly 61 = .ok (.iadd, 1) := by decide +kernel
theorem dFo_goesOnRightly_62 : decode cFo_goesOnRightly 62 = .ok (.i2l, 1) := by decide +kernel
theorem dFo_goesOnRightly_63 : decode cFo_goesOnRightly 63 = .ok (.invokestatic 51, 3) := by decide +kernel
theorem dFo_goesOnRightly_66 : decode cFo_goesOnRightly 66 = .ok (.ireturn, 1) := by decide +kernel
theorem dFo_isStart_0 : decode cFo_isStart 0 = .ok (.aload_n 0, 1) := by decide +kernel
theorem dFo_isStart_1 : decode cFo_isStart 1 = .ok (.lload_n 1, 1) := by decide +kernel
theorem dFo_isStart_2 : decode cFo_isStart 2 = .ok (.invokevirtual 30, 3) := by decide +kernel
theorem dFo_isStart_5 : decode cFo_isStart 5 = .ok (.ifCond .eq 19, 3) := by decide +kernel
theorem dFo_isStart_8 : decode cFo_isStart 8 = .ok (.aload_n 0, 1) := by decide +kernel
theorem dFo_isStart_9 : decode cFo_isStart 9 = .ok (.lload_n 1, 1) := by decide +kernel
theorem dFo_isStart_10 : decode cFo_isStart 10 = .ok (.l2i, 1) := by decide +kernel
theorem dFo_isStart_11 : decode cFo_isStart 11 = .ok (.invokevirtual 15, 3) := by decide +kernel
theorem dFo_isStart_14 : decode cFo_isStart 14 = .ok (.invokestatic 58, 3) := by decide +kernel
theorem dFo_isStart_17 : decode cFo_isStart 17 = .ok (.ifCond .eq 7, 3) := by decide +kernel
theorem dFo_isStart_20 : decode cFo_isStart 20 = .ok (.iconst 1, 1) := by decide +kernel
theorem dFo_isStart_21 : decode cFo_isStart 21 = .ok (.goto 4, 3) := by decide +kernel
theorem dFo_isStart_24 : decode cFo_isStart 24 = .ok (.iconst 0, 1) := by decide +kernel
theorem dFo_isStart_25 : decode cFo_isStart 25 = .ok (.ireturn, 1) := by decide +kernel
theorem dFo_isInstruction_0 : decode cFo_isInstruction 0 = .ok (.lload_n 0, 1) := by decide +kernel
theorem dFo_isInstruction_1 : decode cFo_isInstruction 1 = .ok (.invokestatic 62, 3) := by decide +kernel
theorem dFo_isInstruction_4 : decode cFo_isInstruction 4 = .ok (.tableswitch 99 0 6 #[44, 49, 54, 59, 99, 80, 80], 44) := by decide +kernel
theorem dFo_isInstruction_48 : decode cFo_isInstruction 48 = .ok (.lload_n 0, 1) := by decide +kernel
theorem dFo_isInstruction_49 : decode cFo_isInstruction 49 = .ok (.invokestatic 65, 3) := by decide +kernel
theorem dFo_isInstruction_52 : decode cFo_isInstruction 52 = .ok (.ireturn, 1) := by decide +kernel
theorem dFo_isInstruction_53 : decode cFo_isInstruction 53 = .ok (.lload_n 0, 1) := by decide +kernel
theorem dFo_isInstruction_54 : decode cFo_isInstruction 54 = .ok (.invokestatic 68, 3) := by decide +kernel
theorem dFo_isInstruction_57 : decode cFo_isInstruction 57 = .ok (.ireturn, 1) := by decide +kernel
theorem dFo_isInstruction_58 : decode cFo_isInstruction 58 = .ok (.lload_n 0, 1) := by decide +kernel
theorem dFo_isInstruction_59 : decode cFo_isInstruction 59 = .ok (.invokestatic 71, 3) := by decide +kernel
theorem dFo_isInstruction_62 : decode cFo_isInstruction 62 = .ok (.ireturn, 1) := by decide +kernel
theorem dFo_isInstruction_63 : decode cFo_isInstruction 63 = .ok (.lload_n 0, 1) := by decide +kernel
theorem dFo_isInstruction_64 : decode cFo_isInstruction 64 = .ok (.invokestatic 74, 3) := by decide +kernel
theorem dFo_isInstruction_67 : decode cFo_isInstruction 67 = .ok (.bipush 6, 2) := by decide +kernel
theorem dFo_isInstruction_69 : decode cFo_isInstruction 69 = .ok (.if_icmp .ne 10, 3) := by decide +kernel
theorem dFo_isInstruction_72 : decode cFo_isInstruction 72 = .ok (.lload_n 0, 1) := by decide +kernel
theorem dFo_isInstruction_73 : decode cFo_isInstruction 73 = .ok (.invokestatic 77, 3) := by decide +kernel
theorem dFo_isInstruction_76 : decode cFo_isInstruction 76 = .ok (.goto 7, 3) := by decide +kernel
theorem dFo_isInstruction_79 : decode cFo_isInstruction 79 = .ok (.lload_n 0, 1) := by decide +kernel
theorem dFo_isInstruction_80 : decode cFo_isInstruction 80 = .ok (.invokestatic 80, 3) := by decide +kernel
theorem dFo_isInstruction_83 : decode cFo_isInstruction 83 = .ok (.ireturn, 1) := by decide +kernel
theorem dFo_isInstruction_84 : decode cFo_isInstruction 84 = .ok (.lload_n 0, 1) := by decide +kernel
theorem dFo_isInstruction_85 : decode cFo_isInstruction 85 = .ok (.invokestatic 55, 3) := by decide +kernel
theorem dFo_isInstruction_88 : decode cFo_isInstruction 88 = .ok (.ifCond .eq 10, 3) := by decide +kernel
theorem dFo_isInstruction_91 : decode cFo_isInstruction 91 = .ok (.lload_n 0, 1) := by decide +kernel
theorem dFo_isInstruction_92 : decode cFo_isInstruction 92 = .ok (.invokestatic 83, 3) := by decide +kernel
theorem dFo_isInstruction_95 : decode cFo_isInstruction 95 = .ok (.goto 7, 3) := by decide +kernel
theorem dFo_isInstruction_98 : decode cFo_isInstruction 98 = .ok (.lload_n 0, 1) := by decide +kernel
theorem dFo_isInstruction_99 : decode cFo_isInstruction 99 = .ok (.invokestatic 86, 3) := by decide +kernel
theorem dFo_isInstruction_102 : decode cFo_isInstruction 102 = .ok (.ireturn, 1) := by decide +kernel
theorem dFo_isInstruction_103 : decode cFo_isInstruction 103 = .ok (.lload_n 0, 1) := by decide +kernel
theorem dFo_isInstruction_104 : decode cFo_isInstruction 104 = .ok (.invokestatic 89, 3) := by decide +kernel
theorem dFo_isInstruction_107 : decode cFo_isInstruction 107 = .ok (.ireturn, 1) := by decide +kernel
theorem dFo_isFirstOfTwo_0 : decode cFo_isFirstOfTwo 0 = .ok (.lload_n 0, 1) := by decide +kernel
theorem dFo_isFirstOfTwo_1 : decode cFo_isFirstOfTwo 1 = .ok (.invokestatic 92, 3) := by decide +kernel
theorem dFo_isFirstOfTwo_4 : decode cFo_isFirstOfTwo 4 = .ok (.istore_n 2, 1) := by decide +kernel
theorem dFo_isFirstOfTwo_5 : decode cFo_isFirstOfTwo 5 = .ok (.lload_n 0, 1) := by decide +kernel
theorem dFo_isFirstOfTwo_6 : decode cFo_isFirstOfTwo 6 = .ok (.invokestatic 25, 3) := by decide +kernel
theorem dFo_isFirstOfTwo_9 : decode cFo_isFirstOfTwo 9 = .ok (.ifCond .eq 39, 3) := by decide +kernel
theorem dFo_isFirstOfTwo_12 : decode cFo_isFirstOfTwo 12 = .ok (.lload_n 0, 1) := by decide +kernel
theorem dFo_isFirstOfTwo_13 : decode cFo_isFirstOfTwo 13 = .ok (.invokestatic 95, 3) := by decide +kernel
theorem dFo_isFirstOfTwo_16 : decode cFo_isFirstOfTwo 16 = .ok (.bipush 9, 2) := by decide +kernel
theorem dFo_isFirstOfTwo_18 : decode cFo_isFirstOfTwo 18 = .ok (.if_icmp .gt 30, 3) := by decide +kernel
theorem dFo_isFirstOfTwo_21 : decode cFo_isFirstOfTwo 21 = .ok (.lload_n 0, 1) := by decide +kernel
theorem dFo_isFirstOfTwo_22 : decode cFo_isFirstOfTwo 22 = .ok (.invokestatic 98, 3) := by decide +kernel
theorem dFo_isFirstOfTwo_25 : decode cFo_isFirstOfTwo 25 = .ok (.ifCond .ne 23, 3) := by decide +kernel
theorem dFo_isFirstOfTwo_28 : decode cFo_isFirstOfTwo 28 = .ok (.iload_n 2, 1) := by decide +kernel
theorem dFo_isFirstOfTwo_29 : decode cFo_isFirstOfTwo 29 = .ok (.ifCond .eq 15, 3) := by decide +kernel
theorem dFo_isFirstOfTwo_32 : decode cFo_isFirstOfTwo 32 = .ok (.iload_n 2, 1) := by decide +kernel
theorem dFo_isFirstOfTwo_33 : decode cFo_isFirstOfTwo 33 = .ok (.iconst 1, 1) := by decide +kernel
theorem dFo_isFirstOfTwo_34 : decode cFo_isFirstOfTwo 34 = .ok (.if_icmp .ne 14, 3) := by decide +kernel
theorem dFo_isFirstOfTwo_37 : decode cFo_isFirstOfTwo 37 = .ok (.lload_n 0, 1) := by decide +kernel
theorem dFo_isFirstOfTwo_38 : decode cFo_isFirstOfTwo 38 = .ok (.invokestatic 101, 3) := by decide +kernel
theorem dFo_isFirstOfTwo_41 : decode cFo_isFirstOfTwo 41 = .ok (.ifCond .lt 7, 3) := by decide +kernel
theorem dFo_isFirstOfTwo_44 : decode cFo_isFirstOfTwo 44 = .ok (.iconst 1, 1) := by decide +kernel
theorem dFo_isFirstOfTwo_45 : decode cFo_isFirstOfTwo 45 = .ok (.goto 4, 3) := by decide +kernel
theorem dFo_isFirstOfTwo_48 : decode cFo_isFirstOfTwo 48 = .ok (.iconst 0, 1) := by decide +kernel
theorem dFo_isFirstOfTwo_49 : decode cFo_isFirstOfTwo 49 = .ok (.ireturn, 1) := by decide +kernel
theorem dFo_isSecondOf_0 : decode cFo_isSecondOf 0 = .ok (.lload_n 2, 1) := by decide +kernel
theorem dFo_isSecondOf_1 : decode cFo_isSecondOf 1 = .ok (.l2i, 1) := by decide +kernel
theorem dFo_isSecondOf_2 : decode cFo_isSecondOf 2 = .ok (.ifCond .ne 7, 3) := by decide +kernel
theorem dFo_isSecondOf_5 : decode cFo_isSecondOf 5 = .ok (.iconst 1, 1) := by decide +kernel
theorem dFo_isSecondOf_6 : decode cFo_isSecondOf 6 = .ok (.goto 4, 3) := by decide +kernel
theorem dFo_isSecondOf_9 : decode cFo_isSecondOf 9 = .ok (.iconst 0, 1) := by decide +kernel
theorem dFo_isSecondOf_10 : decode cFo_isSecondOf 10 = .ok (.istore 4, 2) := by decide +kernel
theorem dFo_isSecondOf_12 : decode cFo_isSecondOf 12 = .ok (.iload 4, 2) := by decide +kernel
theorem dFo_isSecondOf_14 : decode cFo_isSecondOf 14 = .ok (.ifCond .eq 21, 3) := by decide +kernel
theorem dFo_isSecondOf_17 : decode cFo_isSecondOf 17 = .ok (.lload_n 0, 1) := by decide +kernel
theorem dFo_isSecondOf_18 : decode cFo_isSecondOf 18 = .ok (.invokestatic 92, 3) := by decide +kernel
theorem dFo_isSecondOf_21 : decode cFo_isSecondOf 21 = .ok (.ifCond .eq 10, 3) := by decide +kernel
theorem dFo_isSecondOf_24 : decode cFo_isSecondOf 24 = .ok (.lload_n 2, 1) := by decide +kernel
theorem dFo_isSecondOf_25 : decode cFo_isSecondOf 25 = .ok (.invokestatic 101, 3) := by decide +kernel
theorem dFo_isSecondOf_28 : decode cFo_isSecondOf 28 = .ok (.ifCond .ne 7, 3) := by decide +kernel
theorem dFo_isSecondOf_31 : decode cFo_isSecondOf 31 = .ok (.iconst 1, 1) := by decide +kernel
theorem dFo_isSecondOf_32 : decode cFo_isSecondOf 32 = .ok (.goto 4, 3) := by decide +kernel
theorem dFo_isSecondOf_35 : decode cFo_isSecondOf 35 = .ok (.iconst 0, 1) := by decide +kernel
theorem dFo_isSecondOf_36 : decode cFo_isSecondOf 36 = .ok (.ireturn, 1) := by decide +kernel
theorem dFo_isRead_0 : decode cFo_isRead 0 = .ok (.lload_n 0, 1) := by decide +kernel
theorem dFo_isRead_1 : decode cFo_isRead 1 = .ok (.invokestatic 74, 3) := by decide +kernel
theorem dFo_isRead_4 : decode cFo_isRead 4 = .ok (.istore_n 2, 1) := by decide +kernel
theorem dFo_isRead_5 : decode cFo_isRead 5 = .ok (.iload_n 2, 1) := by decide +kernel
theorem dFo_isRead_6 : decode cFo_isRead 6 = .ok (.iconst 3, 1) := by decide +kernel
theorem dFo_isRead_7 : decode cFo_isRead 7 = .ok (.if_icmp .eq 17, 3) := by decide +kernel
theorem dFo_isRead_10 : decode cFo_isRead 10 = .ok (.iload_n 2, 1) := by decide +kernel
theorem dFo_isRead_11 : decode cFo_isRead 11 = .ok (.iconst 4, 1) := by decide +kernel
theorem dFo_isRead_12 : decode cFo_isRead 12 = .ok (.if_icmp .ne 41, 3) := by decide +kernel
theorem dFo_isRead_15 : decode cFo_isRead 15 = .ok (.lload_n 0, 1) := by decide +kernel
theorem dFo_isRead_16 : decode cFo_isRead 16 = .ok (.invokestatic 104, 3) := by decide +kernel
theorem dFo_isRead_19 : decode cFo_isRead 19 = .ok (.bipush 8, 2) := by decide +kernel
theorem dFo_isRead_21 : decode cFo_isRead 21 = .ok (.if_icmp .ge 32, 3) := by decide +kernel
theorem dFo_isRead_24 : decode cFo_isRead 24 = .ok (.lload_n 0, 1) := by decide +kernel
theorem dFo_isRead_25 : decode cFo_isRead 25 = .ok (.invokestatic 101, 3) := by decide +kernel
theorem dFo_isRead_28 : decode cFo_isRead 28 = .ok (.ifCond .ne 25, 3) := by decide +kernel
theorem dFo_isRead_31 : decode cFo_isRead 31 = .ok (.lload_n 0, 1) := by decide +kernel
theorem dFo_isRead_32 : decode cFo_isRead 32 = .ok (.invokestatic 95, 3) := by decide +kernel
theorem dFo_isRead_35 : decode cFo_isRead 35 = .ok (.bipush 9, 2) := by decide +kernel
theorem dFo_isRead_37 : decode cFo_isRead 37 = .ok (.if_icmp .gt 16, 3) := by decide +kernel
theorem dFo_isRead_40 : decode cFo_isRead 40 = .ok (.lload_n 0, 1) := by decide +kernel
theorem dFo_isRead_41 : decode cFo_isRead 41 = .ok (.invokestatic 92, 3) := by decide +kernel
theorem dFo_isRead_44 : decode cFo_isRead 44 = .ok (.bipush 10, 2) := by decide +kernel
theorem dFo_isRead_46 : decode cFo_isRead 46 = .ok (.if_icmp .gt 7, 3) := by decide +kernel
theorem dFo_isRead_49 : decode cFo_isRead 49 = .ok (.iconst 1, 1) := by decide +kernel
theorem dFo_isRead_50 : decode cFo_isRead 50 = .ok (.goto 4, 3) := by decide +kernel
theorem dFo_isRead_53 : decode cFo_isRead 53 = .ok (.iconst 0, 1) := by decide +kernel
theorem dFo_isRead_54 : decode cFo_isRead 54 = .ok (.ireturn, 1) := by decide +kernel
theorem dFo_isWriteOfNumber_0 : decode cFo_isWriteOfNumber 0 = .ok (.lload_n 0, 1) := by decide +kernel
theorem dFo_isWriteOfNumber_1 : decode cFo_isWriteOfNumber 1 = .ok (.invokestatic 74, 3) := by decide +kernel
theorem dFo_isWriteOfNumber_4 : decode cFo_isWriteOfNumber 4 = .ok (.iconst 3, 1) := by decide +kernel
theorem dFo_isWriteOfNumber_5 : decode cFo_isWriteOfNumber 5 = .ok (.if_icmp .ne 23, 3) := by decide +kernel
theorem dFo_isWriteOfNumber_8 : decode cFo_isWriteOfNumber 8 = .ok (.lload_n 0, 1) := by decide +kernel
theorem dFo_isWriteOfNumber_9 : decode cFo_isWriteOfNumber 9 = .ok (.invokestatic 95, 3) := by decide +kernel
theorem dFo_isWriteOfNumber_12 : decode cFo_isWriteOfNumber 12 = .ok (.bipush 10, 2) := by decide +kernel
theorem dFo_isWriteOfNumber_14 : decode cFo_isWriteOfNumber 14 = .ok (.if_icmp .gt 14, 3) := by decide +kernel
theorem dFo_isWriteOfNumber_17 : decode cFo_isWriteOfNumber 17 = .ok (.lload_n 0, 1) := by decide +kernel
theorem dFo_isWriteOfNumber_18 : decode cFo_isWriteOfNumber 18 = .ok (.invokestatic 92, 3) := by decide +kernel
theorem dFo_isWriteOfNumber_21 : decode cFo_isWriteOfNumber 21 = .ok (.ifCond .ne 7, 3) := by decide +kernel
theorem dFo_isWriteOfNumber_24 : decode cFo_isWriteOfNumber 24 = .ok (.iconst 1, 1) := by decide +kernel
theorem dFo_isWriteOfNumber_25 : decode cFo_isWriteOfNumber 25 = .ok (.goto 4, 3) := by decide +kernel
theorem dFo_isWriteOfNumber_28 : decode cFo_isWriteOfNumber 28 = .ok (.iconst 0, 1) := by decide +kernel
theorem dFo_isWriteOfNumber_29 : decode cFo_isWriteOfNumber 29 = .ok (.ireturn, 1) := by decide +kernel
theorem dFo_isWriteOfRegister_0 : decode cFo_isWriteOfRegister 0 = .ok (.lload_n 0, 1) := by decide +kernel
theorem dFo_isWriteOfRegister_1 : decode cFo_isWriteOfRegister 1 = .ok (.invokestatic 74, 3) := by decide +kernel
theorem dFo_isWriteOfRegister_4 : decode cFo_isWriteOfRegister 4 = .ok (.iconst 3, 1) := by decide +kernel
theorem dFo_isWriteOfRegister_5 : decode cFo_isWriteOfRegister 5 = .ok (.if_icmp .ne 32, 3) := by decide +kernel
theorem dFo_isWriteOfRegister_8 : decode cFo_isWriteOfRegister 8 = .ok (.lload_n 0, 1) := by decide +kernel
theorem dFo_isWriteOfRegister_9 : decode cFo_isWriteOfRegister 9 = .ok (.invokestatic 101, 3) := by decide +kernel
theorem dFo_isWriteOfRegister_12 : decode cFo_isWriteOfRegister 12 = .ok (.ifCond .ne 25, 3) := by decide +kernel
theorem dFo_isWriteOfRegister_15 : decode cFo_isWriteOfRegister 15 = .ok (.lload_n 0, 1) := by decide +kernel
theorem dFo_isWriteOfRegister_16 : decode cFo_isWriteOfRegister 16 = .ok (.invokestatic 95, 3) := by decide +kernel
theorem dFo_isWriteOfRegister_19 : decode cFo_isWriteOfRegister 19 = .ok (.bipush 10, 2) := by decide +kernel
theorem dFo_isWriteOfRegister_21 : decode cFo_isWriteOfRegister 21 = .ok (.if_icmp .gt 16, 3) := by decide +kernel
theorem dFo_isWriteOfRegister_24 : decode cFo_isWriteOfRegister 24 = .ok (.lload_n 0, 1) := by decide +kernel
theorem dFo_isWriteOfRegister_25 : decode cFo_isWriteOfRegister 25 = .ok (.invokestatic 92, 3) := by decide +kernel
theorem dFo_isWriteOfRegister_28 : decode cFo_isWriteOfRegister 28 = .ok (.bipush 10, 2) := by decide +kernel
theorem dFo_isWriteOfRegister_30 : decode cFo_isWriteOfRegister 30 = .ok (.if_icmp .gt 7, 3) := by decide +kernel
theorem dFo_isWriteOfRegister_33 : decode cFo_isWriteOfRegister 33 = .ok (.iconst 1, 1) := by decide +kernel
theorem dFo_isWriteOfRegister_34 : decode cFo_isWriteOfRegister 34 = .ok (.goto 4, 3) := by decide +kernel
theorem dFo_isWriteOfRegister_37 : decode cFo_isWriteOfRegister 37 = .ok (.iconst 0, 1) := by decide +kernel
theorem dFo_isWriteOfRegister_38 : decode cFo_isWriteOfRegister 38 = .ok (.ireturn, 1) := by decide +kernel
theorem dFo_isExchange_0 : decode cFo_isExchange 0 = .ok (.lload_n 0, 1) := by decide +kernel
theorem dFo_isExchange_1 : decode cFo_isExchange 1 = .ok (.invokestatic 104, 3) := by decide +kernel
theorem dFo_isExchange_4 : decode cFo_isExchange 4 = .ok (.iconst 4, 1) := by decide +kernel
theorem dFo_isExchange_5 : decode cFo_isExchange 5 = .ok (.if_icmp .lt 50, 3) := by decide +kernel
theorem dFo_isExchange_8 : decode cFo_isExchange 8 = .ok (.lload_n 0, 1) := by decide +kernel
theorem dFo_isExchange_9 : decode cFo_isExchange 9 = .ok (.invokestatic 101, 3) := by decide +kernel
theorem dFo_isExchange_12 : decode cFo_isExchange 12 = .ok (.invokestatic 107, 3) := by decide +kernel
theorem dFo_isExchange_15 : decode cFo_isExchange 15 = .ok (.ifCond .eq 40, 3) := by decide +kernel
theorem dFo_isExchange_18 : decode cFo_isExchange 18 = .ok (.lload_n 0, 1) := by decide +kernel
theorem dFo_isExchange_19 : decode cFo_isExchange 19 = .ok (.invokestatic 95, 3) := by decide +kernel
theorem dFo_isExchange_22 : decode cFo_isExchange 22 = .ok (.bipush 10, 2) := by decide +kernel
theorem dFo_isExchange_24 : decode cFo_isExchange 24 = .ok (.if_icmp .gt 31, 3) := by decide +kernel
theorem dFo_isExchange_27 : decode cFo_isExchange 27 = .ok (.lload_n 0, 1) := by decide +kernel
theorem dFo_isExchange_28 : decode cFo_isExchange 28 = .ok (.invokestatic 92, 3) := by decide +kernel
theorem dFo_isExchange_31 : decode cFo_isExchange 31 = .ok (.lload_n 0, 1) := by decide +kernel
theorem dFo_isExchange_32 : decode cFo_isExchange 32 = .ok (.invokestatic 101, 3) := by decide +kernel
theorem dFo_isExchange_35 : decode cFo_isExchange 35 = .ok (.invokestatic 113, 3) := by decide +kernel
theorem dFo_isExchange_38 : decode cFo_isExchange 38 = .ok (.ifCond .eq 8, 3) := by decide +kernel
theorem dFo_isExchange_41 : decode cFo_isExchange 41 = .ok (.bipush 9, 2) := by decide +kernel
theorem dFo_isExchange_43 : decode cFo_isExchange 43 = .ok (.goto 5, 3) := by decide +kernel
theorem dFo_isExchange_46 : decode cFo_isExchange 46 = .ok (.bipush 10, 2) := by decide +kernel
theorem dFo_isExchange_48 : decode cFo_isExchange 48 = .ok (.if_icmp .gt 7, 3) := by decide +kernel
theorem dFo_isExchange_51 : decode cFo_isExchange 51 = .ok (.iconst 1, 1) := by decide +kernel
theorem dFo_isExchange_52 : decode cFo_isExchange 52 = .ok (.goto 4, 3) := by decide +kernel
theorem dFo_isExchange_55 : decode cFo_isExchange 55 = .ok (.iconst 0, 1) := by decide +kernel
theorem dFo_isExchange_56 : decode cFo_isExchange 56 = .ok (.ireturn, 1) := by decide +kernel
theorem dFo_isPerhapsJump_0 : decode cFo_isPerhapsJump 0 = .ok (.lload_n 0, 1) := by decide +kernel
theorem dFo_isPerhapsJump_1 : decode cFo_isPerhapsJump 1 = .ok (.invokestatic 95, 3) := by decide +kernel
theorem dFo_isPerhapsJump_4 : decode cFo_isPerhapsJump 4 = .ok (.bipush 10, 2) := by decide +kernel
theorem dFo_isPerhapsJump_6 : decode cFo_isPerhapsJump 6 = .ok (.if_icmp .gt 14, 3) := by decide +kernel
theorem dFo_isPerhapsJump_9 : decode cFo_isPerhapsJump 9 = .ok (.lload_n 0, 1) := by decide +kernel
theorem dFo_isPerhapsJump_10 : decode cFo_isPerhapsJump 10 = .ok (.invokestatic 116, 3) := by decide +kernel
theorem dFo_isPerhapsJump_13 : decode cFo_isPerhapsJump 13 = .ok (.ifCond .eq 7, 3) := by decide +kernel
theorem dFo_isPerhapsJump_16 : decode cFo_isPerhapsJump 16 = .ok (.iconst 1, 1) := by decide +kernel
theorem dFo_isPerhapsJump_17 : decode cFo_isPerhapsJump 17 = .ok (.goto 4, 3) := by decide +kernel
theorem dFo_isPerhapsJump_20 : decode cFo_isPerhapsJump 20 = .ok (.iconst 0, 1) := by decide +kernel
theorem dFo_isPerhapsJump_21 : decode cFo_isPerhapsJump 21 = .ok (.ireturn, 1) := by decide +kernel
theorem dFo_isCallOrExitOrJump_0 : decode cFo_isCallOrExitOrJump 0 = .ok (.lload_n 0, 1) := by decide +kernel
theorem dFo_isCallOrExitOrJump_1 : decode cFo_isCallOrExitOrJump 1 = .ok (.invokestatic 95, 3) := by decide +kernel
theorem dFo_isCallOrExitOrJump_4 : decode cFo_isCallOrExitOrJump 4 = .ok (.ifCond .ne 10, 3) := by decide +kernel
theorem dFo_isCallOrExitOrJump_7 : decode cFo_isCallOrExitOrJump 7 = .ok (.lload_n 0, 1) := by decide +kernel
theorem dFo_isCallOrExitOrJump_8 : decode cFo_isCallOrExitOrJump 8 = .ok (.invokestatic 92, 3) := by decide +kernel
theorem dFo_isCallOrExitOrJump_11 : decode cFo_isCallOrExitOrJump 11 = .ok (.ifCond .eq 5, 3) := by decide +kernel
theorem dFo_isCallOrExitOrJump_14 : decode cFo_isCallOrExitOrJump 14 = .ok (.iconst 0, 1) := by decide +kernel
theorem dFo_isCallOrExitOrJump_15 : decode cFo_isCallOrExitOrJump 15 = .ok (.ireturn, 1) := by decide +kernel
theorem dFo_isCallOrExitOrJump_16 : decode cFo_isCallOrExitOrJump 16 = .ok (.lload_n 0, 1) := by decide +kernel
theorem dFo_isCallOrExitOrJump_17 : decode cFo_isCallOrExitOrJump 17 = .ok (.invokestatic 58, 3) := by decide +kernel
theorem dFo_isCallOrExitOrJump_20 : decode cFo_isCallOrExitOrJump 20 = .ok (.lookupswitch 90 #[(5, 44), (6, 57), (133, 57), (149, 70)], 44) := by decide +kernel
theorem dFo_isCallOrExitOrJump_64 : decode cFo_isCallOrExitOrJump 64 = .ok (.lload_n 0, 1) := by decide +kernel
theorem dFo_isCallOrExitOrJump_65 : decode cFo_isCallOrExitOrJump 65 = .ok (.invokestatic 101, 3) := by decide +kernel
theorem dFo_isCallOrExitOrJump_68 : decode cFo_isCallOrExitOrJump 68 = .ok (.ifCond .ne 7, 3) := by decide +kernel
theorem dFo_isCallOrExitOrJump_71 : decode cFo_isCallOrExitOrJump 71 = .ok (.iconst 1, 1) := by decide +kernel
theorem dFo_isCallOrExitOrJump_72 : decode cFo_isCallOrExitOrJump 72 = .ok (.goto 4, 3) := by decide +kernel
theorem dFo_isCallOrExitOrJump_75 : decode cFo_isCallOrExitOrJump 75 = .ok (.iconst 0, 1) := by decide +kernel
theorem dFo_isCallOrExitOrJump_76 : decode cFo_isCallOrExitOrJump 76 = .ok (.ireturn, 1) := by decide +kernel
theorem dFo_isCallOrExitOrJump_77 : decode cFo_isCallOrExitOrJump 77 = .ok (.lload_n 0, 1) := by decide +kernel
theorem dFo_isCallOrExitOrJump_78 : decode cFo_isCallOrExitOrJump 78 = .ok (.invokestatic 98, 3) := by decide +kernel
theorem dFo_isCallOrExitOrJump_81 : decode cFo_isCallOrExitOrJump 81 = .ok (.ifCond .ne 7, 3) := by decide +kernel
theorem dFo_isCallOrExitOrJump_84 : decode cFo_isCallOrExitOrJump 84 = .ok (.iconst 1, 1) := by decide +kernel
theorem dFo_isCallOrExitOrJump_85 : decode cFo_isCallOrExitOrJump 85 = .ok (.goto 4, 3) := by decide +kernel
theorem dFo_isCallOrExitOrJump_88 : decode cFo_isCallOrExitOrJump 88 = .ok (.iconst 0, 1) := by decide +kernel
theorem dFo_isCallOrExitOrJump_89 : decode cFo_isCallOrExitOrJump 89 = .ok (.ireturn, 1) := by decide +kernel
theorem dFo_isCallOrExitOrJump_90 : decode cFo_isCallOrExitOrJump 90 = .ok (.lload_n 0, 1) := by decide +kernel
theorem dFo_isCallOrExitOrJump_91 : decode cFo_isCallOrExitOrJump 91 = .ok (.invokestatic 98, 3) := by decide +kernel
theorem dFo_isCallOrExitOrJump_94 : decode cFo_isCallOrExitOrJump 94 = .ok (.ifCond .ne 14, 3) := by decide +kernel
theorem dFo_isCallOrExitOrJump_97 : decode cFo_isCallOrExitOrJump 97 = .ok (.lload_n 0, 1) := by decide +kernel
theorem dFo_isCallOrExitOrJump_98 : decode cFo_isCallOrExitOrJump 98 = .ok (.invokestatic 101, 3) := by decide +kernel
theorem dFo_isCallOrExitOrJump_101 : decode cFo_isCallOrExitOrJump 101 = .ok (.ifCond .ne 7, 3) := by decide +kernel
theorem dFo_isCallOrExitOrJump_104 : decode cFo_isCallOrExitOrJump 104 = .ok (.iconst 1, 1) := by decide +kernel
theorem dFo_isCallOrExitOrJump_105 : decode cFo_isCallOrExitOrJump 105 = .ok (.goto 4, 3) := by decide +kernel
theorem dFo_isCallOrExitOrJump_108 : decode cFo_isCallOrExitOrJump 108 = .ok (.iconst 0, 1) := by decide +kernel
theorem dFo_isCallOrExitOrJump_109 : decode cFo_isCallOrExitOrJump 109 = .ok (.ireturn, 1) := by decide +kernel
theorem dFo_isCallOrExitOrJump_110 : decode cFo_isCallOrExitOrJump 110 = .ok (.iconst 0, 1) := by decide +kernel
theorem dFo_isCallOrExitOrJump_111 : decode cFo_isCallOrExitOrJump 111 = .ok (.ireturn, 1) := by decide +kernel
theorem dFo_hasOperand_0 : decode cFo_hasOperand 0 = .ok (.lload_n 0, 1) := by decide +kernel
theorem dFo_hasOperand_1 : decode cFo_hasOperand 1 = .ok (.invokestatic 119, 3) := by decide +kernel
theorem dFo_hasOperand_4 : decode cFo_hasOperand 4 = .ok (.ifCond .eq 27, 3) := by decide +kernel
theorem dFo_hasOperand_7 : decode cFo_hasOperand 7 = .ok (.lload_n 0, 1) := by decide +kernel
theorem dFo_hasOperand_8 : decode cFo_hasOperand 8 = .ok (.invokestatic 92, 3) := by decide +kernel
theorem dFo_hasOperand_11 : decode cFo_hasOperand 11 = .ok (.bipush 10, 2) := by decide +kernel
theorem dFo_hasOperand_13 : decode cFo_hasOperand 13 = .ok (.if_icmp .gt 14, 3) := by decide +kernel
theorem dFo_hasOperand_16 : decode cFo_hasOperand 16 = .ok (.lload_n 0, 1) := by decide +kernel
theorem dFo_hasOperand_17 : decode cFo_hasOperand 17 = .ok (.invokestatic 101, 3) := by decide +kernel
theorem dFo_hasOperand_20 : decode cFo_hasOperand 20 = .ok (.ifCond .ne 7, 3) := by decide +kernel
theorem dFo_hasOperand_23 : decode cFo_hasOperand 23 = .ok (.iconst 1, 1) := by decide +kernel
theorem dFo_hasOperand_24 : decode cFo_hasOperand 24 = .ok (.goto 19, 3) := by decide +kernel
theorem dFo_hasOperand_27 : decode cFo_hasOperand 27 = .ok (.iconst 0, 1) := by decide +kernel
theorem dFo_hasOperand_28 : decode cFo_hasOperand 28 = .ok (.goto 15, 3) := by decide +kernel
theorem dFo_hasOperand_31 : decode cFo_hasOperand 31 = .ok (.lload_n 0, 1) := by decide +kernel
theorem dFo_hasOperand_32 : decode cFo_hasOperand 32 = .ok (.invokestatic 92, 3) := by decide +kernel
theorem dFo_hasOperand_35 : decode cFo_hasOperand 35 = .ok (.ifCond .ne 7, 3) := by decide +kernel
theorem dFo_hasOperand_38 : decode cFo_hasOperand 38 = .ok (.iconst 1, 1) := by decide +kernel
theorem dFo_hasOperand_39 : decode cFo_hasOperand 39 = .ok (.goto 4, 3) := by decide +kernel
theorem dFo_hasOperand_42 : decode cFo_hasOperand 42 = .ok (.iconst 0, 1) := by decide +kernel
theorem dFo_hasOperand_43 : decode cFo_hasOperand 43 = .ok (.ireturn, 1) := by decide +kernel
theorem dFo_isArithmetic_0 : decode cFo_isArithmetic 0 = .ok (.lload_n 0, 1) := by decide +kernel
theorem dFo_isArithmetic_1 : decode cFo_isArithmetic 1 = .ok (.invokestatic 95, 3) := by decide +kernel
theorem dFo_isArithmetic_4 : decode cFo_isArithmetic 4 = .ok (.bipush 9, 2) := by decide +kernel
theorem dFo_isArithmetic_6 : decode cFo_isArithmetic 6 = .ok (.if_icmp .le 5, 3) := by decide +kernel
theorem dFo_isArithmetic_9 : decode cFo_isArithmetic 9 = .ok (.iconst 0, 1) := by decide +kernel
theorem dFo_isArithmetic_10 : decode cFo_isArithmetic 10 = .ok (.ireturn, 1) := by decide +kernel
theorem dFo_isArithmetic_11 : decode cFo_isArithmetic 11 = .ok (.lload_n 0, 1) := by decide +kernel
theorem dFo_isArithmetic_12 : decode cFo_isArithmetic 12 = .ok (.invokestatic 122, 3) := by decide +kernel
theorem dFo_isArithmetic_15 : decode cFo_isArithmetic 15 = .ok (.tableswitch 154 3 15 #[65, 154, 154, 154, 154, 93, 65, 154, 127, 154, 147, 152, 152], 65) := by decide +kernel
theorem dFo_isArithmetic_80 : decode cFo_isArithmetic 80 = .ok (.lload_n 0, 1) := by decide +kernel
theorem dFo_isArithmetic_81 : decode cFo_isArithmetic 81 = .ok (.invokestatic 116, 3) := by decide +kernel
theorem dFo_isArithmetic_84 : decode cFo_isArithmetic 84 = .ok (.ifCond .eq 22, 3) := by decide +kernel
theorem dFo_isArithmetic_87 : decode cFo_isArithmetic 87 = .ok (.lload_n 0, 1) := by decide +kernel
theorem dFo_isArithmetic_88 : decode cFo_isArithmetic 88 = .ok (.invokestatic 98, 3) := by decide +kernel
theorem dFo_isArithmetic_91 : decode cFo_isArithmetic 91 = .ok (.ifCond .eq 11, 3) := by decide +kernel
theorem dFo_isArithmetic_94 : decode cFo_isArithmetic 94 = .ok (.lload_n 0, 1) := by decide +kernel
theorem dFo_isArithmetic_95 : decode cFo_isArithmetic 95 = .ok (.invokestatic 98, 3) := by decide +kernel
theorem dFo_isArithmetic_98 : decode cFo_isArithmetic 98 = .ok (.iconst 1, 1) := by decide +kernel
theorem dFo_isArithmetic_99 : decode cFo_isArithmetic 99 = .ok (.if_icmp .ne 7, 3) := by decide +kernel
theorem dFo_isArithmetic_102 : decode cFo_isArithmetic 102 = .ok (.iconst 1, 1) := by decide +kernel
theorem dFo_isArithmetic_103 : decode cFo_isArithmetic 103 = .ok (.goto 4, 3) := by decide +kernel
theorem dFo_isArithmetic_106 : decode cFo_isArithmetic 106 = .ok (.iconst 0, 1) := by decide +kernel
theorem dFo_isArithmetic_107 : decode cFo_isArithmetic 107 = .ok (.ireturn, 1) := by decide +kernel
theorem dFo_isArithmetic_108 : decode cFo_isArithmetic 108 = .ok (.lload_n 0, 1) := by decide +kernel
theorem dFo_isArithmetic_109 : decode cFo_isArithmetic 109 = .ok (.invokestatic 119, 3) := by decide +kernel
theorem dFo_isArithmetic_112 : decode cFo_isArithmetic 112 = .ok (.ifCond .ne 28, 3) := by decide +kernel
theorem dFo_isArithmetic_115 : decode cFo_isArithmetic 115 = .ok (.lload_n 0, 1) := by decide +kernel
theorem dFo_isArithmetic_116 : decode cFo_isArithmetic 116 = .ok (.invokestatic 116, 3) := by decide +kernel
theorem dFo_isArithmetic_119 : decode cFo_isArithmetic 119 = .ok (.ifCond .eq 21, 3) := by decide +kernel
theorem dFo_isArithmetic_122 : decode cFo_isArithmetic 122 = .ok (.lload_n 0, 1) := by decide +kernel
theorem dFo_isArithmetic_123 : decode cFo_isArithmetic 123 = .ok (.invokestatic 101, 3) := by decide +kernel
theorem dFo_isArithmetic_126 : decode cFo_isArithmetic 126 = .ok (.ifCond .ne 14, 3) := by decide +kernel
theorem dFo_isArithmetic_129 : decode cFo_isArithmetic 129 = .ok (.lload_n 0, 1) := by decide +kernel
theorem dFo_isArithmetic_130 : decode cFo_isArithmetic 130 = .ok (.invokestatic 98, 3) := by decide +kernel
theorem dFo_isArithmetic_133 : decode cFo_isArithmetic 133 = .ok (.ifCond .ne 7, 3) := by decide +kernel
theorem dFo_isArithmetic_136 : decode cFo_isArithmetic 136 = .ok (.iconst 1, 1) := by decide +kernel
theorem dFo_isArithmetic_137 : decode cFo_isArithmetic 137 = .ok (.goto 4, 3) := by decide +kernel
theorem dFo_isArithmetic_140 : decode cFo_isArithmetic 140 = .ok (.iconst 0, 1) := by decide +kernel
theorem dFo_isArithmetic_141 : decode cFo_isArithmetic 141 = .ok (.ireturn, 1) := by decide +kernel
theorem dFo_isArithmetic_142 : decode cFo_isArithmetic 142 = .ok (.lload_n 0, 1) := by decide +kernel
theorem dFo_isArithmetic_143 : decode cFo_isArithmetic 143 = .ok (.invokestatic 116, 3) := by decide +kernel
theorem dFo_isArithmetic_146 : decode cFo_isArithmetic 146 = .ok (.ifCond .eq 14, 3) := by decide +kernel
theorem dFo_isArithmetic_149 : decode cFo_isArithmetic 149 = .ok (.lload_n 0, 1) := by decide +kernel
theorem dFo_isArithmetic_150 : decode cFo_isArithmetic 150 = .ok (.invokestatic 125, 3) := by decide +kernel
theorem dFo_isArithmetic_153 : decode cFo_isArithmetic 153 = .ok (.ifCond .eq 7, 3) := by decide +kernel
theorem dFo_isArithmetic_156 : decode cFo_isArithmetic 156 = .ok (.iconst 1, 1) := by decide +kernel
theorem dFo_isArithmetic_157 : decode cFo_isArithmetic 157 = .ok (.goto 4, 3) := by decide +kernel
theorem dFo_isArithmetic_160 : decode cFo_isArithmetic 160 = .ok (.iconst 0, 1) := by decide +kernel
theorem dFo_isArithmetic_161 : decode cFo_isArithmetic 161 = .ok (.ireturn, 1) := by decide +kernel
theorem dFo_isArithmetic_162 : decode cFo_isArithmetic 162 = .ok (.lload_n 0, 1) := by decide +kernel
theorem dFo_isArithmetic_163 : decode cFo_isArithmetic 163 = .ok (.invokestatic 128, 3) := by decide +kernel
theorem dFo_isArithmetic_166 : decode cFo_isArithmetic 166 = .ok (.ireturn, 1) := by decide +kernel
theorem dFo_isArithmetic_167 : decode cFo_isArithmetic 167 = .ok (.iconst 0, 1) := by decide +kernel
theorem dFo_isArithmetic_168 : decode cFo_isArithmetic 168 = .ok (.ireturn, 1) := by decide +kernel
theorem dFo_isArithmetic_169 : decode cFo_isArithmetic 169 = .ok (.lload_n 0, 1) := by decide +kernel
theorem dFo_isArithmetic_170 : decode cFo_isArithmetic 170 = .ok (.invokestatic 116, 3) := by decide +kernel
theorem dFo_isArithmetic_173 : decode cFo_isArithmetic 173 = .ok (.ifCond .eq 14, 3) := by decide +kernel
theorem dFo_isArithmetic_176 : decode cFo_isArithmetic 176 = .ok (.lload_n 0, 1) := by decide +kernel
theorem dFo_isArithmetic_177 : decode cFo_isArithmetic 177 = .ok (.invokestatic 98, 3) := by decide +kernel
theorem dFo_isArithmetic_180 : decode cFo_isArithmetic 180 = .ok (.ifCond .ne 7, 3) := by decide +kernel
theorem dFo_isArithmetic_183 : decode cFo_isArithmetic 183 = .ok (.iconst 1, 1) := by decide +kernel
theorem dFo_isArithmetic_184 : decode cFo_isArithmetic 184 = .ok (.goto 4, 3) := by decide +kernel
theorem dFo_isArithmetic_187 : decode cFo_isArithmetic 187 = .ok (.iconst 0, 1) := by decide +kernel
theorem dFo_isArithmetic_188 : decode cFo_isArithmetic 188 = .ok (.ireturn, 1) := by decide +kernel
theorem dFo_isMoveOffset_0 : decode cFo_isMoveOffset 0 = .ok (.lload_n 0, 1) := by decide +kernel
theorem dFo_isMoveOffset_1 : decode cFo_isMoveOffset 1 = .ok (.invokestatic 98, 3) := by decide +kernel
theorem dFo_isMoveOffset_4 : decode cFo_isMoveOffset 4 = .ok (.lookupswitch 73 #[(0, 44), (8, 46), (16, 46), (32, 51)], 44) := by decide +kernel
theorem dFo_isMoveOffset_48 : decode cFo_isMoveOffset 48 = .ok (.iconst 1, 1) := by decide +kernel
theorem dFo_isMoveOffset_49 : decode cFo_isMoveOffset 49 = .ok (.ireturn, 1) := by decide +kernel
theorem dFo_isMoveOffset_50 : decode cFo_isMoveOffset 50 = .ok (.lload_n 0, 1) := by decide +kernel
theorem dFo_isMoveOffset_51 : decode cFo_isMoveOffset 51 = .ok (.invokestatic 119, 3) := by decide +kernel
theorem dFo_isMoveOffset_54 : decode cFo_isMoveOffset 54 = .ok (.ireturn, 1) := by decide +kernel
theorem dFo_isMoveOffset_55 : decode cFo_isMoveOffset 55 = .ok (.lload_n 0, 1) := by decide +kernel
theorem dFo_isMoveOffset_56 : decode cFo_isMoveOffset 56 = .ok (.invokestatic 119, 3) := by decide +kernel
theorem dFo_isMoveOffset_59 : decode cFo_isMoveOffset 59 = .ok (.ifCond .eq 16, 3) := by decide +kernel
theorem dFo_isMoveOffset_62 : decode cFo_isMoveOffset 62 = .ok (.lload_n 0, 1) := by decide +kernel
theorem dFo_isMoveOffset_63 : decode cFo_isMoveOffset 63 = .ok (.invokestatic 62, 3) := by decide +kernel
theorem dFo_isMoveOffset_66 : decode cFo_isMoveOffset 66 = .ok (.bipush 7, 2) := by decide +kernel
theorem dFo_isMoveOffset_68 : decode cFo_isMoveOffset 68 = .ok (.if_icmp .ne 7, 3) := by decide +kernel
theorem dFo_isMoveOffset_71 : decode cFo_isMoveOffset 71 = .ok (.iconst 1, 1) := by decide +kernel
theorem dFo_isMoveOffset_72 : decode cFo_isMoveOffset 72 = .ok (.goto 4, 3) := by decide +kernel
theorem dFo_isMoveOffset_75 : decode cFo_isMoveOffset 75 = .ok (.iconst 0, 1) := by decide +kernel
theorem dFo_isMoveOffset_76 : decode cFo_isMoveOffset 76 = .ok (.ireturn, 1) := by decide +kernel
theorem dFo_isMoveOffset_77 : decode cFo_isMoveOffset 77 = .ok (.iconst 0, 1) := by decide +kernel
theorem dFo_isMoveOffset_78 : decode cFo_isMoveOffset 78 = .ok (.ireturn, 1) := by decide +kernel
theorem dFo_isTurning_0 : decode cFo_isTurning 0 = .ok (.lload_n 0, 1) := by decide +kernel
theorem dFo_isTurning_1 : decode cFo_isTurning 1 = .ok (.invokestatic 101, 3) := by decide +kernel
theorem dFo_isTurning_4 : decode cFo_isTurning 4 = .ok (.istore_n 2, 1) := by decide +kernel
theorem dFo_isTurning_5 : decode cFo_isTurning 5 = .ok (.lload_n 0, 1) := by decide +kernel
theorem dFo_isTurning_6 : decode cFo_isTurning 6 = .ok (.invokestatic 62, 3) := by decide +kernel
theorem dFo_isTurning_9 : decode cFo_isTurning 9 = .ok (.iconst 4, 1) := by decide +kernel
theorem dFo_isTurning_10 : decode cFo_isTurning 10 = .ok (.if_icmp .eq 10, 3) := by decide +kernel
theorem dFo_isTurning_13 : decode cFo_isTurning 13 = .ok (.lload_n 0, 1) := by decide +kernel
theorem dFo_isTurning_14 : decode cFo_isTurning 14 = .ok (.invokestatic 119, 3) := by decide +kernel
theorem dFo_isTurning_17 : decode cFo_isTurning 17 = .ok (.ifCond .ne 39, 3) := by decide +kernel
theorem dFo_isTurning_20 : decode cFo_isTurning 20 = .ok (.lload_n 0, 1) := by decide +kernel
theorem dFo_isTurning_21 : decode cFo_isTurning 21 = .ok (.invokestatic 92, 3) := by decide +kernel
theorem dFo_isTurning_24 : decode cFo_isTurning 24 = .ok (.ifCond .ne 32, 3) := by decide +kernel
theorem dFo_isTurning_27 : decode cFo_isTurning 27 = .ok (.lload_n 0, 1) := by decide +kernel
theorem dFo_isTurning_28 : decode cFo_isTurning 28 = .ok (.invokestatic 98, 3) := by decide +kernel
theorem dFo_isTurning_31 : decode cFo_isTurning 31 = .ok (.ifCond .ne 25, 3) := by decide +kernel
theorem dFo_isTurning_34 : decode cFo_isTurning 34 = .ok (.iload_n 2, 1) := by decide +kernel
theorem dFo_isTurning_35 : decode cFo_isTurning 35 = .ok (.bipush 16, 2) := by decide +kernel
theorem dFo_isTurning_37 : decode cFo_isTurning 37 = .ok (.if_icmp .eq 15, 3) := by decide +kernel
theorem dFo_isTurning_40 : decode cFo_isTurning 40 = .ok (.iload_n 2, 1) := by decide +kernel
theorem dFo_isTurning_41 : decode cFo_isTurning 41 = .ok (.bipush 32, 2) := by decide +kernel
theorem dFo_isTurning_43 : decode cFo_isTurning 43 = .ok (.if_icmp .eq 9, 3) := by decide +kernel
theorem dFo_isTurning_46 : decode cFo_isTurning 46 = .ok (.iload_n 2, 1) := by decide +kernel
theorem dFo_isTurning_47 : decode cFo_isTurning 47 = .ok (.bipush 64, 2) := by decide +kernel
theorem dFo_isTurning_49 : decode cFo_isTurning 49 = .ok (.if_icmp .ne 7, 3) := by decide +kernel
theorem dFo_isTurning_52 : decode cFo_isTurning 52 = .ok (.iconst 1, 1) := by decide +kernel
theorem dFo_isTurning_53 : decode cFo_isTurning 53 = .ok (.goto 4, 3) := by decide +kernel
theorem dFo_isTurning_56 : decode cFo_isTurning 56 = .ok (.iconst 0, 1) := by decide +kernel
theorem dFo_isTurning_57 : decode cFo_isTurning 57 = .ok (.ireturn, 1) := by decide +kernel
end
section
theorem dJl_reverseBytes_0 : decode cJl_reverseBytes 0 = .ok (.lload_n 0, 1) := by decide +kernel
theorem dJl_reverseBytes_1 : decode cJl_reverseBytes 1 = .ok (.ldc2_w 327, 3) := by decide +kernel
theorem dJl_reverseBytes_4 : decode cJl_reverseBytes 4 = .ok (.land, 1) := by decide +kernel
theorem dJl_reverseBytes_5 : decode cJl_reverseBytes 5 = .ok (.bipush 8, 2) := by decide +kernel
theorem dJl_reverseBytes_7 : decode cJl_reverseBytes 7 = .ok (.lshl, 1) := by decide +kernel
theorem dJl_reverseBytes_8 : decode cJl_reverseBytes 8 = .ok (.lload_n 0, 1) := by decide +kernel
theorem dJl_reverseBytes_9 : decode cJl_reverseBytes 9 = .ok (.bipush 8, 2) := by decide +kernel
theorem dJl_reverseBytes_11 : decode cJl_reverseBytes 11 = .ok (.lushr, 1) := by decide +kernel
theorem dJl_reverseBytes_12 : decode cJl_reverseBytes 12 = .ok (.ldc2_w 327, 3) := by decide +kernel
theorem dJl_reverseBytes_15 : decode cJl_reverseBytes 15 = .ok (.land, 1) := by decide +kernel
theorem dJl_reverseBytes_16 : decode cJl_reverseBytes 16 = .ok (.lor, 1) := by decide +kernel
theorem dJl_reverseBytes_17 : decode cJl_reverseBytes 17 = .ok (.lstore_n 0, 1) := by decide +kernel
theorem dJl_reverseBytes_18 : decode cJl_reverseBytes 18 = .ok (.lload_n 0, 1) := by decide +kernel
theorem dJl_reverseBytes_19 : decode cJl_reverseBytes 19 = .ok (.bipush 48, 2) := by decide +kernel
theorem dJl_reverseBytes_21 : decode cJl_reverseBytes 21 = .ok (.lshl, 1) := by decide +kernel
theorem dJl_reverseBytes_22 : decode cJl_reverseBytes 22 = .ok (.lload_n 0, 1) := by decide +kernel
theorem dJl_reverseBytes_23 : decode cJl_reverseBytes 23 = .ok (.ldc2_w 329, 3) := by decide +kernel
theorem dJl_reverseBytes_26 : decode cJl_reverseBytes 26 = .ok (.land, 1) := by decide +kernel
theorem dJl_reverseBytes_27 : decode cJl_reverseBytes 27 = .ok (.bipush 16, 2) := by decide +kernel
theorem dJl_reverseBytes_29 : decode cJl_reverseBytes 29 = .ok (.lshl, 1) := by decide +kernel
theorem dJl_reverseBytes_30 : decode cJl_reverseBytes 30 = .ok (.lor, 1) := by decide +kernel
theorem dJl_reverseBytes_31 : decode cJl_reverseBytes 31 = .ok (.lload_n 0, 1) := by decide +kernel
theorem dJl_reverseBytes_32 : decode cJl_reverseBytes 32 = .ok (.bipush 16, 2) := by decide +kernel
theorem dJl_reverseBytes_34 : decode cJl_reverseBytes 34 = .ok (.lushr, 1) := by decide +kernel
theorem dJl_reverseBytes_35 : decode cJl_reverseBytes 35 = .ok (.ldc2_w 329, 3) := by decide +kernel
theorem dJl_reverseBytes_38 : decode cJl_reverseBytes 38 = .ok (.land, 1) := by decide +kernel
theorem dJl_reverseBytes_39 : decode cJl_reverseBytes 39 = .ok (.lor, 1) := by decide +kernel
theorem dJl_reverseBytes_40 : decode cJl_reverseBytes 40 = .ok (.lload_n 0, 1) := by decide +kernel
theorem dJl_reverseBytes_41 : decode cJl_reverseBytes 41 = .ok (.bipush 48, 2) := by decide +kernel
theorem dJl_reverseBytes_43 : decode cJl_reverseBytes 43 = .ok (.lushr, 1) := by decide +kernel
theorem dJl_reverseBytes_44 : decode cJl_reverseBytes 44 = .ok (.lor, 1) := by decide +kernel
theorem dJl_reverseBytes_45 : decode cJl_reverseBytes 45 = .ok (.lreturn, 1) := by decide +kernel
end
section
theorem dMa_follow_0 : decode cMa_follow 0 = .ok (.aload_n 1, 1) := by decide +kernel
theorem dMa_follow_1 : decode cMa_follow 1 = .ok (.iload_n 2, 1) := by decide +kernel
theorem dMa_follow_2 : decode cMa_follow 2 = .ok (.invokevirtual 20, 3) := by decide +kernel
theorem dMa_follow_5 : decode cMa_follow 5 = .ok (.lstore_n 3, 1) := by decide +kernel
theorem dMa_follow_6 : decode cMa_follow 6 = .ok (.lload_n 3, 1) := by decide +kernel
theorem dMa_follow_7 : decode cMa_follow 7 = .ok (.invokestatic 26, 3) := by decide +kernel
theorem dMa_follow_10 : decode cMa_follow 10 = .ok (.tableswitch 146 0 6 #[42, 58, 75, 97, 146, 139, 139], 42) := by decide +kernel
theorem dMa_follow_52 : decode cMa_follow 52 = .ok (.aload_n 0, 1) := by decide +kernel
theorem dMa_follow_53 : decode cMa_follow 53 = .ok (.lload_n 3, 1) := by decide +kernel
theorem dMa_follow_54 : decode cMa_follow 54 = .ok (.aload_n 1, 1) := by decide +kernel
theorem dMa_follow_55 : decode cMa_follow 55 = .ok (.iload_n 2, 1) := by decide +kernel
theorem dMa_follow_56 : decode cMa_follow 56 = .ok (.iconst 1, 1) := by decide +kernel
theorem dMa_follow_57 : decode cMa_follow 57 = .ok (.iadd, 1) := by decide +kernel
theorem dMa_follow_58 : decode cMa_follow 58 = .ok (.invokevirtual 20, 3) := by decide +kernel
theorem dMa_follow_61 : decode cMa_follow 61 = .ok (.invokevirtual 32, 3) := by decide +kernel
theorem dMa_follow_64 : decode cMa_follow 64 = .ok (.iload_n 2, 1) := by decide +kernel
theorem dMa_follow_65 : decode cMa_follow 65 = .ok (.iconst 2, 1) := by decide +kernel
theorem dMa_follow_66 : decode cMa_follow 66 = .ok (.iadd, 1) := by decide +kernel
theorem dMa_follow_67 : decode cMa_follow 67 = .ok (.ireturn, 1) := by decide +kernel
theorem dMa_follow_68 : decode cMa_follow 68 = .ok (.aload_n 0, 1) := by decide +kernel
theorem dMa_follow_69 : decode cMa_follow 69 = .ok (.lload_n 3, 1) := by decide +kernel
theorem dMa_follow_70 : decode cMa_follow 70 = .ok (.invokevirtual 36, 3) := by decide +kernel
theorem dMa_follow_73 : decode cMa_follow 73 = .ok (.ifCond .eq 9, 3) := by decide +kernel
theorem dMa_follow_76 : decode cMa_follow 76 = .ok (.iload_n 2, 1) := by decide +kernel
theorem dMa_follow_77 : decode cMa_follow 77 = .ok (.iconst 1, 1) := by decide +kernel
theorem dMa_follow_78 : decode cMa_follow 78 = .ok (.iadd, 1) := by decide +kernel
theorem dMa_follow_79 : decode cMa_follow 79 = .ok (.goto 5, 3) := by decide +kernel
theorem dMa_follow_82 : decode cMa_follow 82 = .ok (.bipush (-2), 2) := by decide +kernel
theorem dMa_follow_84 : decode cMa_follow 84 = .ok (.ireturn, 1) := by decide +kernel
theorem dMa_follow_85 : decode cMa_follow 85 = .ok (.aload_n 0, 1) := by decide +kernel
theorem dMa_follow_86 : decode cMa_follow 86 = .ok (.lload_n 3, 1) := by decide +kernel
theorem dMa_follow_87 : decode cMa_follow 87 = .ok (.lload_n 3, 1) := by decide +kernel
theorem dMa_follow_88 : decode cMa_follow 88 = .ok (.invokestatic 40, 3) := by decide +kernel
theorem dMa_follow_91 : decode cMa_follow 91 = .ok (.i2l, 1) := by decide +kernel
theorem dMa_follow_92 : decode cMa_follow 92 = .ok (.invokevirtual 43, 3) := by decide +kernel
theorem dMa_follow_95 : decode cMa_follow 95 = .ok (.ifCond .eq 9, 3) := by decide +kernel
theorem dMa_follow_98 : decode cMa_follow 98 = .ok (.iload_n 2, 1) := by decide +kernel
theorem dMa_follow_99 : decode cMa_follow 99 = .ok (.iconst 1, 1) := by decide +kernel
theorem dMa_follow_100 : decode cMa_follow 100 = .ok (.iadd, 1) := by decide +kernel
theorem dMa_follow_101 : decode cMa_follow 101 = .ok (.goto 5, 3) := by decide +kernel
theorem dMa_follow_104 : decode cMa_follow 104 = .ok (.bipush (-2), 2) := by decide +kernel
theorem dMa_follow_106 : decode cMa_follow 106 = .ok (.ireturn, 1) := by decide +kernel
theorem dMa_follow_107 : decode cMa_follow 107 = .ok (.lload_n 3, 1) := by decide +kernel
theorem dMa_follow_108 : decode cMa_follow 108 = .ok (.invokestatic 47, 3) := by decide +kernel
theorem dMa_follow_111 : decode cMa_follow 111 = .ok (.bipush 6, 2) := by decide +kernel
theorem dMa_follow_113 : decode cMa_follow 113 = .ok (.if_icmp .ne 14, 3) := by decide +kernel
theorem dMa_follow_116 : decode cMa_follow 116 = .ok (.aload_n 0, 1) := by decide +kernel
theorem dMa_follow_117 : decode cMa_follow 117 = .ok (.lload_n 3, 1) := by decide +kernel
theorem dMa_follow_118 : decode cMa_follow 118 = .ok (.invokevirtual 50, 3) := by decide +kernel
theorem dMa_follow_121 : decode cMa_follow 121 = .ok (.ifCond .eq 25, 3) := by decide +kernel
theorem dMa_follow_124 : decode cMa_follow 124 = .ok (.goto 16, 3) := by decide +kernel
theorem dMa_follow_127 : decode cMa_follow 127 = .ok (.aload_n 0, 1) := by decide +kernel
theorem dMa_follow_128 : decode cMa_follow 128 = .ok (.lload_n 3, 1) := by decide +kernel
theorem dMa_follow_129 : decode cMa_follow 129 = .ok (.aload_n 0, 1) := by decide +kernel
theorem dMa_follow_130 : decode cMa_follow 130 = .ok (.lload_n 3, 1) := by decide +kernel
theorem dMa_follow_131 : decode cMa_follow 131 = .ok (.invokevirtual 53, 3) := by decide +kernel
theorem dMa_follow_134 : decode cMa_follow 134 = .ok (.invokevirtual 43, 3) := by decide +kernel
theorem dMa_follow_137 : decode cMa_follow 137 = .ok (.ifCond .eq 9, 3) := by decide +kernel
theorem dMa_follow_140 : decode cMa_follow 140 = .ok (.iload_n 2, 1) := by decide +kernel
theorem dMa_follow_141 : decode cMa_follow 141 = .ok (.iconst 1, 1) := by decide +kernel
theorem dMa_follow_142 : decode cMa_follow 142 = .ok (.iadd, 1) := by decide +kernel
theorem dMa_follow_143 : decode cMa_follow 143 = .ok (.goto 5, 3) := by decide +kernel
theorem dMa_follow_146 : decode cMa_follow 146 = .ok (.bipush (-2), 2) := by decide +kernel
theorem dMa_follow_148 : decode cMa_follow 148 = .ok (.ireturn, 1) := by decide +kernel
theorem dMa_follow_149 : decode cMa_follow 149 = .ok (.aload_n 0, 1) := by decide +kernel
theorem dMa_follow_150 : decode cMa_follow 150 = .ok (.iload_n 2, 1) := by decide +kernel
theorem dMa_follow_151 : decode cMa_follow 151 = .ok (.lload_n 3, 1) := by decide +kernel
theorem dMa_follow_152 : decode cMa_follow 152 = .ok (.invokevirtual 57, 3) := by decide +kernel
theorem dMa_follow_155 : decode cMa_follow 155 = .ok (.ireturn, 1) := by decide +kernel
theorem dMa_follow_156 : decode cMa_follow 156 = .ok (.aload_n 0, 1) := by decide +kernel
theorem dMa_follow_157 : decode cMa_follow 157 = .ok (.getfield 7, 3) := by decide +kernel
theorem dMa_follow_160 : decode cMa_follow 160 = .ok (.lload_n 3, 1) := by decide +kernel
theorem dMa_follow_161 : decode cMa_follow 161 = .ok (.invokestatic 61, 3) := by decide +kernel
theorem dMa_follow_164 : decode cMa_follow 164 = .ok (.aload_n 0, 1) := by decide +kernel
theorem dMa_follow_165 : decode cMa_follow 165 = .ok (.lload_n 3, 1) := by decide +kernel
theorem dMa_follow_166 : decode cMa_follow 166 = .ok (.invokevirtual 64, 3) := by decide +kernel
theorem dMa_follow_169 : decode cMa_follow 169 = .ok (.lastore, 1) := by decide +kernel
theorem dMa_follow_170 : decode cMa_follow 170 = .ok (.iload_n 2, 1) := by decide +kernel
theorem dMa_follow_171 : decode cMa_follow 171 = .ok (.iconst 1, 1) := by decide +kernel
theorem dMa_follow_172 : decode cMa_follow 172 = .ok (.iadd, 1) := by decide +kernel
theorem dMa_follow_173 : decode cMa_follow 173 = .ok (.ireturn, 1) := by decide +kernel
theorem dMa_x_0 : decode cMa_x 0 = .ok (.aload_n 0, 1) := by decide +kernel
theorem dMa_x_1 : decode cMa_x 1 = .ok (.getfield 7, 3) := by decide +kernel
theorem dMa_x_4 : decode cMa_x 4 = .ok (.lload_n 1, 1) := by decide +kernel
theorem dMa_x_5 : decode cMa_x 5 = .ok (.invokestatic 61, 3) := by decide +kernel
theorem dMa_x_8 : decode cMa_x 8 = .ok (.laload, 1) := by decide +kernel
theorem dMa_x_9 : decode cMa_x 9 = .ok (.lreturn, 1) := by decide +kernel
theorem dMa_y_0 : decode cMa_y 0 = .ok (.aload_n 0, 1) := by decide +kernel
theorem dMa_y_1 : decode cMa_y 1 = .ok (.getfield 7, 3) := by decide +kernel
theorem dMa_y_4 : decode cMa_y 4 = .ok (.lload_n 1, 1) := by decide +kernel
theorem dMa_y_5 : decode cMa_y 5 = .ok (.invokestatic 67, 3) := by decide +kernel
theorem dMa_y_8 : decode cMa_y 8 = .ok (.laload, 1) := by decide +kernel
theorem dMa_y_9 : decode cMa_y 9 = .ok (.lreturn, 1) := by decide +kernel
theorem dMa_operand_0 : decode cMa_operand 0 = .ok (.lload_n 1, 1) := by decide +kernel
theorem dMa_operand_1 : decode cMa_operand 1 = .ok (.invokestatic 70, 3) := by decide +kernel
theorem dMa_operand_4 : decode cMa_operand 4 = .ok (.ifCond .eq 11, 3) := by decide +kernel
theorem dMa_operand_7 : decode cMa_operand 7 = .ok (.aload_n 0, 1) := by decide +kernel
theorem dMa_operand_8 : decode cMa_operand 8 = .ok (.lload_n 1, 1) := by decide +kernel
theorem dMa_operand_9 : decode cMa_operand 9 = .ok (.invokevirtual 53, 3) := by decide +kernel
theorem dMa_operand_12 : decode cMa_operand 12 = .ok (.goto 8, 3) := by decide +kernel
theorem dMa_operand_15 : decode cMa_operand 15 = .ok (.lload_n 1, 1) := by decide +kernel
theorem dMa_operand_16 : decode cMa_operand 16 = .ok (.invokestatic 40, 3) := by decide +kernel
theorem dMa_operand_19 : decode cMa_operand 19 = .ok (.i2l, 1) := by decide +kernel
theorem dMa_operand_20 : decode cMa_operand 20 = .ok (.lreturn, 1) := by decide +kernel
theorem dMa_takeTwoPlaces_0 : decode cMa_takeTwoPlaces 0 = .ok (.lload_n 3, 1) := by decide +kernel
theorem dMa_takeTwoPlaces_1 : decode cMa_takeTwoPlaces 1 = .ok (.invokestatic 40, 3) := by decide +kernel
theorem dMa_takeTwoPlaces_4 : decode cMa_takeTwoPlaces 4 = .ok (.i2l, 1) := by decide +kernel
theorem dMa_takeTwoPlaces_5 : decode cMa_takeTwoPlaces 5 = .ok (.lstore 5, 2) := by decide +kernel
theorem dMa_takeTwoPlaces_7 : decode cMa_takeTwoPlaces 7 = .ok (.aload_n 0, 1) := by decide +kernel
theorem dMa_takeTwoPlaces_8 : decode cMa_takeTwoPlaces 8 = .ok (.getfield 7, 3) := by decide +kernel
theorem dMa_takeTwoPlaces_11 : decode cMa_takeTwoPlaces 11 = .ok (.lload_n 1, 1) := by decide +kernel
theorem dMa_takeTwoPlaces_12 : decode cMa_takeTwoPlaces 12 = .ok (.invokestatic 61, 3) := by decide +kernel
theorem dMa_takeTwoPlaces_15 : decode cMa_takeTwoPlaces 15 = .ok (.lload 5, 2) := by decide +kernel
theorem dMa_takeTwoPlaces_17 : decode cMa_takeTwoPlaces 17 = .ok (.bipush 32, 2) := by decide +kernel
theorem dMa_takeTwoPlaces_19 : decode cMa_takeTwoPlaces 19 = .ok (.lshl, 1) := by decide +kernel
theorem dMa_takeTwoPlaces_20 : decode cMa_takeTwoPlaces 20 = .ok (.lload_n 1, 1) := by decide +kernel
theorem dMa_takeTwoPlaces_21 : decode cMa_takeTwoPlaces 21 = .ok (.invokestatic 40, 3) := by decide +kernel
theorem dMa_takeTwoPlaces_24 : decode cMa_takeTwoPlaces 24 = .ok (.i2l, 1) := by decide +kernel
theorem dMa_takeTwoPlaces_25 : decode cMa_takeTwoPlaces 25 = .ok (.bipush 32, 2) := by decide +kernel
theorem dMa_takeTwoPlaces_27 : decode cMa_takeTwoPlaces 27 = .ok (.invokestatic 73, 3) := by decide +kernel
theorem dMa_takeTwoPlaces_30 : decode cMa_takeTwoPlaces 30 = .ok (.lor, 1) := by decide +kernel
theorem dMa_takeTwoPlaces_31 : decode cMa_takeTwoPlaces 31 = .ok (.lastore, 1) := by decide +kernel
theorem dMa_takeTwoPlaces_32 : decode cMa_takeTwoPlaces 32 = .ok (.return_, 1) := by decide +kernel
theorem dMa_read_0 : decode cMa_read 0 = .ok (.lload_n 1, 1) := by decide +kernel
theorem dMa_read_1 : decode cMa_read 1 = .ok (.invokestatic 79, 3) := by decide +kernel
theorem dMa_read_4 : decode cMa_read 4 = .ok (.istore_n 3, 1) := by decide +kernel
theorem dMa_read_5 : decode cMa_read 5 = .ok (.aload_n 0, 1) := by decide +kernel
theorem dMa_read_6 : decode cMa_read 6 = .ok (.lload_n 1, 1) := by decide +kernel
theorem dMa_read_7 : decode cMa_read 7 = .ok (.invokevirtual 53, 3) := by decide +kernel
theorem dMa_read_10 : decode cMa_read 10 = .ok (.lload_n 1, 1) := by decide +kernel
theorem dMa_read_11 : decode cMa_read 11 = .ok (.invokestatic 82, 3) := by decide +kernel
theorem dMa_read_14 : decode cMa_read 14 = .ok (.i2l, 1) := by decide +kernel
theorem dMa_read_15 : decode cMa_read 15 = .ok (.ladd, 1) := by decide +kernel
theorem dMa_read_16 : decode cMa_read 16 = .ok (.lstore 4, 2) := by decide +kernel
theorem dMa_read_18 : decode cMa_read 18 = .ok (.aload_n 0, 1) := by decide +kernel
theorem dMa_read_19 : decode cMa_read 19 = .ok (.getfield 16, 3) := by decide +kernel
theorem dMa_read_22 : decode cMa_read 22 = .ok (.lload 4, 2) := by decide +kernel
theorem dMa_read_24 : decode cMa_read 24 = .ok (.iload_n 3, 1) := by decide +kernel
theorem dMa_read_25 : decode cMa_read 25 = .ok (.invokevirtual 85, 3) := by decide +kernel
theorem dMa_read_28 : decode cMa_read 28 = .ok (.ifCond .ne 5, 3) := by decide +kernel
theorem dMa_read_31 : decode cMa_read 31 = .ok (.iconst 0, 1) := by decide +kernel
theorem dMa_read_32 : decode cMa_read 32 = .ok (.ireturn, 1) := by decide +kernel
theorem dMa_read_33 : decode cMa_read 33 = .ok (.aload_n 0, 1) := by decide +kernel
theorem dMa_read_34 : decode cMa_read 34 = .ok (.getfield 16, 3) := by decide +kernel
theorem dMa_read_37 : decode cMa_read 37 = .ok (.lload 4, 2) := by decide +kernel
theorem dMa_read_39 : decode cMa_read 39 = .ok (.iload_n 3, 1) := by decide +kernel
theorem dMa_read_40 : decode cMa_read 40 = .ok (.invokevirtual 89, 3) := by decide +kernel
theorem dMa_read_43 : decode cMa_read 43 = .ok (.lstore 6, 2) := by decide +kernel
theorem dMa_read_45 : decode cMa_read 45 = .ok (.aload_n 0, 1) := by decide +kernel
theorem dMa_read_46 : decode cMa_read 46 = .ok (.getfield 7, 3) := by decide +kernel
theorem dMa_read_49 : decode cMa_read 49 = .ok (.lload_n 1, 1) := by decide +kernel
theorem dMa_read_50 : decode cMa_read 50 = .ok (.invokestatic 61, 3) := by decide +kernel
theorem dMa_read_53 : decode cMa_read 53 = .ok (.lload_n 1, 1) := by decide +kernel
theorem dMa_read_54 : decode cMa_read 54 = .ok (.invokestatic 47, 3) := by decide +kernel
theorem dMa_read_57 : decode cMa_read 57 = .ok (.iconst 4, 1) := by decide +kernel
theorem dMa_read_58 : decode cMa_read 58 = .ok (.if_icmp .ne 15, 3) := by decide +kernel
theorem dMa_read_61 : decode cMa_read 61 = .ok (.lload 6, 2) := by decide +kernel
theorem dMa_read_63 : decode cMa_read 63 = .ok (.bipush 8, 2) := by decide +kernel
theorem dMa_read_65 : decode cMa_read 65 = .ok (.iload_n 3, 1) := by decide +kernel
theorem dMa_read_66 : decode cMa_read 66 = .ok (.imul, 1) := by decide +kernel
theorem dMa_read_67 : decode cMa_read 67 = .ok (.invokestatic 91, 3) := by decide +kernel
theorem dMa_read_70 : decode cMa_read 70 = .ok (.goto 5, 3) := by decide +kernel
theorem dMa_read_73 : decode cMa_read 73 = .ok (.lload 6, 2) := by decide +kernel
theorem dMa_read_75 : decode cMa_read 75 = .ok (.lastore, 1) := by decide +kernel
theorem dMa_read_76 : decode cMa_read 76 = .ok (.iconst 1, 1) := by decide +kernel
theorem dMa_read_77 : decode cMa_read 77 = .ok (.ireturn, 1) := by decide +kernel
theorem dMa_write_0 : decode cMa_write 0 = .ok (.lload_n 1, 1) := by decide +kernel
theorem dMa_write_1 : decode cMa_write 1 = .ok (.invokestatic 79, 3) := by decide +kernel
theorem dMa_write_4 : decode cMa_write 4 = .ok (.istore 5, 2) := by decide +kernel
theorem dMa_write_6 : decode cMa_write 6 = .ok (.aload_n 0, 1) := by decide +kernel
theorem dMa_write_7 : decode cMa_write 7 = .ok (.lload_n 1, 1) := by decide +kernel
theorem dMa_write_8 : decode cMa_write 8 = .ok (.invokevirtual 94, 3) := by decide +kernel
theorem dMa_write_11 : decode cMa_write 11 = .ok (.lload_n 1, 1) := by decide +kernel
theorem dMa_write_12 : decode cMa_write 12 = .ok (.invokestatic 82, 3) := by decide +kernel
theorem dMa_write_15 : decode cMa_write 15 = .ok (.i2l, 1) := by decide +kernel
theorem dMa_write_16 : decode cMa_write 16 = .ok (.ladd, 1) := by decide +kernel
theorem dMa_write_17 : decode cMa_write 17 = .ok (.lstore 6, 2) := by decide +kernel
theorem dMa_write_19 : decode cMa_write 19 = .ok (.aload_n 0, 1) := by decide +kernel
theorem dMa_write_20 : decode cMa_write 20 = .ok (.getfield 16, 3) := by decide +kernel
theorem dMa_write_23 : decode cMa_write 23 = .ok (.lload 6, 2) := by decide +kernel
theorem dMa_write_25 : decode cMa_write 25 = .ok (.iload 5, 2) := by decide +kernel
theorem dMa_write_27 : decode cMa_write 27 = .ok (.invokevirtual 85, 3) := by decide +kernel
theorem dMa_write_30 : decode cMa_write 30 = .ok (.ifCond .ne 5, 3) := by decide +kernel
theorem dMa_write_33 : decode cMa_write 33 = .ok (.iconst 0, 1) := by decide +kernel
theorem dMa_write_34 : decode cMa_write 34 = .ok (.ireturn, 1) := by decide +kernel
theorem dMa_write_35 : decode cMa_write 35 = .ok (.aload_n 0, 1) := by decide +kernel
theorem dMa_write_36 : decode cMa_write 36 = .ok (.getfield 16, 3) := by decide +kernel
theorem dMa_write_39 : decode cMa_write 39 = .ok (.lload 6, 2) := by decide +kernel
theorem dMa_write_41 : decode cMa_write 41 = .ok (.iload 5, 2) := by decide +kernel
theorem dMa_write_43 : decode cMa_write 43 = .ok (.lload_n 3, 1) := by decide +kernel
theorem dMa_write_44 : decode cMa_write 44 = .ok (.invokevirtual 97, 3) := by decide +kernel
theorem dMa_write_47 : decode cMa_write 47 = .ok (.iconst 1, 1) := by decide +kernel
theorem dMa_write_48 : decode cMa_write 48 = .ok (.ireturn, 1) := by decide +kernel
theorem dMa_exchange_0 : decode cMa_exchange 0 = .ok (.lload_n 1, 1) := by decide +kernel
theorem dMa_exchange_1 : decode cMa_exchange 1 = .ok (.invokestatic 79, 3) := by decide +kernel
theorem dMa_exchange_4 : decode cMa_exchange 4 = .ok (.istore_n 3, 1) := by decide +kernel
theorem dMa_exchange_5 : decode cMa_exchange 5 = .ok (.lload_n 1, 1) := by decide +kernel
theorem dMa_exchange_6 : decode cMa_exchange 6 = .ok (.invokestatic 40, 3) := by decide +kernel
theorem dMa_exchange_9 : decode cMa_exchange 9 = .ok (.istore 4, 2) := by decide +kernel
theorem dMa_exchange_11 : decode cMa_exchange 11 = .ok (.aload_n 0, 1) := by decide +kernel
theorem dMa_exchange_12 : decode cMa_exchange 12 = .ok (.lload_n 1, 1) := by decide +kernel
theorem dMa_exchange_13 : decode cMa_exchange 13 = .ok (.invokevirtual 94, 3) := by decide +kernel
theorem dMa_exchange_16 : decode cMa_exchange 16 = .ok (.lload_n 1, 1) := by decide +kernel
theorem dMa_exchange_17 : decode cMa_exchange 17 = .ok (.invokestatic 82, 3) := by decide +kernel
theorem dMa_exchange_20 : decode cMa_exchange 20 = .ok (.i2l, 1) := by decide +kernel
theorem dMa_exchange_21 : decode cMa_exchange 21 = .ok (.ladd, 1) := by decide +kernel
theorem dMa_exchange_22 : decode cMa_exchange 22 = .ok (.lstore 5, 2) := by decide +kernel
theorem dMa_exchange_24 : decode cMa_exchange 24 = .ok (.aload_n 0, 1) := by decide +kernel
theorem dMa_exchange_25 : decode cMa_exchange 25 = .ok (.getfield 16, 3) := by decide +kernel
theorem dMa_exchange_28 : decode cMa_exchange 28 = .ok (.lload 5, 2) := by decide +kernel
theorem dMa_exchange_30 : decode cMa_exchange 30 = .ok (.iload_n 3, 1) := by decide +kernel
theorem dMa_exchange_31 : decode cMa_exchange 31 = .ok (.invokevirtual 85, 3) := by decide +kernel
theorem dMa_exchange_34 : decode cMa_exchange 34 = .ok (.ifCond .eq 15, 3) := by decide +kernel
theorem dMa_exchange_37 : decode cMa_exchange 37 = .ok (.lload 5, 2) := by decide +kernel
theorem dMa_exchange_39 : decode cMa_exchange 39 = .ok (.iload_n 3, 1) := by decide +kernel
theorem dMa_exchange_40 : decode cMa_exchange 40 = .ok (.iconst 1, 1) := by decide +kernel
theorem dMa_exchange_41 : decode cMa_exchange 41 = .ok (.isub, 1) := by decide +kernel
theorem dMa_exchange_42 : decode cMa_exchange 42 = .ok (.i2l, 1) := by decide +kernel
theorem dMa_exchange_43 : decode cMa_exchange 43 = .ok (.land, 1) := by decide +kernel
theorem dMa_exchange_44 : decode cMa_exchange 44 = .ok (.lconst 0, 1) := by decide +kernel
theorem dMa_exchange_45 : decode cMa_exchange 45 = .ok (.lcmp, 1) := by decide +kernel
theorem dMa_exchange_46 : decode cMa_exchange 46 = .ok (.ifCond .eq 5, 3) := by decide +kernel
theorem dMa_exchange_49 : decode cMa_exchange 49 = .ok (.iconst 0, 1) := by decide +kernel
theorem dMa_exchange_50 : decode cMa_exchange 50 = .ok (.ireturn, 1) := by decide +kernel
theorem dMa_exchange_51 : decode cMa_exchange 51 = .ok (.aload_n 0, 1) := by decide +kernel
theorem dMa_exchange_52 : decode cMa_exchange 52 = .ok (.getfield 16, 3) := by decide +kernel
theorem dMa_exchange_55 : decode cMa_exchange 55 = .ok (.lload 5, 2) := by decide +kernel
theorem dMa_exchange_57 : decode cMa_exchange 57 = .ok (.iload_n 3, 1) := by decide +kernel
theorem dMa_exchange_58 : decode cMa_exchange 58 = .ok (.invokevirtual 89, 3) := by decide +kernel
theorem dMa_exchange_61 : decode cMa_exchange 61 = .ok (.lstore 7, 2) := by decide +kernel
theorem dMa_exchange_63 : decode cMa_exchange 63 = .ok (.lload 7, 2) := by decide +kernel
theorem dMa_exchange_65 : decode cMa_exchange 65 = .ok (.aload_n 0, 1) := by decide +kernel
theorem dMa_exchange_66 : decode cMa_exchange 66 = .ok (.getfield 7, 3) := by decide +kernel
theorem dMa_exchange_69 : decode cMa_exchange 69 = .ok (.iconst 0, 1) := by decide +kernel
theorem dMa_exchange_70 : decode cMa_exchange 70 = .ok (.laload, 1) := by decide +kernel
theorem dMa_exchange_71 : decode cMa_exchange 71 = .ok (.bipush 8, 2) := by decide +kernel
theorem dMa_exchange_73 : decode cMa_exchange 73 = .ok (.iload_n 3, 1) := by decide +kernel
theorem dMa_exchange_74 : decode cMa_exchange 74 = .ok (.imul, 1) := by decide +kernel
theorem dMa_exchange_75 : decode cMa_exchange 75 = .ok (.invokestatic 73, 3) := by decide +kernel
theorem dMa_exchange_78 : decode cMa_exchange 78 = .ok (.lcmp, 1) := by decide +kernel
theorem dMa_exchange_79 : decode cMa_exchange 79 = .ok (.ifCond .ne 7, 3) := by decide +kernel
theorem dMa_exchange_82 : decode cMa_exchange 82 = .ok (.iconst 1, 1) := by decide +kernel
theorem dMa_exchange_83 : decode cMa_exchange 83 = .ok (.goto 4, 3) := by decide +kernel
theorem dMa_exchange_86 : decode cMa_exchange 86 = .ok (.iconst 0, 1) := by decide +kernel
theorem dMa_exchange_87 : decode cMa_exchange 87 = .ok (.istore 9, 2) := by decide +kernel
theorem dMa_exchange_89 : decode cMa_exchange 89 = .ok (.aload_n 0, 1) := by decide +kernel
theorem dMa_exchange_90 : decode cMa_exchange 90 = .ok (.getfield 16, 3) := by decide +kernel
theorem dMa_exchange_93 : decode cMa_exchange 93 = .ok (.lload 5, 2) := by decide +kernel
theorem dMa_exchange_95 : decode cMa_exchange 95 = .ok (.iload_n 3, 1) := by decide +kernel
theorem dMa_exchange_96 : decode cMa_exchange 96 = .ok (.iload 4, 2) := by decide +kernel
theorem dMa_exchange_98 : decode cMa_exchange 98 = .ok (.lload 7, 2) := by decide +kernel
theorem dMa_exchange_100 : decode cMa_exchange 100 = .ok (.aload_n 0, 1) := by decide +kernel
theorem dMa_exchange_101 : decode cMa_exchange 101 = .ok (.lload_n 1, 1) := by decide +kernel
theorem dMa_exchange_102 : decode cMa_exchange 102 = .ok (.invokevirtual 53, 3) := by decide +kernel
theorem dMa_exchange_105 : decode cMa_exchange 105 = .ok (.iload 9, 2) := by decide +kernel
theorem dMa_exchange_107 : decode cMa_exchange 107 = .ok (.invokestatic 100, 3) := by decide +kernel
theorem dMa_exchange_110 : decode cMa_exchange 110 = .ok (.invokevirtual 97, 3) := by decide +kernel
theorem dMa_exchange_113 : decode cMa_exchange 113 = .ok (.iload 4, 2) := by decide +kernel
theorem dMa_exchange_115 : decode cMa_exchange 115 = .ok (.sipush 241, 3) := by decide +kernel
theorem dMa_exchange_118 : decode cMa_exchange 118 = .ok (.if_icmp .ne 14, 3) := by decide +kernel
theorem dMa_exchange_121 : decode cMa_exchange 121 = .ok (.aload_n 0, 1) := by decide +kernel
theorem dMa_exchange_122 : decode cMa_exchange 122 = .ok (.getfield 7, 3) := by decide +kernel
theorem dMa_exchange_125 : decode cMa_exchange 125 = .ok (.iconst 0, 1) := by decide +kernel
theorem dMa_exchange_126 : decode cMa_exchange 126 = .ok (.lload 7, 2) := by decide +kernel
theorem dMa_exchange_128 : decode cMa_exchange 128 = .ok (.lastore, 1) := by decide +kernel
theorem dMa_exchange_129 : decode cMa_exchange 129 = .ok (.goto 22, 3) := by decide +kernel
theorem dMa_exchange_132 : decode cMa_exchange 132 = .ok (.iload 4, 2) := by decide +kernel
theorem dMa_exchange_134 : decode cMa_exchange 134 = .ok (.invokestatic 106, 3) := by decide +kernel
theorem dMa_exchange_137 : decode cMa_exchange 137 = .ok (.ifCond .eq 14, 3) := by decide +kernel
theorem dMa_exchange_140 : decode cMa_exchange 140 = .ok (.aload_n 0, 1) := by decide +kernel
theorem dMa_exchange_141 : decode cMa_exchange 141 = .ok (.getfield 7, 3) := by decide +kernel
theorem dMa_exchange_144 : decode cMa_exchange 144 = .ok (.lload_n 1, 1) := by decide +kernel
theorem dMa_exchange_145 : decode cMa_exchange 145 = .ok (.invokestatic 67, 3) := by decide +kernel
theorem dMa_exchange_148 : decode cMa_exchange 148 = .ok (.lload 7, 2) := by decide +kernel
theorem dMa_exchange_150 : decode cMa_exchange 150 = .ok (.lastore, 1) := by decide +kernel
theorem dMa_exchange_151 : decode cMa_exchange 151 = .ok (.iconst 1, 1) := by decide +kernel
theorem dMa_exchange_152 : decode cMa_exchange 152 = .ok (.ireturn, 1) := by decide +kernel
theorem dMa_jump_0 : decode cMa_jump 0 = .ok (.lload_n 2, 1) := by decide +kernel
theorem dMa_jump_1 : decode cMa_jump 1 = .ok (.invokestatic 110, 3) := by decide +kernel
theorem dMa_jump_4 : decode cMa_jump 4 = .ok (.ifCond .eq 5, 3) := by decide +kernel
theorem dMa_jump_7 : decode cMa_jump 7 = .ok (.iconst (-1), 1) := by decide +kernel
theorem dMa_jump_8 : decode cMa_jump 8 = .ok (.ireturn, 1) := by decide +kernel
theorem dMa_jump_9 : decode cMa_jump 9 = .ok (.lload_n 2, 1) := by decide +kernel
theorem dMa_jump_10 : decode cMa_jump 10 = .ok (.invokestatic 113, 3) := by decide +kernel
theorem dMa_jump_13 : decode cMa_jump 13 = .ok (.ifCond .eq 15, 3) := by decide +kernel
theorem dMa_jump_16 : decode cMa_jump 16 = .ok (.aload_n 0, 1) := by decide +kernel
theorem dMa_jump_17 : decode cMa_jump 17 = .ok (.lload_n 2, 1) := by decide +kernel
theorem dMa_jump_18 : decode cMa_jump 18 = .ok (.invokestatic 40, 3) := by decide +kernel
theorem dMa_jump_21 : decode cMa_jump 21 = .ok (.invokevirtual 116, 3) := by decide +kernel
theorem dMa_jump_24 : decode cMa_jump 24 = .ok (.iload_n 1, 1) := by decide +kernel
theorem dMa_jump_25 : decode cMa_jump 25 = .ok (.iconst 1, 1) := by decide +kernel
theorem dMa_jump_26 : decode cMa_jump 26 = .ok (.iadd, 1) := by decide +kernel
theorem dMa_jump_27 : decode cMa_jump 27 = .ok (.ireturn, 1) := by decide +kernel
theorem dMa_jump_28 : decode cMa_jump 28 = .ok (.lload_n 2, 1) := by decide +kernel
theorem dMa_jump_29 : decode cMa_jump 29 = .ok (.invokestatic 120, 3) := by decide +kernel
theorem dMa_jump_32 : decode cMa_jump 32 = .ok (.ifCond .ne 11, 3) := by decide +kernel
theorem dMa_jump_35 : decode cMa_jump 35 = .ok (.aload_n 0, 1) := by decide +kernel
theorem dMa_jump_36 : decode cMa_jump 36 = .ok (.lload_n 2, 1) := by decide +kernel
theorem dMa_jump_37 : decode cMa_jump 37 = .ok (.invokevirtual 123, 3) := by decide +kernel
theorem dMa_jump_40 : decode cMa_jump 40 = .ok (.ifCond .eq 12, 3) := by decide +kernel
theorem dMa_jump_43 : decode cMa_jump 43 = .ok (.iload_n 1, 1) := by decide +kernel
theorem dMa_jump_44 : decode cMa_jump 44 = .ok (.lload_n 2, 1) := by decide +kernel
theorem dMa_jump_45 : decode cMa_jump 45 = .ok (.invokestatic 126, 3) := by decide +kernel
theorem dMa_jump_48 : decode cMa_jump 48 = .ok (.l2i, 1) := by decide +kernel
theorem dMa_jump_49 : decode cMa_jump 49 = .ok (.goto 6, 3) := by decide +kernel
theorem dMa_jump_52 : decode cMa_jump 52 = .ok (.iload_n 1, 1) := by decide +kernel
theorem dMa_jump_53 : decode cMa_jump 53 = .ok (.iconst 1, 1) := by decide +kernel
theorem dMa_jump_54 : decode cMa_jump 54 = .ok (.iadd, 1) := by decide +kernel
theorem dMa_jump_55 : decode cMa_jump 55 = .ok (.ireturn, 1) := by decide +kernel
theorem dMa_takesJump_0 : decode cMa_takesJump 0 = .ok (.aload_n 0, 1) := by decide +kernel
theorem dMa_takesJump_1 : decode cMa_takesJump 1 = .ok (.lload_n 1, 1) := by decide +kernel
theorem dMa_takesJump_2 : decode cMa_takesJump 2 = .ok (.invokevirtual 94, 3) := by decide +kernel
theorem dMa_takesJump_5 : decode cMa_takesJump 5 = .ok (.lstore_n 3, 1) := by decide +kernel
theorem dMa_takesJump_6 : decode cMa_takesJump 6 = .ok (.aload_n 0, 1) := by decide +kernel
theorem dMa_takesJump_7 : decode cMa_takesJump 7 = .ok (.lload_n 1, 1) := by decide +kernel
theorem dMa_takesJump_8 : decode cMa_takesJump 8 = .ok (.invokevirtual 130, 3) := by decide +kernel
theorem dMa_takesJump_11 : decode cMa_takesJump 11 = .ok (.lstore 5, 2) := by decide +kernel
theorem dMa_takesJump_13 : decode cMa_takesJump 13 = .ok (.lload_n 1, 1) := by decide +kernel
theorem dMa_takesJump_14 : decode cMa_takesJump 14 = .ok (.invokestatic 26, 3) := by decide +kernel
theorem dMa_takesJump_17 : decode cMa_takesJump 17 = .ok (.bipush 6, 2) := by decide +kernel
theorem dMa_takesJump_19 : decode cMa_takesJump 19 = .ok (.if_icmp .ne 20, 3) := by decide +kernel
theorem dMa_takesJump_22 : decode cMa_takesJump 22 = .ok (.lload_n 1, 1) := by decide +kernel
theorem dMa_takesJump_23 : decode cMa_takesJump 23 = .ok (.invokestatic 133, 3) := by decide +kernel
theorem dMa_takesJump_26 : decode cMa_takesJump 26 = .ok (.lload_n 3, 1) := by decide +kernel
theorem dMa_takesJump_27 : decode cMa_takesJump 27 = .ok (.l2i, 1) := by decide +kernel
theorem dMa_takesJump_28 : decode cMa_takesJump 28 = .ok (.i2l, 1) := by decide +kernel
theorem dMa_takesJump_29 : decode cMa_takesJump 29 = .ok (.lload 5, 2) := by decide +kernel
theorem dMa_takesJump_31 : decode cMa_takesJump 31 = .ok (.l2i, 1) := by decide +kernel
theorem dMa_takesJump_32 : decode cMa_takesJump 32 = .ok (.i2l, 1) := by decide +kernel
theorem dMa_takesJump_33 : decode cMa_takesJump 33 = .ok (.invokestatic 136, 3) := by decide +kernel
theorem dMa_takesJump_36 : decode cMa_takesJump 36 = .ok (.goto 13, 3) := by decide +kernel
theorem dMa_takesJump_39 : decode cMa_takesJump 39 = .ok (.lload_n 1, 1) := by decide +kernel
theorem dMa_takesJump_40 : decode cMa_takesJump 40 = .ok (.invokestatic 133, 3) := by decide +kernel
theorem dMa_takesJump_43 : decode cMa_takesJump 43 = .ok (.lload_n 3, 1) := by decide +kernel
theorem dMa_takesJump_44 : decode cMa_takesJump 44 = .ok (.lload 5, 2) := by decide +kernel
theorem dMa_takesJump_46 : decode cMa_takesJump 46 = .ok (.invokestatic 136, 3) := by decide +kernel
theorem dMa_takesJump_49 : decode cMa_takesJump 49 = .ok (.ireturn, 1) := by decide +kernel
theorem dMa_answerCall_0 : decode cMa_answerCall 0 = .ok (.iload_n 1, 1) := by decide +kernel
theorem dMa_answerCall_1 : decode cMa_answerCall 1 = .ok (.i2l, 1) := by decide +kernel
theorem dMa_answerCall_2 : decode cMa_answerCall 2 = .ok (.lstore_n 2, 1) := by decide +kernel
theorem dMa_answerCall_3 : decode cMa_answerCall 3 = .ok (.iconst 1, 1) := by decide +kernel
theorem dMa_answerCall_4 : decode cMa_answerCall 4 = .ok (.istore 4, 2) := by decide +kernel
theorem dMa_answerCall_6 : decode cMa_answerCall 6 = .ok (.iload 4, 2) := by decide +kernel
theorem dMa_answerCall_8 : decode cMa_answerCall 8 = .ok (.iconst 5, 1) := by decide +kernel
theorem dMa_answerCall_9 : decode cMa_answerCall 9 = .ok (.if_icmp .gt 31, 3) := by decide +kernel
theorem dMa_answerCall_12 : decode cMa_answerCall 12 = .ok (.ldc2_w 140, 3) := by decide +kernel
theorem dMa_answerCall_15 : decode cMa_answerCall 15 = .ok (.lload_n 2, 1) := by decide +kernel
theorem dMa_answerCall_16 : decode cMa_answerCall 16 = .ok (.lmul, 1) := by decide +kernel
theorem dMa_answerCall_17 : decode cMa_answerCall 17 = .ok (.aload_n 0, 1) := by decide +kernel
theorem dMa_answerCall_18 : decode cMa_answerCall 18 = .ok (.getfield 7, 3) := by decide +kernel
theorem dMa_answerCall_21 : decode cMa_answerCall 21 = .ok (.iload 4, 2) := by decide +kernel
theorem dMa_answerCall_23 : decode cMa_answerCall 23 = .ok (.laload, 1) := by decide +kernel
theorem dMa_answerCall_24 : decode cMa_answerCall 24 = .ok (.ladd, 1) := by decide +kernel
theorem dMa_answerCall_25 : decode cMa_answerCall 25 = .ok (.lstore_n 2, 1) := by decide +kernel
theorem dMa_answerCall_26 : decode cMa_answerCall 26 = .ok (.aload_n 0, 1) := by decide +kernel
theorem dMa_answerCall_27 : decode cMa_answerCall 27 = .ok (.getfield 7, 3) := by decide +kernel
theorem dMa_answerCall_30 : decode cMa_answerCall 30 = .ok (.iload 4, 2) := by decide +kernel
theorem dMa_answerCall_32 : decode cMa_answerCall 32 = .ok (.lconst 0, 1) := by decide +kernel
theorem dMa_answerCall_33 : decode cMa_answerCall 33 = .ok (.lastore, 1) := by decide +kernel
theorem dMa_answerCall_34 : decode cMa_answerCall 34 = .ok (.iinc 4 1, 3) := by decide +kernel
theorem dMa_answerCall_37 : decode cMa_answerCall 37 = .ok (.goto (-31), 3) := by decide +kernel
theorem dMa_answerCall_40 : decode cMa_answerCall 40 = .ok (.aload_n 0, 1) := by decide +kernel
theorem dMa_answerCall_41 : decode cMa_answerCall 41 = .ok (.getfield 7, 3) := by decide +kernel
theorem dMa_answerCall_44 : decode cMa_answerCall 44 = .ok (.iconst 0, 1) := by decide +kernel
theorem dMa_answerCall_45 : decode cMa_answerCall 45 = .ok (.lload_n 2, 1) := by decide +kernel
theorem dMa_answerCall_46 : decode cMa_answerCall 46 = .ok (.lastore, 1) := by decide +kernel
theorem dMa_answerCall_47 : decode cMa_answerCall 47 = .ok (.return_, 1) := by decide +kernel
theorem dMa_computed_0 : decode cMa_computed 0 = .ok (.lload_n 1, 1) := by decide +kernel
theorem dMa_computed_1 : decode cMa_computed 1 = .ok (.invokestatic 133, 3) := by decide +kernel
theorem dMa_computed_4 : decode cMa_computed 4 = .ok (.istore_n 3, 1) := by decide +kernel
theorem dMa_computed_5 : decode cMa_computed 5 = .ok (.iload_n 3, 1) := by decide +kernel
theorem dMa_computed_6 : decode cMa_computed 6 = .ok (.bipush 13, 2) := by decide +kernel
theorem dMa_computed_8 : decode cMa_computed 8 = .ok (.if_icmp .ne 9, 3) := by decide +kernel
theorem dMa_computed_11 : decode cMa_computed 11 = .ok (.aload_n 0, 1) := by decide +kernel
theorem dMa_computed_12 : decode cMa_computed 12 = .ok (.lload_n 1, 1) := by decide +kernel
theorem dMa_computed_13 : decode cMa_computed 13 = .ok (.invokevirtual 142, 3) := by decide +kernel
theorem dMa_computed_16 : decode cMa_computed 16 = .ok (.lreturn, 1) := by decide +kernel
theorem dMa_computed_17 : decode cMa_computed 17 = .ok (.lload_n 1, 1) := by decide +kernel
theorem dMa_computed_18 : decode cMa_computed 18 = .ok (.invokestatic 26, 3) := by decide +kernel
theorem dMa_computed_21 : decode cMa_computed 21 = .ok (.bipush 7, 2) := by decide +kernel
theorem dMa_computed_23 : decode cMa_computed 23 = .ok (.if_icmp .ne 24, 3) := by decide +kernel
theorem dMa_computed_26 : decode cMa_computed 26 = .ok (.iload_n 3, 1) := by decide +kernel
theorem dMa_computed_27 : decode cMa_computed 27 = .ok (.lload_n 1, 1) := by decide +kernel
theorem dMa_computed_28 : decode cMa_computed 28 = .ok (.invokestatic 82, 3) := by decide +kernel
theorem dMa_computed_31 : decode cMa_computed 31 = .ok (.aload_n 0, 1) := by decide +kernel
theorem dMa_computed_32 : decode cMa_computed 32 = .ok (.lload_n 1, 1) := by decide +kernel
theorem dMa_computed_33 : decode cMa_computed 33 = .ok (.invokevirtual 94, 3) := by decide +kernel
theorem dMa_computed_36 : decode cMa_computed 36 = .ok (.aload_n 0, 1) := by decide +kernel
theorem dMa_computed_37 : decode cMa_computed 37 = .ok (.lload_n 1, 1) := by decide +kernel
theorem dMa_computed_38 : decode cMa_computed 38 = .ok (.invokevirtual 130, 3) := by decide +kernel
theorem dMa_computed_41 : decode cMa_computed 41 = .ok (.invokestatic 145, 3) := by decide +kernel
theorem dMa_computed_44 : decode cMa_computed 44 = .ok (.goto 23, 3) := by decide +kernel
theorem dMa_computed_47 : decode cMa_computed 47 = .ok (.iload_n 3, 1) := by decide +kernel
theorem dMa_computed_48 : decode cMa_computed 48 = .ok (.lload_n 1, 1) := by decide +kernel
theorem dMa_computed_49 : decode cMa_computed 49 = .ok (.invokestatic 82, 3) := by decide +kernel
theorem dMa_computed_52 : decode cMa_computed 52 = .ok (.aload_n 0, 1) := by decide +kernel
theorem dMa_computed_53 : decode cMa_computed 53 = .ok (.lload_n 1, 1) := by decide +kernel
theorem dMa_computed_54 : decode cMa_computed 54 = .ok (.invokevirtual 94, 3) := by decide +kernel
theorem dMa_computed_57 : decode cMa_computed 57 = .ok (.l2i, 1) := by decide +kernel
theorem dMa_computed_58 : decode cMa_computed 58 = .ok (.aload_n 0, 1) := by decide +kernel
theorem dMa_computed_59 : decode cMa_computed 59 = .ok (.lload_n 1, 1) := by decide +kernel
theorem dMa_computed_60 : decode cMa_computed 60 = .ok (.invokevirtual 130, 3) := by decide +kernel
theorem dMa_computed_63 : decode cMa_computed 63 = .ok (.l2i, 1) := by decide +kernel
theorem dMa_computed_64 : decode cMa_computed 64 = .ok (.invokestatic 149, 3) := by decide +kernel
theorem dMa_computed_67 : decode cMa_computed 67 = .ok (.lreturn, 1) := by decide +kernel
theorem dMa_turnedOrCut_0 : decode cMa_turnedOrCut 0 = .ok (.lload_n 1, 1) := by decide +kernel
theorem dMa_turnedOrCut_1 : decode cMa_turnedOrCut 1 = .ok (.invokestatic 40, 3) := by decide +kernel
theorem dMa_turnedOrCut_4 : decode cMa_turnedOrCut 4 = .ok (.istore_n 3, 1) := by decide +kernel
theorem dMa_turnedOrCut_5 : decode cMa_turnedOrCut 5 = .ok (.lload_n 1, 1) := by decide +kernel
theorem dMa_turnedOrCut_6 : decode cMa_turnedOrCut 6 = .ok (.invokestatic 26, 3) := by decide +kernel
theorem dMa_turnedOrCut_9 : decode cMa_turnedOrCut 9 = .ok (.bipush 7, 2) := by decide +kernel
theorem dMa_turnedOrCut_11 : decode cMa_turnedOrCut 11 = .ok (.if_icmp .eq 10, 3) := by decide +kernel
theorem dMa_turnedOrCut_14 : decode cMa_turnedOrCut 14 = .ok (.lload_n 1, 1) := by decide +kernel
theorem dMa_turnedOrCut_15 : decode cMa_turnedOrCut 15 = .ok (.invokestatic 70, 3) := by decide +kernel
theorem dMa_turnedOrCut_18 : decode cMa_turnedOrCut 18 = .ok (.ifCond .eq 7, 3) := by decide +kernel
theorem dMa_turnedOrCut_21 : decode cMa_turnedOrCut 21 = .ok (.iconst 1, 1) := by decide +kernel
theorem dMa_turnedOrCut_22 : decode cMa_turnedOrCut 22 = .ok (.goto 4, 3) := by decide +kernel
theorem dMa_turnedOrCut_25 : decode cMa_turnedOrCut 25 = .ok (.iconst 0, 1) := by decide +kernel
theorem dMa_turnedOrCut_26 : decode cMa_turnedOrCut 26 = .ok (.istore 4, 2) := by decide +kernel
theorem dMa_turnedOrCut_28 : decode cMa_turnedOrCut 28 = .ok (.iload 4, 2) := by decide +kernel
theorem dMa_turnedOrCut_30 : decode cMa_turnedOrCut 30 = .ok (.ifCond .eq 15, 3) := by decide +kernel
theorem dMa_turnedOrCut_33 : decode cMa_turnedOrCut 33 = .ok (.aload_n 0, 1) := by decide +kernel
theorem dMa_turnedOrCut_34 : decode cMa_turnedOrCut 34 = .ok (.lload_n 1, 1) := by decide +kernel
theorem dMa_turnedOrCut_35 : decode cMa_turnedOrCut 35 = .ok (.invokevirtual 94, 3) := by decide +kernel
theorem dMa_turnedOrCut_38 : decode cMa_turnedOrCut 38 = .ok (.iload_n 3, 1) := by decide +kernel
theorem dMa_turnedOrCut_39 : decode cMa_turnedOrCut 39 = .ok (.invokestatic 153, 3) := by decide +kernel
theorem dMa_turnedOrCut_42 : decode cMa_turnedOrCut 42 = .ok (.goto 12, 3) := by decide +kernel
theorem dMa_turnedOrCut_45 : decode cMa_turnedOrCut 45 = .ok (.aload_n 0, 1) := by decide +kernel
theorem dMa_turnedOrCut_46 : decode cMa_turnedOrCut 46 = .ok (.lload_n 1, 1) := by decide +kernel
theorem dMa_turnedOrCut_47 : decode cMa_turnedOrCut 47 = .ok (.invokevirtual 94, 3) := by decide +kernel
theorem dMa_turnedOrCut_50 : decode cMa_turnedOrCut 50 = .ok (.iload_n 3, 1) := by decide +kernel
theorem dMa_turnedOrCut_51 : decode cMa_turnedOrCut 51 = .ok (.invokestatic 73, 3) := by decide +kernel
theorem dMa_turnedOrCut_54 : decode cMa_turnedOrCut 54 = .ok (.lreturn, 1) := by decide +kernel
end
section
theorem dMe_holds_0 : decode cMe_holds 0 = .ok (.lload_n 1, 1) := by decide +kernel
theorem dMe_holds_1 : decode cMe_holds 1 = .ok (.ldc2_w 13, 3) := by decide +kernel
theorem dMe_holds_4 : decode cMe_holds 4 = .ok (.lsub, 1) := by decide +kernel
theorem dMe_holds_5 : decode cMe_holds 5 = .ok (.lstore 4, 2) := by decide +kernel
theorem dMe_holds_7 : decode cMe_holds 7 = .ok (.lload 4, 2) := by decide +kernel
theorem dMe_holds_9 : decode cMe_holds 9 = .ok (.lconst 0, 1) := by decide +kernel
theorem dMe_holds_10 : decode cMe_holds 10 = .ok (.lcmp, 1) := by decide +kernel
theorem dMe_holds_11 : decode cMe_holds 11 = .ok (.ifCond .lt 19, 3) := by decide +kernel
theorem dMe_holds_14 : decode cMe_holds 14 = .ok (.lload 4, 2) := by decide +kernel
theorem dMe_holds_16 : decode cMe_holds 16 = .ok (.sipush 4096, 3) := by decide +kernel
theorem dMe_holds_19 : decode cMe_holds 19 = .ok (.iload_n 3, 1) := by decide +kernel
theorem dMe_holds_20 : decode cMe_holds 20 = .ok (.isub, 1) := by decide +kernel
theorem dMe_holds_21 : decode cMe_holds 21 = .ok (.i2l, 1) := by decide +kernel
theorem dMe_holds_22 : decode cMe_holds 22 = .ok (.lcmp, 1) := by decide +kernel
theorem dMe_holds_23 : decode cMe_holds 23 = .ok (.ifCond .gt 7, 3) := by decide +kernel
theorem dMe_holds_26 : decode cMe_holds 26 = .ok (.iconst 1, 1) := by decide +kernel
theorem dMe_holds_27 : decode cMe_holds 27 = .ok (.goto 4, 3) := by decide +kernel
theorem dMe_holds_30 : decode cMe_holds 30 = .ok (.iconst 0, 1) := by decide +kernel
theorem dMe_holds_31 : decode cMe_holds 31 = .ok (.ireturn, 1) := by decide +kernel
theorem dMe_read_0 : decode cMe_read 0 = .ok (.aload_n 0, 1) := by decide +kernel
theorem dMe_read_1 : decode cMe_read 1 = .ok (.lload_n 1, 1) := by decide +kernel
theorem dMe_read_2 : decode cMe_read 2 = .ok (.iload_n 3, 1) := by decide +kernel
theorem dMe_read_3 : decode cMe_read 3 = .ok (.invokevirtual 15, 3) := by decide +kernel
theorem dMe_read_6 : decode cMe_read 6 = .ok (.ifCond .ne 5, 3) := by decide +kernel
theorem dMe_read_9 : decode cMe_read 9 = .ok (.lconst 0, 1) := by decide +kernel
theorem dMe_read_10 : decode cMe_read 10 = .ok (.lreturn, 1) := by decide +kernel
theorem dMe_read_11 : decode cMe_read 11 = .ok (.lload_n 1, 1) := by decide +kernel
theorem dMe_read_12 : decode cMe_read 12 = .ok (.ldc2_w 13, 3) := by decide +kernel
theorem dMe_read_15 : decode cMe_read 15 = .ok (.lsub, 1) := by decide +kernel
theorem dMe_read_16 : decode cMe_read 16 = .ok (.l2i, 1) := by decide +kernel
theorem dMe_read_17 : decode cMe_read 17 = .ok (.istore 4, 2) := by decide +kernel
theorem dMe_read_19 : decode cMe_read 19 = .ok (.lconst 0, 1) := by decide +kernel
theorem dMe_read_20 : decode cMe_read 20 = .ok (.lstore 5, 2) := by decide +kernel
theorem dMe_read_22 : decode cMe_read 22 = .ok (.iload_n 3, 1) := by decide +kernel
theorem dMe_read_23 : decode cMe_read 23 = .ok (.iconst 1, 1) := by decide +kernel
theorem dMe_read_24 : decode cMe_read 24 = .ok (.isub, 1) := by decide +kernel
theorem dMe_read_25 : decode cMe_read 25 = .ok (.istore 7, 2) := by decide +kernel
theorem dMe_read_27 : decode cMe_read 27 = .ok (.iload 7, 2) := by decide +kernel
theorem dMe_read_29 : decode cMe_read 29 = .ok (.ifCond .lt 32, 3) := by decide +kernel
theorem dMe_read_32 : decode cMe_read 32 = .ok (.lload 5, 2) := by decide +kernel
theorem dMe_read_34 : decode cMe_read 34 = .ok (.bipush 8, 2) := by decide +kernel
theorem dMe_read_36 : decode cMe_read 36 = .ok (.lshl, 1) := by decide +kernel
theorem dMe_read_37 : decode cMe_read 37 = .ok (.aload_n 0, 1) := by decide +kernel
theorem dMe_read_38 : decode cMe_read 38 = .ok (.getfield 9, 3) := by decide +kernel
theorem dMe_read_41 : decode cMe_read 41 = .ok (.iload 4, 2) := by decide +kernel
theorem dMe_read_43 : decode cMe_read 43 = .ok (.iload 7, 2) := by decide +kernel
theorem dMe_read_45 : decode cMe_read 45 = .ok (.iadd, 1) := by decide +kernel
theorem dMe_read_46 : decode cMe_read 46 = .ok (.baload, 1) := by decide +kernel
theorem dMe_read_47 : decode cMe_read 47 = .ok (.sipush 255, 3) := by decide +kernel
theorem dMe_read_50 : decode cMe_read 50 = .ok (.iand, 1) := by decide +kernel
theorem dMe_read_51 : decode cMe_read 51 = .ok (.i2l, 1) := by decide +kernel
theorem dMe_read_52 : decode cMe_read 52 = .ok (.lor, 1) := by decide +kernel
theorem dMe_read_53 : decode cMe_read 53 = .ok (.lstore 5, 2) := by decide +kernel
theorem dMe_read_55 : decode cMe_read 55 = .ok (.iinc 7 (-1), 3) := by decide +kernel
theorem dMe_read_58 : decode cMe_read 58 = .ok (.goto (-31), 3) := by decide +kernel
theorem dMe_read_61 : decode cMe_read 61 = .ok (.lload 5, 2) := by decide +kernel
theorem dMe_read_63 : decode cMe_read 63 = .ok (.lreturn, 1) := by decide +kernel
theorem dMe_write_0 : decode cMe_write 0 = .ok (.aload_n 0, 1) := by decide +kernel
theorem dMe_write_1 : decode cMe_write 1 = .ok (.lload_n 1, 1) := by decide +kernel
theorem dMe_write_2 : decode cMe_write 2 = .ok (.iload_n 3, 1) := by decide +kernel
theorem dMe_write_3 : decode cMe_write 3 = .ok (.invokevirtual 15, 3) := by decide +kernel
theorem dMe_write_6 : decode cMe_write 6 = .ok (.ifCond .ne 4, 3) := by decide +kernel
theorem dMe_write_9 : decode cMe_write 9 = .ok (.return_, 1) := by decide +kernel
theorem dMe_write_10 : decode cMe_write 10 = .ok (.lload_n 1, 1) := by decide +kernel
theorem dMe_write_11 : decode cMe_write 11 = .ok (.ldc2_w 13, 3) := by decide +kernel
theorem dMe_write_14 : decode cMe_write 14 = .ok (.lsub, 1) := by decide +kernel
theorem dMe_write_15 : decode cMe_write 15 = .ok (.l2i, 1) := by decide +kernel
theorem dMe_write_16 : decode cMe_write 16 = .ok (.istore 6, 2) := by decide +kernel
theorem dMe_write_18 : decode cMe_write 18 = .ok (.iconst 0, 1) := by decide +kernel
theorem dMe_write_19 : decode cMe_write 19 = .ok (.istore 7, 2) := by decide +kernel
theorem dMe_write_21 : decode cMe_write 21 = .ok (.iload 7, 2) := by decide +kernel
theorem dMe_write_23 : decode cMe_write 23 = .ok (.iload_n 3, 1) := by decide +kernel
theorem dMe_write_24 : decode cMe_write 24 = .ok (.if_icmp .ge 29, 3) := by decide +kernel
theorem dMe_write_27 : decode cMe_write 27 = .ok (.aload_n 0, 1) := by decide +kernel
theorem dMe_write_28 : decode cMe_write 28 = .ok (.getfield 9, 3) := by decide +kernel
theorem dMe_write_31 : decode cMe_write 31 = .ok (.iload 6, 2) := by decide +kernel
theorem dMe_write_33 : decode cMe_write 33 = .ok (.iload 7, 2) := by decide +kernel
theorem dMe_write_35 : decode cMe_write 35 = .ok (.iadd, 1) := by decide +kernel
theorem dMe_write_36 : decode cMe_write 36 = .ok (.lload 4, 2) := by decide +kernel
theorem dMe_write_38 : decode cMe_write 38 = .ok (.bipush 8, 2) := by decide +kernel
theorem dMe_write_40 : decode cMe_write 40 = .ok (.iload 7, 2) := by decide +kernel
theorem dMe_write_42 : decode cMe_write 42 = .ok (.imul, 1) := by decide +kernel
theorem dMe_write_43 : decode cMe_write 43 = .ok (.lshr, 1) := by decide +kernel
theorem dMe_write_44 : decode cMe_write 44 = .ok (.l2i, 1) := by decide +kernel
theorem dMe_write_45 : decode cMe_write 45 = .ok (.i2b, 1) := by decide +kernel
theorem dMe_write_46 : decode cMe_write 46 = .ok (.bastore, 1) := by decide +kernel
theorem dMe_write_47 : decode cMe_write 47 = .ok (.iinc 7 1, 3) := by decide +kernel
theorem dMe_write_50 : decode cMe_write 50 = .ok (.goto (-29), 3) := by decide +kernel
theorem dMe_write_53 : decode cMe_write 53 = .ok (.return_, 1) := by decide +kernel
end
section
theorem dPr_has_0 : decode cPr_has 0 = .ok (.lload_n 1, 1) := by decide +kernel
theorem dPr_has_1 : decode cPr_has 1 = .ok (.lconst 0, 1) := by decide +kernel
theorem dPr_has_2 : decode cPr_has 2 = .ok (.lcmp, 1) := by decide +kernel
theorem dPr_has_3 : decode cPr_has 3 = .ok (.ifCond .lt 17, 3) := by decide +kernel
theorem dPr_has_6 : decode cPr_has 6 = .ok (.lload_n 1, 1) := by decide +kernel
theorem dPr_has_7 : decode cPr_has 7 = .ok (.aload_n 0, 1) := by decide +kernel
theorem dPr_has_8 : decode cPr_has 8 = .ok (.getfield 13, 3) := by decide +kernel
theorem dPr_has_11 : decode cPr_has 11 = .ok (.i2l, 1) := by decide +kernel
theorem dPr_has_12 : decode cPr_has 12 = .ok (.lcmp, 1) := by decide +kernel
theorem dPr_has_13 : decode cPr_has 13 = .ok (.ifCond .ge 7, 3) := by decide +kernel
theorem dPr_has_16 : decode cPr_has 16 = .ok (.iconst 1, 1) := by decide +kernel
theorem dPr_has_17 : decode cPr_has 17 = .ok (.goto 4, 3) := by decide +kernel
theorem dPr_has_20 : decode cPr_has 20 = .ok (.iconst 0, 1) := by decide +kernel
theorem dPr_has_21 : decode cPr_has 21 = .ok (.ireturn, 1) := by decide +kernel
theorem dPr_at_0 : decode cPr_at 0 = .ok (.aload_n 0, 1) := by decide +kernel
theorem dPr_at_1 : decode cPr_at 1 = .ok (.iload_n 1, 1) := by decide +kernel
theorem dPr_at_2 : decode cPr_at 2 = .ok (.i2l, 1) := by decide +kernel
theorem dPr_at_3 : decode cPr_at 3 = .ok (.invokevirtual 32, 3) := by decide +kernel
theorem dPr_at_6 : decode cPr_at 6 = .ok (.ifCond .eq 12, 3) := by decide +kernel
theorem dPr_at_9 : decode cPr_at 9 = .ok (.aload_n 0, 1) := by decide +kernel
theorem dPr_at_10 : decode cPr_at 10 = .ok (.getfield 7, 3) := by decide +kernel
theorem dPr_at_13 : decode cPr_at 13 = .ok (.iload_n 1, 1) := by decide +kernel
theorem dPr_at_14 : decode cPr_at 14 = .ok (.laload, 1) := by decide +kernel
theorem dPr_at_15 : decode cPr_at 15 = .ok (.goto 4, 3) := by decide +kernel
theorem dPr_at_18 : decode cPr_at 18 = .ok (.lconst 0, 1) := by decide +kernel
theorem dPr_at_19 : decode cPr_at 19 = .ok (.lreturn, 1) := by decide +kernel
end
section
theorem dTa_hasRoom_0 : decode cTa_hasRoom 0 = .ok (.aload_n 0, 1) := by decide +kernel
theorem dTa_hasRoom_1 : decode cTa_hasRoom 1 = .ok (.getfield 13, 3) := by decide +kernel
theorem dTa_hasRoom_4 : decode cTa_hasRoom 4 = .ok (.bipush 20, 2) := by decide +kernel
theorem dTa_hasRoom_6 : decode cTa_hasRoom 6 = .ok (.iadd, 1) := by decide +kernel
theorem dTa_hasRoom_7 : decode cTa_hasRoom 7 = .ok (.ldc 17, 2) := by decide +kernel
theorem dTa_hasRoom_9 : decode cTa_hasRoom 9 = .ok (.if_icmp .gt 7, 3) := by decide +kernel
theorem dTa_hasRoom_12 : decode cTa_hasRoom 12 = .ok (.iconst 1, 1) := by decide +kernel
theorem dTa_hasRoom_13 : decode cTa_hasRoom 13 = .ok (.goto 4, 3) := by decide +kernel
theorem dTa_hasRoom_16 : decode cTa_hasRoom 16 = .ok (.iconst 0, 1) := by decide +kernel
theorem dTa_hasRoom_17 : decode cTa_hasRoom 17 = .ok (.ireturn, 1) := by decide +kernel
theorem dTa_type_0 : decode cTa_type 0 = .ok (.aload_n 0, 1) := by decide +kernel
theorem dTa_type_1 : decode cTa_type 1 = .ok (.getfield 13, 3) := by decide +kernel
theorem dTa_type_4 : decode cTa_type 4 = .ok (.iconst 4, 1) := by decide +kernel
theorem dTa_type_5 : decode cTa_type 5 = .ok (.iadd, 1) := by decide +kernel
theorem dTa_type_6 : decode cTa_type 6 = .ok (.aload_n 0, 1) := by decide +kernel
theorem dTa_type_7 : decode cTa_type 7 = .ok (.getfield 7, 3) := by decide +kernel
theorem dTa_type_10 : decode cTa_type 10 = .ok (.arraylength, 1) := by decide +kernel
theorem dTa_type_11 : decode cTa_type 11 = .ok (.if_icmp .le 4, 3) := by decide +kernel
theorem dTa_type_14 : decode cTa_type 14 = .ok (.return_, 1) := by decide +kernel
theorem dTa_type_15 : decode cTa_type 15 = .ok (.aload_n 0, 1) := by decide +kernel
theorem dTa_type_16 : decode cTa_type 16 = .ok (.getfield 7, 3) := by decide +kernel
theorem dTa_type_19 : decode cTa_type 19 = .ok (.aload_n 0, 1) := by decide +kernel
theorem dTa_type_20 : decode cTa_type 20 = .ok (.getfield 13, 3) := by decide +kernel
theorem dTa_type_23 : decode cTa_type 23 = .ok (.iload_n 1, 1) := by decide +kernel
theorem dTa_type_24 : decode cTa_type 24 = .ok (.bipush 24, 2) := by decide +kernel
theorem dTa_type_26 : decode cTa_type 26 = .ok (.ishr, 1) := by decide +kernel
theorem dTa_type_27 : decode cTa_type 27 = .ok (.i2b, 1) := by decide +kernel
theorem dTa_type_28 : decode cTa_type 28 = .ok (.bastore, 1) := by decide +kernel
theorem dTa_type_29 : decode cTa_type 29 = .ok (.aload_n 0, 1) := by decide +kernel
theorem dTa_type_30 : decode cTa_type 30 = .ok (.getfield 7, 3) := by decide +kernel
theorem dTa_type_33 : decode cTa_type 33 = .ok (.aload_n 0, 1) := by decide +kernel
theorem dTa_type_34 : decode cTa_type 34 = .ok (.getfield 13, 3) := by decide +kernel
theorem dTa_type_37 : decode cTa_type 37 = .ok (.iconst 1, 1) := by decide +kernel
theorem dTa_type_38 : decode cTa_type 38 = .ok (.iadd, 1) := by decide +kernel
theorem dTa_type_39 : decode cTa_type 39 = .ok (.iload_n 1, 1) := by decide +kernel
theorem dTa_type_40 : decode cTa_type 40 = .ok (.bipush 16, 2) := by decide +kernel
theorem dTa_type_42 : decode cTa_type 42 = .ok (.ishr, 1) := by decide +kernel
theorem dTa_type_43 : decode cTa_type 43 = .ok (.i2b, 1) := by decide +kernel
theorem dTa_type_44 : decode cTa_type 44 = .ok (.bastore, 1) := by decide +kernel
theorem dTa_type_45 : decode cTa_type 45 = .ok (.aload_n 0, 1) := by decide +kernel
theorem dTa_type_46 : decode cTa_type 46 = .ok (.getfield 7, 3) := by decide +kernel
theorem dTa_type_49 : decode cTa_type 49 = .ok (.aload_n 0, 1) := by decide +kernel
theorem dTa_type_50 : decode cTa_type 50 = .ok (.getfield 13, 3) := by decide +kernel
theorem dTa_type_53 : decode cTa_type 53 = .ok (.iconst 2, 1) := by decide +kernel
theorem dTa_type_54 : decode cTa_type 54 = .ok (.iadd, 1) := by decide +kernel
theorem dTa_type_55 : decode cTa_type 55 = .ok (.iload_n 1, 1) := by decide +kernel
theorem dTa_type_56 : decode cTa_type 56 = .ok (.bipush 8, 2) := by decide +kernel
theorem dTa_type_58 : decode cTa_type 58 = .ok (.ishr, 1) := by decide +kernel
theorem dTa_type_59 : decode cTa_type 59 = .ok (.i2b, 1) := by decide +kernel
theorem dTa_type_60 : decode cTa_type 60 = .ok (.bastore, 1) := by decide +kernel
theorem dTa_type_61 : decode cTa_type 61 = .ok (.aload_n 0, 1) := by decide +kernel
theorem dTa_type_62 : decode cTa_type 62 = .ok (.getfield 7, 3) := by decide +kernel
theorem dTa_type_65 : decode cTa_type 65 = .ok (.aload_n 0, 1) := by decide +kernel
theorem dTa_type_66 : decode cTa_type 66 = .ok (.getfield 13, 3) := by decide +kernel
theorem dTa_type_69 : decode cTa_type 69 = .ok (.iconst 3, 1) := by decide +kernel
theorem dTa_type_70 : decode cTa_type 70 = .ok (.iadd, 1) := by decide +kernel
theorem dTa_type_71 : decode cTa_type 71 = .ok (.iload_n 1, 1) := by decide +kernel
theorem dTa_type_72 : decode cTa_type 72 = .ok (.i2b, 1) := by decide +kernel
theorem dTa_type_73 : decode cTa_type 73 = .ok (.bastore, 1) := by decide +kernel
theorem dTa_type_74 : decode cTa_type 74 = .ok (.aload_n 0, 1) := by decide +kernel
theorem dTa_type_75 : decode cTa_type 75 = .ok (.dup, 1) := by decide +kernel
theorem dTa_type_76 : decode cTa_type 76 = .ok (.getfield 13, 3) := by decide +kernel
theorem dTa_type_79 : decode cTa_type 79 = .ok (.iconst 4, 1) := by decide +kernel
theorem dTa_type_80 : decode cTa_type 80 = .ok (.iadd, 1) := by decide +kernel
theorem dTa_type_81 : decode cTa_type 81 = .ok (.putfield 13, 3) := by decide +kernel
theorem dTa_type_84 : decode cTa_type 84 = .ok (.return_, 1) := by decide +kernel
theorem dTa_placeAt_0 : decode cTa_placeAt 0 = .ok (.iload_n 1, 1) := by decide +kernel
theorem dTa_placeAt_1 : decode cTa_placeAt 1 = .ok (.bipush 8, 2) := by decide +kernel
theorem dTa_placeAt_3 : decode cTa_placeAt 3 = .ok (.imul, 1) := by decide +kernel
theorem dTa_placeAt_4 : decode cTa_placeAt 4 = .ok (.istore_n 2, 1) := by decide +kernel
theorem dTa_placeAt_5 : decode cTa_placeAt 5 = .ok (.iload_n 1, 1) := by decide +kernel
theorem dTa_placeAt_6 : decode cTa_placeAt 6 = .ok (.ifCond .lt 14, 3) := by decide +kernel
theorem dTa_placeAt_9 : decode cTa_placeAt 9 = .ok (.iload_n 2, 1) := by decide +kernel
theorem dTa_placeAt_10 : decode cTa_placeAt 10 = .ok (.bipush 8, 2) := by decide +kernel
theorem dTa_placeAt_12 : decode cTa_placeAt 12 = .ok (.iadd, 1) := by decide +kernel
theorem dTa_placeAt_13 : decode cTa_placeAt 13 = .ok (.aload_n 0, 1) := by decide +kernel
theorem dTa_placeAt_14 : decode cTa_placeAt 14 = .ok (.getfield 13, 3) := by decide +kernel
theorem dTa_placeAt_17 : decode cTa_placeAt 17 = .ok (.if_icmp .le 5, 3) := by decide +kernel
theorem dTa_placeAt_20 : decode cTa_placeAt 20 = .ok (.lconst 0, 1) := by decide +kernel
theorem dTa_placeAt_21 : decode cTa_placeAt 21 = .ok (.lreturn, 1) := by decide +kernel
theorem dTa_placeAt_22 : decode cTa_placeAt 22 = .ok (.lconst 0, 1) := by decide +kernel
theorem dTa_placeAt_23 : decode cTa_placeAt 23 = .ok (.lstore_n 3, 1) := by decide +kernel
theorem dTa_placeAt_24 : decode cTa_placeAt 24 = .ok (.bipush 7, 2) := by decide +kernel
theorem dTa_placeAt_26 : decode cTa_placeAt 26 = .ok (.istore 5, 2) := by decide +kernel
theorem dTa_placeAt_28 : decode cTa_placeAt 28 = .ok (.iload 5, 2) := by decide +kernel
theorem dTa_placeAt_30 : decode cTa_placeAt 30 = .ok (.ifCond .lt 29, 3) := by decide +kernel
theorem dTa_placeAt_33 : decode cTa_placeAt 33 = .ok (.lload_n 3, 1) := by decide +kernel
theorem dTa_placeAt_34 : decode cTa_placeAt 34 = .ok (.bipush 8, 2) := by decide +kernel
theorem dTa_placeAt_36 : decode cTa_placeAt 36 = .ok (.lshl, 1) := by decide +kernel
theorem dTa_placeAt_37 : decode cTa_placeAt 37 = .ok (.aload_n 0, 1) := by decide +kernel
theorem dTa_placeAt_38 : decode cTa_placeAt 38 = .ok (.getfield 7, 3) := by decide +kernel
theorem dTa_placeAt_41 : decode cTa_placeAt 41 = .ok (.iload_n 2, 1) := by decide +kernel
theorem dTa_placeAt_42 : decode cTa_placeAt 42 = .ok (.iload 5, 2) := by decide +kernel
theorem dTa_placeAt_44 : decode cTa_placeAt 44 = .ok (.iadd, 1) := by decide +kernel
theorem dTa_placeAt_45 : decode cTa_placeAt 45 = .ok (.baload, 1) := by decide +kernel
theorem dTa_placeAt_46 : decode cTa_placeAt 46 = .ok (.sipush 255, 3) := by decide +kernel
theorem dTa_placeAt_49 : decode cTa_placeAt 49 = .ok (.iand, 1) := by decide +kernel
theorem dTa_placeAt_50 : decode cTa_placeAt 50 = .ok (.i2l, 1) := by decide +kernel
theorem dTa_placeAt_51 : decode cTa_placeAt 51 = .ok (.lor, 1) := by decide +kernel
theorem dTa_placeAt_52 : decode cTa_placeAt 52 = .ok (.lstore_n 3, 1) := by decide +kernel
theorem dTa_placeAt_53 : decode cTa_placeAt 53 = .ok (.iinc 5 (-1), 3) := by decide +kernel
theorem dTa_placeAt_56 : decode cTa_placeAt 56 = .ok (.goto (-28), 3) := by decide +kernel
theorem dTa_placeAt_59 : decode cTa_placeAt 59 = .ok (.lload_n 3, 1) := by decide +kernel
theorem dTa_placeAt_60 : decode cTa_placeAt 60 = .ok (.lreturn, 1) := by decide +kernel
end
section
def f_Jl_reverseBytes (a0 : Int64) : Int64 :=
  ((((j_lshl ((j_lshl (a0 &&& (71777214294589695 : Int64)) (8 : Int32)) ||| ((j_lushr a0 (8 : Int32)) &&& (71777214294589695 : Int64))) (48 : Int32)) ||| (j_lshl (((j_lshl (a0 &&& (71777214294589695 : Int64)) (8 : Int32)) ||| ((j_lushr a0 (8 : Int32)) &&& (71777214294589695 : Int64))) &&& (4294901760 : Int64)) (16 : Int32))) ||| ((j_lushr ((j_lshl (a0 &&& (71777214294589695 : Int64)) (8 : Int32)) ||| ((j_lushr a0 (8 : Int32)) &&& (71777214294589695 : Int64))) (16 : Int32)) &&& (4294901760 : Int64))) ||| (j_lushr ((j_lshl (a0 &&& (71777214294589695 : Int64)) (8 : Int32)) ||| ((j_lushr a0 (8 : Int32)) &&& (71777214294589695 : Int64))) (48 : Int32)))
set_option maxHeartbeats 4000000 in
set_option maxRecDepth 100000 in
theorem c_Jl_reverseBytes (l : Launch) (Hp : Heap) (a0 : Int64) : Met l yJl_reverseBytes wsJl_reverseBytes ({ frames := 0, cells := 0, slots := 0, locals := 0 }) (va_Pc [.long a0] (fun U => U.heap = Hp)) (va_Ql (fun (r : Int64) (_ : Unit) => r = f_Jl_reverseBytes a0) (fun _ t => t.heap = Hp) (fun _ => False)) 0 0 (fun _ => False) := by
  refine Met.ofW (cc := cJl_reverseBytes) (maxL := 2) (ret := (some .long)) (by decide) rfl ?_
  intro p e s m args below meth c s₁ B hml hv
  obtain ⟨rfl, rfl⟩ := hv
  have hx := B.exec
  have hb := B.bytes
  have hr := B.returns
  have hT : ∀ w ∈ tB, w.before _ s = true := fun w h => atoms_spec (ws := wsJl_reverseBytes) B.pre w (List.mem_cons_of_mem _ h)
  have hown : s.vm.findClass "java/lang/Long" = some m.cls := findClass_of_methodNamed B.named
  have hlocks := B.notSynchronized
  have hS : va_S (fun _ => False) s.heap s.heap [] := va_S.rf
  have hl := lv_entry ([.long a0]) (n := 2) (Nat.le_of_ble_eq_true rfl)
  rw [lg_entry_eq]
  generalize (lg_sl ([.long a0]) ++ List.replicate (2 - (lg_sl ([.long a0])).length) Slot.unset).toArray = ls at hl ⊢
  have hl : lv_has ls 2 [(0, .long a0)] := hl
  refine lv_lload_n hx hb dJl_reverseBytes_0 rfl (lv_at hl 0 rfl) ?_
  refine lv_ldc2 (v := (71777214294589695 : Int64)) hx hb hown (hT _ mw_537) dJl_reverseBytes_1 ?_
  refine lv_land hx hb dJl_reverseBytes_4 ?_
  refine lv_bipush (v := (8 : Int32)) hx hb dJl_reverseBytes_5 (by decide) ?_
  refine lv_lshl (v := (j_lshl (a0 &&& (71777214294589695 : Int64)) (8 : Int32))) hx hb dJl_reverseBytes_7 rfl ?_
  refine lv_lload_n hx hb dJl_reverseBytes_8 rfl (lv_at hl 0 rfl) ?_
  refine lv_bipush (v := (8 : Int32)) hx hb dJl_reverseBytes_9 (by decide) ?_
  refine lv_lushr (v := (j_lushr a0 (8 : Int32))) hx hb dJl_reverseBytes_11 rfl ?_
  refine lv_ldc2 (v := (71777214294589695 : Int64)) hx hb hown (hT _ mw_537) dJl_reverseBytes_12 ?_
  refine lv_land hx hb dJl_reverseBytes_15 ?_
  refine lv_lor hx hb dJl_reverseBytes_16 ?_
  refine lv_lstore_n (lv' := [(0, .long ((j_lshl (a0 &&& (71777214294589695 : Int64)) (8 : Int32)) ||| ((j_lushr a0 (8 : Int32)) &&& (71777214294589695 : Int64))))]) hx hb dJl_reverseBytes_17 rfl hl (by decide) rfl (fun ls hl => ?_)
  refine lv_lload_n hx hb dJl_reverseBytes_18 rfl (lv_at hl 0 rfl) ?_
  refine lv_bipush (v := (48 : Int32)) hx hb dJl_reverseBytes_19 (by decide) ?_
  refine lv_lshl (v := (j_lshl ((j_lshl (a0 &&& (71777214294589695 : Int64)) (8 : Int32)) ||| ((j_lushr a0 (8 : Int32)) &&& (71777214294589695 : Int64))) (48 : Int32))) hx hb dJl_reverseBytes_21 rfl ?_
  refine lv_lload_n hx hb dJl_reverseBytes_22 rfl (lv_at hl 0 rfl) ?_
  refine lv_ldc2 (v := (4294901760 : Int64)) hx hb hown (hT _ mw_538) dJl_reverseBytes_23 ?_
  refine lv_land hx hb dJl_reverseBytes_26 ?_
  refine lv_bipush (v := (16 : Int32)) hx hb dJl_reverseBytes_27 (by decide) ?_
  refine lv_lshl (v := (j_lshl (((j_lshl (a0 &&& (71777214294589695 : Int64)) (8 : Int32)) ||| ((j_lushr a0 (8 : Int32)) &&& (71777214294589695 : Int64))) &&& (4294901760 : Int64)) (16 : Int32))) hx hb dJl_reverseBytes_29 rfl ?_
  refine lv_lor hx hb dJl_reverseBytes_30 ?_
  refine lv_lload_n hx hb dJl_reverseBytes_31 rfl (lv_at hl 0 rfl) ?_
  refine lv_bipush (v := (16 : Int32)) hx hb dJl_reverseBytes_32 (by decide) ?_
  refine lv_lushr (v := (j_lushr ((j_lshl (a0 &&& (71777214294589695 : Int64)) (8 : Int32)) ||| ((j_lushr a0 (8 : Int32)) &&& (71777214294589695 : Int64))) (16 : Int32))) hx hb dJl_reverseBytes_34 rfl ?_
  refine lv_ldc2 (v := (4294901760 : Int64)) hx hb hown (hT _ mw_538) dJl_reverseBytes_35 ?_
  refine lv_land hx hb dJl_reverseBytes_38 ?_
  refine lv_lor hx hb dJl_reverseBytes_39 ?_
  refine lv_lload_n hx hb dJl_reverseBytes_40 rfl (lv_at hl 0 rfl) ?_
  refine lv_bipush (v := (48 : Int32)) hx hb dJl_reverseBytes_41 (by decide) ?_
  refine lv_lushr (v := (j_lushr ((j_lshl (a0 &&& (71777214294589695 : Int64)) (8 : Int32)) ||| ((j_lushr a0 (8 : Int32)) &&& (71777214294589695 : Int64))) (48 : Int32))) hx hb dJl_reverseBytes_43 rfl ?_
  refine lv_lor hx hb dJl_reverseBytes_44 ?_
  exact W.lret (v := ((((j_lshl ((j_lshl (a0 &&& (71777214294589695 : Int64)) (8 : Int32)) ||| ((j_lushr a0 (8 : Int32)) &&& (71777214294589695 : Int64))) (48 : Int32)) ||| (j_lshl (((j_lshl (a0 &&& (71777214294589695 : Int64)) (8 : Int32)) ||| ((j_lushr a0 (8 : Int32)) &&& (71777214294589695 : Int64))) &&& (4294901760 : Int64)) (16 : Int32))) ||| ((j_lushr ((j_lshl (a0 &&& (71777214294589695 : Int64)) (8 : Int32)) ||| ((j_lushr a0 (8 : Int32)) &&& (71777214294589695 : Int64))) (16 : Int32)) &&& (4294901760 : Int64))) ||| (j_lushr ((j_lshl (a0 &&& (71777214294589695 : Int64)) (8 : Int32)) ||| ((j_lushr a0 (8 : Int32)) &&& (71777214294589695 : Int64))) (48 : Int32)))) hx hb hr (fun t ht hW => ⟨⟨((((j_lshl ((j_lshl (a0 &&& (71777214294589695 : Int64)) (8 : Int32)) ||| ((j_lushr a0 (8 : Int32)) &&& (71777214294589695 : Int64))) (48 : Int32)) ||| (j_lshl (((j_lshl (a0 &&& (71777214294589695 : Int64)) (8 : Int32)) ||| ((j_lushr a0 (8 : Int32)) &&& (71777214294589695 : Int64))) &&& (4294901760 : Int64)) (16 : Int32))) ||| ((j_lushr ((j_lshl (a0 &&& (71777214294589695 : Int64)) (8 : Int32)) ||| ((j_lushr a0 (8 : Int32)) &&& (71777214294589695 : Int64))) (16 : Int32)) &&& (4294901760 : Int64))) ||| (j_lushr ((j_lshl (a0 &&& (71777214294589695 : Int64)) (8 : Int32)) ||| ((j_lushr a0 (8 : Int32)) &&& (71777214294589695 : Int64))) (48 : Int32))), (), rfl, rfl, ht⟩, hS.F ht⟩) hS.2.2 dJl_reverseBytes_45
end
section
def f_Fi_code (a0 : Int64) : Int32 :=
  (((a0).toInt32) &&& (255 : Int32))
set_option maxHeartbeats 4000000 in
set_option maxRecDepth 100000 in
theorem c_Fi_code (l : Launch) (Hp : Heap) (a0 : Int64) : Met l yFi_code wsFi_code ({ frames := 0, cells := 0, slots := 0, locals := 0 }) (va_Pc [.long a0] (fun U => U.heap = Hp)) (va_Qi (fun (r : Int32) (_ : Unit) => r = f_Fi_code a0) (fun _ t => t.heap = Hp) (fun _ => False)) 0 0 (fun _ => False) := by
  refine Met.ofW (cc := cFi_code) (maxL := 2) (ret := (some .int)) (by decide) rfl ?_
  intro p e s m args below meth c s₁ B hml hv
  obtain ⟨rfl, rfl⟩ := hv
  have hx := B.exec
  have hb := B.bytes
  have hr := B.returns
  have hT : ∀ w ∈ tB, w.before _ s = true := fun w h => atoms_spec (ws := wsFi_code) B.pre w (List.mem_cons_of_mem _ h)
  have hown : s.vm.findClass "CompiledProgram$Fields" = some m.cls := findClass_of_methodNamed B.named
  have hlocks := B.notSynchronized
  have hS : va_S (fun _ => False) s.heap s.heap [] := va_S.rf
  have hl := lv_entry ([.long a0]) (n := 2) (Nat.le_of_ble_eq_true rfl)
  rw [lg_entry_eq]
  generalize (lg_sl ([.long a0]) ++ List.replicate (2 - (lg_sl ([.long a0])).length) Slot.unset).toArray = ls at hl ⊢
  have hl : lv_has ls 2 [(0, .long a0)] := hl
  refine lv_lload_n hx hb dFi_code_0 rfl (lv_at hl 0 rfl) ?_
  refine lv_l2i hx hb dFi_code_1 rfl ?_
  refine lv_sipush (v := (255 : Int32)) hx hb dFi_code_2 (by decide) ?_
  refine lv_iand hx hb dFi_code_5 ?_
  exact W.iret (v := (((a0).toInt32) &&& (255 : Int32))) hx hb hr (fun t ht hW => ⟨⟨(((a0).toInt32) &&& (255 : Int32)), (), rfl, rfl, ht⟩, hS.F ht⟩) hS.2.2 dFi_code_6

def f_Fi_kind (a0 : Int64) : Int32 :=
  (((a0).toInt32) &&& (7 : Int32))
set_option maxHeartbeats 4000000 in
set_option maxRecDepth 100000 in
theorem c_Fi_kind (l : Launch) (Hp : Heap) (a0 : Int64) : Met l yFi_kind wsFi_kind ({ frames := 0, cells := 0, slots := 0, locals := 0 }) (va_Pc [.long a0] (fun U => U.heap = Hp)) (va_Qi (fun (r : Int32) (_ : Unit) => r = f_Fi_kind a0) (fun _ t => t.heap = Hp) (fun _ => False)) 0 0 (fun _ => False) := by
  refine Met.ofW (cc := cFi_kind) (maxL := 2) (ret := (some .int)) (by decide) rfl ?_
  intro p e s m args below meth c s₁ B hml hv
  obtain ⟨rfl, rfl⟩ := hv
  have hx := B.exec
  have hb := B.bytes
  have hr := B.returns
  have hT : ∀ w ∈ tB, w.before _ s = true := fun w h => atoms_spec (ws := wsFi_kind) B.pre w (List.mem_cons_of_mem _ h)
  have hown : s.vm.findClass "CompiledProgram$Fields" = some m.cls := findClass_of_methodNamed B.named
  have hlocks := B.notSynchronized
  have hS : va_S (fun _ => False) s.heap s.heap [] := va_S.rf
  have hl := lv_entry ([.long a0]) (n := 2) (Nat.le_of_ble_eq_true rfl)
  rw [lg_entry_eq]
  generalize (lg_sl ([.long a0]) ++ List.replicate (2 - (lg_sl ([.long a0])).length) Slot.unset).toArray = ls at hl ⊢
  have hl : lv_has ls 2 [(0, .long a0)] := hl
  refine lv_lload_n hx hb dFi_kind_0 rfl (lv_at hl 0 rfl) ?_
  refine lv_l2i hx hb dFi_kind_1 rfl ?_
  refine lv_bipush (v := (7 : Int32)) hx hb dFi_kind_2 (by decide) ?_
  refine lv_iand hx hb dFi_kind_4 ?_
  exact W.iret (v := (((a0).toInt32) &&& (7 : Int32))) hx hb hr (fun t ht hW => ⟨⟨(((a0).toInt32) &&& (7 : Int32)), (), rfl, rfl, ht⟩, hS.F ht⟩) hS.2.2 dFi_kind_5

def f_Fi_operation (a0 : Int64) : Int32 :=
  (((j_lushr a0 (4 : Int32)).toInt32) &&& (15 : Int32))
set_option maxHeartbeats 4000000 in
set_option maxRecDepth 100000 in
theorem c_Fi_operation (l : Launch) (Hp : Heap) (a0 : Int64) : Met l yFi_operation wsFi_operation ({ frames := 0, cells := 0, slots := 0, locals := 0 }) (va_Pc [.long a0] (fun U => U.heap = Hp)) (va_Qi (fun (r : Int32) (_ : Unit) => r = f_Fi_operation a0) (fun _ t => t.heap = Hp) (fun _ => False)) 0 0 (fun _ => False) := by
  refine Met.ofW (cc := cFi_operation) (maxL := 2) (ret := (some .int)) (by decide) rfl ?_
  intro p e s m args below meth c s₁ B hml hv
  obtain ⟨rfl, rfl⟩ := hv
  have hx := B.exec
  have hb := B.bytes
  have hr := B.returns
  have hT : ∀ w ∈ tB, w.before _ s = true := fun w h => atoms_spec (ws := wsFi_operation) B.pre w (List.mem_cons_of_mem _ h)
  have hown : s.vm.findClass "CompiledProgram$Fields" = some m.cls := findClass_of_methodNamed B.named
  have hlocks := B.notSynchronized
  have hS : va_S (fun _ => False) s.heap s.heap [] := va_S.rf
  have hl := lv_entry ([.long a0]) (n := 2) (Nat.le_of_ble_eq_true rfl)
  rw [lg_entry_eq]
  generalize (lg_sl ([.long a0]) ++ List.replicate (2 - (lg_sl ([.long a0])).length) Slot.unset).toArray = ls at hl ⊢
  have hl : lv_has ls 2 [(0, .long a0)] := hl
  refine lv_lload_n hx hb dFi_operation_0 rfl (lv_at hl 0 rfl) ?_
  refine lv_iconst (v := (4 : Int32)) hx hb dFi_operation_1 (by decide) ?_
  refine lv_lushr (v := (j_lushr a0 (4 : Int32))) hx hb dFi_operation_2 rfl ?_
  refine lv_l2i hx hb dFi_operation_3 rfl ?_
  refine lv_bipush (v := (15 : Int32)) hx hb dFi_operation_4 (by decide) ?_
  refine lv_iand hx hb dFi_operation_6 ?_
  exact W.iret (v := (((j_lushr a0 (4 : Int32)).toInt32) &&& (15 : Int32))) hx hb hr (fun t ht hW => ⟨⟨(((j_lushr a0 (4 : Int32)).toInt32) &&& (15 : Int32)), (), rfl, rfl, ht⟩, hS.F ht⟩) hS.2.2 dFi_operation_7

def f_Fi_usesSource (a0 : Int64) : Bool :=
  if (a0 &&& (8 : Int64)) = (0 : Int64) then
    false
  else
    true
set_option maxHeartbeats 4000000 in
set_option maxRecDepth 100000 in
theorem c_Fi_usesSource (l : Launch) (Hp : Heap) (a0 : Int64) : Met l yFi_usesSource wsFi_usesSource ({ frames := 0, cells := 0, slots := 0, locals := 0 }) (va_Pc [.long a0] (fun U => U.heap = Hp)) (va_Qi (fun (r : Int32) (_ : Unit) => r = (bI (f_Fi_usesSource a0))) (fun _ t => t.heap = Hp) (fun _ => False)) 0 0 (fun _ => False) := by
  refine Met.ofW (cc := cFi_usesSource) (maxL := 2) (ret := (some .boolean)) (by decide) rfl ?_
  intro p e s m args below meth c s₁ B hml hv
  obtain ⟨rfl, rfl⟩ := hv
  have hx := B.exec
  have hb := B.bytes
  have hr := B.returns
  have hT : ∀ w ∈ tB, w.before _ s = true := fun w h => atoms_spec (ws := wsFi_usesSource) B.pre w (List.mem_cons_of_mem _ h)
  have hown : s.vm.findClass "CompiledProgram$Fields" = some m.cls := findClass_of_methodNamed B.named
  have hlocks := B.notSynchronized
  have hS : va_S (fun _ => False) s.heap s.heap [] := va_S.rf
  have hl := lv_entry ([.long a0]) (n := 2) (Nat.le_of_ble_eq_true rfl)
  rw [lg_entry_eq]
  generalize (lg_sl ([.long a0]) ++ List.replicate (2 - (lg_sl ([.long a0])).length) Slot.unset).toArray = ls at hl ⊢
  have hl : lv_has ls 2 [(0, .long a0)] := hl
  refine lv_lload_n hx hb dFi_usesSource_0 rfl (lv_at hl 0 rfl) ?_
  refine lv_ldc2 (v := (8 : Int64)) hx hb hown (hT _ mw_195) dFi_usesSource_1 ?_
  refine lv_land hx hb dFi_usesSource_4 ?_
  refine lv_lconst (v := (0 : Int64)) hx hb dFi_usesSource_5 (by decide) ?_
  refine W.lcmp hx hb dFi_usesSource_6 ?_
  refine lv_if_eq (tgt := 14) hx hb dFi_usesSource_7 (by decide) (fun c1 => ?_) (fun c1 => ?_)
  · have c1 := (lg_cmp_eq _ _).mp c1
    refine lv_iconst (v := (0 : Int32)) hx hb dFi_usesSource_14 (by decide) ?_
    exact W.zret (v := (0 : Int32)) hx hb hr rfl (fun t ht hW => ⟨⟨(0 : Int32), (), rfl, (by unfold f_Fi_usesSource; rw [if_pos c1]; try rfl), ht⟩, hS.F ht⟩) hS.2.2 dFi_usesSource_15
  · have c1 := mt (lg_cmp_eq _ _).mpr c1
    refine lv_iconst (v := (1 : Int32)) hx hb dFi_usesSource_10 (by decide) ?_
    refine lv_goto (tgt := 15) hx hb dFi_usesSource_11 (by decide) ?_
    exact W.zret (v := (1 : Int32)) hx hb hr rfl (fun t ht hW => ⟨⟨(1 : Int32), (), rfl, (by unfold f_Fi_usesSource; rw [if_neg c1]; try rfl), ht⟩, hS.F ht⟩) hS.2.2 dFi_usesSource_15

def f_Fi_mode (a0 : Int64) : Int32 :=
  (((j_lushr a0 (5 : Int32)).toInt32) &&& (7 : Int32))
set_option maxHeartbeats 4000000 in
set_option maxRecDepth 100000 in
theorem c_Fi_mode (l : Launch) (Hp : Heap) (a0 : Int64) : Met l yFi_mode wsFi_mode ({ frames := 0, cells := 0, slots := 0, locals := 0 }) (va_Pc [.long a0] (fun U => U.heap = Hp)) (va_Qi (fun (r : Int32) (_ : Unit) => r = f_Fi_mode a0) (fun _ t => t.heap = Hp) (fun _ => False)) 0 0 (fun _ => False) := by
  refine Met.ofW (cc := cFi_mode) (maxL := 2) (ret := (some .int)) (by decide) rfl ?_
  intro p e s m args below meth c s₁ B hml hv
  obtain ⟨rfl, rfl⟩ := hv
  have hx := B.exec
  have hb := B.bytes
  have hr := B.returns
  have hT : ∀ w ∈ tB, w.before _ s = true := fun w h => atoms_spec (ws := wsFi_mode) B.pre w (List.mem_cons_of_mem _ h)
  have hown : s.vm.findClass "CompiledProgram$Fields" = some m.cls := findClass_of_methodNamed B.named
  have hlocks := B.notSynchronized
  have hS : va_S (fun _ => False) s.heap s.heap [] := va_S.rf
  have hl := lv_entry ([.long a0]) (n := 2) (Nat.le_of_ble_eq_true rfl)
  rw [lg_entry_eq]
  generalize (lg_sl ([.long a0]) ++ List.replicate (2 - (lg_sl ([.long a0])).length) Slot.unset).toArray = ls at hl ⊢
  have hl : lv_has ls 2 [(0, .long a0)] := hl
  refine lv_lload_n hx hb dFi_mode_0 rfl (lv_at hl 0 rfl) ?_
  refine lv_iconst (v := (5 : Int32)) hx hb dFi_mode_1 (by decide) ?_
  refine lv_lushr (v := (j_lushr a0 (5 : Int32))) hx hb dFi_mode_2 rfl ?_
  refine lv_l2i hx hb dFi_mode_3 rfl ?_
  refine lv_bipush (v := (7 : Int32)) hx hb dFi_mode_4 (by decide) ?_
  refine lv_iand hx hb dFi_mode_6 ?_
  exact W.iret (v := (((j_lushr a0 (5 : Int32)).toInt32) &&& (7 : Int32))) hx hb hr (fun t ht hW => ⟨⟨(((j_lushr a0 (5 : Int32)).toInt32) &&& (7 : Int32)), (), rfl, rfl, ht⟩, hS.F ht⟩) hS.2.2 dFi_mode_7

def f_Fi_size (a0 : Int64) : Int32 :=
  if (((j_lushr a0 (3 : Int32)).toInt32) &&& (3 : Int32)) = (0 : Int32) then
    (4 : Int32)
  else
    if (((j_lushr a0 (3 : Int32)).toInt32) &&& (3 : Int32)) = (1 : Int32) then
      (2 : Int32)
    else
      if (((j_lushr a0 (3 : Int32)).toInt32) &&& (3 : Int32)) = (2 : Int32) then
        (1 : Int32)
      else
        (8 : Int32)
set_option maxHeartbeats 4000000 in
set_option maxRecDepth 100000 in
theorem c_Fi_size (l : Launch) (Hp : Heap) (a0 : Int64) : Met l yFi_size wsFi_size ({ frames := 0, cells := 0, slots := 0, locals := 0 }) (va_Pc [.long a0] (fun U => U.heap = Hp)) (va_Qi (fun (r : Int32) (_ : Unit) => r = f_Fi_size a0) (fun _ t => t.heap = Hp) (fun _ => False)) 0 0 (fun _ => False) := by
  refine Met.ofW (cc := cFi_size) (maxL := 2) (ret := (some .int)) (by decide) rfl ?_
  intro p e s m args below meth c s₁ B hml hv
  obtain ⟨rfl, rfl⟩ := hv
  have hx := B.exec
  have hb := B.bytes
  have hr := B.returns
  have hT : ∀ w ∈ tB, w.before _ s = true := fun w h => atoms_spec (ws := wsFi_size) B.pre w (List.mem_cons_of_mem _ h)
  have hown : s.vm.findClass "CompiledProgram$Fields" = some m.cls := findClass_of_methodNamed B.named
  have hlocks := B.notSynchronized
  have hS : va_S (fun _ => False) s.heap s.heap [] := va_S.rf
  have hl := lv_entry ([.long a0]) (n := 2) (Nat.le_of_ble_eq_true rfl)
  rw [lg_entry_eq]
  generalize (lg_sl ([.long a0]) ++ List.replicate (2 - (lg_sl ([.long a0])).length) Slot.unset).toArray = ls at hl ⊢
  have hl : lv_has ls 2 [(0, .long a0)] := hl
  refine lv_lload_n hx hb dFi_size_0 rfl (lv_at hl 0 rfl) ?_
  refine lv_iconst (v := (3 : Int32)) hx hb dFi_size_1 (by decide) ?_
  refine lv_lushr (v := (j_lushr a0 (3 : Int32))) hx hb dFi_size_2 rfl ?_
  refine lv_l2i hx hb dFi_size_3 rfl ?_
  refine lv_iconst (v := (3 : Int32)) hx hb dFi_size_4 (by decide) ?_
  refine lv_iand hx hb dFi_size_5 ?_
  by_cases c1 : (((j_lushr a0 (3 : Int32)).toInt32) &&& (3 : Int32)) = (0 : Int32)
  · skip
    refine lv_tableIn (tgt := 32) (off := 26) hx hb dFi_size_6 (by rw [c1]; decide) (by rw [c1]; decide) (by rw [c1]; rfl) (by decide) ?_
    refine lv_iconst (v := (4 : Int32)) hx hb dFi_size_32 (by decide) ?_
    exact W.iret (v := (4 : Int32)) hx hb hr (fun t ht hW => ⟨⟨(4 : Int32), (), rfl, (by unfold f_Fi_size; rw [if_pos c1]; try rfl), ht⟩, hS.F ht⟩) hS.2.2 dFi_size_33
  by_cases c2 : (((j_lushr a0 (3 : Int32)).toInt32) &&& (3 : Int32)) = (1 : Int32)
  · skip
    refine lv_tableIn (tgt := 34) (off := 28) hx hb dFi_size_6 (by rw [c2]; decide) (by rw [c2]; decide) (by rw [c2]; rfl) (by decide) ?_
    refine lv_iconst (v := (2 : Int32)) hx hb dFi_size_34 (by decide) ?_
    exact W.iret (v := (2 : Int32)) hx hb hr (fun t ht hW => ⟨⟨(2 : Int32), (), rfl, (by unfold f_Fi_size; rw [if_neg c1, if_pos c2]; try rfl), ht⟩, hS.F ht⟩) hS.2.2 dFi_size_35
  by_cases c3 : (((j_lushr a0 (3 : Int32)).toInt32) &&& (3 : Int32)) = (2 : Int32)
  · skip
    refine lv_tableIn (tgt := 36) (off := 30) hx hb dFi_size_6 (by rw [c3]; decide) (by rw [c3]; decide) (by rw [c3]; rfl) (by decide) ?_
    refine lv_iconst (v := (1 : Int32)) hx hb dFi_size_36 (by decide) ?_
    exact W.iret (v := (1 : Int32)) hx hb hr (fun t ht hW => ⟨⟨(1 : Int32), (), rfl, (by unfold f_Fi_size; rw [if_neg c1, if_neg c2, if_pos c3]; try rfl), ht⟩, hS.F ht⟩) hS.2.2 dFi_size_37
  refine lv_tableOut (tgt := 38) hx hb dFi_size_6 (by have h0 := lv_neT c1 (a := 0) (by decide); have h1 := lv_neT c2 (a := 1) (by decide); have h2 := lv_neT c3 (a := 2) (by decide); omega) (by decide) ?_
  refine lv_bipush (v := (8 : Int32)) hx hb dFi_size_38 (by decide) ?_
  exact W.iret (v := (8 : Int32)) hx hb hr (fun t ht hW => ⟨⟨(8 : Int32), (), rfl, (by unfold f_Fi_size; rw [if_neg c1, if_neg c2, if_neg c3]; try rfl), ht⟩, hS.F ht⟩) hS.2.2 dFi_size_40

def f_Fi_target (a0 : Int64) : Int32 :=
  (((j_lushr a0 (8 : Int32)).toInt32) &&& (15 : Int32))
set_option maxHeartbeats 4000000 in
set_option maxRecDepth 100000 in
theorem c_Fi_target (l : Launch) (Hp : Heap) (a0 : Int64) : Met l yFi_target wsFi_target ({ frames := 0, cells := 0, slots := 0, locals := 0 }) (va_Pc [.long a0] (fun U => U.heap = Hp)) (va_Qi (fun (r : Int32) (_ : Unit) => r = f_Fi_target a0) (fun _ t => t.heap = Hp) (fun _ => False)) 0 0 (fun _ => False) := by
  refine Met.ofW (cc := cFi_target) (maxL := 2) (ret := (some .int)) (by decide) rfl ?_
  intro p e s m args below meth c s₁ B hml hv
  obtain ⟨rfl, rfl⟩ := hv
  have hx := B.exec
  have hb := B.bytes
  have hr := B.returns
  have hT : ∀ w ∈ tB, w.before _ s = true := fun w h => atoms_spec (ws := wsFi_target) B.pre w (List.mem_cons_of_mem _ h)
  have hown : s.vm.findClass "CompiledProgram$Fields" = some m.cls := findClass_of_methodNamed B.named
  have hlocks := B.notSynchronized
  have hS : va_S (fun _ => False) s.heap s.heap [] := va_S.rf
  have hl := lv_entry ([.long a0]) (n := 2) (Nat.le_of_ble_eq_true rfl)
  rw [lg_entry_eq]
  generalize (lg_sl ([.long a0]) ++ List.replicate (2 - (lg_sl ([.long a0])).length) Slot.unset).toArray = ls at hl ⊢
  have hl : lv_has ls 2 [(0, .long a0)] := hl
  refine lv_lload_n hx hb dFi_target_0 rfl (lv_at hl 0 rfl) ?_
  refine lv_bipush (v := (8 : Int32)) hx hb dFi_target_1 (by decide) ?_
  refine lv_lushr (v := (j_lushr a0 (8 : Int32))) hx hb dFi_target_3 rfl ?_
  refine lv_l2i hx hb dFi_target_4 rfl ?_
  refine lv_bipush (v := (15 : Int32)) hx hb dFi_target_5 (by decide) ?_
  refine lv_iand hx hb dFi_target_7 ?_
  exact W.iret (v := (((j_lushr a0 (8 : Int32)).toInt32) &&& (15 : Int32))) hx hb hr (fun t ht hW => ⟨⟨(((j_lushr a0 (8 : Int32)).toInt32) &&& (15 : Int32)), (), rfl, rfl, ht⟩, hS.F ht⟩) hS.2.2 dFi_target_8

def f_Fi_source (a0 : Int64) : Int32 :=
  (((j_lushr a0 (12 : Int32)).toInt32) &&& (15 : Int32))
set_option maxHeartbeats 4000000 in
set_option maxRecDepth 100000 in
theorem c_Fi_source (l : Launch) (Hp : Heap) (a0 : Int64) : Met l yFi_source wsFi_source ({ frames := 0, cells := 0, slots := 0, locals := 0 }) (va_Pc [.long a0] (fun U => U.heap = Hp)) (va_Qi (fun (r : Int32) (_ : Unit) => r = f_Fi_source a0) (fun _ t => t.heap = Hp) (fun _ => False)) 0 0 (fun _ => False) := by
  refine Met.ofW (cc := cFi_source) (maxL := 2) (ret := (some .int)) (by decide) rfl ?_
  intro p e s m args below meth c s₁ B hml hv
  obtain ⟨rfl, rfl⟩ := hv
  have hx := B.exec
  have hb := B.bytes
  have hr := B.returns
  have hT : ∀ w ∈ tB, w.before _ s = true := fun w h => atoms_spec (ws := wsFi_source) B.pre w (List.mem_cons_of_mem _ h)
  have hown : s.vm.findClass "CompiledProgram$Fields" = some m.cls := findClass_of_methodNamed B.named
  have hlocks := B.notSynchronized
  have hS : va_S (fun _ => False) s.heap s.heap [] := va_S.rf
  have hl := lv_entry ([.long a0]) (n := 2) (Nat.le_of_ble_eq_true rfl)
  rw [lg_entry_eq]
  generalize (lg_sl ([.long a0]) ++ List.replicate (2 - (lg_sl ([.long a0])).length) Slot.unset).toArray = ls at hl ⊢
  have hl : lv_has ls 2 [(0, .long a0)] := hl
  refine lv_lload_n hx hb dFi_source_0 rfl (lv_at hl 0 rfl) ?_
  refine lv_bipush (v := (12 : Int32)) hx hb dFi_source_1 (by decide) ?_
  refine lv_lushr (v := (j_lushr a0 (12 : Int32))) hx hb dFi_source_3 rfl ?_
  refine lv_l2i hx hb dFi_source_4 rfl ?_
  refine lv_bipush (v := (15 : Int32)) hx hb dFi_source_5 (by decide) ?_
  refine lv_iand hx hb dFi_source_7 ?_
  exact W.iret (v := (((j_lushr a0 (12 : Int32)).toInt32) &&& (15 : Int32))) hx hb hr (fun t ht hW => ⟨⟨(((j_lushr a0 (12 : Int32)).toInt32) &&& (15 : Int32)), (), rfl, rfl, ht⟩, hS.F ht⟩) hS.2.2 dFi_source_8

def f_Fi_offset (a0 : Int64) : Int32 :=
  (j_i2s ((j_lushr a0 (16 : Int32)).toInt32))
set_option maxHeartbeats 4000000 in
set_option maxRecDepth 100000 in
theorem c_Fi_offset (l : Launch) (Hp : Heap) (a0 : Int64) : Met l yFi_offset wsFi_offset ({ frames := 0, cells := 0, slots := 0, locals := 0 }) (va_Pc [.long a0] (fun U => U.heap = Hp)) (va_Qi (fun (r : Int32) (_ : Unit) => r = f_Fi_offset a0) (fun _ t => t.heap = Hp) (fun _ => False)) 0 0 (fun _ => False) := by
  refine Met.ofW (cc := cFi_offset) (maxL := 2) (ret := (some .int)) (by decide) rfl ?_
  intro p e s m args below meth c s₁ B hml hv
  obtain ⟨rfl, rfl⟩ := hv
  have hx := B.exec
  have hb := B.bytes
  have hr := B.returns
  have hT : ∀ w ∈ tB, w.before _ s = true := fun w h => atoms_spec (ws := wsFi_offset) B.pre w (List.mem_cons_of_mem _ h)
  have hown : s.vm.findClass "CompiledProgram$Fields" = some m.cls := findClass_of_methodNamed B.named
  have hlocks := B.notSynchronized
  have hS : va_S (fun _ => False) s.heap s.heap [] := va_S.rf
  have hl := lv_entry ([.long a0]) (n := 2) (Nat.le_of_ble_eq_true rfl)
  rw [lg_entry_eq]
  generalize (lg_sl ([.long a0]) ++ List.replicate (2 - (lg_sl ([.long a0])).length) Slot.unset).toArray = ls at hl ⊢
  have hl : lv_has ls 2 [(0, .long a0)] := hl
  refine lv_lload_n hx hb dFi_offset_0 rfl (lv_at hl 0 rfl) ?_
  refine lv_bipush (v := (16 : Int32)) hx hb dFi_offset_1 (by decide) ?_
  refine lv_lushr (v := (j_lushr a0 (16 : Int32))) hx hb dFi_offset_3 rfl ?_
  refine lv_l2i hx hb dFi_offset_4 rfl ?_
  refine lv_i2s (v := (j_i2s ((j_lushr a0 (16 : Int32)).toInt32))) hx hb dFi_offset_5 rfl ?_
  exact W.iret (v := (j_i2s ((j_lushr a0 (16 : Int32)).toInt32))) hx hb hr (fun t ht hW => ⟨⟨(j_i2s ((j_lushr a0 (16 : Int32)).toInt32)), (), rfl, rfl, ht⟩, hS.F ht⟩) hS.2.2 dFi_offset_6

def f_Fi_immediate (a0 : Int64) : Int32 :=
  ((j_lushr a0 (32 : Int32)).toInt32)
set_option maxHeartbeats 4000000 in
set_option maxRecDepth 100000 in
theorem c_Fi_immediate (l : Launch) (Hp : Heap) (a0 : Int64) : Met l yFi_immediate wsFi_immediate ({ frames := 0, cells := 0, slots := 0, locals := 0 }) (va_Pc [.long a0] (fun U => U.heap = Hp)) (va_Qi (fun (r : Int32) (_ : Unit) => r = f_Fi_immediate a0) (fun _ t => t.heap = Hp) (fun _ => False)) 0 0 (fun _ => False) := by
  refine Met.ofW (cc := cFi_immediate) (maxL := 2) (ret := (some .int)) (by decide) rfl ?_
  intro p e s m args below meth c s₁ B hml hv
  obtain ⟨rfl, rfl⟩ := hv
  have hx := B.exec
  have hb := B.bytes
  have hr := B.returns
  have hT : ∀ w ∈ tB, w.before _ s = true := fun w h => atoms_spec (ws := wsFi_immediate) B.pre w (List.mem_cons_of_mem _ h)
  have hown : s.vm.findClass "CompiledProgram$Fields" = some m.cls := findClass_of_methodNamed B.named
  have hlocks := B.notSynchronized
  have hS : va_S (fun _ => False) s.heap s.heap [] := va_S.rf
  have hl := lv_entry ([.long a0]) (n := 2) (Nat.le_of_ble_eq_true rfl)
  rw [lg_entry_eq]
  generalize (lg_sl ([.long a0]) ++ List.replicate (2 - (lg_sl ([.long a0])).length) Slot.unset).toArray = ls at hl ⊢
  have hl : lv_has ls 2 [(0, .long a0)] := hl
  refine lv_lload_n hx hb dFi_immediate_0 rfl (lv_at hl 0 rfl) ?_
  refine lv_bipush (v := (32 : Int32)) hx hb dFi_immediate_1 (by decide) ?_
  refine lv_lushr (v := (j_lushr a0 (32 : Int32))) hx hb dFi_immediate_3 rfl ?_
  refine lv_l2i hx hb dFi_immediate_4 rfl ?_
  exact W.iret (v := ((j_lushr a0 (32 : Int32)).toInt32)) hx hb hr (fun t ht hW => ⟨⟨((j_lushr a0 (32 : Int32)).toInt32), (), rfl, rfl, ht⟩, hS.F ht⟩) hS.2.2 dFi_immediate_5

def f_Fi_isTwoPlaces (a0 : Int64) : Bool :=
  if (f_Fi_code a0) = (24 : Int32) then
    true
  else
    false
set_option maxHeartbeats 4000000 in
set_option maxRecDepth 100000 in
theorem c_Fi_isTwoPlaces (l : Launch) (Hp : Heap) (a0 : Int64) : Met l yFi_isTwoPlaces wsFi_isTwoPlaces ({ frames := 1, cells := 0, slots := 0, locals := 21 }) (va_Pc [.long a0] (fun U => U.heap = Hp)) (va_Qi (fun (r : Int32) (_ : Unit) => r = (bI (f_Fi_isTwoPlaces a0))) (fun _ t => t.heap = Hp) (fun _ => False)) 0 0 (fun _ => False) := by
  refine Met.ofW (cc := cFi_isTwoPlaces) (maxL := 2) (ret := (some .boolean)) (by decide) rfl ?_
  intro p e s m args below meth c s₁ B hml hv
  obtain ⟨rfl, rfl⟩ := hv
  have hx := B.exec
  have hb := B.bytes
  have hr := B.returns
  have hT : ∀ w ∈ tB, w.before _ s = true := fun w h => atoms_spec (ws := wsFi_isTwoPlaces) B.pre w (List.mem_cons_of_mem _ h)
  have hown : s.vm.findClass "CompiledProgram$Fields" = some m.cls := findClass_of_methodNamed B.named
  have hlocks := B.notSynchronized
  have hS : va_S (fun _ => False) s.heap s.heap [] := va_S.rf
  have hl := lv_entry ([.long a0]) (n := 2) (Nat.le_of_ble_eq_true rfl)
  rw [lg_entry_eq]
  generalize (lg_sl ([.long a0]) ++ List.replicate (2 - (lg_sl ([.long a0])).length) Slot.unset).toArray = ls at hl ⊢
  have hl : lv_has ls 2 [(0, .long a0)] := hl
  refine lv_lload_n hx hb dFi_isTwoPlaces_0 rfl (lv_at hl 0 rfl) ?_
  refine va_calli (va_runS (As := [.long a0]) (rest := []) ⟨hx, hb, hml, hown, hT⟩ (c_Fi_code l s.heap a0) (cwS 1 hT (gB_S mw_143 mw_144 mw_16 mw_145) rfl rfl rfl (by decide +kernel) ⟨Nat.le_of_ble_eq_true rfl, Nat.le_of_ble_eq_true rfl⟩) ⟨fun _ _ _ _ q => q, fun U hU hW => ⟨rfl, hU⟩⟩ rfl rfl hl.1 rfl (lv_room (Nat.le_of_ble_eq_true rfl)) dFi_isTwoPlaces_1 ⟨Nat.zero_le _, Nat.zero_le _⟩) hS (fun _ _ h => h.elim) (fun _ h => h.elim) (fun r u t H1 locs ht hvm hw hB hz8 hk8 hS => ?_)
  obtain rfl : s.heap = H1 := hB.symm.trans ht
  subst hw
  refine lv_bipush (v := (24 : Int32)) hx hb dFi_isTwoPlaces_4 (by decide) ?_
  refine lv_icmp_ne (tgt := 13) hx hb dFi_isTwoPlaces_6 (by decide) (fun c1 => ?_) (fun c1 => ?_)
  · skip
    refine lv_iconst (v := (0 : Int32)) hx hb dFi_isTwoPlaces_13 (by decide) ?_
    exact W.zret (v := (0 : Int32)) hx hb hr rfl (fun t ht hW => ⟨⟨(0 : Int32), (), rfl, (by unfold f_Fi_isTwoPlaces; rw [if_neg c1]; try rfl), ht⟩, hS.F ht⟩) hS.2.2 dFi_isTwoPlaces_14
  · skip
    refine lv_iconst (v := (1 : Int32)) hx hb dFi_isTwoPlaces_9 (by decide) ?_
    refine lv_goto (tgt := 14) hx hb dFi_isTwoPlaces_10 (by decide) ?_
    exact W.zret (v := (1 : Int32)) hx hb hr rfl (fun t ht hW => ⟨⟨(1 : Int32), (), rfl, (by unfold f_Fi_isTwoPlaces; rw [if_pos c1]; try rfl), ht⟩, hS.F ht⟩) hS.2.2 dFi_isTwoPlaces_14

def f_Fi_isExit (a0 : Int64) : Bool :=
  if (f_Fi_code a0) = (149 : Int32) then
    true
  else
    false
set_option maxHeartbeats 4000000 in
set_option maxRecDepth 100000 in
theorem c_Fi_isExit (l : Launch) (Hp : Heap) (a0 : Int64) : Met l yFi_isExit wsFi_isExit ({ frames := 1, cells := 0, slots := 0, locals := 21 }) (va_Pc [.long a0] (fun U => U.heap = Hp)) (va_Qi (fun (r : Int32) (_ : Unit) => r = (bI (f_Fi_isExit a0))) (fun _ t => t.heap = Hp) (fun _ => False)) 0 0 (fun _ => False) := by
  refine Met.ofW (cc := cFi_isExit) (maxL := 2) (ret := (some .boolean)) (by decide) rfl ?_
  intro p e s m args below meth c s₁ B hml hv
  obtain ⟨rfl, rfl⟩ := hv
  have hx := B.exec
  have hb := B.bytes
  have hr := B.returns
  have hT : ∀ w ∈ tB, w.before _ s = true := fun w h => atoms_spec (ws := wsFi_isExit) B.pre w (List.mem_cons_of_mem _ h)
  have hown : s.vm.findClass "CompiledProgram$Fields" = some m.cls := findClass_of_methodNamed B.named
  have hlocks := B.notSynchronized
  have hS : va_S (fun _ => False) s.heap s.heap [] := va_S.rf
  have hl := lv_entry ([.long a0]) (n := 2) (Nat.le_of_ble_eq_true rfl)
  rw [lg_entry_eq]
  generalize (lg_sl ([.long a0]) ++ List.replicate (2 - (lg_sl ([.long a0])).length) Slot.unset).toArray = ls at hl ⊢
  have hl : lv_has ls 2 [(0, .long a0)] := hl
  refine lv_lload_n hx hb dFi_isExit_0 rfl (lv_at hl 0 rfl) ?_
  refine va_calli (va_runS (As := [.long a0]) (rest := []) ⟨hx, hb, hml, hown, hT⟩ (c_Fi_code l s.heap a0) (cwS 1 hT (gB_S mw_143 mw_144 mw_16 mw_145) rfl rfl rfl (by decide +kernel) ⟨Nat.le_of_ble_eq_true rfl, Nat.le_of_ble_eq_true rfl⟩) ⟨fun _ _ _ _ q => q, fun U hU hW => ⟨rfl, hU⟩⟩ rfl rfl hl.1 rfl (lv_room (Nat.le_of_ble_eq_true rfl)) dFi_isExit_1 ⟨Nat.zero_le _, Nat.zero_le _⟩) hS (fun _ _ h => h.elim) (fun _ h => h.elim) (fun r u t H1 locs ht hvm hw hB hz8 hk8 hS => ?_)
  obtain rfl : s.heap = H1 := hB.symm.trans ht
  subst hw
  refine lv_sipush (v := (149 : Int32)) hx hb dFi_isExit_4 (by decide) ?_
  refine lv_icmp_ne (tgt := 14) hx hb dFi_isExit_7 (by decide) (fun c1 => ?_) (fun c1 => ?_)
  · skip
    refine lv_iconst (v := (0 : Int32)) hx hb dFi_isExit_14 (by decide) ?_
    exact W.zret (v := (0 : Int32)) hx hb hr rfl (fun t ht hW => ⟨⟨(0 : Int32), (), rfl, (by unfold f_Fi_isExit; rw [if_neg c1]; try rfl), ht⟩, hS.F ht⟩) hS.2.2 dFi_isExit_15
  · skip
    refine lv_iconst (v := (1 : Int32)) hx hb dFi_isExit_10 (by decide) ?_
    refine lv_goto (tgt := 15) hx hb dFi_isExit_11 (by decide) ?_
    exact W.zret (v := (1 : Int32)) hx hb hr rfl (fun t ht hW => ⟨⟨(1 : Int32), (), rfl, (by unfold f_Fi_isExit; rw [if_pos c1]; try rfl), ht⟩, hS.F ht⟩) hS.2.2 dFi_isExit_15

def f_Fi_isCall (a0 : Int64) : Bool :=
  if (f_Fi_code a0) = (133 : Int32) then
    true
  else
    false
set_option maxHeartbeats 4000000 in
set_option maxRecDepth 100000 in
theorem c_Fi_isCall (l : Launch) (Hp : Heap) (a0 : Int64) : Met l yFi_isCall wsFi_isCall ({ frames := 1, cells := 0, slots := 0, locals := 21 }) (va_Pc [.long a0] (fun U => U.heap = Hp)) (va_Qi (fun (r : Int32) (_ : Unit) => r = (bI (f_Fi_isCall a0))) (fun _ t => t.heap = Hp) (fun _ => False)) 0 0 (fun _ => False) := by
  refine Met.ofW (cc := cFi_isCall) (maxL := 2) (ret := (some .boolean)) (by decide) rfl ?_
  intro p e s m args below meth c s₁ B hml hv
  obtain ⟨rfl, rfl⟩ := hv
  have hx := B.exec
  have hb := B.bytes
  have hr := B.returns
  have hT : ∀ w ∈ tB, w.before _ s = true := fun w h => atoms_spec (ws := wsFi_isCall) B.pre w (List.mem_cons_of_mem _ h)
  have hown : s.vm.findClass "CompiledProgram$Fields" = some m.cls := findClass_of_methodNamed B.named
  have hlocks := B.notSynchronized
  have hS : va_S (fun _ => False) s.heap s.heap [] := va_S.rf
  have hl := lv_entry ([.long a0]) (n := 2) (Nat.le_of_ble_eq_true rfl)
  rw [lg_entry_eq]
  generalize (lg_sl ([.long a0]) ++ List.replicate (2 - (lg_sl ([.long a0])).length) Slot.unset).toArray = ls at hl ⊢
  have hl : lv_has ls 2 [(0, .long a0)] := hl
  refine lv_lload_n hx hb dFi_isCall_0 rfl (lv_at hl 0 rfl) ?_
  refine va_calli (va_runS (As := [.long a0]) (rest := []) ⟨hx, hb, hml, hown, hT⟩ (c_Fi_code l s.heap a0) (cwS 1 hT (gB_S mw_143 mw_144 mw_16 mw_145) rfl rfl rfl (by decide +kernel) ⟨Nat.le_of_ble_eq_true rfl, Nat.le_of_ble_eq_true rfl⟩) ⟨fun _ _ _ _ q => q, fun U hU hW => ⟨rfl, hU⟩⟩ rfl rfl hl.1 rfl (lv_room (Nat.le_of_ble_eq_true rfl)) dFi_isCall_1 ⟨Nat.zero_le _, Nat.zero_le _⟩) hS (fun _ _ h => h.elim) (fun _ h => h.elim) (fun r u t H1 locs ht hvm hw hB hz8 hk8 hS => ?_)
  obtain rfl : s.heap = H1 := hB.symm.trans ht
  subst hw
  refine lv_sipush (v := (133 : Int32)) hx hb dFi_isCall_4 (by decide) ?_
  refine lv_icmp_ne (tgt := 14) hx hb dFi_isCall_7 (by decide) (fun c1 => ?_) (fun c1 => ?_)
  · skip
    refine lv_iconst (v := (0 : Int32)) hx hb dFi_isCall_14 (by decide) ?_
    exact W.zret (v := (0 : Int32)) hx hb hr rfl (fun t ht hW => ⟨⟨(0 : Int32), (), rfl, (by unfold f_Fi_isCall; rw [if_neg c1]; try rfl), ht⟩, hS.F ht⟩) hS.2.2 dFi_isCall_15
  · skip
    refine lv_iconst (v := (1 : Int32)) hx hb dFi_isCall_10 (by decide) ?_
    refine lv_goto (tgt := 15) hx hb dFi_isCall_11 (by decide) ?_
    exact W.zret (v := (1 : Int32)) hx hb hr rfl (fun t ht hW => ⟨⟨(1 : Int32), (), rfl, (by unfold f_Fi_isCall; rw [if_pos c1]; try rfl), ht⟩, hS.F ht⟩) hS.2.2 dFi_isCall_15

def f_Fi_jumpsAlways (a0 : Int64) : Bool :=
  if (f_Fi_code a0) = (5 : Int32) then
    true
  else
    if (f_Fi_code a0) = (6 : Int32) then
      true
    else
      false
set_option maxHeartbeats 4000000 in
set_option maxRecDepth 100000 in
theorem c_Fi_jumpsAlways (l : Launch) (Hp : Heap) (a0 : Int64) : Met l yFi_jumpsAlways wsFi_jumpsAlways ({ frames := 1, cells := 0, slots := 0, locals := 21 }) (va_Pc [.long a0] (fun U => U.heap = Hp)) (va_Qi (fun (r : Int32) (_ : Unit) => r = (bI (f_Fi_jumpsAlways a0))) (fun _ t => t.heap = Hp) (fun _ => False)) 0 0 (fun _ => False) := by
  refine Met.ofW (cc := cFi_jumpsAlways) (maxL := 2) (ret := (some .boolean)) (by decide) rfl ?_
  intro p e s m args below meth c s₁ B hml hv
  obtain ⟨rfl, rfl⟩ := hv
  have hx := B.exec
  have hb := B.bytes
  have hr := B.returns
  have hT : ∀ w ∈ tB, w.before _ s = true := fun w h => atoms_spec (ws := wsFi_jumpsAlways) B.pre w (List.mem_cons_of_mem _ h)
  have hown : s.vm.findClass "CompiledProgram$Fields" = some m.cls := findClass_of_methodNamed B.named
  have hlocks := B.notSynchronized
  have hS : va_S (fun _ => False) s.heap s.heap [] := va_S.rf
  have hl := lv_entry ([.long a0]) (n := 2) (Nat.le_of_ble_eq_true rfl)
  rw [lg_entry_eq]
  generalize (lg_sl ([.long a0]) ++ List.replicate (2 - (lg_sl ([.long a0])).length) Slot.unset).toArray = ls at hl ⊢
  have hl : lv_has ls 2 [(0, .long a0)] := hl
  refine lv_lload_n hx hb dFi_jumpsAlways_0 rfl (lv_at hl 0 rfl) ?_
  refine va_calli (va_runS (As := [.long a0]) (rest := []) ⟨hx, hb, hml, hown, hT⟩ (c_Fi_code l s.heap a0) (cwS 1 hT (gB_S mw_143 mw_144 mw_16 mw_145) rfl rfl rfl (by decide +kernel) ⟨Nat.le_of_ble_eq_true rfl, Nat.le_of_ble_eq_true rfl⟩) ⟨fun _ _ _ _ q => q, fun U hU hW => ⟨rfl, hU⟩⟩ rfl rfl hl.1 rfl (lv_room (Nat.le_of_ble_eq_true rfl)) dFi_jumpsAlways_1 ⟨Nat.zero_le _, Nat.zero_le _⟩) hS (fun _ _ h => h.elim) (fun _ h => h.elim) (fun r u t H1 locs ht hvm hw hB hz8 hk8 hS => ?_)
  obtain rfl : s.heap = H1 := hB.symm.trans ht
  subst hw
  refine lv_iconst (v := (5 : Int32)) hx hb dFi_jumpsAlways_4 (by decide) ?_
  refine lv_icmp_eq (tgt := 17) hx hb dFi_jumpsAlways_5 (by decide) (fun c1 => ?_) (fun c1 => ?_)
  · skip
    refine lv_iconst (v := (1 : Int32)) hx hb dFi_jumpsAlways_17 (by decide) ?_
    refine lv_goto (tgt := 22) hx hb dFi_jumpsAlways_18 (by decide) ?_
    exact W.zret (v := (1 : Int32)) hx hb hr rfl (fun t ht hW => ⟨⟨(1 : Int32), (), rfl, (by unfold f_Fi_jumpsAlways; rw [if_pos c1]; try rfl), ht⟩, hS.F ht⟩) hS.2.2 dFi_jumpsAlways_22
  · skip
    refine lv_lload_n hx hb dFi_jumpsAlways_8 rfl (lv_at hl 0 rfl) ?_
    refine va_calli (va_runS (As := [.long a0]) (rest := []) ⟨hx, hb, hml, hown, hT⟩ (c_Fi_code l s.heap a0) (cwS 1 hT (gB_S mw_143 mw_144 mw_16 mw_145) rfl rfl rfl (by decide +kernel) ⟨Nat.le_of_ble_eq_true rfl, Nat.le_of_ble_eq_true rfl⟩) ⟨fun _ _ _ _ q => q, fun U hU hW => ⟨rfl, hU⟩⟩ rfl rfl hl.1 rfl (lv_room (Nat.le_of_ble_eq_true rfl)) dFi_jumpsAlways_9 ⟨Nat.zero_le _, Nat.zero_le _⟩) hS (fun _ _ h => h.elim) (fun _ h => h.elim) (fun r u t H1 locs ht hvm hw hB hz8 hk8 hS => ?_)
    obtain rfl : s.heap = H1 := hB.symm.trans ht
    subst hw
    refine lv_bipush (v := (6 : Int32)) hx hb dFi_jumpsAlways_12 (by decide) ?_
    refine lv_icmp_ne (tgt := 21) hx hb dFi_jumpsAlways_14 (by decide) (fun c2 => ?_) (fun c2 => ?_)
    · skip
      refine lv_iconst (v := (0 : Int32)) hx hb dFi_jumpsAlways_21 (by decide) ?_
      exact W.zret (v := (0 : Int32)) hx hb hr rfl (fun t ht hW => ⟨⟨(0 : Int32), (), rfl, (by unfold f_Fi_jumpsAlways; rw [if_neg c1, if_neg c2]; try rfl), ht⟩, hS.F ht⟩) hS.2.2 dFi_jumpsAlways_22
    · skip
      refine lv_iconst (v := (1 : Int32)) hx hb dFi_jumpsAlways_17 (by decide) ?_
      refine lv_goto (tgt := 22) hx hb dFi_jumpsAlways_18 (by decide) ?_
      exact W.zret (v := (1 : Int32)) hx hb hr rfl (fun t ht hW => ⟨⟨(1 : Int32), (), rfl, (by unfold f_Fi_jumpsAlways; rw [if_neg c1, if_pos c2]; try rfl), ht⟩, hS.F ht⟩) hS.2.2 dFi_jumpsAlways_22

def f_Fi_jumpsPerhaps (a0 : Int64) : Bool :=
  if (f_Fi_kind a0) = (5 : Int32) then
    if (f_Fi_operation a0) < (1 : Int32) then
      if (f_Fi_operation a0) < (10 : Int32) then
        false
      else
        if (13 : Int32) < (f_Fi_operation a0) then
          false
        else
          true
    else
      if (f_Fi_operation a0) ≤ (7 : Int32) then
        true
      else
        if (f_Fi_operation a0) < (10 : Int32) then
          false
        else
          if (13 : Int32) < (f_Fi_operation a0) then
            false
          else
            true
  else
    if (f_Fi_kind a0) = (6 : Int32) then
      if (f_Fi_operation a0) < (1 : Int32) then
        if (f_Fi_operation a0) < (10 : Int32) then
          false
        else
          if (13 : Int32) < (f_Fi_operation a0) then
            false
          else
            true
      else
        if (f_Fi_operation a0) ≤ (7 : Int32) then
          true
        else
          if (f_Fi_operation a0) < (10 : Int32) then
            false
          else
            if (13 : Int32) < (f_Fi_operation a0) then
              false
            else
              true
    else
      false
set_option maxHeartbeats 4000000 in
set_option maxRecDepth 100000 in
theorem c_Fi_jumpsPerhaps (l : Launch) (Hp : Heap) (a0 : Int64) : Met l yFi_jumpsPerhaps wsFi_jumpsPerhaps ({ frames := 1, cells := 0, slots := 0, locals := 21 }) (va_Pc [.long a0] (fun U => U.heap = Hp)) (va_Qi (fun (r : Int32) (_ : Unit) => r = (bI (f_Fi_jumpsPerhaps a0))) (fun _ t => t.heap = Hp) (fun _ => False)) 0 0 (fun _ => False) := by
  refine Met.ofW (cc := cFi_jumpsPerhaps) (maxL := 4) (ret := (some .boolean)) (by decide) rfl ?_
  intro p e s m args below meth c s₁ B hml hv
  obtain ⟨rfl, rfl⟩ := hv
  have hx := B.exec
  have hb := B.bytes
  have hr := B.returns
  have hT : ∀ w ∈ tB, w.before _ s = true := fun w h => atoms_spec (ws := wsFi_jumpsPerhaps) B.pre w (List.mem_cons_of_mem _ h)
  have hown : s.vm.findClass "CompiledProgram$Fields" = some m.cls := findClass_of_methodNamed B.named
  have hlocks := B.notSynchronized
  have hS : va_S (fun _ => False) s.heap s.heap [] := va_S.rf
  have hl := lv_entry ([.long a0]) (n := 4) (Nat.le_of_ble_eq_true rfl)
  rw [lg_entry_eq]
  generalize (lg_sl ([.long a0]) ++ List.replicate (4 - (lg_sl ([.long a0])).length) Slot.unset).toArray = ls at hl ⊢
  have hl : lv_has ls 4 [(0, .long a0)] := hl
  refine lv_lload_n hx hb dFi_jumpsPerhaps_0 rfl (lv_at hl 0 rfl) ?_
  refine va_calli (va_runS (As := [.long a0]) (rest := []) ⟨hx, hb, hml, hown, hT⟩ (c_Fi_operation l s.heap a0) (cwS 1 hT (gB_S mw_182 mw_183 mw_16 mw_184) rfl rfl rfl (by decide +kernel) ⟨Nat.le_of_ble_eq_true rfl, Nat.le_of_ble_eq_true rfl⟩) ⟨fun _ _ _ _ q => q, fun U hU hW => ⟨rfl, hU⟩⟩ rfl rfl hl.1 rfl (lv_room (Nat.le_of_ble_eq_true rfl)) dFi_jumpsPerhaps_1 ⟨Nat.zero_le _, Nat.zero_le _⟩) hS (fun _ _ h => h.elim) (fun _ h => h.elim) (fun r u t H1 locs ht hvm hw hB hz8 hk8 hS => ?_)
  obtain rfl : s.heap = H1 := hB.symm.trans ht
  subst hw
  refine lv_istore_n (lv' := [(2, .int (f_Fi_operation a0)), (0, .long a0)]) hx hb dFi_jumpsPerhaps_4 rfl hl (by decide) rfl (fun ls hl => ?_)
  refine lv_lload_n hx hb dFi_jumpsPerhaps_5 rfl (lv_at hl 1 rfl) ?_
  refine va_calli (va_runS (As := [.long a0]) (rest := []) ⟨hx, hb, hml, hown, hT⟩ (c_Fi_kind l s.heap a0) (cwS 1 hT (gB_S mw_185 mw_132 mw_16 mw_133) rfl rfl rfl (by decide +kernel) ⟨Nat.le_of_ble_eq_true rfl, Nat.le_of_ble_eq_true rfl⟩) ⟨fun _ _ _ _ q => q, fun U hU hW => ⟨rfl, hU⟩⟩ rfl rfl hl.1 rfl (lv_room (Nat.le_of_ble_eq_true rfl)) dFi_jumpsPerhaps_6 ⟨Nat.zero_le _, Nat.zero_le _⟩) hS (fun _ _ h => h.elim) (fun _ h => h.elim) (fun r u t H1 locs ht hvm hw hB hz8 hk8 hS => ?_)
  obtain rfl : s.heap = H1 := hB.symm.trans ht
  subst hw
  refine lv_iconst (v := (5 : Int32)) hx hb dFi_jumpsPerhaps_9 (by decide) ?_
  refine lv_icmp_eq (tgt := 22) hx hb dFi_jumpsPerhaps_10 (by decide) (fun c1 => ?_) (fun c1 => ?_)
  · skip
    refine lv_iconst (v := (1 : Int32)) hx hb dFi_jumpsPerhaps_22 (by decide) ?_
    refine lv_goto (tgt := 27) hx hb dFi_jumpsPerhaps_23 (by decide) ?_
    refine lv_istore_n (lv' := [(3, .int (1 : Int32)), (2, .int (f_Fi_operation a0)), (0, .long a0)]) hx hb dFi_jumpsPerhaps_27 rfl hl (by decide) rfl (fun ls hl => ?_)
    refine lv_iload_n hx hb dFi_jumpsPerhaps_28 rfl (lv_at hl 0 rfl) ?_
    refine lv_if_eq (tgt := 59) hx hb dFi_jumpsPerhaps_29 (by decide) (fun c2 => absurd c2 (by decide)) (fun _ => ?_)
    refine lv_iload_n hx hb dFi_jumpsPerhaps_32 rfl (lv_at hl 1 rfl) ?_
    refine lv_iconst (v := (1 : Int32)) hx hb dFi_jumpsPerhaps_33 (by decide) ?_
    refine lv_icmp_lt (tgt := 43) hx hb dFi_jumpsPerhaps_34 (by decide) (fun c3 => ?_) (fun c3 => ?_)
    · skip
      refine lv_iload_n hx hb dFi_jumpsPerhaps_43 rfl (lv_at hl 1 rfl) ?_
      refine lv_bipush (v := (10 : Int32)) hx hb dFi_jumpsPerhaps_44 (by decide) ?_
      refine lv_icmp_lt (tgt := 59) hx hb dFi_jumpsPerhaps_46 (by decide) (fun c4 => ?_) (fun c4 => ?_)
      · skip
        refine lv_iconst (v := (0 : Int32)) hx hb dFi_jumpsPerhaps_59 (by decide) ?_
        exact W.zret (v := (0 : Int32)) hx hb hr rfl (fun t ht hW => ⟨⟨(0 : Int32), (), rfl, (by unfold f_Fi_jumpsPerhaps; rw [if_pos c1, if_pos c3, if_pos c4]; try rfl), ht⟩, hS.F ht⟩) hS.2.2 dFi_jumpsPerhaps_60
      · skip
        refine lv_iload_n hx hb dFi_jumpsPerhaps_49 rfl (lv_at hl 1 rfl) ?_
        refine lv_bipush (v := (13 : Int32)) hx hb dFi_jumpsPerhaps_50 (by decide) ?_
        refine lv_icmp_gt (tgt := 59) hx hb dFi_jumpsPerhaps_52 (by decide) (fun c5 => ?_) (fun c5 => ?_)
        · skip
          refine lv_iconst (v := (0 : Int32)) hx hb dFi_jumpsPerhaps_59 (by decide) ?_
          exact W.zret (v := (0 : Int32)) hx hb hr rfl (fun t ht hW => ⟨⟨(0 : Int32), (), rfl, (by unfold f_Fi_jumpsPerhaps; rw [if_pos c1, if_pos c3, if_neg c4, if_pos c5]; try rfl), ht⟩, hS.F ht⟩) hS.2.2 dFi_jumpsPerhaps_60
        · skip
          refine lv_iconst (v := (1 : Int32)) hx hb dFi_jumpsPerhaps_55 (by decide) ?_
          refine lv_goto (tgt := 60) hx hb dFi_jumpsPerhaps_56 (by decide) ?_
          exact W.zret (v := (1 : Int32)) hx hb hr rfl (fun t ht hW => ⟨⟨(1 : Int32), (), rfl, (by unfold f_Fi_jumpsPerhaps; rw [if_pos c1, if_pos c3, if_neg c4, if_neg c5]; try rfl), ht⟩, hS.F ht⟩) hS.2.2 dFi_jumpsPerhaps_60
    · skip
      refine lv_iload_n hx hb dFi_jumpsPerhaps_37 rfl (lv_at hl 1 rfl) ?_
      refine lv_bipush (v := (7 : Int32)) hx hb dFi_jumpsPerhaps_38 (by decide) ?_
      refine lv_icmp_le (tgt := 55) hx hb dFi_jumpsPerhaps_40 (by decide) (fun c6 => ?_) (fun c6 => ?_)
      · skip
        refine lv_iconst (v := (1 : Int32)) hx hb dFi_jumpsPerhaps_55 (by decide) ?_
        refine lv_goto (tgt := 60) hx hb dFi_jumpsPerhaps_56 (by decide) ?_
        exact W.zret (v := (1 : Int32)) hx hb hr rfl (fun t ht hW => ⟨⟨(1 : Int32), (), rfl, (by unfold f_Fi_jumpsPerhaps; rw [if_pos c1, if_neg c3, if_pos c6]; try rfl), ht⟩, hS.F ht⟩) hS.2.2 dFi_jumpsPerhaps_60
      · skip
        refine lv_iload_n hx hb dFi_jumpsPerhaps_43 rfl (lv_at hl 1 rfl) ?_
        refine lv_bipush (v := (10 : Int32)) hx hb dFi_jumpsPerhaps_44 (by decide) ?_
        refine lv_icmp_lt (tgt := 59) hx hb dFi_jumpsPerhaps_46 (by decide) (fun c7 => ?_) (fun c7 => ?_)
        · skip
          refine lv_iconst (v := (0 : Int32)) hx hb dFi_jumpsPerhaps_59 (by decide) ?_
          exact W.zret (v := (0 : Int32)) hx hb hr rfl (fun t ht hW => ⟨⟨(0 : Int32), (), rfl, (by unfold f_Fi_jumpsPerhaps; rw [if_pos c1, if_neg c3, if_neg c6, if_pos c7]; try rfl), ht⟩, hS.F ht⟩) hS.2.2 dFi_jumpsPerhaps_60
        · skip
          refine lv_iload_n hx hb dFi_jumpsPerhaps_49 rfl (lv_at hl 1 rfl) ?_
          refine lv_bipush (v := (13 : Int32)) hx hb dFi_jumpsPerhaps_50 (by decide) ?_
          refine lv_icmp_gt (tgt := 59) hx hb dFi_jumpsPerhaps_52 (by decide) (fun c8 => ?_) (fun c8 => ?_)
          · skip
            refine lv_iconst (v := (0 : Int32)) hx hb dFi_jumpsPerhaps_59 (by decide) ?_
            exact W.zret (v := (0 : Int32)) hx hb hr rfl (fun t ht hW => ⟨⟨(0 : Int32), (), rfl, (by unfold f_Fi_jumpsPerhaps; rw [if_pos c1, if_neg c3, if_neg c6, if_neg c7, if_pos c8]; try rfl), ht⟩, hS.F ht⟩) hS.2.2 dFi_jumpsPerhaps_60
          · skip
            refine lv_iconst (v := (1 : Int32)) hx hb dFi_jumpsPerhaps_55 (by decide) ?_
            refine lv_goto (tgt := 60) hx hb dFi_jumpsPerhaps_56 (by decide) ?_
            exact W.zret (v := (1 : Int32)) hx hb hr rfl (fun t ht hW => ⟨⟨(1 : Int32), (), rfl, (by unfold f_Fi_jumpsPerhaps; rw [if_pos c1, if_neg c3, if_neg c6, if_neg c7, if_neg c8]; try rfl), ht⟩, hS.F ht⟩) hS.2.2 dFi_jumpsPerhaps_60
  · skip
    refine lv_lload_n hx hb dFi_jumpsPerhaps_13 rfl (lv_at hl 1 rfl) ?_
    refine va_calli (va_runS (As := [.long a0]) (rest := []) ⟨hx, hb, hml, hown, hT⟩ (c_Fi_kind l s.heap a0) (cwS 1 hT (gB_S mw_185 mw_132 mw_16 mw_133) rfl rfl rfl (by decide +kernel) ⟨Nat.le_of_ble_eq_true rfl, Nat.le_of_ble_eq_true rfl⟩) ⟨fun _ _ _ _ q => q, fun U hU hW => ⟨rfl, hU⟩⟩ rfl rfl hl.1 rfl (lv_room (Nat.le_of_ble_eq_true rfl)) dFi_jumpsPerhaps_14 ⟨Nat.zero_le _, Nat.zero_le _⟩) hS (fun _ _ h => h.elim) (fun _ h => h.elim) (fun r u t H1 locs ht hvm hw hB hz8 hk8 hS => ?_)
    obtain rfl : s.heap = H1 := hB.symm.trans ht
    subst hw
    refine lv_bipush (v := (6 : Int32)) hx hb dFi_jumpsPerhaps_17 (by decide) ?_
    refine lv_icmp_ne (tgt := 26) hx hb dFi_jumpsPerhaps_19 (by decide) (fun c9 => ?_) (fun c9 => ?_)
    · skip
      refine lv_iconst (v := (0 : Int32)) hx hb dFi_jumpsPerhaps_26 (by decide) ?_
      refine lv_istore_n (lv' := [(3, .int (0 : Int32)), (2, .int (f_Fi_operation a0)), (0, .long a0)]) hx hb dFi_jumpsPerhaps_27 rfl hl (by decide) rfl (fun ls hl => ?_)
      refine lv_iload_n hx hb dFi_jumpsPerhaps_28 rfl (lv_at hl 0 rfl) ?_
      refine lv_if_eq (tgt := 59) hx hb dFi_jumpsPerhaps_29 (by decide) (fun _ => ?_) (fun c10 => absurd c10 (by decide))
      refine lv_iconst (v := (0 : Int32)) hx hb dFi_jumpsPerhaps_59 (by decide) ?_
      exact W.zret (v := (0 : Int32)) hx hb hr rfl (fun t ht hW => ⟨⟨(0 : Int32), (), rfl, (by unfold f_Fi_jumpsPerhaps; rw [if_neg c1, if_neg c9]; try rfl), ht⟩, hS.F ht⟩) hS.2.2 dFi_jumpsPerhaps_60
    · skip
      refine lv_iconst (v := (1 : Int32)) hx hb dFi_jumpsPerhaps_22 (by decide) ?_
      refine lv_goto (tgt := 27) hx hb dFi_jumpsPerhaps_23 (by decide) ?_
      refine lv_istore_n (lv' := [(3, .int (1 : Int32)), (2, .int (f_Fi_operation a0)), (0, .long a0)]) hx hb dFi_jumpsPerhaps_27 rfl hl (by decide) rfl (fun ls hl => ?_)
      refine lv_iload_n hx hb dFi_jumpsPerhaps_28 rfl (lv_at hl 0 rfl) ?_
      refine lv_if_eq (tgt := 59) hx hb dFi_jumpsPerhaps_29 (by decide) (fun c11 => absurd c11 (by decide)) (fun _ => ?_)
      refine lv_iload_n hx hb dFi_jumpsPerhaps_32 rfl (lv_at hl 1 rfl) ?_
      refine lv_iconst (v := (1 : Int32)) hx hb dFi_jumpsPerhaps_33 (by decide) ?_
      refine lv_icmp_lt (tgt := 43) hx hb dFi_jumpsPerhaps_34 (by decide) (fun c12 => ?_) (fun c12 => ?_)
      · skip
        refine lv_iload_n hx hb dFi_jumpsPerhaps_43 rfl (lv_at hl 1 rfl) ?_
        refine lv_bipush (v := (10 : Int32)) hx hb dFi_jumpsPerhaps_44 (by decide) ?_
        refine lv_icmp_lt (tgt := 59) hx hb dFi_jumpsPerhaps_46 (by decide) (fun c13 => ?_) (fun c13 => ?_)
        · skip
          refine lv_iconst (v := (0 : Int32)) hx hb dFi_jumpsPerhaps_59 (by decide) ?_
          exact W.zret (v := (0 : Int32)) hx hb hr rfl (fun t ht hW => ⟨⟨(0 : Int32), (), rfl, (by unfold f_Fi_jumpsPerhaps; rw [if_neg c1, if_pos c9, if_pos c12, if_pos c13]; try rfl), ht⟩, hS.F ht⟩) hS.2.2 dFi_jumpsPerhaps_60
        · skip
          refine lv_iload_n hx hb dFi_jumpsPerhaps_49 rfl (lv_at hl 1 rfl) ?_
          refine lv_bipush (v := (13 : Int32)) hx hb dFi_jumpsPerhaps_50 (by decide) ?_
          refine lv_icmp_gt (tgt := 59) hx hb dFi_jumpsPerhaps_52 (by decide) (fun c14 => ?_) (fun c14 => ?_)
          · skip
            refine lv_iconst (v := (0 : Int32)) hx hb dFi_jumpsPerhaps_59 (by decide) ?_
            exact W.zret (v := (0 : Int32)) hx hb hr rfl (fun t ht hW => ⟨⟨(0 : Int32), (), rfl, (by unfold f_Fi_jumpsPerhaps; rw [if_neg c1, if_pos c9, if_pos c12, if_neg c13, if_pos c14]; try rfl), ht⟩, hS.F ht⟩) hS.2.2 dFi_jumpsPerhaps_60
          · skip
            refine lv_iconst (v := (1 : Int32)) hx hb dFi_jumpsPerhaps_55 (by decide) ?_
            refine lv_goto (tgt := 60) hx hb dFi_jumpsPerhaps_56 (by decide) ?_
            exact W.zret (v := (1 : Int32)) hx hb hr rfl (fun t ht hW => ⟨⟨(1 : Int32), (), rfl, (by unfold f_Fi_jumpsPerhaps; rw [if_neg c1, if_pos c9, if_pos c12, if_neg c13, if_neg c14]; try rfl), ht⟩, hS.F ht⟩) hS.2.2 dFi_jumpsPerhaps_60
      · skip
        refine lv_iload_n hx hb dFi_jumpsPerhaps_37 rfl (lv_at hl 1 rfl) ?_
        refine lv_bipush (v := (7 : Int32)) hx hb dFi_jumpsPerhaps_38 (by decide) ?_
        refine lv_icmp_le (tgt := 55) hx hb dFi_jumpsPerhaps_40 (by decide) (fun c15 => ?_) (fun c15 => ?_)
        · skip
          refine lv_iconst (v := (1 : Int32)) hx hb dFi_jumpsPerhaps_55 (by decide) ?_
          refine lv_goto (tgt := 60) hx hb dFi_jumpsPerhaps_56 (by decide) ?_
          exact W.zret (v := (1 : Int32)) hx hb hr rfl (fun t ht hW => ⟨⟨(1 : Int32), (), rfl, (by unfold f_Fi_jumpsPerhaps; rw [if_neg c1, if_pos c9, if_neg c12, if_pos c15]; try rfl), ht⟩, hS.F ht⟩) hS.2.2 dFi_jumpsPerhaps_60
        · skip
          refine lv_iload_n hx hb dFi_jumpsPerhaps_43 rfl (lv_at hl 1 rfl) ?_
          refine lv_bipush (v := (10 : Int32)) hx hb dFi_jumpsPerhaps_44 (by decide) ?_
          refine lv_icmp_lt (tgt := 59) hx hb dFi_jumpsPerhaps_46 (by decide) (fun c16 => ?_) (fun c16 => ?_)
          · skip
            refine lv_iconst (v := (0 : Int32)) hx hb dFi_jumpsPerhaps_59 (by decide) ?_
            exact W.zret (v := (0 : Int32)) hx hb hr rfl (fun t ht hW => ⟨⟨(0 : Int32), (), rfl, (by unfold f_Fi_jumpsPerhaps; rw [if_neg c1, if_pos c9, if_neg c12, if_neg c15, if_pos c16]; try rfl), ht⟩, hS.F ht⟩) hS.2.2 dFi_jumpsPerhaps_60
          · skip
            refine lv_iload_n hx hb dFi_jumpsPerhaps_49 rfl (lv_at hl 1 rfl) ?_
            refine lv_bipush (v := (13 : Int32)) hx hb dFi_jumpsPerhaps_50 (by decide) ?_
            refine lv_icmp_gt (tgt := 59) hx hb dFi_jumpsPerhaps_52 (by decide) (fun c17 => ?_) (fun c17 => ?_)
            · skip
              refine lv_iconst (v := (0 : Int32)) hx hb dFi_jumpsPerhaps_59 (by decide) ?_
              exact W.zret (v := (0 : Int32)) hx hb hr rfl (fun t ht hW => ⟨⟨(0 : Int32), (), rfl, (by unfold f_Fi_jumpsPerhaps; rw [if_neg c1, if_pos c9, if_neg c12, if_neg c15, if_neg c16, if_pos c17]; try rfl), ht⟩, hS.F ht⟩) hS.2.2 dFi_jumpsPerhaps_60
            · skip
              refine lv_iconst (v := (1 : Int32)) hx hb dFi_jumpsPerhaps_55 (by decide) ?_
              refine lv_goto (tgt := 60) hx hb dFi_jumpsPerhaps_56 (by decide) ?_
              exact W.zret (v := (1 : Int32)) hx hb hr rfl (fun t ht hW => ⟨⟨(1 : Int32), (), rfl, (by unfold f_Fi_jumpsPerhaps; rw [if_neg c1, if_pos c9, if_neg c12, if_neg c15, if_neg c16, if_neg c17]; try rfl), ht⟩, hS.F ht⟩) hS.2.2 dFi_jumpsPerhaps_60

def f_Fi_jumpFrom (a0 : Int32) (a1 : Int64) : Int64 :=
  if (f_Fi_code a1) = (6 : Int32) then
    ((((a0).toInt64) + (1 : Int64)) + ((f_Fi_immediate a1).toInt64))
  else
    ((((a0).toInt64) + (1 : Int64)) + ((f_Fi_offset a1).toInt64))
set_option maxHeartbeats 4000000 in
set_option maxRecDepth 100000 in
theorem c_Fi_jumpFrom (l : Launch) (Hp : Heap) (a0 : Int32) (a1 : Int64) : Met l yFi_jumpFrom wsFi_jumpFrom ({ frames := 1, cells := 0, slots := 0, locals := 21 }) (va_Pc [.int a0, .long a1] (fun U => U.heap = Hp)) (va_Ql (fun (r : Int64) (_ : Unit) => r = f_Fi_jumpFrom a0 a1) (fun _ t => t.heap = Hp) (fun _ => False)) 0 0 (fun _ => False) := by
  refine Met.ofW (cc := cFi_jumpFrom) (maxL := 3) (ret := (some .long)) (by decide) rfl ?_
  intro p e s m args below meth c s₁ B hml hv
  obtain ⟨rfl, rfl⟩ := hv
  have hx := B.exec
  have hb := B.bytes
  have hr := B.returns
  have hT : ∀ w ∈ tB, w.before _ s = true := fun w h => atoms_spec (ws := wsFi_jumpFrom) B.pre w (List.mem_cons_of_mem _ h)
  have hown : s.vm.findClass "CompiledProgram$Fields" = some m.cls := findClass_of_methodNamed B.named
  have hlocks := B.notSynchronized
  have hS : va_S (fun _ => False) s.heap s.heap [] := va_S.rf
  have hl := lv_entry ([.int a0, .long a1]) (n := 3) (Nat.le_of_ble_eq_true rfl)
  rw [lg_entry_eq]
  generalize (lg_sl ([.int a0, .long a1]) ++ List.replicate (3 - (lg_sl ([.int a0, .long a1])).length) Slot.unset).toArray = ls at hl ⊢
  have hl : lv_has ls 3 [(0, .int a0), (1, .long a1)] := hl
  refine lv_iload_n hx hb dFi_jumpFrom_0 rfl (lv_at hl 0 rfl) ?_
  refine lv_i2l hx hb dFi_jumpFrom_1 rfl ?_
  refine lv_lconst (v := (1 : Int64)) hx hb dFi_jumpFrom_2 (by decide) ?_
  refine lv_ladd hx hb dFi_jumpFrom_3 ?_
  refine lv_lload_n hx hb dFi_jumpFrom_4 rfl (lv_at hl 1 rfl) ?_
  refine va_calli (va_runS (As := [.long a1]) (rest := [.long (((a0).toInt64) + (1 : Int64))]) ⟨hx, hb, hml, hown, hT⟩ (c_Fi_code l s.heap a1) (cwS 1 hT (gB_S mw_143 mw_144 mw_16 mw_145) rfl rfl rfl (by decide +kernel) ⟨Nat.le_of_ble_eq_true rfl, Nat.le_of_ble_eq_true rfl⟩) ⟨fun _ _ _ _ q => q, fun U hU hW => ⟨rfl, hU⟩⟩ rfl rfl hl.1 rfl (lv_room (Nat.le_of_ble_eq_true rfl)) dFi_jumpFrom_5 ⟨Nat.zero_le _, Nat.zero_le _⟩) hS (fun _ _ h => h.elim) (fun _ h => h.elim) (fun r u t H1 locs ht hvm hw hB hz8 hk8 hS => ?_)
  obtain rfl : s.heap = H1 := hB.symm.trans ht
  subst hw
  refine lv_bipush (v := (6 : Int32)) hx hb dFi_jumpFrom_8 (by decide) ?_
  refine lv_icmp_ne (tgt := 20) hx hb dFi_jumpFrom_10 (by decide) (fun c1 => ?_) (fun c1 => ?_)
  · skip
    refine lv_lload_n hx hb dFi_jumpFrom_20 rfl (lv_at hl 1 rfl) ?_
    refine va_calli (va_runS (As := [.long a1]) (rest := [.long (((a0).toInt64) + (1 : Int64))]) ⟨hx, hb, hml, hown, hT⟩ (c_Fi_offset l s.heap a1) (cwS 1 hT (gB_S mw_230 mw_150 mw_16 mw_151) rfl rfl rfl (by decide +kernel) ⟨Nat.le_of_ble_eq_true rfl, Nat.le_of_ble_eq_true rfl⟩) ⟨fun _ _ _ _ q => q, fun U hU hW => ⟨rfl, hU⟩⟩ rfl rfl hl.1 rfl (lv_room (Nat.le_of_ble_eq_true rfl)) dFi_jumpFrom_21 ⟨Nat.zero_le _, Nat.zero_le _⟩) hS (fun _ _ h => h.elim) (fun _ h => h.elim) (fun r u t H1 locs ht hvm hw hB hz8 hk8 hS => ?_)
    obtain rfl : s.heap = H1 := hB.symm.trans ht
    subst hw
    refine lv_i2l hx hb dFi_jumpFrom_24 rfl ?_
    refine lv_ladd hx hb dFi_jumpFrom_25 ?_
    exact W.lret (v := ((((a0).toInt64) + (1 : Int64)) + ((f_Fi_offset a1).toInt64))) hx hb hr (fun t ht hW => ⟨⟨((((a0).toInt64) + (1 : Int64)) + ((f_Fi_offset a1).toInt64)), (), rfl, (by unfold f_Fi_jumpFrom; rw [if_neg c1]; try rfl), ht⟩, hS.F ht⟩) hS.2.2 dFi_jumpFrom_26
  · skip
    refine lv_lload_n hx hb dFi_jumpFrom_13 rfl (lv_at hl 1 rfl) ?_
    refine va_calli (va_runS (As := [.long a1]) (rest := [.long (((a0).toInt64) + (1 : Int64))]) ⟨hx, hb, hml, hown, hT⟩ (c_Fi_immediate l s.heap a1) (cwS 1 hT (gB_S mw_229 mw_153 mw_16 mw_154) rfl rfl rfl (by decide +kernel) ⟨Nat.le_of_ble_eq_true rfl, Nat.le_of_ble_eq_true rfl⟩) ⟨fun _ _ _ _ q => q, fun U hU hW => ⟨rfl, hU⟩⟩ rfl rfl hl.1 rfl (lv_room (Nat.le_of_ble_eq_true rfl)) dFi_jumpFrom_14 ⟨Nat.zero_le _, Nat.zero_le _⟩) hS (fun _ _ h => h.elim) (fun _ h => h.elim) (fun r u t H1 locs ht hvm hw hB hz8 hk8 hS => ?_)
    obtain rfl : s.heap = H1 := hB.symm.trans ht
    subst hw
    refine lv_goto (tgt := 24) hx hb dFi_jumpFrom_17 (by decide) ?_
    refine lv_i2l hx hb dFi_jumpFrom_24 rfl ?_
    refine lv_ladd hx hb dFi_jumpFrom_25 ?_
    exact W.lret (v := ((((a0).toInt64) + (1 : Int64)) + ((f_Fi_immediate a1).toInt64))) hx hb hr (fun t ht hW => ⟨⟨((((a0).toInt64) + (1 : Int64)) + ((f_Fi_immediate a1).toInt64)), (), rfl, (by unfold f_Fi_jumpFrom; rw [if_pos c1]; try rfl), ht⟩, hS.F ht⟩) hS.2.2 dFi_jumpFrom_26
end
section
def f_Ar_lowest (a0 : Int64) (a1 : Int32) : Int64 :=
  if a1 < (64 : Int32) then
    (a0 &&& ((j_lshl (1 : Int64) a1) - (1 : Int64)))
  else
    a0
set_option maxHeartbeats 4000000 in
set_option maxRecDepth 100000 in
theorem c_Ar_lowest (l : Launch) (Hp : Heap) (a0 : Int64) (a1 : Int32) : Met l yAr_lowest wsAr_lowest ({ frames := 0, cells := 0, slots := 0, locals := 0 }) (va_Pc [.long a0, .int a1] (fun U => U.heap = Hp)) (va_Ql (fun (r : Int64) (_ : Unit) => r = f_Ar_lowest a0 a1) (fun _ t => t.heap = Hp) (fun _ => False)) 0 0 (fun _ => False) := by
  refine Met.ofW (cc := cAr_lowest) (maxL := 3) (ret := (some .long)) (by decide) rfl ?_
  intro p e s m args below meth c s₁ B hml hv
  obtain ⟨rfl, rfl⟩ := hv
  have hx := B.exec
  have hb := B.bytes
  have hr := B.returns
  have hT : ∀ w ∈ tB, w.before _ s = true := fun w h => atoms_spec (ws := wsAr_lowest) B.pre w (List.mem_cons_of_mem _ h)
  have hown : s.vm.findClass "CompiledProgram$Arithmetic" = some m.cls := findClass_of_methodNamed B.named
  have hlocks := B.notSynchronized
  have hS : va_S (fun _ => False) s.heap s.heap [] := va_S.rf
  have hl := lv_entry ([.long a0, .int a1]) (n := 3) (Nat.le_of_ble_eq_true rfl)
  rw [lg_entry_eq]
  generalize (lg_sl ([.long a0, .int a1]) ++ List.replicate (3 - (lg_sl ([.long a0, .int a1])).length) Slot.unset).toArray = ls at hl ⊢
  have hl : lv_has ls 3 [(0, .long a0), (2, .int a1)] := hl
  refine lv_iload_n hx hb dAr_lowest_0 rfl (lv_at hl 1 rfl) ?_
  refine lv_bipush (v := (64 : Int32)) hx hb dAr_lowest_1 (by decide) ?_
  refine lv_icmp_lt (tgt := 10) hx hb dAr_lowest_3 (by decide) (fun c1 => ?_) (fun c1 => ?_)
  · skip
    refine lv_lload_n hx hb dAr_lowest_10 rfl (lv_at hl 0 rfl) ?_
    refine lv_lconst (v := (1 : Int64)) hx hb dAr_lowest_11 (by decide) ?_
    refine lv_iload_n hx hb dAr_lowest_12 rfl (lv_at hl 1 rfl) ?_
    refine lv_lshl (v := (j_lshl (1 : Int64) a1)) hx hb dAr_lowest_13 rfl ?_
    refine lv_lconst (v := (1 : Int64)) hx hb dAr_lowest_14 (by decide) ?_
    refine lv_lsub hx hb dAr_lowest_15 ?_
    refine lv_land hx hb dAr_lowest_16 ?_
    exact W.lret (v := (a0 &&& ((j_lshl (1 : Int64) a1) - (1 : Int64)))) hx hb hr (fun t ht hW => ⟨⟨(a0 &&& ((j_lshl (1 : Int64) a1) - (1 : Int64))), (), rfl, (by unfold f_Ar_lowest; rw [if_pos c1]; try rfl), ht⟩, hS.F ht⟩) hS.2.2 dAr_lowest_17
  · skip
    refine lv_lload_n hx hb dAr_lowest_6 rfl (lv_at hl 0 rfl) ?_
    refine lv_goto (tgt := 17) hx hb dAr_lowest_7 (by decide) ?_
    exact W.lret (v := a0) hx hb hr (fun t ht hW => ⟨⟨a0, (), rfl, (by unfold f_Ar_lowest; rw [if_neg c1]; try rfl), ht⟩, hS.F ht⟩) hS.2.2 dAr_lowest_17

def f_Ar_signed (a0 : Int64) (a1 : Int32) : Int64 :=
  if a1 < (64 : Int32) then
    (j_lshr (j_lshl a0 ((64 : Int32) - a1)) ((64 : Int32) - a1))
  else
    a0
set_option maxHeartbeats 4000000 in
set_option maxRecDepth 100000 in
theorem c_Ar_signed (l : Launch) (Hp : Heap) (a0 : Int64) (a1 : Int32) : Met l yAr_signed wsAr_signed ({ frames := 0, cells := 0, slots := 0, locals := 0 }) (va_Pc [.long a0, .int a1] (fun U => U.heap = Hp)) (va_Ql (fun (r : Int64) (_ : Unit) => r = f_Ar_signed a0 a1) (fun _ t => t.heap = Hp) (fun _ => False)) 0 0 (fun _ => False) := by
  refine Met.ofW (cc := cAr_signed) (maxL := 3) (ret := (some .long)) (by decide) rfl ?_
  intro p e s m args below meth c s₁ B hml hv
  obtain ⟨rfl, rfl⟩ := hv
  have hx := B.exec
  have hb := B.bytes
  have hr := B.returns
  have hT : ∀ w ∈ tB, w.before _ s = true := fun w h => atoms_spec (ws := wsAr_signed) B.pre w (List.mem_cons_of_mem _ h)
  have hown : s.vm.findClass "CompiledProgram$Arithmetic" = some m.cls := findClass_of_methodNamed B.named
  have hlocks := B.notSynchronized
  have hS : va_S (fun _ => False) s.heap s.heap [] := va_S.rf
  have hl := lv_entry ([.long a0, .int a1]) (n := 3) (Nat.le_of_ble_eq_true rfl)
  rw [lg_entry_eq]
  generalize (lg_sl ([.long a0, .int a1]) ++ List.replicate (3 - (lg_sl ([.long a0, .int a1])).length) Slot.unset).toArray = ls at hl ⊢
  have hl : lv_has ls 3 [(0, .long a0), (2, .int a1)] := hl
  refine lv_iload_n hx hb dAr_signed_0 rfl (lv_at hl 1 rfl) ?_
  refine lv_bipush (v := (64 : Int32)) hx hb dAr_signed_1 (by decide) ?_
  refine lv_icmp_lt (tgt := 10) hx hb dAr_signed_3 (by decide) (fun c1 => ?_) (fun c1 => ?_)
  · skip
    refine lv_lload_n hx hb dAr_signed_10 rfl (lv_at hl 0 rfl) ?_
    refine lv_bipush (v := (64 : Int32)) hx hb dAr_signed_11 (by decide) ?_
    refine lv_iload_n hx hb dAr_signed_13 rfl (lv_at hl 1 rfl) ?_
    refine lv_isub hx hb dAr_signed_14 ?_
    refine lv_lshl (v := (j_lshl a0 ((64 : Int32) - a1))) hx hb dAr_signed_15 rfl ?_
    refine lv_bipush (v := (64 : Int32)) hx hb dAr_signed_16 (by decide) ?_
    refine lv_iload_n hx hb dAr_signed_18 rfl (lv_at hl 1 rfl) ?_
    refine lv_isub hx hb dAr_signed_19 ?_
    refine lv_lshr (v := (j_lshr (j_lshl a0 ((64 : Int32) - a1)) ((64 : Int32) - a1))) hx hb dAr_signed_20 rfl ?_
    exact W.lret (v := (j_lshr (j_lshl a0 ((64 : Int32) - a1)) ((64 : Int32) - a1))) hx hb hr (fun t ht hW => ⟨⟨(j_lshr (j_lshl a0 ((64 : Int32) - a1)) ((64 : Int32) - a1)), (), rfl, (by unfold f_Ar_signed; rw [if_pos c1]; try rfl), ht⟩, hS.F ht⟩) hS.2.2 dAr_signed_21
  · skip
    refine lv_lload_n hx hb dAr_signed_6 rfl (lv_at hl 0 rfl) ?_
    refine lv_goto (tgt := 21) hx hb dAr_signed_7 (by decide) ?_
    exact W.lret (v := a0) hx hb hr (fun t ht hW => ⟨⟨a0, (), rfl, (by unfold f_Ar_signed; rw [if_neg c1]; try rfl), ht⟩, hS.F ht⟩) hS.2.2 dAr_signed_21

def f_Ar_turned (a0 : Int64) (a1 : Int32) : Int64 :=
  (j_lushr (f_Jl_reverseBytes a0) ((64 : Int32) - a1))
set_option maxHeartbeats 4000000 in
set_option maxRecDepth 100000 in
theorem c_Ar_turned (l : Launch) (Hp : Heap) (a0 : Int64) (a1 : Int32) : Met l yAr_turned wsAr_turned ({ frames := 1, cells := 0, slots := 0, locals := 21 }) (va_Pc [.long a0, .int a1] (fun U => U.heap = Hp)) (va_Ql (fun (r : Int64) (_ : Unit) => r = f_Ar_turned a0 a1) (fun _ t => t.heap = Hp) (fun _ => False)) 0 0 (fun _ => False) := by
  refine Met.ofW (cc := cAr_turned) (maxL := 3) (ret := (some .long)) (by decide) rfl ?_
  intro p e s m args below meth c s₁ B hml hv
  obtain ⟨rfl, rfl⟩ := hv
  have hx := B.exec
  have hb := B.bytes
  have hr := B.returns
  have hT : ∀ w ∈ tB, w.before _ s = true := fun w h => atoms_spec (ws := wsAr_turned) B.pre w (List.mem_cons_of_mem _ h)
  have hown : s.vm.findClass "CompiledProgram$Arithmetic" = some m.cls := findClass_of_methodNamed B.named
  have hlocks := B.notSynchronized
  have hS : va_S (fun _ => False) s.heap s.heap [] := va_S.rf
  have hl := lv_entry ([.long a0, .int a1]) (n := 3) (Nat.le_of_ble_eq_true rfl)
  rw [lg_entry_eq]
  generalize (lg_sl ([.long a0, .int a1]) ++ List.replicate (3 - (lg_sl ([.long a0, .int a1])).length) Slot.unset).toArray = ls at hl ⊢
  have hl : lv_has ls 3 [(0, .long a0), (2, .int a1)] := hl
  refine lv_lload_n hx hb dAr_turned_0 rfl (lv_at hl 0 rfl) ?_
  refine va_calll (va_runS (As := [.long a0]) (rest := []) ⟨hx, hb, hml, hown, hT⟩ (c_Jl_reverseBytes l s.heap a0) (va_cwS 1 hT (gB_SV mw_534 mw_535 mw_20 mw_536) rfl rfl rfl (by decide +kernel) ⟨Nat.le_of_ble_eq_true rfl, Nat.le_of_ble_eq_true rfl⟩) ⟨fun _ _ _ _ q => q, fun U hU hW => ⟨rfl, hU⟩⟩ rfl rfl hl.1 rfl (lv_room (Nat.le_of_ble_eq_true rfl)) dAr_turned_1 ⟨Nat.zero_le _, Nat.zero_le _⟩) hS (fun _ _ h => h.elim) (fun _ h => h.elim) (fun r u t H1 locs ht hvm hw hB hz8 hk8 hS => ?_)
  obtain rfl : s.heap = H1 := hB.symm.trans ht
  subst hw
  refine lv_bipush (v := (64 : Int32)) hx hb dAr_turned_4 (by decide) ?_
  refine lv_iload_n hx hb dAr_turned_6 rfl (lv_at hl 1 rfl) ?_
  refine lv_isub hx hb dAr_turned_7 ?_
  refine lv_lushr (v := (j_lushr (f_Jl_reverseBytes a0) ((64 : Int32) - a1))) hx hb dAr_turned_8 rfl ?_
  exact W.lret (v := (j_lushr (f_Jl_reverseBytes a0) ((64 : Int32) - a1))) hx hb hr (fun t ht hW => ⟨⟨(j_lushr (f_Jl_reverseBytes a0) ((64 : Int32) - a1)), (), rfl, rfl, ht⟩, hS.F ht⟩) hS.2.2 dAr_turned_9

def f_Ar_unsignedQuotient (a0 : Int64) (a1 : Int64) : Int64 :=
  if (0 : Int64) < a1 then
    if ((a0 - ((j_lshl ((j_lushr a0 (1 : Int32)) / a1) (1 : Int32)) * a1)) ^^^ (-9223372036854775808 : Int64)) < (a1 ^^^ (-9223372036854775808 : Int64)) then
      (j_lshl ((j_lushr a0 (1 : Int32)) / a1) (1 : Int32))
    else
      ((j_lshl ((j_lushr a0 (1 : Int32)) / a1) (1 : Int32)) + (1 : Int64))
  else
    if (a0 ^^^ (-9223372036854775808 : Int64)) < (a1 ^^^ (-9223372036854775808 : Int64)) then
      (0 : Int64)
    else
      (1 : Int64)
set_option maxHeartbeats 4000000 in
set_option maxRecDepth 100000 in
theorem c_Ar_unsignedQuotient (l : Launch) (Hp : Heap) (a0 : Int64) (a1 : Int64) : Met l yAr_unsignedQuotient wsAr_unsignedQuotient ({ frames := 0, cells := 0, slots := 0, locals := 0 }) (va_Pc [.long a0, .long a1] (fun U => U.heap = Hp)) (va_Ql (fun (r : Int64) (_ : Unit) => r = f_Ar_unsignedQuotient a0 a1) (fun _ t => t.heap = Hp) (fun _ => False)) 0 0 (fun _ => False) := by
  refine Met.ofW (cc := cAr_unsignedQuotient) (maxL := 8) (ret := (some .long)) (by decide) rfl ?_
  intro p e s m args below meth c s₁ B hml hv
  obtain ⟨rfl, rfl⟩ := hv
  have hx := B.exec
  have hb := B.bytes
  have hr := B.returns
  have hT : ∀ w ∈ tB, w.before _ s = true := fun w h => atoms_spec (ws := wsAr_unsignedQuotient) B.pre w (List.mem_cons_of_mem _ h)
  have hown : s.vm.findClass "CompiledProgram$Arithmetic" = some m.cls := findClass_of_methodNamed B.named
  have hlocks := B.notSynchronized
  have hS : va_S (fun _ => False) s.heap s.heap [] := va_S.rf
  have hl := lv_entry ([.long a0, .long a1]) (n := 8) (Nat.le_of_ble_eq_true rfl)
  rw [lg_entry_eq]
  generalize (lg_sl ([.long a0, .long a1]) ++ List.replicate (8 - (lg_sl ([.long a0, .long a1])).length) Slot.unset).toArray = ls at hl ⊢
  have hl : lv_has ls 8 [(0, .long a0), (2, .long a1)] := hl
  refine lv_lload_n hx hb dAr_unsignedQuotient_0 rfl (lv_at hl 1 rfl) ?_
  refine lv_lconst (v := (0 : Int64)) hx hb dAr_unsignedQuotient_1 (by decide) ?_
  refine W.lcmp hx hb dAr_unsignedQuotient_2 ?_
  refine lv_if_gt (tgt := 26) hx hb dAr_unsignedQuotient_3 (by decide) (fun c1 => ?_) (fun c1 => ?_)
  · have c1 := (lg_cmp_gt _ _).mp c1
    refine lv_lload_n hx hb dAr_unsignedQuotient_26 rfl (lv_at hl 0 rfl) ?_
    refine lv_iconst (v := (1 : Int32)) hx hb dAr_unsignedQuotient_27 (by decide) ?_
    refine lv_lushr (v := (j_lushr a0 (1 : Int32))) hx hb dAr_unsignedQuotient_28 rfl ?_
    refine lv_lload_n hx hb dAr_unsignedQuotient_29 rfl (lv_at hl 1 rfl) ?_
    refine lv_ldiv hx hb dAr_unsignedQuotient_30 (l_pne c1) ?_
    refine lv_iconst (v := (1 : Int32)) hx hb dAr_unsignedQuotient_31 (by decide) ?_
    refine lv_lshl (v := (j_lshl ((j_lushr a0 (1 : Int32)) / a1) (1 : Int32))) hx hb dAr_unsignedQuotient_32 rfl ?_
    refine lv_lstore (lv' := [(4, .long (j_lshl ((j_lushr a0 (1 : Int32)) / a1) (1 : Int32))), (0, .long a0), (2, .long a1)]) hx hb dAr_unsignedQuotient_33 hl (by decide) rfl (fun ls hl => ?_)
    refine lv_lload_n hx hb dAr_unsignedQuotient_35 rfl (lv_at hl 1 rfl) ?_
    refine lv_lload hx hb dAr_unsignedQuotient_36 (lv_at hl 0 rfl) ?_
    refine lv_lload_n hx hb dAr_unsignedQuotient_38 rfl (lv_at hl 2 rfl) ?_
    refine lv_lmul hx hb dAr_unsignedQuotient_39 ?_
    refine lv_lsub hx hb dAr_unsignedQuotient_40 ?_
    refine lv_lstore (lv' := [(6, .long (a0 - ((j_lshl ((j_lushr a0 (1 : Int32)) / a1) (1 : Int32)) * a1))), (4, .long (j_lshl ((j_lushr a0 (1 : Int32)) / a1) (1 : Int32))), (0, .long a0), (2, .long a1)]) hx hb dAr_unsignedQuotient_41 hl (by decide) rfl (fun ls hl => ?_)
    refine lv_lload hx hb dAr_unsignedQuotient_43 (lv_at hl 0 rfl) ?_
    refine lv_ldc2 (v := (-9223372036854775808 : Int64)) hx hb hown (hT _ mw_521) dAr_unsignedQuotient_45 ?_
    refine lv_lxor hx hb dAr_unsignedQuotient_48 ?_
    refine lv_lload_n hx hb dAr_unsignedQuotient_49 rfl (lv_at hl 3 rfl) ?_
    refine lv_ldc2 (v := (-9223372036854775808 : Int64)) hx hb hown (hT _ mw_521) dAr_unsignedQuotient_50 ?_
    refine lv_lxor hx hb dAr_unsignedQuotient_53 ?_
    refine W.lcmp hx hb dAr_unsignedQuotient_54 ?_
    refine lv_if_lt (tgt := 65) hx hb dAr_unsignedQuotient_55 (by decide) (fun c2 => ?_) (fun c2 => ?_)
    · have c2 := (lg_cmp_lt _ _).mp c2
      refine lv_lload hx hb dAr_unsignedQuotient_65 (lv_at hl 1 rfl) ?_
      exact W.lret (v := (j_lshl ((j_lushr a0 (1 : Int32)) / a1) (1 : Int32))) hx hb hr (fun t ht hW => ⟨⟨(j_lshl ((j_lushr a0 (1 : Int32)) / a1) (1 : Int32)), (), rfl, (by unfold f_Ar_unsignedQuotient; rw [if_pos c1, if_pos c2]; try rfl), ht⟩, hS.F ht⟩) hS.2.2 dAr_unsignedQuotient_67
    · have c2 := mt (lg_cmp_lt _ _).mpr c2
      refine lv_lload hx hb dAr_unsignedQuotient_58 (lv_at hl 1 rfl) ?_
      refine lv_lconst (v := (1 : Int64)) hx hb dAr_unsignedQuotient_60 (by decide) ?_
      refine lv_ladd hx hb dAr_unsignedQuotient_61 ?_
      refine lv_goto (tgt := 67) hx hb dAr_unsignedQuotient_62 (by decide) ?_
      exact W.lret (v := ((j_lshl ((j_lushr a0 (1 : Int32)) / a1) (1 : Int32)) + (1 : Int64))) hx hb hr (fun t ht hW => ⟨⟨((j_lshl ((j_lushr a0 (1 : Int32)) / a1) (1 : Int32)) + (1 : Int64)), (), rfl, (by unfold f_Ar_unsignedQuotient; rw [if_pos c1, if_neg c2]; try rfl), ht⟩, hS.F ht⟩) hS.2.2 dAr_unsignedQuotient_67
  · have c1 := mt (lg_cmp_gt _ _).mpr c1
    refine lv_lload_n hx hb dAr_unsignedQuotient_6 rfl (lv_at hl 0 rfl) ?_
    refine lv_ldc2 (v := (-9223372036854775808 : Int64)) hx hb hown (hT _ mw_521) dAr_unsignedQuotient_7 ?_
    refine lv_lxor hx hb dAr_unsignedQuotient_10 ?_
    refine lv_lload_n hx hb dAr_unsignedQuotient_11 rfl (lv_at hl 1 rfl) ?_
    refine lv_ldc2 (v := (-9223372036854775808 : Int64)) hx hb hown (hT _ mw_521) dAr_unsignedQuotient_12 ?_
    refine lv_lxor hx hb dAr_unsignedQuotient_15 ?_
    refine W.lcmp hx hb dAr_unsignedQuotient_16 ?_
    refine lv_if_lt (tgt := 24) hx hb dAr_unsignedQuotient_17 (by decide) (fun c3 => ?_) (fun c3 => ?_)
    · have c3 := (lg_cmp_lt _ _).mp c3
      refine lv_lconst (v := (0 : Int64)) hx hb dAr_unsignedQuotient_24 (by decide) ?_
      exact W.lret (v := (0 : Int64)) hx hb hr (fun t ht hW => ⟨⟨(0 : Int64), (), rfl, (by unfold f_Ar_unsignedQuotient; rw [if_neg c1, if_pos c3]; try rfl), ht⟩, hS.F ht⟩) hS.2.2 dAr_unsignedQuotient_25
    · have c3 := mt (lg_cmp_lt _ _).mpr c3
      refine lv_lconst (v := (1 : Int64)) hx hb dAr_unsignedQuotient_20 (by decide) ?_
      refine lv_goto (tgt := 25) hx hb dAr_unsignedQuotient_21 (by decide) ?_
      exact W.lret (v := (1 : Int64)) hx hb hr (fun t ht hW => ⟨⟨(1 : Int64), (), rfl, (by unfold f_Ar_unsignedQuotient; rw [if_neg c1, if_neg c3]; try rfl), ht⟩, hS.F ht⟩) hS.2.2 dAr_unsignedQuotient_25

def f_Ar_quotient (a0 : Bool) (a1 : Int64) (a2 : Int64) : Int64 :=
  if a2 = (0 : Int64) then
    (0 : Int64)
  else
    if a0 = true then
      (a1 / a2)
    else
      (f_Ar_unsignedQuotient a1 a2)
set_option maxHeartbeats 4000000 in
set_option maxRecDepth 100000 in
theorem c_Ar_quotient (l : Launch) (Hp : Heap) (a0 : Bool) (a1 : Int64) (a2 : Int64) : Met l yAr_quotient wsAr_quotient ({ frames := 1, cells := 0, slots := 0, locals := 27 }) (va_Pc [.int (bI a0), .long a1, .long a2] (fun U => U.heap = Hp)) (va_Ql (fun (r : Int64) (_ : Unit) => r = f_Ar_quotient a0 a1 a2) (fun _ t => t.heap = Hp) (fun _ => False)) 0 0 (fun _ => False) := by
  refine Met.ofW (cc := cAr_quotient) (maxL := 5) (ret := (some .long)) (by decide) rfl ?_
  intro p e s m args below meth c s₁ B hml hv
  obtain ⟨rfl, rfl⟩ := hv
  have hx := B.exec
  have hb := B.bytes
  have hr := B.returns
  have hT : ∀ w ∈ tB, w.before _ s = true := fun w h => atoms_spec (ws := wsAr_quotient) B.pre w (List.mem_cons_of_mem _ h)
  have hown : s.vm.findClass "CompiledProgram$Arithmetic" = some m.cls := findClass_of_methodNamed B.named
  have hlocks := B.notSynchronized
  have hS : va_S (fun _ => False) s.heap s.heap [] := va_S.rf
  have hl := lv_entry ([.int (bI a0), .long a1, .long a2]) (n := 5) (Nat.le_of_ble_eq_true rfl)
  rw [lg_entry_eq]
  generalize (lg_sl ([.int (bI a0), .long a1, .long a2]) ++ List.replicate (5 - (lg_sl ([.int (bI a0), .long a1, .long a2])).length) Slot.unset).toArray = ls at hl ⊢
  have hl : lv_has ls 5 [(0, .int (bI a0)), (1, .long a1), (3, .long a2)] := hl
  refine lv_lload_n hx hb dAr_quotient_0 rfl (lv_at hl 2 rfl) ?_
  refine lv_lconst (v := (0 : Int64)) hx hb dAr_quotient_1 (by decide) ?_
  refine W.lcmp hx hb dAr_quotient_2 ?_
  refine lv_if_ne (tgt := 8) hx hb dAr_quotient_3 (by decide) (fun c1 => ?_) (fun c1 => ?_)
  · have c1 := mt (lg_cmp_eq _ _).mpr c1
    refine lv_iload_n hx hb dAr_quotient_8 rfl (lv_at hl 0 rfl) ?_
    refine lv_if_eq (tgt := 18) hx hb dAr_quotient_9 (by decide) (fun c2 => ?_) (fun c2 => ?_)
    · have c2 := bI_z c2
      refine lv_lload_n hx hb dAr_quotient_18 rfl (lv_at hl 1 rfl) ?_
      refine lv_lload_n hx hb dAr_quotient_19 rfl (lv_at hl 2 rfl) ?_
      refine va_calll (va_runS (As := [.long a1, .long a2]) (rest := []) ⟨hx, hb, hml, hown, hT⟩ (c_Ar_unsignedQuotient l s.heap a1 a2) (cwS 2 hT (gB_S mw_545 mw_546 mw_19 mw_547) rfl rfl rfl (by decide +kernel) ⟨Nat.le_of_ble_eq_true rfl, Nat.le_of_ble_eq_true rfl⟩) ⟨fun _ _ _ _ q => q, fun U hU hW => ⟨rfl, hU⟩⟩ rfl rfl hl.1 rfl (lv_room (Nat.le_of_ble_eq_true rfl)) dAr_quotient_20 ⟨Nat.zero_le _, Nat.zero_le _⟩) hS (fun _ _ h => h.elim) (fun _ h => h.elim) (fun r u t H1 locs ht hvm hw hB hz8 hk8 hS => ?_)
      obtain rfl : s.heap = H1 := hB.symm.trans ht
      subst hw
      exact W.lret (v := (f_Ar_unsignedQuotient a1 a2)) hx hb hr (fun t ht hW => ⟨⟨(f_Ar_unsignedQuotient a1 a2), (), rfl, (by unfold f_Ar_quotient; rw [if_neg c1, if_neg c2]; try rfl), ht⟩, hS.F ht⟩) hS.2.2 dAr_quotient_23
    · have c2 := bI_n c2
      refine lv_lload_n hx hb dAr_quotient_12 rfl (lv_at hl 1 rfl) ?_
      refine lv_lload_n hx hb dAr_quotient_13 rfl (lv_at hl 2 rfl) ?_
      refine lv_ldiv hx hb dAr_quotient_14 c1 ?_
      refine lv_goto (tgt := 23) hx hb dAr_quotient_15 (by decide) ?_
      exact W.lret (v := (a1 / a2)) hx hb hr (fun t ht hW => ⟨⟨(a1 / a2), (), rfl, (by unfold f_Ar_quotient; rw [if_neg c1, if_pos c2]; try rfl), ht⟩, hS.F ht⟩) hS.2.2 dAr_quotient_23
  · have c1 := (lg_cmp_eq _ _).mp c1
    refine lv_lconst (v := (0 : Int64)) hx hb dAr_quotient_6 (by decide) ?_
    exact W.lret (v := (0 : Int64)) hx hb hr (fun t ht hW => ⟨⟨(0 : Int64), (), rfl, (by unfold f_Ar_quotient; rw [if_pos c1]; try rfl), ht⟩, hS.F ht⟩) hS.2.2 dAr_quotient_7

def f_Ar_rest (a0 : Bool) (a1 : Int64) (a2 : Int64) : Int64 :=
  (a1 - (a2 * (f_Ar_quotient a0 a1 a2)))
set_option maxHeartbeats 4000000 in
set_option maxRecDepth 100000 in
theorem c_Ar_rest (l : Launch) (Hp : Heap) (a0 : Bool) (a1 : Int64) (a2 : Int64) : Met l yAr_rest wsAr_rest ({ frames := 2, cells := 0, slots := 0, locals := 51 }) (va_Pc [.int (bI a0), .long a1, .long a2] (fun U => U.heap = Hp)) (va_Ql (fun (r : Int64) (_ : Unit) => r = f_Ar_rest a0 a1 a2) (fun _ t => t.heap = Hp) (fun _ => False)) 0 0 (fun _ => False) := by
  refine Met.ofW (cc := cAr_rest) (maxL := 5) (ret := (some .long)) (by decide) rfl ?_
  intro p e s m args below meth c s₁ B hml hv
  obtain ⟨rfl, rfl⟩ := hv
  have hx := B.exec
  have hb := B.bytes
  have hr := B.returns
  have hT : ∀ w ∈ tB, w.before _ s = true := fun w h => atoms_spec (ws := wsAr_rest) B.pre w (List.mem_cons_of_mem _ h)
  have hown : s.vm.findClass "CompiledProgram$Arithmetic" = some m.cls := findClass_of_methodNamed B.named
  have hlocks := B.notSynchronized
  have hS : va_S (fun _ => False) s.heap s.heap [] := va_S.rf
  have hl := lv_entry ([.int (bI a0), .long a1, .long a2]) (n := 5) (Nat.le_of_ble_eq_true rfl)
  rw [lg_entry_eq]
  generalize (lg_sl ([.int (bI a0), .long a1, .long a2]) ++ List.replicate (5 - (lg_sl ([.int (bI a0), .long a1, .long a2])).length) Slot.unset).toArray = ls at hl ⊢
  have hl : lv_has ls 5 [(0, .int (bI a0)), (1, .long a1), (3, .long a2)] := hl
  refine lv_lload_n hx hb dAr_rest_0 rfl (lv_at hl 1 rfl) ?_
  refine lv_lload_n hx hb dAr_rest_1 rfl (lv_at hl 2 rfl) ?_
  refine lv_iload_n hx hb dAr_rest_2 rfl (lv_at hl 0 rfl) ?_
  refine lv_lload_n hx hb dAr_rest_3 rfl (lv_at hl 1 rfl) ?_
  refine lv_lload_n hx hb dAr_rest_4 rfl (lv_at hl 2 rfl) ?_
  refine va_calll (va_runS (As := [.int (bI a0), .long a1, .long a2]) (rest := [.long a2, .long a1]) ⟨hx, hb, hml, hown, hT⟩ (c_Ar_quotient l s.heap a0 a1 a2) (cwS 3 hT (gB_S mw_542 mw_543 mw_19 mw_544) rfl rfl rfl (by decide +kernel) ⟨Nat.le_of_ble_eq_true rfl, Nat.le_of_ble_eq_true rfl⟩) ⟨fun _ _ _ _ q => q, fun U hU hW => ⟨rfl, hU⟩⟩ rfl rfl hl.1 rfl (lv_room (Nat.le_of_ble_eq_true rfl)) dAr_rest_5 ⟨Nat.zero_le _, Nat.zero_le _⟩) hS (fun _ _ h => h.elim) (fun _ h => h.elim) (fun r u t H1 locs ht hvm hw hB hz8 hk8 hS => ?_)
  obtain rfl : s.heap = H1 := hB.symm.trans ht
  subst hw
  refine lv_lmul hx hb dAr_rest_8 ?_
  refine lv_lsub hx hb dAr_rest_9 ?_
  exact W.lret (v := (a1 - (a2 * (f_Ar_quotient a0 a1 a2)))) hx hb hr (fun t ht hW => ⟨⟨(a1 - (a2 * (f_Ar_quotient a0 a1 a2))), (), rfl, rfl, ht⟩, hS.F ht⟩) hS.2.2 dAr_rest_10

def f_Ar_wide (a0 : Int32) (a1 : Int32) (a2 : Int64) (a3 : Int64) : Int64 :=
  if a0 = (0 : Int32) then
    (a2 + a3)
  else
    if a0 = (1 : Int32) then
      (a2 - a3)
    else
      if a0 = (2 : Int32) then
        (a2 * a3)
      else
        if a0 = (3 : Int32) then
          if a1 = (1 : Int32) then
            (f_Ar_quotient true a2 a3)
          else
            (f_Ar_quotient false a2 a3)
        else
          if a0 = (4 : Int32) then
            (a2 ||| a3)
          else
            if a0 = (5 : Int32) then
              (a2 &&& a3)
            else
              if a0 = (6 : Int32) then
                (j_lshl a2 ((a3 &&& (63 : Int64)).toInt32))
              else
                if a0 = (7 : Int32) then
                  (j_lushr a2 ((a3 &&& (63 : Int64)).toInt32))
                else
                  if a0 = (8 : Int32) then
                    (-a2)
                  else
                    if a0 = (9 : Int32) then
                      if a1 = (1 : Int32) then
                        (f_Ar_rest true a2 a3)
                      else
                        (f_Ar_rest false a2 a3)
                    else
                      if a0 = (10 : Int32) then
                        (a2 ^^^ a3)
                      else
                        if a0 = (11 : Int32) then
                          if a1 = 0 then
                            a3
                          else
                            (f_Ar_signed a3 a1)
                        else
                          if a0 = (12 : Int32) then
                            (j_lshr a2 ((a3 &&& (63 : Int64)).toInt32))
                          else
                            a2
set_option maxHeartbeats 4000000 in
set_option maxRecDepth 100000 in
theorem c_Ar_wide (l : Launch) (Hp : Heap) (a0 : Int32) (a1 : Int32) (a2 : Int64) (a3 : Int64) : Met l yAr_wide wsAr_wide ({ frames := 3, cells := 0, slots := 0, locals := 75 }) (va_Pc [.int a0, .int a1, .long a2, .long a3] (fun U => U.heap = Hp)) (va_Ql (fun (r : Int64) (_ : Unit) => r = f_Ar_wide a0 a1 a2 a3) (fun _ t => t.heap = Hp) (fun _ => False)) 0 0 (fun _ => False) := by
  refine Met.ofW (cc := cAr_wide) (maxL := 6) (ret := (some .long)) (by decide) rfl ?_
  intro p e s m args below meth c s₁ B hml hv
  obtain ⟨rfl, rfl⟩ := hv
  have hx := B.exec
  have hb := B.bytes
  have hr := B.returns
  have hT : ∀ w ∈ tB, w.before _ s = true := fun w h => atoms_spec (ws := wsAr_wide) B.pre w (List.mem_cons_of_mem _ h)
  have hown : s.vm.findClass "CompiledProgram$Arithmetic" = some m.cls := findClass_of_methodNamed B.named
  have hlocks := B.notSynchronized
  have hS : va_S (fun _ => False) s.heap s.heap [] := va_S.rf
  have hl := lv_entry ([.int a0, .int a1, .long a2, .long a3]) (n := 6) (Nat.le_of_ble_eq_true rfl)
  rw [lg_entry_eq]
  generalize (lg_sl ([.int a0, .int a1, .long a2, .long a3]) ++ List.replicate (6 - (lg_sl ([.int a0, .int a1, .long a2, .long a3])).length) Slot.unset).toArray = ls at hl ⊢
  have hl : lv_has ls 6 [(0, .int a0), (1, .int a1), (2, .long a2), (4, .long a3)] := hl
  refine lv_iload_n hx hb dAr_wide_0 rfl (lv_at hl 0 rfl) ?_
  by_cases c1 : a0 = (0 : Int32)
  · skip
    refine lv_tableIn (tgt := 68) (off := 67) hx hb dAr_wide_1 (by rw [c1]; decide) (by rw [c1]; decide) (by rw [c1]; rfl) (by decide) ?_
    refine lv_lload_n hx hb dAr_wide_68 rfl (lv_at hl 2 rfl) ?_
    refine lv_lload hx hb dAr_wide_69 (lv_at hl 3 rfl) ?_
    refine lv_ladd hx hb dAr_wide_71 ?_
    exact W.lret (v := (a2 + a3)) hx hb hr (fun t ht hW => ⟨⟨(a2 + a3), (), rfl, (by unfold f_Ar_wide; rw [if_pos c1]; try rfl), ht⟩, hS.F ht⟩) hS.2.2 dAr_wide_72
  by_cases c2 : a0 = (1 : Int32)
  · skip
    refine lv_tableIn (tgt := 73) (off := 72) hx hb dAr_wide_1 (by rw [c2]; decide) (by rw [c2]; decide) (by rw [c2]; rfl) (by decide) ?_
    refine lv_lload_n hx hb dAr_wide_73 rfl (lv_at hl 2 rfl) ?_
    refine lv_lload hx hb dAr_wide_74 (lv_at hl 3 rfl) ?_
    refine lv_lsub hx hb dAr_wide_76 ?_
    exact W.lret (v := (a2 - a3)) hx hb hr (fun t ht hW => ⟨⟨(a2 - a3), (), rfl, (by unfold f_Ar_wide; rw [if_neg c1, if_pos c2]; try rfl), ht⟩, hS.F ht⟩) hS.2.2 dAr_wide_77
  by_cases c3 : a0 = (2 : Int32)
  · skip
    refine lv_tableIn (tgt := 78) (off := 77) hx hb dAr_wide_1 (by rw [c3]; decide) (by rw [c3]; decide) (by rw [c3]; rfl) (by decide) ?_
    refine lv_lload_n hx hb dAr_wide_78 rfl (lv_at hl 2 rfl) ?_
    refine lv_lload hx hb dAr_wide_79 (lv_at hl 3 rfl) ?_
    refine lv_lmul hx hb dAr_wide_81 ?_
    exact W.lret (v := (a2 * a3)) hx hb hr (fun t ht hW => ⟨⟨(a2 * a3), (), rfl, (by unfold f_Ar_wide; rw [if_neg c1, if_neg c2, if_pos c3]; try rfl), ht⟩, hS.F ht⟩) hS.2.2 dAr_wide_82
  by_cases c4 : a0 = (3 : Int32)
  · skip
    refine lv_tableIn (tgt := 83) (off := 82) hx hb dAr_wide_1 (by rw [c4]; decide) (by rw [c4]; decide) (by rw [c4]; rfl) (by decide) ?_
    refine lv_iload_n hx hb dAr_wide_83 rfl (lv_at hl 1 rfl) ?_
    refine lv_iconst (v := (1 : Int32)) hx hb dAr_wide_84 (by decide) ?_
    refine lv_icmp_ne (tgt := 92) hx hb dAr_wide_85 (by decide) (fun c5 => ?_) (fun c5 => ?_)
    · skip
      refine lv_iconst (v := (0 : Int32)) hx hb dAr_wide_92 (by decide) ?_
      refine lv_lload_n hx hb dAr_wide_93 rfl (lv_at hl 2 rfl) ?_
      refine lv_lload hx hb dAr_wide_94 (lv_at hl 3 rfl) ?_
      refine va_calll (va_runS (As := [.int (0 : Int32), .long a2, .long a3]) (rest := []) ⟨hx, hb, hml, hown, hT⟩ (c_Ar_quotient l s.heap false a2 a3) (cwS 3 hT (gB_S mw_542 mw_543 mw_19 mw_544) rfl rfl rfl (by decide +kernel) ⟨Nat.le_of_ble_eq_true rfl, Nat.le_of_ble_eq_true rfl⟩) ⟨fun _ _ _ _ q => q, fun U hU hW => ⟨rfl, hU⟩⟩ rfl rfl hl.1 rfl (lv_room (Nat.le_of_ble_eq_true rfl)) dAr_wide_96 ⟨Nat.zero_le _, Nat.zero_le _⟩) hS (fun _ _ h => h.elim) (fun _ h => h.elim) (fun r u t H1 locs ht hvm hw hB hz8 hk8 hS => ?_)
      obtain rfl : s.heap = H1 := hB.symm.trans ht
      subst hw
      exact W.lret (v := (f_Ar_quotient false a2 a3)) hx hb hr (fun t ht hW => ⟨⟨(f_Ar_quotient false a2 a3), (), rfl, (by unfold f_Ar_wide; rw [if_neg c1, if_neg c2, if_neg c3, if_pos c4, if_neg c5]; try rfl), ht⟩, hS.F ht⟩) hS.2.2 dAr_wide_99
    · skip
      refine lv_iconst (v := (1 : Int32)) hx hb dAr_wide_88 (by decide) ?_
      refine lv_goto (tgt := 93) hx hb dAr_wide_89 (by decide) ?_
      refine lv_lload_n hx hb dAr_wide_93 rfl (lv_at hl 2 rfl) ?_
      refine lv_lload hx hb dAr_wide_94 (lv_at hl 3 rfl) ?_
      refine va_calll (va_runS (As := [.int (1 : Int32), .long a2, .long a3]) (rest := []) ⟨hx, hb, hml, hown, hT⟩ (c_Ar_quotient l s.heap true a2 a3) (cwS 3 hT (gB_S mw_542 mw_543 mw_19 mw_544) rfl rfl rfl (by decide +kernel) ⟨Nat.le_of_ble_eq_true rfl, Nat.le_of_ble_eq_true rfl⟩) ⟨fun _ _ _ _ q => q, fun U hU hW => ⟨rfl, hU⟩⟩ rfl rfl hl.1 rfl (lv_room (Nat.le_of_ble_eq_true rfl)) dAr_wide_96 ⟨Nat.zero_le _, Nat.zero_le _⟩) hS (fun _ _ h => h.elim) (fun _ h => h.elim) (fun r u t H1 locs ht hvm hw hB hz8 hk8 hS => ?_)
      obtain rfl : s.heap = H1 := hB.symm.trans ht
      subst hw
      exact W.lret (v := (f_Ar_quotient true a2 a3)) hx hb hr (fun t ht hW => ⟨⟨(f_Ar_quotient true a2 a3), (), rfl, (by unfold f_Ar_wide; rw [if_neg c1, if_neg c2, if_neg c3, if_pos c4, if_pos c5]; try rfl), ht⟩, hS.F ht⟩) hS.2.2 dAr_wide_99
  by_cases c6 : a0 = (4 : Int32)
  · skip
    refine lv_tableIn (tgt := 100) (off := 99) hx hb dAr_wide_1 (by rw [c6]; decide) (by rw [c6]; decide) (by rw [c6]; rfl) (by decide) ?_
    refine lv_lload_n hx hb dAr_wide_100 rfl (lv_at hl 2 rfl) ?_
    refine lv_lload hx hb dAr_wide_101 (lv_at hl 3 rfl) ?_
    refine lv_lor hx hb dAr_wide_103 ?_
    exact W.lret (v := (a2 ||| a3)) hx hb hr (fun t ht hW => ⟨⟨(a2 ||| a3), (), rfl, (by unfold f_Ar_wide; rw [if_neg c1, if_neg c2, if_neg c3, if_neg c4, if_pos c6]; try rfl), ht⟩, hS.F ht⟩) hS.2.2 dAr_wide_104
  by_cases c7 : a0 = (5 : Int32)
  · skip
    refine lv_tableIn (tgt := 105) (off := 104) hx hb dAr_wide_1 (by rw [c7]; decide) (by rw [c7]; decide) (by rw [c7]; rfl) (by decide) ?_
    refine lv_lload_n hx hb dAr_wide_105 rfl (lv_at hl 2 rfl) ?_
    refine lv_lload hx hb dAr_wide_106 (lv_at hl 3 rfl) ?_
    refine lv_land hx hb dAr_wide_108 ?_
    exact W.lret (v := (a2 &&& a3)) hx hb hr (fun t ht hW => ⟨⟨(a2 &&& a3), (), rfl, (by unfold f_Ar_wide; rw [if_neg c1, if_neg c2, if_neg c3, if_neg c4, if_neg c6, if_pos c7]; try rfl), ht⟩, hS.F ht⟩) hS.2.2 dAr_wide_109
  by_cases c8 : a0 = (6 : Int32)
  · skip
    refine lv_tableIn (tgt := 110) (off := 109) hx hb dAr_wide_1 (by rw [c8]; decide) (by rw [c8]; decide) (by rw [c8]; rfl) (by decide) ?_
    refine lv_lload_n hx hb dAr_wide_110 rfl (lv_at hl 2 rfl) ?_
    refine lv_lload hx hb dAr_wide_111 (lv_at hl 3 rfl) ?_
    refine lv_ldc2 (v := (63 : Int64)) hx hb hown (hT _ mw_548) dAr_wide_113 ?_
    refine lv_land hx hb dAr_wide_116 ?_
    refine lv_l2i hx hb dAr_wide_117 rfl ?_
    refine lv_lshl (v := (j_lshl a2 ((a3 &&& (63 : Int64)).toInt32))) hx hb dAr_wide_118 rfl ?_
    exact W.lret (v := (j_lshl a2 ((a3 &&& (63 : Int64)).toInt32))) hx hb hr (fun t ht hW => ⟨⟨(j_lshl a2 ((a3 &&& (63 : Int64)).toInt32)), (), rfl, (by unfold f_Ar_wide; rw [if_neg c1, if_neg c2, if_neg c3, if_neg c4, if_neg c6, if_neg c7, if_pos c8]; try rfl), ht⟩, hS.F ht⟩) hS.2.2 dAr_wide_119
  by_cases c9 : a0 = (7 : Int32)
  · skip
    refine lv_tableIn (tgt := 120) (off := 119) hx hb dAr_wide_1 (by rw [c9]; decide) (by rw [c9]; decide) (by rw [c9]; rfl) (by decide) ?_
    refine lv_lload_n hx hb dAr_wide_120 rfl (lv_at hl 2 rfl) ?_
    refine lv_lload hx hb dAr_wide_121 (lv_at hl 3 rfl) ?_
    refine lv_ldc2 (v := (63 : Int64)) hx hb hown (hT _ mw_548) dAr_wide_123 ?_
    refine lv_land hx hb dAr_wide_126 ?_
    refine lv_l2i hx hb dAr_wide_127 rfl ?_
    refine lv_lushr (v := (j_lushr a2 ((a3 &&& (63 : Int64)).toInt32))) hx hb dAr_wide_128 rfl ?_
    exact W.lret (v := (j_lushr a2 ((a3 &&& (63 : Int64)).toInt32))) hx hb hr (fun t ht hW => ⟨⟨(j_lushr a2 ((a3 &&& (63 : Int64)).toInt32)), (), rfl, (by unfold f_Ar_wide; rw [if_neg c1, if_neg c2, if_neg c3, if_neg c4, if_neg c6, if_neg c7, if_neg c8, if_pos c9]; try rfl), ht⟩, hS.F ht⟩) hS.2.2 dAr_wide_129
  by_cases c10 : a0 = (8 : Int32)
  · skip
    refine lv_tableIn (tgt := 130) (off := 129) hx hb dAr_wide_1 (by rw [c10]; decide) (by rw [c10]; decide) (by rw [c10]; rfl) (by decide) ?_
    refine lv_lload_n hx hb dAr_wide_130 rfl (lv_at hl 2 rfl) ?_
    refine lv_lneg hx hb dAr_wide_131 ?_
    exact W.lret (v := (-a2)) hx hb hr (fun t ht hW => ⟨⟨(-a2), (), rfl, (by unfold f_Ar_wide; rw [if_neg c1, if_neg c2, if_neg c3, if_neg c4, if_neg c6, if_neg c7, if_neg c8, if_neg c9, if_pos c10]; try rfl), ht⟩, hS.F ht⟩) hS.2.2 dAr_wide_132
  by_cases c11 : a0 = (9 : Int32)
  · skip
    refine lv_tableIn (tgt := 133) (off := 132) hx hb dAr_wide_1 (by rw [c11]; decide) (by rw [c11]; decide) (by rw [c11]; rfl) (by decide) ?_
    refine lv_iload_n hx hb dAr_wide_133 rfl (lv_at hl 1 rfl) ?_
    refine lv_iconst (v := (1 : Int32)) hx hb dAr_wide_134 (by decide) ?_
    refine lv_icmp_ne (tgt := 142) hx hb dAr_wide_135 (by decide) (fun c12 => ?_) (fun c12 => ?_)
    · skip
      refine lv_iconst (v := (0 : Int32)) hx hb dAr_wide_142 (by decide) ?_
      refine lv_lload_n hx hb dAr_wide_143 rfl (lv_at hl 2 rfl) ?_
      refine lv_lload hx hb dAr_wide_144 (lv_at hl 3 rfl) ?_
      refine va_calll (va_runS (As := [.int (0 : Int32), .long a2, .long a3]) (rest := []) ⟨hx, hb, hml, hown, hT⟩ (c_Ar_rest l s.heap false a2 a3) (cwS 3 hT (gB_S mw_549 mw_550 mw_19 mw_551) rfl rfl rfl (by decide +kernel) ⟨Nat.le_of_ble_eq_true rfl, Nat.le_of_ble_eq_true rfl⟩) ⟨fun _ _ _ _ q => q, fun U hU hW => ⟨rfl, hU⟩⟩ rfl rfl hl.1 rfl (lv_room (Nat.le_of_ble_eq_true rfl)) dAr_wide_146 ⟨Nat.zero_le _, Nat.zero_le _⟩) hS (fun _ _ h => h.elim) (fun _ h => h.elim) (fun r u t H1 locs ht hvm hw hB hz8 hk8 hS => ?_)
      obtain rfl : s.heap = H1 := hB.symm.trans ht
      subst hw
      exact W.lret (v := (f_Ar_rest false a2 a3)) hx hb hr (fun t ht hW => ⟨⟨(f_Ar_rest false a2 a3), (), rfl, (by unfold f_Ar_wide; rw [if_neg c1, if_neg c2, if_neg c3, if_neg c4, if_neg c6, if_neg c7, if_neg c8, if_neg c9, if_neg c10, if_pos c11, if_neg c12]; try rfl), ht⟩, hS.F ht⟩) hS.2.2 dAr_wide_149
    · skip
      refine lv_iconst (v := (1 : Int32)) hx hb dAr_wide_138 (by decide) ?_
      refine lv_goto (tgt := 143) hx hb dAr_wide_139 (by decide) ?_
      refine lv_lload_n hx hb dAr_wide_143 rfl (lv_at hl 2 rfl) ?_
      refine lv_lload hx hb dAr_wide_144 (lv_at hl 3 rfl) ?_
      refine va_calll (va_runS (As := [.int (1 : Int32), .long a2, .long a3]) (rest := []) ⟨hx, hb, hml, hown, hT⟩ (c_Ar_rest l s.heap true a2 a3) (cwS 3 hT (gB_S mw_549 mw_550 mw_19 mw_551) rfl rfl rfl (by decide +kernel) ⟨Nat.le_of_ble_eq_true rfl, Nat.le_of_ble_eq_true rfl⟩) ⟨fun _ _ _ _ q => q, fun U hU hW => ⟨rfl, hU⟩⟩ rfl rfl hl.1 rfl (lv_room (Nat.le_of_ble_eq_true rfl)) dAr_wide_146 ⟨Nat.zero_le _, Nat.zero_le _⟩) hS (fun _ _ h => h.elim) (fun _ h => h.elim) (fun r u t H1 locs ht hvm hw hB hz8 hk8 hS => ?_)
      obtain rfl : s.heap = H1 := hB.symm.trans ht
      subst hw
      exact W.lret (v := (f_Ar_rest true a2 a3)) hx hb hr (fun t ht hW => ⟨⟨(f_Ar_rest true a2 a3), (), rfl, (by unfold f_Ar_wide; rw [if_neg c1, if_neg c2, if_neg c3, if_neg c4, if_neg c6, if_neg c7, if_neg c8, if_neg c9, if_neg c10, if_pos c11, if_pos c12]; try rfl), ht⟩, hS.F ht⟩) hS.2.2 dAr_wide_149
  by_cases c13 : a0 = (10 : Int32)
  · skip
    refine lv_tableIn (tgt := 150) (off := 149) hx hb dAr_wide_1 (by rw [c13]; decide) (by rw [c13]; decide) (by rw [c13]; rfl) (by decide) ?_
    refine lv_lload_n hx hb dAr_wide_150 rfl (lv_at hl 2 rfl) ?_
    refine lv_lload hx hb dAr_wide_151 (lv_at hl 3 rfl) ?_
    refine lv_lxor hx hb dAr_wide_153 ?_
    exact W.lret (v := (a2 ^^^ a3)) hx hb hr (fun t ht hW => ⟨⟨(a2 ^^^ a3), (), rfl, (by unfold f_Ar_wide; rw [if_neg c1, if_neg c2, if_neg c3, if_neg c4, if_neg c6, if_neg c7, if_neg c8, if_neg c9, if_neg c10, if_neg c11, if_pos c13]; try rfl), ht⟩, hS.F ht⟩) hS.2.2 dAr_wide_154
  by_cases c14 : a0 = (11 : Int32)
  · skip
    refine lv_tableIn (tgt := 155) (off := 154) hx hb dAr_wide_1 (by rw [c14]; decide) (by rw [c14]; decide) (by rw [c14]; rfl) (by decide) ?_
    refine lv_iload_n hx hb dAr_wide_155 rfl (lv_at hl 1 rfl) ?_
    refine lv_if_ne (tgt := 164) hx hb dAr_wide_156 (by decide) (fun c15 => ?_) (fun c15 => ?_)
    · skip
      refine lv_lload hx hb dAr_wide_164 (lv_at hl 3 rfl) ?_
      refine lv_iload_n hx hb dAr_wide_166 rfl (lv_at hl 1 rfl) ?_
      refine va_calll (va_runS (As := [.long a3, .int a1]) (rest := []) ⟨hx, hb, hml, hown, hT⟩ (c_Ar_signed l s.heap a3 a1) (cwS 2 hT (gB_S mw_552 mw_475 mw_19 mw_476) rfl rfl rfl (by decide +kernel) ⟨Nat.le_of_ble_eq_true rfl, Nat.le_of_ble_eq_true rfl⟩) ⟨fun _ _ _ _ q => q, fun U hU hW => ⟨rfl, hU⟩⟩ rfl rfl hl.1 rfl (lv_room (Nat.le_of_ble_eq_true rfl)) dAr_wide_167 ⟨Nat.zero_le _, Nat.zero_le _⟩) hS (fun _ _ h => h.elim) (fun _ h => h.elim) (fun r u t H1 locs ht hvm hw hB hz8 hk8 hS => ?_)
      obtain rfl : s.heap = H1 := hB.symm.trans ht
      subst hw
      exact W.lret (v := (f_Ar_signed a3 a1)) hx hb hr (fun t ht hW => ⟨⟨(f_Ar_signed a3 a1), (), rfl, (by unfold f_Ar_wide; rw [if_neg c1, if_neg c2, if_neg c3, if_neg c4, if_neg c6, if_neg c7, if_neg c8, if_neg c9, if_neg c10, if_neg c11, if_neg c13, if_pos c14, if_neg c15]; try rfl), ht⟩, hS.F ht⟩) hS.2.2 dAr_wide_170
    · skip
      refine lv_lload hx hb dAr_wide_159 (lv_at hl 3 rfl) ?_
      refine lv_goto (tgt := 170) hx hb dAr_wide_161 (by decide) ?_
      exact W.lret (v := a3) hx hb hr (fun t ht hW => ⟨⟨a3, (), rfl, (by unfold f_Ar_wide; rw [if_neg c1, if_neg c2, if_neg c3, if_neg c4, if_neg c6, if_neg c7, if_neg c8, if_neg c9, if_neg c10, if_neg c11, if_neg c13, if_pos c14, if_pos c15]; try rfl), ht⟩, hS.F ht⟩) hS.2.2 dAr_wide_170
  by_cases c16 : a0 = (12 : Int32)
  · skip
    refine lv_tableIn (tgt := 171) (off := 170) hx hb dAr_wide_1 (by rw [c16]; decide) (by rw [c16]; decide) (by rw [c16]; rfl) (by decide) ?_
    refine lv_lload_n hx hb dAr_wide_171 rfl (lv_at hl 2 rfl) ?_
    refine lv_lload hx hb dAr_wide_172 (lv_at hl 3 rfl) ?_
    refine lv_ldc2 (v := (63 : Int64)) hx hb hown (hT _ mw_548) dAr_wide_174 ?_
    refine lv_land hx hb dAr_wide_177 ?_
    refine lv_l2i hx hb dAr_wide_178 rfl ?_
    refine lv_lshr (v := (j_lshr a2 ((a3 &&& (63 : Int64)).toInt32))) hx hb dAr_wide_179 rfl ?_
    exact W.lret (v := (j_lshr a2 ((a3 &&& (63 : Int64)).toInt32))) hx hb hr (fun t ht hW => ⟨⟨(j_lshr a2 ((a3 &&& (63 : Int64)).toInt32)), (), rfl, (by unfold f_Ar_wide; rw [if_neg c1, if_neg c2, if_neg c3, if_neg c4, if_neg c6, if_neg c7, if_neg c8, if_neg c9, if_neg c10, if_neg c11, if_neg c13, if_neg c14, if_pos c16]; try rfl), ht⟩, hS.F ht⟩) hS.2.2 dAr_wide_180
  refine lv_tableOut (tgt := 181) hx hb dAr_wide_1 (by have h0 := lv_neT c1 (a := 0) (by decide); have h1 := lv_neT c2 (a := 1) (by decide); have h2 := lv_neT c3 (a := 2) (by decide); have h3 := lv_neT c4 (a := 3) (by decide); have h4 := lv_neT c6 (a := 4) (by decide); have h5 := lv_neT c7 (a := 5) (by decide); have h6 := lv_neT c8 (a := 6) (by decide); have h7 := lv_neT c9 (a := 7) (by decide); have h8 := lv_neT c10 (a := 8) (by decide); have h9 := lv_neT c11 (a := 9) (by decide); have h10 := lv_neT c13 (a := 10) (by decide); have h11 := lv_neT c14 (a := 11) (by decide); have h12 := lv_neT c16 (a := 12) (by decide); omega) (by decide) ?_
  refine lv_lload_n hx hb dAr_wide_181 rfl (lv_at hl 2 rfl) ?_
  exact W.lret (v := a2) hx hb hr (fun t ht hW => ⟨⟨a2, (), rfl, (by unfold f_Ar_wide; rw [if_neg c1, if_neg c2, if_neg c3, if_neg c4, if_neg c6, if_neg c7, if_neg c8, if_neg c9, if_neg c10, if_neg c11, if_neg c13, if_neg c14, if_neg c16]; try rfl), ht⟩, hS.F ht⟩) hS.2.2 dAr_wide_182

def f_Ar_narrow (a0 : Int32) (a1 : Int32) (a2 : Int32) (a3 : Int32) : Int64 :=
  if a0 = (3 : Int32) then
    if a1 = (1 : Int32) then
      (f_Ar_lowest (f_Ar_quotient true ((a2).toInt64) ((a3).toInt64)) (32 : Int32))
    else
      (f_Ar_lowest (f_Ar_quotient false (f_Ar_lowest ((a2).toInt64) (32 : Int32)) (f_Ar_lowest ((a3).toInt64) (32 : Int32))) (32 : Int32))
  else
    if a0 = (4 : Int32) then
      (f_Ar_lowest (f_Ar_wide a0 a1 ((a2).toInt64) ((a3).toInt64)) (32 : Int32))
    else
      if a0 = (5 : Int32) then
        (f_Ar_lowest (f_Ar_wide a0 a1 ((a2).toInt64) ((a3).toInt64)) (32 : Int32))
      else
        if a0 = (6 : Int32) then
          (f_Ar_lowest ((a2 <<< ((a3 &&& (31 : Int32)) &&& 31)).toInt64) (32 : Int32))
        else
          if a0 = (7 : Int32) then
            (f_Ar_lowest ((j_iushr a2 (a3 &&& (31 : Int32))).toInt64) (32 : Int32))
          else
            if a0 = (8 : Int32) then
              (f_Ar_lowest (f_Ar_wide a0 a1 ((a2).toInt64) ((a3).toInt64)) (32 : Int32))
            else
              if a0 = (9 : Int32) then
                if a1 = (1 : Int32) then
                  (f_Ar_lowest (f_Ar_rest true ((a2).toInt64) ((a3).toInt64)) (32 : Int32))
                else
                  (f_Ar_lowest (f_Ar_rest false (f_Ar_lowest ((a2).toInt64) (32 : Int32)) (f_Ar_lowest ((a3).toInt64) (32 : Int32))) (32 : Int32))
              else
                if a0 = (10 : Int32) then
                  (f_Ar_lowest (f_Ar_wide a0 a1 ((a2).toInt64) ((a3).toInt64)) (32 : Int32))
                else
                  if a0 = (11 : Int32) then
                    (f_Ar_lowest (f_Ar_wide a0 a1 ((a2).toInt64) ((a3).toInt64)) (32 : Int32))
                  else
                    if a0 = (12 : Int32) then
                      (f_Ar_lowest ((a2 >>> ((a3 &&& (31 : Int32)) &&& 31)).toInt64) (32 : Int32))
                    else
                      (f_Ar_lowest (f_Ar_wide a0 a1 ((a2).toInt64) ((a3).toInt64)) (32 : Int32))
set_option maxHeartbeats 4000000 in
set_option maxRecDepth 100000 in
theorem c_Ar_narrow (l : Launch) (Hp : Heap) (a0 : Int32) (a1 : Int32) (a2 : Int32) (a3 : Int32) : Met l yAr_narrow wsAr_narrow ({ frames := 4, cells := 0, slots := 0, locals := 100 }) (va_Pc [.int a0, .int a1, .int a2, .int a3] (fun U => U.heap = Hp)) (va_Ql (fun (r : Int64) (_ : Unit) => r = f_Ar_narrow a0 a1 a2 a3) (fun _ t => t.heap = Hp) (fun _ => False)) 0 0 (fun _ => False) := by
  refine Met.ofW (cc := cAr_narrow) (maxL := 4) (ret := (some .long)) (by decide) rfl ?_
  intro p e s m args below meth c s₁ B hml hv
  obtain ⟨rfl, rfl⟩ := hv
  have hx := B.exec
  have hb := B.bytes
  have hr := B.returns
  have hT : ∀ w ∈ tB, w.before _ s = true := fun w h => atoms_spec (ws := wsAr_narrow) B.pre w (List.mem_cons_of_mem _ h)
  have hown : s.vm.findClass "CompiledProgram$Arithmetic" = some m.cls := findClass_of_methodNamed B.named
  have hlocks := B.notSynchronized
  have hS : va_S (fun _ => False) s.heap s.heap [] := va_S.rf
  have hl := lv_entry ([.int a0, .int a1, .int a2, .int a3]) (n := 4) (Nat.le_of_ble_eq_true rfl)
  rw [lg_entry_eq]
  generalize (lg_sl ([.int a0, .int a1, .int a2, .int a3]) ++ List.replicate (4 - (lg_sl ([.int a0, .int a1, .int a2, .int a3])).length) Slot.unset).toArray = ls at hl ⊢
  have hl : lv_has ls 4 [(0, .int a0), (1, .int a1), (2, .int a2), (3, .int a3)] := hl
  refine lv_iload_n hx hb dAr_narrow_0 rfl (lv_at hl 0 rfl) ?_
  by_cases c1 : a0 = (3 : Int32)
  · skip
    refine lv_tableIn (tgt := 56) (off := 55) hx hb dAr_narrow_1 (by rw [c1]; decide) (by rw [c1]; decide) (by rw [c1]; rfl) (by decide) ?_
    refine lv_iload_n hx hb dAr_narrow_56 rfl (lv_at hl 1 rfl) ?_
    refine lv_iconst (v := (1 : Int32)) hx hb dAr_narrow_57 (by decide) ?_
    refine lv_icmp_ne (tgt := 72) hx hb dAr_narrow_58 (by decide) (fun c2 => ?_) (fun c2 => ?_)
    · skip
      refine lv_iconst (v := (0 : Int32)) hx hb dAr_narrow_72 (by decide) ?_
      refine lv_iload_n hx hb dAr_narrow_73 rfl (lv_at hl 2 rfl) ?_
      refine lv_i2l hx hb dAr_narrow_74 rfl ?_
      refine lv_bipush (v := (32 : Int32)) hx hb dAr_narrow_75 (by decide) ?_
      refine va_calll (va_runS (As := [.long ((a2).toInt64), .int (32 : Int32)]) (rest := [.int (0 : Int32)]) ⟨hx, hb, hml, hown, hT⟩ (c_Ar_lowest l s.heap ((a2).toInt64) (32 : Int32)) (cwS 2 hT (gB_S mw_556 mw_458 mw_19 mw_459) rfl rfl rfl (by decide +kernel) ⟨Nat.le_of_ble_eq_true rfl, Nat.le_of_ble_eq_true rfl⟩) ⟨fun _ _ _ _ q => q, fun U hU hW => ⟨rfl, hU⟩⟩ rfl rfl hl.1 rfl (lv_room (Nat.le_of_ble_eq_true rfl)) dAr_narrow_77 ⟨Nat.zero_le _, Nat.zero_le _⟩) hS (fun _ _ h => h.elim) (fun _ h => h.elim) (fun r u t H1 locs ht hvm hw hB hz8 hk8 hS => ?_)
      obtain rfl : s.heap = H1 := hB.symm.trans ht
      subst hw
      refine lv_iload_n hx hb dAr_narrow_80 rfl (lv_at hl 3 rfl) ?_
      refine lv_i2l hx hb dAr_narrow_81 rfl ?_
      refine lv_bipush (v := (32 : Int32)) hx hb dAr_narrow_82 (by decide) ?_
      refine va_calll (va_runS (As := [.long ((a3).toInt64), .int (32 : Int32)]) (rest := [.long (f_Ar_lowest ((a2).toInt64) (32 : Int32)), .int (0 : Int32)]) ⟨hx, hb, hml, hown, hT⟩ (c_Ar_lowest l s.heap ((a3).toInt64) (32 : Int32)) (cwS 2 hT (gB_S mw_556 mw_458 mw_19 mw_459) rfl rfl rfl (by decide +kernel) ⟨Nat.le_of_ble_eq_true rfl, Nat.le_of_ble_eq_true rfl⟩) ⟨fun _ _ _ _ q => q, fun U hU hW => ⟨rfl, hU⟩⟩ rfl rfl hl.1 rfl (lv_room (Nat.le_of_ble_eq_true rfl)) dAr_narrow_84 ⟨Nat.zero_le _, Nat.zero_le _⟩) hS (fun _ _ h => h.elim) (fun _ h => h.elim) (fun r u t H1 locs ht hvm hw hB hz8 hk8 hS => ?_)
      obtain rfl : s.heap = H1 := hB.symm.trans ht
      subst hw
      refine va_calll (va_runS (As := [.int (0 : Int32), .long (f_Ar_lowest ((a2).toInt64) (32 : Int32)), .long (f_Ar_lowest ((a3).toInt64) (32 : Int32))]) (rest := []) ⟨hx, hb, hml, hown, hT⟩ (c_Ar_quotient l s.heap false (f_Ar_lowest ((a2).toInt64) (32 : Int32)) (f_Ar_lowest ((a3).toInt64) (32 : Int32))) (cwS 3 hT (gB_S mw_542 mw_543 mw_19 mw_544) rfl rfl rfl (by decide +kernel) ⟨Nat.le_of_ble_eq_true rfl, Nat.le_of_ble_eq_true rfl⟩) ⟨fun _ _ _ _ q => q, fun U hU hW => ⟨rfl, hU⟩⟩ rfl rfl hl.1 rfl (lv_room (Nat.le_of_ble_eq_true rfl)) dAr_narrow_87 ⟨Nat.zero_le _, Nat.zero_le _⟩) hS (fun _ _ h => h.elim) (fun _ h => h.elim) (fun r u t H1 locs ht hvm hw hB hz8 hk8 hS => ?_)
      obtain rfl : s.heap = H1 := hB.symm.trans ht
      subst hw
      refine lv_bipush (v := (32 : Int32)) hx hb dAr_narrow_90 (by decide) ?_
      refine va_calll (va_runS (As := [.long (f_Ar_quotient false (f_Ar_lowest ((a2).toInt64) (32 : Int32)) (f_Ar_lowest ((a3).toInt64) (32 : Int32))), .int (32 : Int32)]) (rest := []) ⟨hx, hb, hml, hown, hT⟩ (c_Ar_lowest l s.heap (f_Ar_quotient false (f_Ar_lowest ((a2).toInt64) (32 : Int32)) (f_Ar_lowest ((a3).toInt64) (32 : Int32))) (32 : Int32)) (cwS 2 hT (gB_S mw_556 mw_458 mw_19 mw_459) rfl rfl rfl (by decide +kernel) ⟨Nat.le_of_ble_eq_true rfl, Nat.le_of_ble_eq_true rfl⟩) ⟨fun _ _ _ _ q => q, fun U hU hW => ⟨rfl, hU⟩⟩ rfl rfl hl.1 rfl (lv_room (Nat.le_of_ble_eq_true rfl)) dAr_narrow_92 ⟨Nat.zero_le _, Nat.zero_le _⟩) hS (fun _ _ h => h.elim) (fun _ h => h.elim) (fun r u t H1 locs ht hvm hw hB hz8 hk8 hS => ?_)
      obtain rfl : s.heap = H1 := hB.symm.trans ht
      subst hw
      exact W.lret (v := (f_Ar_lowest (f_Ar_quotient false (f_Ar_lowest ((a2).toInt64) (32 : Int32)) (f_Ar_lowest ((a3).toInt64) (32 : Int32))) (32 : Int32))) hx hb hr (fun t ht hW => ⟨⟨(f_Ar_lowest (f_Ar_quotient false (f_Ar_lowest ((a2).toInt64) (32 : Int32)) (f_Ar_lowest ((a3).toInt64) (32 : Int32))) (32 : Int32)), (), rfl, (by unfold f_Ar_narrow; rw [if_pos c1, if_neg c2]; try rfl), ht⟩, hS.F ht⟩) hS.2.2 dAr_narrow_95
    · skip
      refine lv_iconst (v := (1 : Int32)) hx hb dAr_narrow_61 (by decide) ?_
      refine lv_iload_n hx hb dAr_narrow_62 rfl (lv_at hl 2 rfl) ?_
      refine lv_i2l hx hb dAr_narrow_63 rfl ?_
      refine lv_iload_n hx hb dAr_narrow_64 rfl (lv_at hl 3 rfl) ?_
      refine lv_i2l hx hb dAr_narrow_65 rfl ?_
      refine va_calll (va_runS (As := [.int (1 : Int32), .long ((a2).toInt64), .long ((a3).toInt64)]) (rest := []) ⟨hx, hb, hml, hown, hT⟩ (c_Ar_quotient l s.heap true ((a2).toInt64) ((a3).toInt64)) (cwS 3 hT (gB_S mw_542 mw_543 mw_19 mw_544) rfl rfl rfl (by decide +kernel) ⟨Nat.le_of_ble_eq_true rfl, Nat.le_of_ble_eq_true rfl⟩) ⟨fun _ _ _ _ q => q, fun U hU hW => ⟨rfl, hU⟩⟩ rfl rfl hl.1 rfl (lv_room (Nat.le_of_ble_eq_true rfl)) dAr_narrow_66 ⟨Nat.zero_le _, Nat.zero_le _⟩) hS (fun _ _ h => h.elim) (fun _ h => h.elim) (fun r u t H1 locs ht hvm hw hB hz8 hk8 hS => ?_)
      obtain rfl : s.heap = H1 := hB.symm.trans ht
      subst hw
      refine lv_goto (tgt := 90) hx hb dAr_narrow_69 (by decide) ?_
      refine lv_bipush (v := (32 : Int32)) hx hb dAr_narrow_90 (by decide) ?_
      refine va_calll (va_runS (As := [.long (f_Ar_quotient true ((a2).toInt64) ((a3).toInt64)), .int (32 : Int32)]) (rest := []) ⟨hx, hb, hml, hown, hT⟩ (c_Ar_lowest l s.heap (f_Ar_quotient true ((a2).toInt64) ((a3).toInt64)) (32 : Int32)) (cwS 2 hT (gB_S mw_556 mw_458 mw_19 mw_459) rfl rfl rfl (by decide +kernel) ⟨Nat.le_of_ble_eq_true rfl, Nat.le_of_ble_eq_true rfl⟩) ⟨fun _ _ _ _ q => q, fun U hU hW => ⟨rfl, hU⟩⟩ rfl rfl hl.1 rfl (lv_room (Nat.le_of_ble_eq_true rfl)) dAr_narrow_92 ⟨Nat.zero_le _, Nat.zero_le _⟩) hS (fun _ _ h => h.elim) (fun _ h => h.elim) (fun r u t H1 locs ht hvm hw hB hz8 hk8 hS => ?_)
      obtain rfl : s.heap = H1 := hB.symm.trans ht
      subst hw
      exact W.lret (v := (f_Ar_lowest (f_Ar_quotient true ((a2).toInt64) ((a3).toInt64)) (32 : Int32))) hx hb hr (fun t ht hW => ⟨⟨(f_Ar_lowest (f_Ar_quotient true ((a2).toInt64) ((a3).toInt64)) (32 : Int32)), (), rfl, (by unfold f_Ar_narrow; rw [if_pos c1, if_pos c2]; try rfl), ht⟩, hS.F ht⟩) hS.2.2 dAr_narrow_95
  by_cases c3 : a0 = (4 : Int32)
  · skip
    refine lv_tableIn (tgt := 175) (off := 174) hx hb dAr_narrow_1 (by rw [c3]; decide) (by rw [c3]; decide) (by rw [c3]; rfl) (by decide) ?_
    refine lv_iload_n hx hb dAr_narrow_175 rfl (lv_at hl 0 rfl) ?_
    refine lv_iload_n hx hb dAr_narrow_176 rfl (lv_at hl 1 rfl) ?_
    refine lv_iload_n hx hb dAr_narrow_177 rfl (lv_at hl 2 rfl) ?_
    refine lv_i2l hx hb dAr_narrow_178 rfl ?_
    refine lv_iload_n hx hb dAr_narrow_179 rfl (lv_at hl 3 rfl) ?_
    refine lv_i2l hx hb dAr_narrow_180 rfl ?_
    refine va_calll (va_runS (As := [.int a0, .int a1, .long ((a2).toInt64), .long ((a3).toInt64)]) (rest := []) ⟨hx, hb, hml, hown, hT⟩ (c_Ar_wide l s.heap a0 a1 ((a2).toInt64) ((a3).toInt64)) (cwS 4 hT (gB_S mw_557 mw_540 mw_19 mw_541) rfl rfl rfl (by decide +kernel) ⟨Nat.le_of_ble_eq_true rfl, Nat.le_of_ble_eq_true rfl⟩) ⟨fun _ _ _ _ q => q, fun U hU hW => ⟨rfl, hU⟩⟩ rfl rfl hl.1 rfl (lv_room (Nat.le_of_ble_eq_true rfl)) dAr_narrow_181 ⟨Nat.zero_le _, Nat.zero_le _⟩) hS (fun _ _ h => h.elim) (fun _ h => h.elim) (fun r u t H1 locs ht hvm hw hB hz8 hk8 hS => ?_)
    obtain rfl : s.heap = H1 := hB.symm.trans ht
    subst hw
    refine lv_bipush (v := (32 : Int32)) hx hb dAr_narrow_184 (by decide) ?_
    refine va_calll (va_runS (As := [.long (f_Ar_wide a0 a1 ((a2).toInt64) ((a3).toInt64)), .int (32 : Int32)]) (rest := []) ⟨hx, hb, hml, hown, hT⟩ (c_Ar_lowest l s.heap (f_Ar_wide a0 a1 ((a2).toInt64) ((a3).toInt64)) (32 : Int32)) (cwS 2 hT (gB_S mw_556 mw_458 mw_19 mw_459) rfl rfl rfl (by decide +kernel) ⟨Nat.le_of_ble_eq_true rfl, Nat.le_of_ble_eq_true rfl⟩) ⟨fun _ _ _ _ q => q, fun U hU hW => ⟨rfl, hU⟩⟩ rfl rfl hl.1 rfl (lv_room (Nat.le_of_ble_eq_true rfl)) dAr_narrow_186 ⟨Nat.zero_le _, Nat.zero_le _⟩) hS (fun _ _ h => h.elim) (fun _ h => h.elim) (fun r u t H1 locs ht hvm hw hB hz8 hk8 hS => ?_)
    obtain rfl : s.heap = H1 := hB.symm.trans ht
    subst hw
    exact W.lret (v := (f_Ar_lowest (f_Ar_wide a0 a1 ((a2).toInt64) ((a3).toInt64)) (32 : Int32))) hx hb hr (fun t ht hW => ⟨⟨(f_Ar_lowest (f_Ar_wide a0 a1 ((a2).toInt64) ((a3).toInt64)) (32 : Int32)), (), rfl, (by unfold f_Ar_narrow; rw [if_neg c1, if_pos c3]; try rfl), ht⟩, hS.F ht⟩) hS.2.2 dAr_narrow_189
  by_cases c4 : a0 = (5 : Int32)
  · skip
    refine lv_tableIn (tgt := 175) (off := 174) hx hb dAr_narrow_1 (by rw [c4]; decide) (by rw [c4]; decide) (by rw [c4]; rfl) (by decide) ?_
    refine lv_iload_n hx hb dAr_narrow_175 rfl (lv_at hl 0 rfl) ?_
    refine lv_iload_n hx hb dAr_narrow_176 rfl (lv_at hl 1 rfl) ?_
    refine lv_iload_n hx hb dAr_narrow_177 rfl (lv_at hl 2 rfl) ?_
    refine lv_i2l hx hb dAr_narrow_178 rfl ?_
    refine lv_iload_n hx hb dAr_narrow_179 rfl (lv_at hl 3 rfl) ?_
    refine lv_i2l hx hb dAr_narrow_180 rfl ?_
    refine va_calll (va_runS (As := [.int a0, .int a1, .long ((a2).toInt64), .long ((a3).toInt64)]) (rest := []) ⟨hx, hb, hml, hown, hT⟩ (c_Ar_wide l s.heap a0 a1 ((a2).toInt64) ((a3).toInt64)) (cwS 4 hT (gB_S mw_557 mw_540 mw_19 mw_541) rfl rfl rfl (by decide +kernel) ⟨Nat.le_of_ble_eq_true rfl, Nat.le_of_ble_eq_true rfl⟩) ⟨fun _ _ _ _ q => q, fun U hU hW => ⟨rfl, hU⟩⟩ rfl rfl hl.1 rfl (lv_room (Nat.le_of_ble_eq_true rfl)) dAr_narrow_181 ⟨Nat.zero_le _, Nat.zero_le _⟩) hS (fun _ _ h => h.elim) (fun _ h => h.elim) (fun r u t H1 locs ht hvm hw hB hz8 hk8 hS => ?_)
    obtain rfl : s.heap = H1 := hB.symm.trans ht
    subst hw
    refine lv_bipush (v := (32 : Int32)) hx hb dAr_narrow_184 (by decide) ?_
    refine va_calll (va_runS (As := [.long (f_Ar_wide a0 a1 ((a2).toInt64) ((a3).toInt64)), .int (32 : Int32)]) (rest := []) ⟨hx, hb, hml, hown, hT⟩ (c_Ar_lowest l s.heap (f_Ar_wide a0 a1 ((a2).toInt64) ((a3).toInt64)) (32 : Int32)) (cwS 2 hT (gB_S mw_556 mw_458 mw_19 mw_459) rfl rfl rfl (by decide +kernel) ⟨Nat.le_of_ble_eq_true rfl, Nat.le_of_ble_eq_true rfl⟩) ⟨fun _ _ _ _ q => q, fun U hU hW => ⟨rfl, hU⟩⟩ rfl rfl hl.1 rfl (lv_room (Nat.le_of_ble_eq_true rfl)) dAr_narrow_186 ⟨Nat.zero_le _, Nat.zero_le _⟩) hS (fun _ _ h => h.elim) (fun _ h => h.elim) (fun r u t H1 locs ht hvm hw hB hz8 hk8 hS => ?_)
    obtain rfl : s.heap = H1 := hB.symm.trans ht
    subst hw
    exact W.lret (v := (f_Ar_lowest (f_Ar_wide a0 a1 ((a2).toInt64) ((a3).toInt64)) (32 : Int32))) hx hb hr (fun t ht hW => ⟨⟨(f_Ar_lowest (f_Ar_wide a0 a1 ((a2).toInt64) ((a3).toInt64)) (32 : Int32)), (), rfl, (by unfold f_Ar_narrow; rw [if_neg c1, if_neg c3, if_pos c4]; try rfl), ht⟩, hS.F ht⟩) hS.2.2 dAr_narrow_189
  by_cases c5 : a0 = (6 : Int32)
  · skip
    refine lv_tableIn (tgt := 96) (off := 95) hx hb dAr_narrow_1 (by rw [c5]; decide) (by rw [c5]; decide) (by rw [c5]; rfl) (by decide) ?_
    refine lv_iload_n hx hb dAr_narrow_96 rfl (lv_at hl 2 rfl) ?_
    refine lv_iload_n hx hb dAr_narrow_97 rfl (lv_at hl 3 rfl) ?_
    refine lv_bipush (v := (31 : Int32)) hx hb dAr_narrow_98 (by decide) ?_
    refine lv_iand hx hb dAr_narrow_100 ?_
    refine lv_ishl hx hb dAr_narrow_101 ?_
    refine lv_i2l hx hb dAr_narrow_102 rfl ?_
    refine lv_bipush (v := (32 : Int32)) hx hb dAr_narrow_103 (by decide) ?_
    refine va_calll (va_runS (As := [.long ((a2 <<< ((a3 &&& (31 : Int32)) &&& 31)).toInt64), .int (32 : Int32)]) (rest := []) ⟨hx, hb, hml, hown, hT⟩ (c_Ar_lowest l s.heap ((a2 <<< ((a3 &&& (31 : Int32)) &&& 31)).toInt64) (32 : Int32)) (cwS 2 hT (gB_S mw_556 mw_458 mw_19 mw_459) rfl rfl rfl (by decide +kernel) ⟨Nat.le_of_ble_eq_true rfl, Nat.le_of_ble_eq_true rfl⟩) ⟨fun _ _ _ _ q => q, fun U hU hW => ⟨rfl, hU⟩⟩ rfl rfl hl.1 rfl (lv_room (Nat.le_of_ble_eq_true rfl)) dAr_narrow_105 ⟨Nat.zero_le _, Nat.zero_le _⟩) hS (fun _ _ h => h.elim) (fun _ h => h.elim) (fun r u t H1 locs ht hvm hw hB hz8 hk8 hS => ?_)
    obtain rfl : s.heap = H1 := hB.symm.trans ht
    subst hw
    exact W.lret (v := (f_Ar_lowest ((a2 <<< ((a3 &&& (31 : Int32)) &&& 31)).toInt64) (32 : Int32))) hx hb hr (fun t ht hW => ⟨⟨(f_Ar_lowest ((a2 <<< ((a3 &&& (31 : Int32)) &&& 31)).toInt64) (32 : Int32)), (), rfl, (by unfold f_Ar_narrow; rw [if_neg c1, if_neg c3, if_neg c4, if_pos c5]; try rfl), ht⟩, hS.F ht⟩) hS.2.2 dAr_narrow_108
  by_cases c6 : a0 = (7 : Int32)
  · skip
    refine lv_tableIn (tgt := 109) (off := 108) hx hb dAr_narrow_1 (by rw [c6]; decide) (by rw [c6]; decide) (by rw [c6]; rfl) (by decide) ?_
    refine lv_iload_n hx hb dAr_narrow_109 rfl (lv_at hl 2 rfl) ?_
    refine lv_iload_n hx hb dAr_narrow_110 rfl (lv_at hl 3 rfl) ?_
    refine lv_bipush (v := (31 : Int32)) hx hb dAr_narrow_111 (by decide) ?_
    refine lv_iand hx hb dAr_narrow_113 ?_
    refine lv_iushr (v := (j_iushr a2 (a3 &&& (31 : Int32)))) hx hb dAr_narrow_114 rfl ?_
    refine lv_i2l hx hb dAr_narrow_115 rfl ?_
    refine lv_bipush (v := (32 : Int32)) hx hb dAr_narrow_116 (by decide) ?_
    refine va_calll (va_runS (As := [.long ((j_iushr a2 (a3 &&& (31 : Int32))).toInt64), .int (32 : Int32)]) (rest := []) ⟨hx, hb, hml, hown, hT⟩ (c_Ar_lowest l s.heap ((j_iushr a2 (a3 &&& (31 : Int32))).toInt64) (32 : Int32)) (cwS 2 hT (gB_S mw_556 mw_458 mw_19 mw_459) rfl rfl rfl (by decide +kernel) ⟨Nat.le_of_ble_eq_true rfl, Nat.le_of_ble_eq_true rfl⟩) ⟨fun _ _ _ _ q => q, fun U hU hW => ⟨rfl, hU⟩⟩ rfl rfl hl.1 rfl (lv_room (Nat.le_of_ble_eq_true rfl)) dAr_narrow_118 ⟨Nat.zero_le _, Nat.zero_le _⟩) hS (fun _ _ h => h.elim) (fun _ h => h.elim) (fun r u t H1 locs ht hvm hw hB hz8 hk8 hS => ?_)
    obtain rfl : s.heap = H1 := hB.symm.trans ht
    subst hw
    exact W.lret (v := (f_Ar_lowest ((j_iushr a2 (a3 &&& (31 : Int32))).toInt64) (32 : Int32))) hx hb hr (fun t ht hW => ⟨⟨(f_Ar_lowest ((j_iushr a2 (a3 &&& (31 : Int32))).toInt64) (32 : Int32)), (), rfl, (by unfold f_Ar_narrow; rw [if_neg c1, if_neg c3, if_neg c4, if_neg c5, if_pos c6]; try rfl), ht⟩, hS.F ht⟩) hS.2.2 dAr_narrow_121
  by_cases c7 : a0 = (8 : Int32)
  · skip
    refine lv_tableIn (tgt := 175) (off := 174) hx hb dAr_narrow_1 (by rw [c7]; decide) (by rw [c7]; decide) (by rw [c7]; rfl) (by decide) ?_
    refine lv_iload_n hx hb dAr_narrow_175 rfl (lv_at hl 0 rfl) ?_
    refine lv_iload_n hx hb dAr_narrow_176 rfl (lv_at hl 1 rfl) ?_
    refine lv_iload_n hx hb dAr_narrow_177 rfl (lv_at hl 2 rfl) ?_
    refine lv_i2l hx hb dAr_narrow_178 rfl ?_
    refine lv_iload_n hx hb dAr_narrow_179 rfl (lv_at hl 3 rfl) ?_
    refine lv_i2l hx hb dAr_narrow_180 rfl ?_
    refine va_calll (va_runS (As := [.int a0, .int a1, .long ((a2).toInt64), .long ((a3).toInt64)]) (rest := []) ⟨hx, hb, hml, hown, hT⟩ (c_Ar_wide l s.heap a0 a1 ((a2).toInt64) ((a3).toInt64)) (cwS 4 hT (gB_S mw_557 mw_540 mw_19 mw_541) rfl rfl rfl (by decide +kernel) ⟨Nat.le_of_ble_eq_true rfl, Nat.le_of_ble_eq_true rfl⟩) ⟨fun _ _ _ _ q => q, fun U hU hW => ⟨rfl, hU⟩⟩ rfl rfl hl.1 rfl (lv_room (Nat.le_of_ble_eq_true rfl)) dAr_narrow_181 ⟨Nat.zero_le _, Nat.zero_le _⟩) hS (fun _ _ h => h.elim) (fun _ h => h.elim) (fun r u t H1 locs ht hvm hw hB hz8 hk8 hS => ?_)
    obtain rfl : s.heap = H1 := hB.symm.trans ht
    subst hw
    refine lv_bipush (v := (32 : Int32)) hx hb dAr_narrow_184 (by decide) ?_
    refine va_calll (va_runS (As := [.long (f_Ar_wide a0 a1 ((a2).toInt64) ((a3).toInt64)), .int (32 : Int32)]) (rest := []) ⟨hx, hb, hml, hown, hT⟩ (c_Ar_lowest l s.heap (f_Ar_wide a0 a1 ((a2).toInt64) ((a3).toInt64)) (32 : Int32)) (cwS 2 hT (gB_S mw_556 mw_458 mw_19 mw_459) rfl rfl rfl (by decide +kernel) ⟨Nat.le_of_ble_eq_true rfl, Nat.le_of_ble_eq_true rfl⟩) ⟨fun _ _ _ _ q => q, fun U hU hW => ⟨rfl, hU⟩⟩ rfl rfl hl.1 rfl (lv_room (Nat.le_of_ble_eq_true rfl)) dAr_narrow_186 ⟨Nat.zero_le _, Nat.zero_le _⟩) hS (fun _ _ h => h.elim) (fun _ h => h.elim) (fun r u t H1 locs ht hvm hw hB hz8 hk8 hS => ?_)
    obtain rfl : s.heap = H1 := hB.symm.trans ht
    subst hw
    exact W.lret (v := (f_Ar_lowest (f_Ar_wide a0 a1 ((a2).toInt64) ((a3).toInt64)) (32 : Int32))) hx hb hr (fun t ht hW => ⟨⟨(f_Ar_lowest (f_Ar_wide a0 a1 ((a2).toInt64) ((a3).toInt64)) (32 : Int32)), (), rfl, (by unfold f_Ar_narrow; rw [if_neg c1, if_neg c3, if_neg c4, if_neg c5, if_neg c6, if_pos c7]; try rfl), ht⟩, hS.F ht⟩) hS.2.2 dAr_narrow_189
  by_cases c8 : a0 = (9 : Int32)
  · skip
    refine lv_tableIn (tgt := 122) (off := 121) hx hb dAr_narrow_1 (by rw [c8]; decide) (by rw [c8]; decide) (by rw [c8]; rfl) (by decide) ?_
    refine lv_iload_n hx hb dAr_narrow_122 rfl (lv_at hl 1 rfl) ?_
    refine lv_iconst (v := (1 : Int32)) hx hb dAr_narrow_123 (by decide) ?_
    refine lv_icmp_ne (tgt := 138) hx hb dAr_narrow_124 (by decide) (fun c9 => ?_) (fun c9 => ?_)
    · skip
      refine lv_iconst (v := (0 : Int32)) hx hb dAr_narrow_138 (by decide) ?_
      refine lv_iload_n hx hb dAr_narrow_139 rfl (lv_at hl 2 rfl) ?_
      refine lv_i2l hx hb dAr_narrow_140 rfl ?_
      refine lv_bipush (v := (32 : Int32)) hx hb dAr_narrow_141 (by decide) ?_
      refine va_calll (va_runS (As := [.long ((a2).toInt64), .int (32 : Int32)]) (rest := [.int (0 : Int32)]) ⟨hx, hb, hml, hown, hT⟩ (c_Ar_lowest l s.heap ((a2).toInt64) (32 : Int32)) (cwS 2 hT (gB_S mw_556 mw_458 mw_19 mw_459) rfl rfl rfl (by decide +kernel) ⟨Nat.le_of_ble_eq_true rfl, Nat.le_of_ble_eq_true rfl⟩) ⟨fun _ _ _ _ q => q, fun U hU hW => ⟨rfl, hU⟩⟩ rfl rfl hl.1 rfl (lv_room (Nat.le_of_ble_eq_true rfl)) dAr_narrow_143 ⟨Nat.zero_le _, Nat.zero_le _⟩) hS (fun _ _ h => h.elim) (fun _ h => h.elim) (fun r u t H1 locs ht hvm hw hB hz8 hk8 hS => ?_)
      obtain rfl : s.heap = H1 := hB.symm.trans ht
      subst hw
      refine lv_iload_n hx hb dAr_narrow_146 rfl (lv_at hl 3 rfl) ?_
      refine lv_i2l hx hb dAr_narrow_147 rfl ?_
      refine lv_bipush (v := (32 : Int32)) hx hb dAr_narrow_148 (by decide) ?_
      refine va_calll (va_runS (As := [.long ((a3).toInt64), .int (32 : Int32)]) (rest := [.long (f_Ar_lowest ((a2).toInt64) (32 : Int32)), .int (0 : Int32)]) ⟨hx, hb, hml, hown, hT⟩ (c_Ar_lowest l s.heap ((a3).toInt64) (32 : Int32)) (cwS 2 hT (gB_S mw_556 mw_458 mw_19 mw_459) rfl rfl rfl (by decide +kernel) ⟨Nat.le_of_ble_eq_true rfl, Nat.le_of_ble_eq_true rfl⟩) ⟨fun _ _ _ _ q => q, fun U hU hW => ⟨rfl, hU⟩⟩ rfl rfl hl.1 rfl (lv_room (Nat.le_of_ble_eq_true rfl)) dAr_narrow_150 ⟨Nat.zero_le _, Nat.zero_le _⟩) hS (fun _ _ h => h.elim) (fun _ h => h.elim) (fun r u t H1 locs ht hvm hw hB hz8 hk8 hS => ?_)
      obtain rfl : s.heap = H1 := hB.symm.trans ht
      subst hw
      refine va_calll (va_runS (As := [.int (0 : Int32), .long (f_Ar_lowest ((a2).toInt64) (32 : Int32)), .long (f_Ar_lowest ((a3).toInt64) (32 : Int32))]) (rest := []) ⟨hx, hb, hml, hown, hT⟩ (c_Ar_rest l s.heap false (f_Ar_lowest ((a2).toInt64) (32 : Int32)) (f_Ar_lowest ((a3).toInt64) (32 : Int32))) (cwS 3 hT (gB_S mw_549 mw_550 mw_19 mw_551) rfl rfl rfl (by decide +kernel) ⟨Nat.le_of_ble_eq_true rfl, Nat.le_of_ble_eq_true rfl⟩) ⟨fun _ _ _ _ q => q, fun U hU hW => ⟨rfl, hU⟩⟩ rfl rfl hl.1 rfl (lv_room (Nat.le_of_ble_eq_true rfl)) dAr_narrow_153 ⟨Nat.zero_le _, Nat.zero_le _⟩) hS (fun _ _ h => h.elim) (fun _ h => h.elim) (fun r u t H1 locs ht hvm hw hB hz8 hk8 hS => ?_)
      obtain rfl : s.heap = H1 := hB.symm.trans ht
      subst hw
      refine lv_bipush (v := (32 : Int32)) hx hb dAr_narrow_156 (by decide) ?_
      refine va_calll (va_runS (As := [.long (f_Ar_rest false (f_Ar_lowest ((a2).toInt64) (32 : Int32)) (f_Ar_lowest ((a3).toInt64) (32 : Int32))), .int (32 : Int32)]) (rest := []) ⟨hx, hb, hml, hown, hT⟩ (c_Ar_lowest l s.heap (f_Ar_rest false (f_Ar_lowest ((a2).toInt64) (32 : Int32)) (f_Ar_lowest ((a3).toInt64) (32 : Int32))) (32 : Int32)) (cwS 2 hT (gB_S mw_556 mw_458 mw_19 mw_459) rfl rfl rfl (by decide +kernel) ⟨Nat.le_of_ble_eq_true rfl, Nat.le_of_ble_eq_true rfl⟩) ⟨fun _ _ _ _ q => q, fun U hU hW => ⟨rfl, hU⟩⟩ rfl rfl hl.1 rfl (lv_room (Nat.le_of_ble_eq_true rfl)) dAr_narrow_158 ⟨Nat.zero_le _, Nat.zero_le _⟩) hS (fun _ _ h => h.elim) (fun _ h => h.elim) (fun r u t H1 locs ht hvm hw hB hz8 hk8 hS => ?_)
      obtain rfl : s.heap = H1 := hB.symm.trans ht
      subst hw
      exact W.lret (v := (f_Ar_lowest (f_Ar_rest false (f_Ar_lowest ((a2).toInt64) (32 : Int32)) (f_Ar_lowest ((a3).toInt64) (32 : Int32))) (32 : Int32))) hx hb hr (fun t ht hW => ⟨⟨(f_Ar_lowest (f_Ar_rest false (f_Ar_lowest ((a2).toInt64) (32 : Int32)) (f_Ar_lowest ((a3).toInt64) (32 : Int32))) (32 : Int32)), (), rfl, (by unfold f_Ar_narrow; rw [if_neg c1, if_neg c3, if_neg c4, if_neg c5, if_neg c6, if_neg c7, if_pos c8, if_neg c9]; try rfl), ht⟩, hS.F ht⟩) hS.2.2 dAr_narrow_161
    · skip
      refine lv_iconst (v := (1 : Int32)) hx hb dAr_narrow_127 (by decide) ?_
      refine lv_iload_n hx hb dAr_narrow_128 rfl (lv_at hl 2 rfl) ?_
      refine lv_i2l hx hb dAr_narrow_129 rfl ?_
      refine lv_iload_n hx hb dAr_narrow_130 rfl (lv_at hl 3 rfl) ?_
      refine lv_i2l hx hb dAr_narrow_131 rfl ?_
      refine va_calll (va_runS (As := [.int (1 : Int32), .long ((a2).toInt64), .long ((a3).toInt64)]) (rest := []) ⟨hx, hb, hml, hown, hT⟩ (c_Ar_rest l s.heap true ((a2).toInt64) ((a3).toInt64)) (cwS 3 hT (gB_S mw_549 mw_550 mw_19 mw_551) rfl rfl rfl (by decide +kernel) ⟨Nat.le_of_ble_eq_true rfl, Nat.le_of_ble_eq_true rfl⟩) ⟨fun _ _ _ _ q => q, fun U hU hW => ⟨rfl, hU⟩⟩ rfl rfl hl.1 rfl (lv_room (Nat.le_of_ble_eq_true rfl)) dAr_narrow_132 ⟨Nat.zero_le _, Nat.zero_le _⟩) hS (fun _ _ h => h.elim) (fun _ h => h.elim) (fun r u t H1 locs ht hvm hw hB hz8 hk8 hS => ?_)
      obtain rfl : s.heap = H1 := hB.symm.trans ht
      subst hw
      refine lv_goto (tgt := 156) hx hb dAr_narrow_135 (by decide) ?_
      refine lv_bipush (v := (32 : Int32)) hx hb dAr_narrow_156 (by decide) ?_
      refine va_calll (va_runS (As := [.long (f_Ar_rest true ((a2).toInt64) ((a3).toInt64)), .int (32 : Int32)]) (rest := []) ⟨hx, hb, hml, hown, hT⟩ (c_Ar_lowest l s.heap (f_Ar_rest true ((a2).toInt64) ((a3).toInt64)) (32 : Int32)) (cwS 2 hT (gB_S mw_556 mw_458 mw_19 mw_459) rfl rfl rfl (by decide +kernel) ⟨Nat.le_of_ble_eq_true rfl, Nat.le_of_ble_eq_true rfl⟩) ⟨fun _ _ _ _ q => q, fun U hU hW => ⟨rfl, hU⟩⟩ rfl rfl hl.1 rfl (lv_room (Nat.le_of_ble_eq_true rfl)) dAr_narrow_158 ⟨Nat.zero_le _, Nat.zero_le _⟩) hS (fun _ _ h => h.elim) (fun _ h => h.elim) (fun r u t H1 locs ht hvm hw hB hz8 hk8 hS => ?_)
      obtain rfl : s.heap = H1 := hB.symm.trans ht
      subst hw
      exact W.lret (v := (f_Ar_lowest (f_Ar_rest true ((a2).toInt64) ((a3).toInt64)) (32 : Int32))) hx hb hr (fun t ht hW => ⟨⟨(f_Ar_lowest (f_Ar_rest true ((a2).toInt64) ((a3).toInt64)) (32 : Int32)), (), rfl, (by unfold f_Ar_narrow; rw [if_neg c1, if_neg c3, if_neg c4, if_neg c5, if_neg c6, if_neg c7, if_pos c8, if_pos c9]; try rfl), ht⟩, hS.F ht⟩) hS.2.2 dAr_narrow_161
  by_cases c10 : a0 = (10 : Int32)
  · skip
    refine lv_tableIn (tgt := 175) (off := 174) hx hb dAr_narrow_1 (by rw [c10]; decide) (by rw [c10]; decide) (by rw [c10]; rfl) (by decide) ?_
    refine lv_iload_n hx hb dAr_narrow_175 rfl (lv_at hl 0 rfl) ?_
    refine lv_iload_n hx hb dAr_narrow_176 rfl (lv_at hl 1 rfl) ?_
    refine lv_iload_n hx hb dAr_narrow_177 rfl (lv_at hl 2 rfl) ?_
    refine lv_i2l hx hb dAr_narrow_178 rfl ?_
    refine lv_iload_n hx hb dAr_narrow_179 rfl (lv_at hl 3 rfl) ?_
    refine lv_i2l hx hb dAr_narrow_180 rfl ?_
    refine va_calll (va_runS (As := [.int a0, .int a1, .long ((a2).toInt64), .long ((a3).toInt64)]) (rest := []) ⟨hx, hb, hml, hown, hT⟩ (c_Ar_wide l s.heap a0 a1 ((a2).toInt64) ((a3).toInt64)) (cwS 4 hT (gB_S mw_557 mw_540 mw_19 mw_541) rfl rfl rfl (by decide +kernel) ⟨Nat.le_of_ble_eq_true rfl, Nat.le_of_ble_eq_true rfl⟩) ⟨fun _ _ _ _ q => q, fun U hU hW => ⟨rfl, hU⟩⟩ rfl rfl hl.1 rfl (lv_room (Nat.le_of_ble_eq_true rfl)) dAr_narrow_181 ⟨Nat.zero_le _, Nat.zero_le _⟩) hS (fun _ _ h => h.elim) (fun _ h => h.elim) (fun r u t H1 locs ht hvm hw hB hz8 hk8 hS => ?_)
    obtain rfl : s.heap = H1 := hB.symm.trans ht
    subst hw
    refine lv_bipush (v := (32 : Int32)) hx hb dAr_narrow_184 (by decide) ?_
    refine va_calll (va_runS (As := [.long (f_Ar_wide a0 a1 ((a2).toInt64) ((a3).toInt64)), .int (32 : Int32)]) (rest := []) ⟨hx, hb, hml, hown, hT⟩ (c_Ar_lowest l s.heap (f_Ar_wide a0 a1 ((a2).toInt64) ((a3).toInt64)) (32 : Int32)) (cwS 2 hT (gB_S mw_556 mw_458 mw_19 mw_459) rfl rfl rfl (by decide +kernel) ⟨Nat.le_of_ble_eq_true rfl, Nat.le_of_ble_eq_true rfl⟩) ⟨fun _ _ _ _ q => q, fun U hU hW => ⟨rfl, hU⟩⟩ rfl rfl hl.1 rfl (lv_room (Nat.le_of_ble_eq_true rfl)) dAr_narrow_186 ⟨Nat.zero_le _, Nat.zero_le _⟩) hS (fun _ _ h => h.elim) (fun _ h => h.elim) (fun r u t H1 locs ht hvm hw hB hz8 hk8 hS => ?_)
    obtain rfl : s.heap = H1 := hB.symm.trans ht
    subst hw
    exact W.lret (v := (f_Ar_lowest (f_Ar_wide a0 a1 ((a2).toInt64) ((a3).toInt64)) (32 : Int32))) hx hb hr (fun t ht hW => ⟨⟨(f_Ar_lowest (f_Ar_wide a0 a1 ((a2).toInt64) ((a3).toInt64)) (32 : Int32)), (), rfl, (by unfold f_Ar_narrow; rw [if_neg c1, if_neg c3, if_neg c4, if_neg c5, if_neg c6, if_neg c7, if_neg c8, if_pos c10]; try rfl), ht⟩, hS.F ht⟩) hS.2.2 dAr_narrow_189
  by_cases c11 : a0 = (11 : Int32)
  · skip
    refine lv_tableIn (tgt := 175) (off := 174) hx hb dAr_narrow_1 (by rw [c11]; decide) (by rw [c11]; decide) (by rw [c11]; rfl) (by decide) ?_
    refine lv_iload_n hx hb dAr_narrow_175 rfl (lv_at hl 0 rfl) ?_
    refine lv_iload_n hx hb dAr_narrow_176 rfl (lv_at hl 1 rfl) ?_
    refine lv_iload_n hx hb dAr_narrow_177 rfl (lv_at hl 2 rfl) ?_
    refine lv_i2l hx hb dAr_narrow_178 rfl ?_
    refine lv_iload_n hx hb dAr_narrow_179 rfl (lv_at hl 3 rfl) ?_
    refine lv_i2l hx hb dAr_narrow_180 rfl ?_
    refine va_calll (va_runS (As := [.int a0, .int a1, .long ((a2).toInt64), .long ((a3).toInt64)]) (rest := []) ⟨hx, hb, hml, hown, hT⟩ (c_Ar_wide l s.heap a0 a1 ((a2).toInt64) ((a3).toInt64)) (cwS 4 hT (gB_S mw_557 mw_540 mw_19 mw_541) rfl rfl rfl (by decide +kernel) ⟨Nat.le_of_ble_eq_true rfl, Nat.le_of_ble_eq_true rfl⟩) ⟨fun _ _ _ _ q => q, fun U hU hW => ⟨rfl, hU⟩⟩ rfl rfl hl.1 rfl (lv_room (Nat.le_of_ble_eq_true rfl)) dAr_narrow_181 ⟨Nat.zero_le _, Nat.zero_le _⟩) hS (fun _ _ h => h.elim) (fun _ h => h.elim) (fun r u t H1 locs ht hvm hw hB hz8 hk8 hS => ?_)
    obtain rfl : s.heap = H1 := hB.symm.trans ht
    subst hw
    refine lv_bipush (v := (32 : Int32)) hx hb dAr_narrow_184 (by decide) ?_
    refine va_calll (va_runS (As := [.long (f_Ar_wide a0 a1 ((a2).toInt64) ((a3).toInt64)), .int (32 : Int32)]) (rest := []) ⟨hx, hb, hml, hown, hT⟩ (c_Ar_lowest l s.heap (f_Ar_wide a0 a1 ((a2).toInt64) ((a3).toInt64)) (32 : Int32)) (cwS 2 hT (gB_S mw_556 mw_458 mw_19 mw_459) rfl rfl rfl (by decide +kernel) ⟨Nat.le_of_ble_eq_true rfl, Nat.le_of_ble_eq_true rfl⟩) ⟨fun _ _ _ _ q => q, fun U hU hW => ⟨rfl, hU⟩⟩ rfl rfl hl.1 rfl (lv_room (Nat.le_of_ble_eq_true rfl)) dAr_narrow_186 ⟨Nat.zero_le _, Nat.zero_le _⟩) hS (fun _ _ h => h.elim) (fun _ h => h.elim) (fun r u t H1 locs ht hvm hw hB hz8 hk8 hS => ?_)
    obtain rfl : s.heap = H1 := hB.symm.trans ht
    subst hw
    exact W.lret (v := (f_Ar_lowest (f_Ar_wide a0 a1 ((a2).toInt64) ((a3).toInt64)) (32 : Int32))) hx hb hr (fun t ht hW => ⟨⟨(f_Ar_lowest (f_Ar_wide a0 a1 ((a2).toInt64) ((a3).toInt64)) (32 : Int32)), (), rfl, (by unfold f_Ar_narrow; rw [if_neg c1, if_neg c3, if_neg c4, if_neg c5, if_neg c6, if_neg c7, if_neg c8, if_neg c10, if_pos c11]; try rfl), ht⟩, hS.F ht⟩) hS.2.2 dAr_narrow_189
  by_cases c12 : a0 = (12 : Int32)
  · skip
    refine lv_tableIn (tgt := 162) (off := 161) hx hb dAr_narrow_1 (by rw [c12]; decide) (by rw [c12]; decide) (by rw [c12]; rfl) (by decide) ?_
    refine lv_iload_n hx hb dAr_narrow_162 rfl (lv_at hl 2 rfl) ?_
    refine lv_iload_n hx hb dAr_narrow_163 rfl (lv_at hl 3 rfl) ?_
    refine lv_bipush (v := (31 : Int32)) hx hb dAr_narrow_164 (by decide) ?_
    refine lv_iand hx hb dAr_narrow_166 ?_
    refine lv_ishr hx hb dAr_narrow_167 ?_
    refine lv_i2l hx hb dAr_narrow_168 rfl ?_
    refine lv_bipush (v := (32 : Int32)) hx hb dAr_narrow_169 (by decide) ?_
    refine va_calll (va_runS (As := [.long ((a2 >>> ((a3 &&& (31 : Int32)) &&& 31)).toInt64), .int (32 : Int32)]) (rest := []) ⟨hx, hb, hml, hown, hT⟩ (c_Ar_lowest l s.heap ((a2 >>> ((a3 &&& (31 : Int32)) &&& 31)).toInt64) (32 : Int32)) (cwS 2 hT (gB_S mw_556 mw_458 mw_19 mw_459) rfl rfl rfl (by decide +kernel) ⟨Nat.le_of_ble_eq_true rfl, Nat.le_of_ble_eq_true rfl⟩) ⟨fun _ _ _ _ q => q, fun U hU hW => ⟨rfl, hU⟩⟩ rfl rfl hl.1 rfl (lv_room (Nat.le_of_ble_eq_true rfl)) dAr_narrow_171 ⟨Nat.zero_le _, Nat.zero_le _⟩) hS (fun _ _ h => h.elim) (fun _ h => h.elim) (fun r u t H1 locs ht hvm hw hB hz8 hk8 hS => ?_)
    obtain rfl : s.heap = H1 := hB.symm.trans ht
    subst hw
    exact W.lret (v := (f_Ar_lowest ((a2 >>> ((a3 &&& (31 : Int32)) &&& 31)).toInt64) (32 : Int32))) hx hb hr (fun t ht hW => ⟨⟨(f_Ar_lowest ((a2 >>> ((a3 &&& (31 : Int32)) &&& 31)).toInt64) (32 : Int32)), (), rfl, (by unfold f_Ar_narrow; rw [if_neg c1, if_neg c3, if_neg c4, if_neg c5, if_neg c6, if_neg c7, if_neg c8, if_neg c10, if_neg c11, if_pos c12]; try rfl), ht⟩, hS.F ht⟩) hS.2.2 dAr_narrow_174
  refine lv_tableOut (tgt := 175) hx hb dAr_narrow_1 (by have h0 := lv_neT c1 (a := 3) (by decide); have h1 := lv_neT c3 (a := 4) (by decide); have h2 := lv_neT c4 (a := 5) (by decide); have h3 := lv_neT c5 (a := 6) (by decide); have h4 := lv_neT c6 (a := 7) (by decide); have h5 := lv_neT c7 (a := 8) (by decide); have h6 := lv_neT c8 (a := 9) (by decide); have h7 := lv_neT c10 (a := 10) (by decide); have h8 := lv_neT c11 (a := 11) (by decide); have h9 := lv_neT c12 (a := 12) (by decide); omega) (by decide) ?_
  refine lv_iload_n hx hb dAr_narrow_175 rfl (lv_at hl 0 rfl) ?_
  refine lv_iload_n hx hb dAr_narrow_176 rfl (lv_at hl 1 rfl) ?_
  refine lv_iload_n hx hb dAr_narrow_177 rfl (lv_at hl 2 rfl) ?_
  refine lv_i2l hx hb dAr_narrow_178 rfl ?_
  refine lv_iload_n hx hb dAr_narrow_179 rfl (lv_at hl 3 rfl) ?_
  refine lv_i2l hx hb dAr_narrow_180 rfl ?_
  refine va_calll (va_runS (As := [.int a0, .int a1, .long ((a2).toInt64), .long ((a3).toInt64)]) (rest := []) ⟨hx, hb, hml, hown, hT⟩ (c_Ar_wide l s.heap a0 a1 ((a2).toInt64) ((a3).toInt64)) (cwS 4 hT (gB_S mw_557 mw_540 mw_19 mw_541) rfl rfl rfl (by decide +kernel) ⟨Nat.le_of_ble_eq_true rfl, Nat.le_of_ble_eq_true rfl⟩) ⟨fun _ _ _ _ q => q, fun U hU hW => ⟨rfl, hU⟩⟩ rfl rfl hl.1 rfl (lv_room (Nat.le_of_ble_eq_true rfl)) dAr_narrow_181 ⟨Nat.zero_le _, Nat.zero_le _⟩) hS (fun _ _ h => h.elim) (fun _ h => h.elim) (fun r u t H1 locs ht hvm hw hB hz8 hk8 hS => ?_)
  obtain rfl : s.heap = H1 := hB.symm.trans ht
  subst hw
  refine lv_bipush (v := (32 : Int32)) hx hb dAr_narrow_184 (by decide) ?_
  refine va_calll (va_runS (As := [.long (f_Ar_wide a0 a1 ((a2).toInt64) ((a3).toInt64)), .int (32 : Int32)]) (rest := []) ⟨hx, hb, hml, hown, hT⟩ (c_Ar_lowest l s.heap (f_Ar_wide a0 a1 ((a2).toInt64) ((a3).toInt64)) (32 : Int32)) (cwS 2 hT (gB_S mw_556 mw_458 mw_19 mw_459) rfl rfl rfl (by decide +kernel) ⟨Nat.le_of_ble_eq_true rfl, Nat.le_of_ble_eq_true rfl⟩) ⟨fun _ _ _ _ q => q, fun U hU hW => ⟨rfl, hU⟩⟩ rfl rfl hl.1 rfl (lv_room (Nat.le_of_ble_eq_true rfl)) dAr_narrow_186 ⟨Nat.zero_le _, Nat.zero_le _⟩) hS (fun _ _ h => h.elim) (fun _ h => h.elim) (fun r u t H1 locs ht hvm hw hB hz8 hk8 hS => ?_)
  obtain rfl : s.heap = H1 := hB.symm.trans ht
  subst hw
  exact W.lret (v := (f_Ar_lowest (f_Ar_wide a0 a1 ((a2).toInt64) ((a3).toInt64)) (32 : Int32))) hx hb hr (fun t ht hW => ⟨⟨(f_Ar_lowest (f_Ar_wide a0 a1 ((a2).toInt64) ((a3).toInt64)) (32 : Int32)), (), rfl, (by unfold f_Ar_narrow; rw [if_neg c1, if_neg c3, if_neg c4, if_neg c5, if_neg c6, if_neg c7, if_neg c8, if_neg c10, if_neg c11, if_neg c12]; try rfl), ht⟩, hS.F ht⟩) hS.2.2 dAr_narrow_189

def f_Ar_isTaken (a0 : Int32) (a1 : Int64) (a2 : Int64) : Bool :=
  if a0 = (1 : Int32) then
    if a1 = a2 then
      true
    else
      false
  else
    if a0 = (2 : Int32) then
      if (a1 ^^^ (-9223372036854775808 : Int64)) ≤ (a2 ^^^ (-9223372036854775808 : Int64)) then
        false
      else
        true
    else
      if a0 = (3 : Int32) then
        if (a1 ^^^ (-9223372036854775808 : Int64)) < (a2 ^^^ (-9223372036854775808 : Int64)) then
          false
        else
          true
      else
        if a0 = (4 : Int32) then
          if (a1 &&& a2) = (0 : Int64) then
            false
          else
            true
        else
          if a0 = (5 : Int32) then
            if a1 = a2 then
              false
            else
              true
          else
            if a0 = (6 : Int32) then
              if a1 ≤ a2 then
                false
              else
                true
            else
              if a0 = (7 : Int32) then
                if a1 < a2 then
                  false
                else
                  true
              else
                if a0 = (8 : Int32) then
                  false
                else
                  if a0 = (9 : Int32) then
                    false
                  else
                    if a0 = (10 : Int32) then
                      if (a2 ^^^ (-9223372036854775808 : Int64)) ≤ (a1 ^^^ (-9223372036854775808 : Int64)) then
                        false
                      else
                        true
                    else
                      if a0 = (11 : Int32) then
                        if (a2 ^^^ (-9223372036854775808 : Int64)) < (a1 ^^^ (-9223372036854775808 : Int64)) then
                          false
                        else
                          true
                      else
                        if a0 = (12 : Int32) then
                          if a2 ≤ a1 then
                            false
                          else
                            true
                        else
                          if a0 = (13 : Int32) then
                            if a2 < a1 then
                              false
                            else
                              true
                          else
                            false
set_option maxHeartbeats 4000000 in
set_option maxRecDepth 100000 in
theorem c_Ar_isTaken (l : Launch) (Hp : Heap) (a0 : Int32) (a1 : Int64) (a2 : Int64) : Met l yAr_isTaken wsAr_isTaken ({ frames := 0, cells := 0, slots := 0, locals := 0 }) (va_Pc [.int a0, .long a1, .long a2] (fun U => U.heap = Hp)) (va_Qi (fun (r : Int32) (_ : Unit) => r = (bI (f_Ar_isTaken a0 a1 a2))) (fun _ t => t.heap = Hp) (fun _ => False)) 0 0 (fun _ => False) := by
  refine Met.ofW (cc := cAr_isTaken) (maxL := 9) (ret := (some .boolean)) (by decide) rfl ?_
  intro p e s m args below meth c s₁ B hml hv
  obtain ⟨rfl, rfl⟩ := hv
  have hx := B.exec
  have hb := B.bytes
  have hr := B.returns
  have hT : ∀ w ∈ tB, w.before _ s = true := fun w h => atoms_spec (ws := wsAr_isTaken) B.pre w (List.mem_cons_of_mem _ h)
  have hown : s.vm.findClass "CompiledProgram$Arithmetic" = some m.cls := findClass_of_methodNamed B.named
  have hlocks := B.notSynchronized
  have hS : va_S (fun _ => False) s.heap s.heap [] := va_S.rf
  have hl := lv_entry ([.int a0, .long a1, .long a2]) (n := 9) (Nat.le_of_ble_eq_true rfl)
  rw [lg_entry_eq]
  generalize (lg_sl ([.int a0, .long a1, .long a2]) ++ List.replicate (9 - (lg_sl ([.int a0, .long a1, .long a2])).length) Slot.unset).toArray = ls at hl ⊢
  have hl : lv_has ls 9 [(0, .int a0), (1, .long a1), (3, .long a2)] := hl
  refine lv_lload_n hx hb dAr_isTaken_0 rfl (lv_at hl 1 rfl) ?_
  refine lv_ldc2 (v := (-9223372036854775808 : Int64)) hx hb hown (hT _ mw_521) dAr_isTaken_1 ?_
  refine lv_lxor hx hb dAr_isTaken_4 ?_
  refine lv_lstore (lv' := [(5, .long (a1 ^^^ (-9223372036854775808 : Int64))), (0, .int a0), (1, .long a1), (3, .long a2)]) hx hb dAr_isTaken_5 hl (by decide) rfl (fun ls hl => ?_)
  refine lv_lload_n hx hb dAr_isTaken_7 rfl (lv_at hl 3 rfl) ?_
  refine lv_ldc2 (v := (-9223372036854775808 : Int64)) hx hb hown (hT _ mw_521) dAr_isTaken_8 ?_
  refine lv_lxor hx hb dAr_isTaken_11 ?_
  refine lv_lstore (lv' := [(7, .long (a2 ^^^ (-9223372036854775808 : Int64))), (5, .long (a1 ^^^ (-9223372036854775808 : Int64))), (0, .int a0), (1, .long a1), (3, .long a2)]) hx hb dAr_isTaken_12 hl (by decide) rfl (fun ls hl => ?_)
  refine lv_iload_n hx hb dAr_isTaken_14 rfl (lv_at hl 2 rfl) ?_
  by_cases c1 : a0 = (1 : Int32)
  · skip
    refine lv_tableIn (tgt := 80) (off := 65) hx hb dAr_isTaken_15 (by rw [c1]; decide) (by rw [c1]; decide) (by rw [c1]; rfl) (by decide) ?_
    refine lv_lload_n hx hb dAr_isTaken_80 rfl (lv_at hl 3 rfl) ?_
    refine lv_lload_n hx hb dAr_isTaken_81 rfl (lv_at hl 4 rfl) ?_
    refine W.lcmp hx hb dAr_isTaken_82 ?_
    refine lv_if_ne (tgt := 90) hx hb dAr_isTaken_83 (by decide) (fun c2 => ?_) (fun c2 => ?_)
    · have c2 := mt (lg_cmp_eq _ _).mpr c2
      refine lv_iconst (v := (0 : Int32)) hx hb dAr_isTaken_90 (by decide) ?_
      exact W.zret (v := (0 : Int32)) hx hb hr rfl (fun t ht hW => ⟨⟨(0 : Int32), (), rfl, (by unfold f_Ar_isTaken; rw [if_pos c1, if_neg c2]; try rfl), ht⟩, hS.F ht⟩) hS.2.2 dAr_isTaken_91
    · have c2 := (lg_cmp_eq _ _).mp c2
      refine lv_iconst (v := (1 : Int32)) hx hb dAr_isTaken_86 (by decide) ?_
      refine lv_goto (tgt := 91) hx hb dAr_isTaken_87 (by decide) ?_
      exact W.zret (v := (1 : Int32)) hx hb hr rfl (fun t ht hW => ⟨⟨(1 : Int32), (), rfl, (by unfold f_Ar_isTaken; rw [if_pos c1, if_pos c2]; try rfl), ht⟩, hS.F ht⟩) hS.2.2 dAr_isTaken_91
  by_cases c3 : a0 = (2 : Int32)
  · skip
    refine lv_tableIn (tgt := 92) (off := 77) hx hb dAr_isTaken_15 (by rw [c3]; decide) (by rw [c3]; decide) (by rw [c3]; rfl) (by decide) ?_
    refine lv_lload hx hb dAr_isTaken_92 (lv_at hl 1 rfl) ?_
    refine lv_lload hx hb dAr_isTaken_94 (lv_at hl 0 rfl) ?_
    refine W.lcmp hx hb dAr_isTaken_96 ?_
    refine lv_if_le (tgt := 104) hx hb dAr_isTaken_97 (by decide) (fun c4 => ?_) (fun c4 => ?_)
    · have c4 := (lg_cmp_le _ _).mp c4
      refine lv_iconst (v := (0 : Int32)) hx hb dAr_isTaken_104 (by decide) ?_
      exact W.zret (v := (0 : Int32)) hx hb hr rfl (fun t ht hW => ⟨⟨(0 : Int32), (), rfl, (by unfold f_Ar_isTaken; rw [if_neg c1, if_pos c3, if_pos c4]; try rfl), ht⟩, hS.F ht⟩) hS.2.2 dAr_isTaken_105
    · have c4 := mt (lg_cmp_le _ _).mpr c4
      refine lv_iconst (v := (1 : Int32)) hx hb dAr_isTaken_100 (by decide) ?_
      refine lv_goto (tgt := 105) hx hb dAr_isTaken_101 (by decide) ?_
      exact W.zret (v := (1 : Int32)) hx hb hr rfl (fun t ht hW => ⟨⟨(1 : Int32), (), rfl, (by unfold f_Ar_isTaken; rw [if_neg c1, if_pos c3, if_neg c4]; try rfl), ht⟩, hS.F ht⟩) hS.2.2 dAr_isTaken_105
  by_cases c5 : a0 = (3 : Int32)
  · skip
    refine lv_tableIn (tgt := 106) (off := 91) hx hb dAr_isTaken_15 (by rw [c5]; decide) (by rw [c5]; decide) (by rw [c5]; rfl) (by decide) ?_
    refine lv_lload hx hb dAr_isTaken_106 (lv_at hl 1 rfl) ?_
    refine lv_lload hx hb dAr_isTaken_108 (lv_at hl 0 rfl) ?_
    refine W.lcmp hx hb dAr_isTaken_110 ?_
    refine lv_if_lt (tgt := 118) hx hb dAr_isTaken_111 (by decide) (fun c6 => ?_) (fun c6 => ?_)
    · have c6 := (lg_cmp_lt _ _).mp c6
      refine lv_iconst (v := (0 : Int32)) hx hb dAr_isTaken_118 (by decide) ?_
      exact W.zret (v := (0 : Int32)) hx hb hr rfl (fun t ht hW => ⟨⟨(0 : Int32), (), rfl, (by unfold f_Ar_isTaken; rw [if_neg c1, if_neg c3, if_pos c5, if_pos c6]; try rfl), ht⟩, hS.F ht⟩) hS.2.2 dAr_isTaken_119
    · have c6 := mt (lg_cmp_lt _ _).mpr c6
      refine lv_iconst (v := (1 : Int32)) hx hb dAr_isTaken_114 (by decide) ?_
      refine lv_goto (tgt := 119) hx hb dAr_isTaken_115 (by decide) ?_
      exact W.zret (v := (1 : Int32)) hx hb hr rfl (fun t ht hW => ⟨⟨(1 : Int32), (), rfl, (by unfold f_Ar_isTaken; rw [if_neg c1, if_neg c3, if_pos c5, if_neg c6]; try rfl), ht⟩, hS.F ht⟩) hS.2.2 dAr_isTaken_119
  by_cases c7 : a0 = (4 : Int32)
  · skip
    refine lv_tableIn (tgt := 120) (off := 105) hx hb dAr_isTaken_15 (by rw [c7]; decide) (by rw [c7]; decide) (by rw [c7]; rfl) (by decide) ?_
    refine lv_lload_n hx hb dAr_isTaken_120 rfl (lv_at hl 3 rfl) ?_
    refine lv_lload_n hx hb dAr_isTaken_121 rfl (lv_at hl 4 rfl) ?_
    refine lv_land hx hb dAr_isTaken_122 ?_
    refine lv_lconst (v := (0 : Int64)) hx hb dAr_isTaken_123 (by decide) ?_
    refine W.lcmp hx hb dAr_isTaken_124 ?_
    refine lv_if_eq (tgt := 132) hx hb dAr_isTaken_125 (by decide) (fun c8 => ?_) (fun c8 => ?_)
    · have c8 := (lg_cmp_eq _ _).mp c8
      refine lv_iconst (v := (0 : Int32)) hx hb dAr_isTaken_132 (by decide) ?_
      exact W.zret (v := (0 : Int32)) hx hb hr rfl (fun t ht hW => ⟨⟨(0 : Int32), (), rfl, (by unfold f_Ar_isTaken; rw [if_neg c1, if_neg c3, if_neg c5, if_pos c7, if_pos c8]; try rfl), ht⟩, hS.F ht⟩) hS.2.2 dAr_isTaken_133
    · have c8 := mt (lg_cmp_eq _ _).mpr c8
      refine lv_iconst (v := (1 : Int32)) hx hb dAr_isTaken_128 (by decide) ?_
      refine lv_goto (tgt := 133) hx hb dAr_isTaken_129 (by decide) ?_
      exact W.zret (v := (1 : Int32)) hx hb hr rfl (fun t ht hW => ⟨⟨(1 : Int32), (), rfl, (by unfold f_Ar_isTaken; rw [if_neg c1, if_neg c3, if_neg c5, if_pos c7, if_neg c8]; try rfl), ht⟩, hS.F ht⟩) hS.2.2 dAr_isTaken_133
  by_cases c9 : a0 = (5 : Int32)
  · skip
    refine lv_tableIn (tgt := 134) (off := 119) hx hb dAr_isTaken_15 (by rw [c9]; decide) (by rw [c9]; decide) (by rw [c9]; rfl) (by decide) ?_
    refine lv_lload_n hx hb dAr_isTaken_134 rfl (lv_at hl 3 rfl) ?_
    refine lv_lload_n hx hb dAr_isTaken_135 rfl (lv_at hl 4 rfl) ?_
    refine W.lcmp hx hb dAr_isTaken_136 ?_
    refine lv_if_eq (tgt := 144) hx hb dAr_isTaken_137 (by decide) (fun c10 => ?_) (fun c10 => ?_)
    · have c10 := (lg_cmp_eq _ _).mp c10
      refine lv_iconst (v := (0 : Int32)) hx hb dAr_isTaken_144 (by decide) ?_
      exact W.zret (v := (0 : Int32)) hx hb hr rfl (fun t ht hW => ⟨⟨(0 : Int32), (), rfl, (by unfold f_Ar_isTaken; rw [if_neg c1, if_neg c3, if_neg c5, if_neg c7, if_pos c9, if_pos c10]; try rfl), ht⟩, hS.F ht⟩) hS.2.2 dAr_isTaken_145
    · have c10 := mt (lg_cmp_eq _ _).mpr c10
      refine lv_iconst (v := (1 : Int32)) hx hb dAr_isTaken_140 (by decide) ?_
      refine lv_goto (tgt := 145) hx hb dAr_isTaken_141 (by decide) ?_
      exact W.zret (v := (1 : Int32)) hx hb hr rfl (fun t ht hW => ⟨⟨(1 : Int32), (), rfl, (by unfold f_Ar_isTaken; rw [if_neg c1, if_neg c3, if_neg c5, if_neg c7, if_pos c9, if_neg c10]; try rfl), ht⟩, hS.F ht⟩) hS.2.2 dAr_isTaken_145
  by_cases c11 : a0 = (6 : Int32)
  · skip
    refine lv_tableIn (tgt := 146) (off := 131) hx hb dAr_isTaken_15 (by rw [c11]; decide) (by rw [c11]; decide) (by rw [c11]; rfl) (by decide) ?_
    refine lv_lload_n hx hb dAr_isTaken_146 rfl (lv_at hl 3 rfl) ?_
    refine lv_lload_n hx hb dAr_isTaken_147 rfl (lv_at hl 4 rfl) ?_
    refine W.lcmp hx hb dAr_isTaken_148 ?_
    refine lv_if_le (tgt := 156) hx hb dAr_isTaken_149 (by decide) (fun c12 => ?_) (fun c12 => ?_)
    · have c12 := (lg_cmp_le _ _).mp c12
      refine lv_iconst (v := (0 : Int32)) hx hb dAr_isTaken_156 (by decide) ?_
      exact W.zret (v := (0 : Int32)) hx hb hr rfl (fun t ht hW => ⟨⟨(0 : Int32), (), rfl, (by unfold f_Ar_isTaken; rw [if_neg c1, if_neg c3, if_neg c5, if_neg c7, if_neg c9, if_pos c11, if_pos c12]; try rfl), ht⟩, hS.F ht⟩) hS.2.2 dAr_isTaken_157
    · have c12 := mt (lg_cmp_le _ _).mpr c12
      refine lv_iconst (v := (1 : Int32)) hx hb dAr_isTaken_152 (by decide) ?_
      refine lv_goto (tgt := 157) hx hb dAr_isTaken_153 (by decide) ?_
      exact W.zret (v := (1 : Int32)) hx hb hr rfl (fun t ht hW => ⟨⟨(1 : Int32), (), rfl, (by unfold f_Ar_isTaken; rw [if_neg c1, if_neg c3, if_neg c5, if_neg c7, if_neg c9, if_pos c11, if_neg c12]; try rfl), ht⟩, hS.F ht⟩) hS.2.2 dAr_isTaken_157
  by_cases c13 : a0 = (7 : Int32)
  · skip
    refine lv_tableIn (tgt := 158) (off := 143) hx hb dAr_isTaken_15 (by rw [c13]; decide) (by rw [c13]; decide) (by rw [c13]; rfl) (by decide) ?_
    refine lv_lload_n hx hb dAr_isTaken_158 rfl (lv_at hl 3 rfl) ?_
    refine lv_lload_n hx hb dAr_isTaken_159 rfl (lv_at hl 4 rfl) ?_
    refine W.lcmp hx hb dAr_isTaken_160 ?_
    refine lv_if_lt (tgt := 168) hx hb dAr_isTaken_161 (by decide) (fun c14 => ?_) (fun c14 => ?_)
    · have c14 := (lg_cmp_lt _ _).mp c14
      refine lv_iconst (v := (0 : Int32)) hx hb dAr_isTaken_168 (by decide) ?_
      exact W.zret (v := (0 : Int32)) hx hb hr rfl (fun t ht hW => ⟨⟨(0 : Int32), (), rfl, (by unfold f_Ar_isTaken; rw [if_neg c1, if_neg c3, if_neg c5, if_neg c7, if_neg c9, if_neg c11, if_pos c13, if_pos c14]; try rfl), ht⟩, hS.F ht⟩) hS.2.2 dAr_isTaken_169
    · have c14 := mt (lg_cmp_lt _ _).mpr c14
      refine lv_iconst (v := (1 : Int32)) hx hb dAr_isTaken_164 (by decide) ?_
      refine lv_goto (tgt := 169) hx hb dAr_isTaken_165 (by decide) ?_
      exact W.zret (v := (1 : Int32)) hx hb hr rfl (fun t ht hW => ⟨⟨(1 : Int32), (), rfl, (by unfold f_Ar_isTaken; rw [if_neg c1, if_neg c3, if_neg c5, if_neg c7, if_neg c9, if_neg c11, if_pos c13, if_neg c14]; try rfl), ht⟩, hS.F ht⟩) hS.2.2 dAr_isTaken_169
  by_cases c15 : a0 = (8 : Int32)
  · skip
    refine lv_tableIn (tgt := 222) (off := 207) hx hb dAr_isTaken_15 (by rw [c15]; decide) (by rw [c15]; decide) (by rw [c15]; rfl) (by decide) ?_
    refine lv_iconst (v := (0 : Int32)) hx hb dAr_isTaken_222 (by decide) ?_
    exact W.zret (v := (0 : Int32)) hx hb hr rfl (fun t ht hW => ⟨⟨(0 : Int32), (), rfl, (by unfold f_Ar_isTaken; rw [if_neg c1, if_neg c3, if_neg c5, if_neg c7, if_neg c9, if_neg c11, if_neg c13, if_pos c15]; try rfl), ht⟩, hS.F ht⟩) hS.2.2 dAr_isTaken_223
  by_cases c16 : a0 = (9 : Int32)
  · skip
    refine lv_tableIn (tgt := 222) (off := 207) hx hb dAr_isTaken_15 (by rw [c16]; decide) (by rw [c16]; decide) (by rw [c16]; rfl) (by decide) ?_
    refine lv_iconst (v := (0 : Int32)) hx hb dAr_isTaken_222 (by decide) ?_
    exact W.zret (v := (0 : Int32)) hx hb hr rfl (fun t ht hW => ⟨⟨(0 : Int32), (), rfl, (by unfold f_Ar_isTaken; rw [if_neg c1, if_neg c3, if_neg c5, if_neg c7, if_neg c9, if_neg c11, if_neg c13, if_neg c15, if_pos c16]; try rfl), ht⟩, hS.F ht⟩) hS.2.2 dAr_isTaken_223
  by_cases c17 : a0 = (10 : Int32)
  · skip
    refine lv_tableIn (tgt := 170) (off := 155) hx hb dAr_isTaken_15 (by rw [c17]; decide) (by rw [c17]; decide) (by rw [c17]; rfl) (by decide) ?_
    refine lv_lload hx hb dAr_isTaken_170 (lv_at hl 1 rfl) ?_
    refine lv_lload hx hb dAr_isTaken_172 (lv_at hl 0 rfl) ?_
    refine W.lcmp hx hb dAr_isTaken_174 ?_
    refine lv_if_ge (tgt := 182) hx hb dAr_isTaken_175 (by decide) (fun c18 => ?_) (fun c18 => ?_)
    · have c18 := (lg_cmp_ge _ _).mp c18
      refine lv_iconst (v := (0 : Int32)) hx hb dAr_isTaken_182 (by decide) ?_
      exact W.zret (v := (0 : Int32)) hx hb hr rfl (fun t ht hW => ⟨⟨(0 : Int32), (), rfl, (by unfold f_Ar_isTaken; rw [if_neg c1, if_neg c3, if_neg c5, if_neg c7, if_neg c9, if_neg c11, if_neg c13, if_neg c15, if_neg c16, if_pos c17, if_pos c18]; try rfl), ht⟩, hS.F ht⟩) hS.2.2 dAr_isTaken_183
    · have c18 := mt (lg_cmp_ge _ _).mpr c18
      refine lv_iconst (v := (1 : Int32)) hx hb dAr_isTaken_178 (by decide) ?_
      refine lv_goto (tgt := 183) hx hb dAr_isTaken_179 (by decide) ?_
      exact W.zret (v := (1 : Int32)) hx hb hr rfl (fun t ht hW => ⟨⟨(1 : Int32), (), rfl, (by unfold f_Ar_isTaken; rw [if_neg c1, if_neg c3, if_neg c5, if_neg c7, if_neg c9, if_neg c11, if_neg c13, if_neg c15, if_neg c16, if_pos c17, if_neg c18]; try rfl), ht⟩, hS.F ht⟩) hS.2.2 dAr_isTaken_183
  by_cases c19 : a0 = (11 : Int32)
  · skip
    refine lv_tableIn (tgt := 184) (off := 169) hx hb dAr_isTaken_15 (by rw [c19]; decide) (by rw [c19]; decide) (by rw [c19]; rfl) (by decide) ?_
    refine lv_lload hx hb dAr_isTaken_184 (lv_at hl 1 rfl) ?_
    refine lv_lload hx hb dAr_isTaken_186 (lv_at hl 0 rfl) ?_
    refine W.lcmp hx hb dAr_isTaken_188 ?_
    refine lv_if_gt (tgt := 196) hx hb dAr_isTaken_189 (by decide) (fun c20 => ?_) (fun c20 => ?_)
    · have c20 := (lg_cmp_gt _ _).mp c20
      refine lv_iconst (v := (0 : Int32)) hx hb dAr_isTaken_196 (by decide) ?_
      exact W.zret (v := (0 : Int32)) hx hb hr rfl (fun t ht hW => ⟨⟨(0 : Int32), (), rfl, (by unfold f_Ar_isTaken; rw [if_neg c1, if_neg c3, if_neg c5, if_neg c7, if_neg c9, if_neg c11, if_neg c13, if_neg c15, if_neg c16, if_neg c17, if_pos c19, if_pos c20]; try rfl), ht⟩, hS.F ht⟩) hS.2.2 dAr_isTaken_197
    · have c20 := mt (lg_cmp_gt _ _).mpr c20
      refine lv_iconst (v := (1 : Int32)) hx hb dAr_isTaken_192 (by decide) ?_
      refine lv_goto (tgt := 197) hx hb dAr_isTaken_193 (by decide) ?_
      exact W.zret (v := (1 : Int32)) hx hb hr rfl (fun t ht hW => ⟨⟨(1 : Int32), (), rfl, (by unfold f_Ar_isTaken; rw [if_neg c1, if_neg c3, if_neg c5, if_neg c7, if_neg c9, if_neg c11, if_neg c13, if_neg c15, if_neg c16, if_neg c17, if_pos c19, if_neg c20]; try rfl), ht⟩, hS.F ht⟩) hS.2.2 dAr_isTaken_197
  by_cases c21 : a0 = (12 : Int32)
  · skip
    refine lv_tableIn (tgt := 198) (off := 183) hx hb dAr_isTaken_15 (by rw [c21]; decide) (by rw [c21]; decide) (by rw [c21]; rfl) (by decide) ?_
    refine lv_lload_n hx hb dAr_isTaken_198 rfl (lv_at hl 3 rfl) ?_
    refine lv_lload_n hx hb dAr_isTaken_199 rfl (lv_at hl 4 rfl) ?_
    refine W.lcmp hx hb dAr_isTaken_200 ?_
    refine lv_if_ge (tgt := 208) hx hb dAr_isTaken_201 (by decide) (fun c22 => ?_) (fun c22 => ?_)
    · have c22 := (lg_cmp_ge _ _).mp c22
      refine lv_iconst (v := (0 : Int32)) hx hb dAr_isTaken_208 (by decide) ?_
      exact W.zret (v := (0 : Int32)) hx hb hr rfl (fun t ht hW => ⟨⟨(0 : Int32), (), rfl, (by unfold f_Ar_isTaken; rw [if_neg c1, if_neg c3, if_neg c5, if_neg c7, if_neg c9, if_neg c11, if_neg c13, if_neg c15, if_neg c16, if_neg c17, if_neg c19, if_pos c21, if_pos c22]; try rfl), ht⟩, hS.F ht⟩) hS.2.2 dAr_isTaken_209
    · have c22 := mt (lg_cmp_ge _ _).mpr c22
      refine lv_iconst (v := (1 : Int32)) hx hb dAr_isTaken_204 (by decide) ?_
      refine lv_goto (tgt := 209) hx hb dAr_isTaken_205 (by decide) ?_
      exact W.zret (v := (1 : Int32)) hx hb hr rfl (fun t ht hW => ⟨⟨(1 : Int32), (), rfl, (by unfold f_Ar_isTaken; rw [if_neg c1, if_neg c3, if_neg c5, if_neg c7, if_neg c9, if_neg c11, if_neg c13, if_neg c15, if_neg c16, if_neg c17, if_neg c19, if_pos c21, if_neg c22]; try rfl), ht⟩, hS.F ht⟩) hS.2.2 dAr_isTaken_209
  by_cases c23 : a0 = (13 : Int32)
  · skip
    refine lv_tableIn (tgt := 210) (off := 195) hx hb dAr_isTaken_15 (by rw [c23]; decide) (by rw [c23]; decide) (by rw [c23]; rfl) (by decide) ?_
    refine lv_lload_n hx hb dAr_isTaken_210 rfl (lv_at hl 3 rfl) ?_
    refine lv_lload_n hx hb dAr_isTaken_211 rfl (lv_at hl 4 rfl) ?_
    refine W.lcmp hx hb dAr_isTaken_212 ?_
    refine lv_if_gt (tgt := 220) hx hb dAr_isTaken_213 (by decide) (fun c24 => ?_) (fun c24 => ?_)
    · have c24 := (lg_cmp_gt _ _).mp c24
      refine lv_iconst (v := (0 : Int32)) hx hb dAr_isTaken_220 (by decide) ?_
      exact W.zret (v := (0 : Int32)) hx hb hr rfl (fun t ht hW => ⟨⟨(0 : Int32), (), rfl, (by unfold f_Ar_isTaken; rw [if_neg c1, if_neg c3, if_neg c5, if_neg c7, if_neg c9, if_neg c11, if_neg c13, if_neg c15, if_neg c16, if_neg c17, if_neg c19, if_neg c21, if_pos c23, if_pos c24]; try rfl), ht⟩, hS.F ht⟩) hS.2.2 dAr_isTaken_221
    · have c24 := mt (lg_cmp_gt _ _).mpr c24
      refine lv_iconst (v := (1 : Int32)) hx hb dAr_isTaken_216 (by decide) ?_
      refine lv_goto (tgt := 221) hx hb dAr_isTaken_217 (by decide) ?_
      exact W.zret (v := (1 : Int32)) hx hb hr rfl (fun t ht hW => ⟨⟨(1 : Int32), (), rfl, (by unfold f_Ar_isTaken; rw [if_neg c1, if_neg c3, if_neg c5, if_neg c7, if_neg c9, if_neg c11, if_neg c13, if_neg c15, if_neg c16, if_neg c17, if_neg c19, if_neg c21, if_pos c23, if_neg c24]; try rfl), ht⟩, hS.F ht⟩) hS.2.2 dAr_isTaken_221
  refine lv_tableOut (tgt := 222) hx hb dAr_isTaken_15 (by have h0 := lv_neT c1 (a := 1) (by decide); have h1 := lv_neT c3 (a := 2) (by decide); have h2 := lv_neT c5 (a := 3) (by decide); have h3 := lv_neT c7 (a := 4) (by decide); have h4 := lv_neT c9 (a := 5) (by decide); have h5 := lv_neT c11 (a := 6) (by decide); have h6 := lv_neT c13 (a := 7) (by decide); have h7 := lv_neT c15 (a := 8) (by decide); have h8 := lv_neT c16 (a := 9) (by decide); have h9 := lv_neT c17 (a := 10) (by decide); have h10 := lv_neT c19 (a := 11) (by decide); have h11 := lv_neT c21 (a := 12) (by decide); have h12 := lv_neT c23 (a := 13) (by decide); omega) (by decide) ?_
  refine lv_iconst (v := (0 : Int32)) hx hb dAr_isTaken_222 (by decide) ?_
  exact W.zret (v := (0 : Int32)) hx hb hr rfl (fun t ht hW => ⟨⟨(0 : Int32), (), rfl, (by unfold f_Ar_isTaken; rw [if_neg c1, if_neg c3, if_neg c5, if_neg c7, if_neg c9, if_neg c11, if_neg c13, if_neg c15, if_neg c16, if_neg c17, if_neg c19, if_neg c21, if_neg c23]; try rfl), ht⟩, hS.F ht⟩) hS.2.2 dAr_isTaken_223
end
section
def f_Ex_isKnown (a0 : Int32) : Bool :=
  if a0 = (0 : Int32) then
    true
  else
    if a0 = (1 : Int32) then
      true
    else
      if a0 = (64 : Int32) then
        true
      else
        if a0 = (65 : Int32) then
          true
        else
          if a0 = (80 : Int32) then
            true
          else
            if a0 = (81 : Int32) then
              true
            else
              if a0 = (160 : Int32) then
                true
              else
                if a0 = (161 : Int32) then
                  true
                else
                  if a0 = (225 : Int32) then
                    true
                  else
                    if a0 = (241 : Int32) then
                      true
                    else
                      false
set_option maxHeartbeats 4000000 in
set_option maxRecDepth 100000 in
theorem c_Ex_isKnown (l : Launch) (Hp : Heap) (a0 : Int32) : Met l yEx_isKnown wsEx_isKnown ({ frames := 0, cells := 0, slots := 0, locals := 0 }) (va_Pc [.int a0] (fun U => U.heap = Hp)) (va_Qi (fun (r : Int32) (_ : Unit) => r = (bI (f_Ex_isKnown a0))) (fun _ t => t.heap = Hp) (fun _ => False)) 0 0 (fun _ => False) := by
  refine Met.ofW (cc := cEx_isKnown) (maxL := 1) (ret := (some .boolean)) (by decide) rfl ?_
  intro p e s m args below meth c s₁ B hml hv
  obtain ⟨rfl, rfl⟩ := hv
  have hx := B.exec
  have hb := B.bytes
  have hr := B.returns
  have hT : ∀ w ∈ tB, w.before _ s = true := fun w h => atoms_spec (ws := wsEx_isKnown) B.pre w (List.mem_cons_of_mem _ h)
  have hown : s.vm.findClass "CompiledProgram$Exchange" = some m.cls := findClass_of_methodNamed B.named
  have hlocks := B.notSynchronized
  have hS : va_S (fun _ => False) s.heap s.heap [] := va_S.rf
  have hl := lv_entry ([.int a0]) (n := 1) (Nat.le_of_ble_eq_true rfl)
  rw [lg_entry_eq]
  generalize (lg_sl ([.int a0]) ++ List.replicate (1 - (lg_sl ([.int a0])).length) Slot.unset).toArray = ls at hl ⊢
  have hl : lv_has ls 1 [(0, .int a0)] := hl
  refine lv_iload_n hx hb dEx_isKnown_0 rfl (lv_at hl 0 rfl) ?_
  by_cases c1 : a0 = (0 : Int32)
  · skip
    refine lv_lookup (tgt := 76) (off := 75) hx hb dEx_isKnown_1 (by decide) (by rw [c1]; rfl) (by decide) ?_
    refine lv_iconst (v := (1 : Int32)) hx hb dEx_isKnown_76 (by decide) ?_
    exact W.zret (v := (1 : Int32)) hx hb hr rfl (fun t ht hW => ⟨⟨(1 : Int32), (), rfl, (by unfold f_Ex_isKnown; rw [if_pos c1]; try rfl), ht⟩, hS.F ht⟩) hS.2.2 dEx_isKnown_77
  by_cases c2 : a0 = (1 : Int32)
  · skip
    refine lv_lookup (tgt := 76) (off := 75) hx hb dEx_isKnown_1 (by decide) (by rw [c2]; rfl) (by decide) ?_
    refine lv_iconst (v := (1 : Int32)) hx hb dEx_isKnown_76 (by decide) ?_
    exact W.zret (v := (1 : Int32)) hx hb hr rfl (fun t ht hW => ⟨⟨(1 : Int32), (), rfl, (by unfold f_Ex_isKnown; rw [if_neg c1, if_pos c2]; try rfl), ht⟩, hS.F ht⟩) hS.2.2 dEx_isKnown_77
  by_cases c3 : a0 = (64 : Int32)
  · skip
    refine lv_lookup (tgt := 76) (off := 75) hx hb dEx_isKnown_1 (by decide) (by rw [c3]; rfl) (by decide) ?_
    refine lv_iconst (v := (1 : Int32)) hx hb dEx_isKnown_76 (by decide) ?_
    exact W.zret (v := (1 : Int32)) hx hb hr rfl (fun t ht hW => ⟨⟨(1 : Int32), (), rfl, (by unfold f_Ex_isKnown; rw [if_neg c1, if_neg c2, if_pos c3]; try rfl), ht⟩, hS.F ht⟩) hS.2.2 dEx_isKnown_77
  by_cases c4 : a0 = (65 : Int32)
  · skip
    refine lv_lookup (tgt := 76) (off := 75) hx hb dEx_isKnown_1 (by decide) (by rw [c4]; rfl) (by decide) ?_
    refine lv_iconst (v := (1 : Int32)) hx hb dEx_isKnown_76 (by decide) ?_
    exact W.zret (v := (1 : Int32)) hx hb hr rfl (fun t ht hW => ⟨⟨(1 : Int32), (), rfl, (by unfold f_Ex_isKnown; rw [if_neg c1, if_neg c2, if_neg c3, if_pos c4]; try rfl), ht⟩, hS.F ht⟩) hS.2.2 dEx_isKnown_77
  by_cases c5 : a0 = (80 : Int32)
  · skip
    refine lv_lookup (tgt := 76) (off := 75) hx hb dEx_isKnown_1 (by decide) (by rw [c5]; rfl) (by decide) ?_
    refine lv_iconst (v := (1 : Int32)) hx hb dEx_isKnown_76 (by decide) ?_
    exact W.zret (v := (1 : Int32)) hx hb hr rfl (fun t ht hW => ⟨⟨(1 : Int32), (), rfl, (by unfold f_Ex_isKnown; rw [if_neg c1, if_neg c2, if_neg c3, if_neg c4, if_pos c5]; try rfl), ht⟩, hS.F ht⟩) hS.2.2 dEx_isKnown_77
  by_cases c6 : a0 = (81 : Int32)
  · skip
    refine lv_lookup (tgt := 76) (off := 75) hx hb dEx_isKnown_1 (by decide) (by rw [c6]; rfl) (by decide) ?_
    refine lv_iconst (v := (1 : Int32)) hx hb dEx_isKnown_76 (by decide) ?_
    exact W.zret (v := (1 : Int32)) hx hb hr rfl (fun t ht hW => ⟨⟨(1 : Int32), (), rfl, (by unfold f_Ex_isKnown; rw [if_neg c1, if_neg c2, if_neg c3, if_neg c4, if_neg c5, if_pos c6]; try rfl), ht⟩, hS.F ht⟩) hS.2.2 dEx_isKnown_77
  by_cases c7 : a0 = (160 : Int32)
  · skip
    refine lv_lookup (tgt := 76) (off := 75) hx hb dEx_isKnown_1 (by decide) (by rw [c7]; rfl) (by decide) ?_
    refine lv_iconst (v := (1 : Int32)) hx hb dEx_isKnown_76 (by decide) ?_
    exact W.zret (v := (1 : Int32)) hx hb hr rfl (fun t ht hW => ⟨⟨(1 : Int32), (), rfl, (by unfold f_Ex_isKnown; rw [if_neg c1, if_neg c2, if_neg c3, if_neg c4, if_neg c5, if_neg c6, if_pos c7]; try rfl), ht⟩, hS.F ht⟩) hS.2.2 dEx_isKnown_77
  by_cases c8 : a0 = (161 : Int32)
  · skip
    refine lv_lookup (tgt := 76) (off := 75) hx hb dEx_isKnown_1 (by decide) (by rw [c8]; rfl) (by decide) ?_
    refine lv_iconst (v := (1 : Int32)) hx hb dEx_isKnown_76 (by decide) ?_
    exact W.zret (v := (1 : Int32)) hx hb hr rfl (fun t ht hW => ⟨⟨(1 : Int32), (), rfl, (by unfold f_Ex_isKnown; rw [if_neg c1, if_neg c2, if_neg c3, if_neg c4, if_neg c5, if_neg c6, if_neg c7, if_pos c8]; try rfl), ht⟩, hS.F ht⟩) hS.2.2 dEx_isKnown_77
  refine lv_lookup (tgt := 78) (off := 77) hx hb dEx_isKnown_1 (by decide) (by rw [lv_osw c1 (by decide), lv_osw c2 (by decide), lv_osw c3 (by decide), lv_osw c4 (by decide), lv_osw c5 (by decide), lv_osw c6 (by decide), lv_osw c7 (by decide), lv_osw c8 (by decide)]; rfl) (by decide) ?_
  refine lv_iload_n hx hb dEx_isKnown_78 rfl (lv_at hl 0 rfl) ?_
  refine lv_sipush (v := (225 : Int32)) hx hb dEx_isKnown_79 (by decide) ?_
  refine lv_icmp_eq (tgt := 92) hx hb dEx_isKnown_82 (by decide) (fun c9 => ?_) (fun c9 => ?_)
  · skip
    refine lv_iconst (v := (1 : Int32)) hx hb dEx_isKnown_92 (by decide) ?_
    refine lv_goto (tgt := 97) hx hb dEx_isKnown_93 (by decide) ?_
    exact W.zret (v := (1 : Int32)) hx hb hr rfl (fun t ht hW => ⟨⟨(1 : Int32), (), rfl, (by unfold f_Ex_isKnown; rw [if_neg c1, if_neg c2, if_neg c3, if_neg c4, if_neg c5, if_neg c6, if_neg c7, if_neg c8, if_pos c9]; try rfl), ht⟩, hS.F ht⟩) hS.2.2 dEx_isKnown_97
  · skip
    refine lv_iload_n hx hb dEx_isKnown_85 rfl (lv_at hl 0 rfl) ?_
    refine lv_sipush (v := (241 : Int32)) hx hb dEx_isKnown_86 (by decide) ?_
    refine lv_icmp_ne (tgt := 96) hx hb dEx_isKnown_89 (by decide) (fun c10 => ?_) (fun c10 => ?_)
    · skip
      refine lv_iconst (v := (0 : Int32)) hx hb dEx_isKnown_96 (by decide) ?_
      exact W.zret (v := (0 : Int32)) hx hb hr rfl (fun t ht hW => ⟨⟨(0 : Int32), (), rfl, (by unfold f_Ex_isKnown; rw [if_neg c1, if_neg c2, if_neg c3, if_neg c4, if_neg c5, if_neg c6, if_neg c7, if_neg c8, if_neg c9, if_neg c10]; try rfl), ht⟩, hS.F ht⟩) hS.2.2 dEx_isKnown_97
    · skip
      refine lv_iconst (v := (1 : Int32)) hx hb dEx_isKnown_92 (by decide) ?_
      refine lv_goto (tgt := 97) hx hb dEx_isKnown_93 (by decide) ?_
      exact W.zret (v := (1 : Int32)) hx hb hr rfl (fun t ht hW => ⟨⟨(1 : Int32), (), rfl, (by unfold f_Ex_isKnown; rw [if_neg c1, if_neg c2, if_neg c3, if_neg c4, if_neg c5, if_neg c6, if_neg c7, if_neg c8, if_neg c9, if_pos c10]; try rfl), ht⟩, hS.F ht⟩) hS.2.2 dEx_isKnown_97

def f_Ex_changesSource (a0 : Int32) : Bool :=
  if (a0 &&& (1 : Int32)) = (1 : Int32) then
    if a0 = (241 : Int32) then
      false
    else
      true
  else
    false
set_option maxHeartbeats 4000000 in
set_option maxRecDepth 100000 in
theorem c_Ex_changesSource (l : Launch) (Hp : Heap) (a0 : Int32) : Met l yEx_changesSource wsEx_changesSource ({ frames := 0, cells := 0, slots := 0, locals := 0 }) (va_Pc [.int a0] (fun U => U.heap = Hp)) (va_Qi (fun (r : Int32) (_ : Unit) => r = (bI (f_Ex_changesSource a0))) (fun _ t => t.heap = Hp) (fun _ => False)) 0 0 (fun _ => False) := by
  refine Met.ofW (cc := cEx_changesSource) (maxL := 1) (ret := (some .boolean)) (by decide) rfl ?_
  intro p e s m args below meth c s₁ B hml hv
  obtain ⟨rfl, rfl⟩ := hv
  have hx := B.exec
  have hb := B.bytes
  have hr := B.returns
  have hT : ∀ w ∈ tB, w.before _ s = true := fun w h => atoms_spec (ws := wsEx_changesSource) B.pre w (List.mem_cons_of_mem _ h)
  have hown : s.vm.findClass "CompiledProgram$Exchange" = some m.cls := findClass_of_methodNamed B.named
  have hlocks := B.notSynchronized
  have hS : va_S (fun _ => False) s.heap s.heap [] := va_S.rf
  have hl := lv_entry ([.int a0]) (n := 1) (Nat.le_of_ble_eq_true rfl)
  rw [lg_entry_eq]
  generalize (lg_sl ([.int a0]) ++ List.replicate (1 - (lg_sl ([.int a0])).length) Slot.unset).toArray = ls at hl ⊢
  have hl : lv_has ls 1 [(0, .int a0)] := hl
  refine lv_iload_n hx hb dEx_changesSource_0 rfl (lv_at hl 0 rfl) ?_
  refine lv_iconst (v := (1 : Int32)) hx hb dEx_changesSource_1 (by decide) ?_
  refine lv_iand hx hb dEx_changesSource_2 ?_
  refine lv_iconst (v := (1 : Int32)) hx hb dEx_changesSource_3 (by decide) ?_
  refine lv_icmp_ne (tgt := 18) hx hb dEx_changesSource_4 (by decide) (fun c1 => ?_) (fun c1 => ?_)
  · skip
    refine lv_iconst (v := (0 : Int32)) hx hb dEx_changesSource_18 (by decide) ?_
    exact W.zret (v := (0 : Int32)) hx hb hr rfl (fun t ht hW => ⟨⟨(0 : Int32), (), rfl, (by unfold f_Ex_changesSource; rw [if_neg c1]; try rfl), ht⟩, hS.F ht⟩) hS.2.2 dEx_changesSource_19
  · skip
    refine lv_iload_n hx hb dEx_changesSource_7 rfl (lv_at hl 0 rfl) ?_
    refine lv_sipush (v := (241 : Int32)) hx hb dEx_changesSource_8 (by decide) ?_
    refine lv_icmp_eq (tgt := 18) hx hb dEx_changesSource_11 (by decide) (fun c2 => ?_) (fun c2 => ?_)
    · skip
      refine lv_iconst (v := (0 : Int32)) hx hb dEx_changesSource_18 (by decide) ?_
      exact W.zret (v := (0 : Int32)) hx hb hr rfl (fun t ht hW => ⟨⟨(0 : Int32), (), rfl, (by unfold f_Ex_changesSource; rw [if_pos c1, if_pos c2]; try rfl), ht⟩, hS.F ht⟩) hS.2.2 dEx_changesSource_19
    · skip
      refine lv_iconst (v := (1 : Int32)) hx hb dEx_changesSource_14 (by decide) ?_
      refine lv_goto (tgt := 19) hx hb dEx_changesSource_15 (by decide) ?_
      exact W.zret (v := (1 : Int32)) hx hb hr rfl (fun t ht hW => ⟨⟨(1 : Int32), (), rfl, (by unfold f_Ex_changesSource; rw [if_pos c1, if_neg c2]; try rfl), ht⟩, hS.F ht⟩) hS.2.2 dEx_changesSource_19

def f_Ex_become (a0 : Int32) (a1 : Int64) (a2 : Int64) (a3 : Bool) : Int64 :=
  if a0 = (0 : Int32) then
    (a1 + a2)
  else
    if a0 = (1 : Int32) then
      (a1 + a2)
    else
      if a0 = (64 : Int32) then
        (a1 ||| a2)
      else
        if a0 = (65 : Int32) then
          (a1 ||| a2)
        else
          if a0 = (80 : Int32) then
            (a1 &&& a2)
          else
            if a0 = (81 : Int32) then
              (a1 &&& a2)
            else
              if a0 = (160 : Int32) then
                (a1 ^^^ a2)
              else
                if a0 = (161 : Int32) then
                  (a1 ^^^ a2)
                else
                  if a0 = (225 : Int32) then
                    a2
                  else
                    if a3 = true then
                      a2
                    else
                      a1
set_option maxHeartbeats 4000000 in
set_option maxRecDepth 100000 in
theorem c_Ex_become (l : Launch) (Hp : Heap) (a0 : Int32) (a1 : Int64) (a2 : Int64) (a3 : Bool) : Met l yEx_become wsEx_become ({ frames := 0, cells := 0, slots := 0, locals := 0 }) (va_Pc [.int a0, .long a1, .long a2, .int (bI a3)] (fun U => U.heap = Hp)) (va_Ql (fun (r : Int64) (_ : Unit) => r = f_Ex_become a0 a1 a2 a3) (fun _ t => t.heap = Hp) (fun _ => False)) 0 0 (fun _ => False) := by
  refine Met.ofW (cc := cEx_become) (maxL := 6) (ret := (some .long)) (by decide) rfl ?_
  intro p e s m args below meth c s₁ B hml hv
  obtain ⟨rfl, rfl⟩ := hv
  have hx := B.exec
  have hb := B.bytes
  have hr := B.returns
  have hT : ∀ w ∈ tB, w.before _ s = true := fun w h => atoms_spec (ws := wsEx_become) B.pre w (List.mem_cons_of_mem _ h)
  have hown : s.vm.findClass "CompiledProgram$Exchange" = some m.cls := findClass_of_methodNamed B.named
  have hlocks := B.notSynchronized
  have hS : va_S (fun _ => False) s.heap s.heap [] := va_S.rf
  have hl := lv_entry ([.int a0, .long a1, .long a2, .int (bI a3)]) (n := 6) (Nat.le_of_ble_eq_true rfl)
  rw [lg_entry_eq]
  generalize (lg_sl ([.int a0, .long a1, .long a2, .int (bI a3)]) ++ List.replicate (6 - (lg_sl ([.int a0, .long a1, .long a2, .int (bI a3)])).length) Slot.unset).toArray = ls at hl ⊢
  have hl : lv_has ls 6 [(0, .int a0), (1, .long a1), (3, .long a2), (5, .int (bI a3))] := hl
  refine lv_iload_n hx hb dEx_become_0 rfl (lv_at hl 0 rfl) ?_
  by_cases c1 : a0 = (0 : Int32)
  · skip
    refine lv_lookup (tgt := 84) (off := 83) hx hb dEx_become_1 (by decide) (by rw [c1]; rfl) (by decide) ?_
    refine lv_lload_n hx hb dEx_become_84 rfl (lv_at hl 1 rfl) ?_
    refine lv_lload_n hx hb dEx_become_85 rfl (lv_at hl 2 rfl) ?_
    refine lv_ladd hx hb dEx_become_86 ?_
    exact W.lret (v := (a1 + a2)) hx hb hr (fun t ht hW => ⟨⟨(a1 + a2), (), rfl, (by unfold f_Ex_become; rw [if_pos c1]; try rfl), ht⟩, hS.F ht⟩) hS.2.2 dEx_become_87
  by_cases c2 : a0 = (1 : Int32)
  · skip
    refine lv_lookup (tgt := 84) (off := 83) hx hb dEx_become_1 (by decide) (by rw [c2]; rfl) (by decide) ?_
    refine lv_lload_n hx hb dEx_become_84 rfl (lv_at hl 1 rfl) ?_
    refine lv_lload_n hx hb dEx_become_85 rfl (lv_at hl 2 rfl) ?_
    refine lv_ladd hx hb dEx_become_86 ?_
    exact W.lret (v := (a1 + a2)) hx hb hr (fun t ht hW => ⟨⟨(a1 + a2), (), rfl, (by unfold f_Ex_become; rw [if_neg c1, if_pos c2]; try rfl), ht⟩, hS.F ht⟩) hS.2.2 dEx_become_87
  by_cases c3 : a0 = (64 : Int32)
  · skip
    refine lv_lookup (tgt := 88) (off := 87) hx hb dEx_become_1 (by decide) (by rw [c3]; rfl) (by decide) ?_
    refine lv_lload_n hx hb dEx_become_88 rfl (lv_at hl 1 rfl) ?_
    refine lv_lload_n hx hb dEx_become_89 rfl (lv_at hl 2 rfl) ?_
    refine lv_lor hx hb dEx_become_90 ?_
    exact W.lret (v := (a1 ||| a2)) hx hb hr (fun t ht hW => ⟨⟨(a1 ||| a2), (), rfl, (by unfold f_Ex_become; rw [if_neg c1, if_neg c2, if_pos c3]; try rfl), ht⟩, hS.F ht⟩) hS.2.2 dEx_become_91
  by_cases c4 : a0 = (65 : Int32)
  · skip
    refine lv_lookup (tgt := 88) (off := 87) hx hb dEx_become_1 (by decide) (by rw [c4]; rfl) (by decide) ?_
    refine lv_lload_n hx hb dEx_become_88 rfl (lv_at hl 1 rfl) ?_
    refine lv_lload_n hx hb dEx_become_89 rfl (lv_at hl 2 rfl) ?_
    refine lv_lor hx hb dEx_become_90 ?_
    exact W.lret (v := (a1 ||| a2)) hx hb hr (fun t ht hW => ⟨⟨(a1 ||| a2), (), rfl, (by unfold f_Ex_become; rw [if_neg c1, if_neg c2, if_neg c3, if_pos c4]; try rfl), ht⟩, hS.F ht⟩) hS.2.2 dEx_become_91
  by_cases c5 : a0 = (80 : Int32)
  · skip
    refine lv_lookup (tgt := 92) (off := 91) hx hb dEx_become_1 (by decide) (by rw [c5]; rfl) (by decide) ?_
    refine lv_lload_n hx hb dEx_become_92 rfl (lv_at hl 1 rfl) ?_
    refine lv_lload_n hx hb dEx_become_93 rfl (lv_at hl 2 rfl) ?_
    refine lv_land hx hb dEx_become_94 ?_
    exact W.lret (v := (a1 &&& a2)) hx hb hr (fun t ht hW => ⟨⟨(a1 &&& a2), (), rfl, (by unfold f_Ex_become; rw [if_neg c1, if_neg c2, if_neg c3, if_neg c4, if_pos c5]; try rfl), ht⟩, hS.F ht⟩) hS.2.2 dEx_become_95
  by_cases c6 : a0 = (81 : Int32)
  · skip
    refine lv_lookup (tgt := 92) (off := 91) hx hb dEx_become_1 (by decide) (by rw [c6]; rfl) (by decide) ?_
    refine lv_lload_n hx hb dEx_become_92 rfl (lv_at hl 1 rfl) ?_
    refine lv_lload_n hx hb dEx_become_93 rfl (lv_at hl 2 rfl) ?_
    refine lv_land hx hb dEx_become_94 ?_
    exact W.lret (v := (a1 &&& a2)) hx hb hr (fun t ht hW => ⟨⟨(a1 &&& a2), (), rfl, (by unfold f_Ex_become; rw [if_neg c1, if_neg c2, if_neg c3, if_neg c4, if_neg c5, if_pos c6]; try rfl), ht⟩, hS.F ht⟩) hS.2.2 dEx_become_95
  by_cases c7 : a0 = (160 : Int32)
  · skip
    refine lv_lookup (tgt := 96) (off := 95) hx hb dEx_become_1 (by decide) (by rw [c7]; rfl) (by decide) ?_
    refine lv_lload_n hx hb dEx_become_96 rfl (lv_at hl 1 rfl) ?_
    refine lv_lload_n hx hb dEx_become_97 rfl (lv_at hl 2 rfl) ?_
    refine lv_lxor hx hb dEx_become_98 ?_
    exact W.lret (v := (a1 ^^^ a2)) hx hb hr (fun t ht hW => ⟨⟨(a1 ^^^ a2), (), rfl, (by unfold f_Ex_become; rw [if_neg c1, if_neg c2, if_neg c3, if_neg c4, if_neg c5, if_neg c6, if_pos c7]; try rfl), ht⟩, hS.F ht⟩) hS.2.2 dEx_become_99
  by_cases c8 : a0 = (161 : Int32)
  · skip
    refine lv_lookup (tgt := 96) (off := 95) hx hb dEx_become_1 (by decide) (by rw [c8]; rfl) (by decide) ?_
    refine lv_lload_n hx hb dEx_become_96 rfl (lv_at hl 1 rfl) ?_
    refine lv_lload_n hx hb dEx_become_97 rfl (lv_at hl 2 rfl) ?_
    refine lv_lxor hx hb dEx_become_98 ?_
    exact W.lret (v := (a1 ^^^ a2)) hx hb hr (fun t ht hW => ⟨⟨(a1 ^^^ a2), (), rfl, (by unfold f_Ex_become; rw [if_neg c1, if_neg c2, if_neg c3, if_neg c4, if_neg c5, if_neg c6, if_neg c7, if_pos c8]; try rfl), ht⟩, hS.F ht⟩) hS.2.2 dEx_become_99
  by_cases c9 : a0 = (225 : Int32)
  · skip
    refine lv_lookup (tgt := 100) (off := 99) hx hb dEx_become_1 (by decide) (by rw [c9]; rfl) (by decide) ?_
    refine lv_lload_n hx hb dEx_become_100 rfl (lv_at hl 2 rfl) ?_
    exact W.lret (v := a2) hx hb hr (fun t ht hW => ⟨⟨a2, (), rfl, (by unfold f_Ex_become; rw [if_neg c1, if_neg c2, if_neg c3, if_neg c4, if_neg c5, if_neg c6, if_neg c7, if_neg c8, if_pos c9]; try rfl), ht⟩, hS.F ht⟩) hS.2.2 dEx_become_101
  refine lv_lookup (tgt := 102) (off := 101) hx hb dEx_become_1 (by decide) (by rw [lv_osw c1 (by decide), lv_osw c2 (by decide), lv_osw c3 (by decide), lv_osw c4 (by decide), lv_osw c5 (by decide), lv_osw c6 (by decide), lv_osw c7 (by decide), lv_osw c8 (by decide), lv_osw c9 (by decide)]; rfl) (by decide) ?_
  refine lv_iload hx hb dEx_become_102 (lv_at hl 3 rfl) ?_
  refine lv_if_eq (tgt := 111) hx hb dEx_become_104 (by decide) (fun c10 => ?_) (fun c10 => ?_)
  · have c10 := bI_z c10
    refine lv_lload_n hx hb dEx_become_111 rfl (lv_at hl 1 rfl) ?_
    exact W.lret (v := a1) hx hb hr (fun t ht hW => ⟨⟨a1, (), rfl, (by unfold f_Ex_become; rw [if_neg c1, if_neg c2, if_neg c3, if_neg c4, if_neg c5, if_neg c6, if_neg c7, if_neg c8, if_neg c9, if_neg c10]; try rfl), ht⟩, hS.F ht⟩) hS.2.2 dEx_become_112
  · have c10 := bI_n c10
    refine lv_lload_n hx hb dEx_become_107 rfl (lv_at hl 2 rfl) ?_
    refine lv_goto (tgt := 112) hx hb dEx_become_108 (by decide) ?_
    exact W.lret (v := a2) hx hb hr (fun t ht hW => ⟨⟨a2, (), rfl, (by unfold f_Ex_become; rw [if_neg c1, if_neg c2, if_neg c3, if_neg c4, if_neg c5, if_neg c6, if_neg c7, if_neg c8, if_neg c9, if_pos c10]; try rfl), ht⟩, hS.F ht⟩) hS.2.2 dEx_become_112
end
section
def f_Fo_isFirstOfTwo (a0 : Int64) : Bool :=
  if (f_Fi_isTwoPlaces a0) = true then
    if (9 : Int32) < (f_Fi_target a0) then
      false
    else
      if (f_Fi_offset a0) = 0 then
        if (f_Fi_source a0) = 0 then
          true
        else
          if (f_Fi_source a0) = (1 : Int32) then
            if (f_Fi_immediate a0) < 0 then
              false
            else
              true
          else
            false
      else
        false
  else
    false
set_option maxHeartbeats 4000000 in
set_option maxRecDepth 100000 in
theorem c_Fo_isFirstOfTwo (l : Launch) (Hp : Heap) (a0 : Int64) : Met l yFo_isFirstOfTwo wsFo_isFirstOfTwo ({ frames := 2, cells := 0, slots := 0, locals := 42 }) (va_Pc [.long a0] (fun U => U.heap = Hp)) (va_Qi (fun (r : Int32) (_ : Unit) => r = (bI (f_Fo_isFirstOfTwo a0))) (fun _ t => t.heap = Hp) (fun _ => False)) 0 0 (fun _ => False) := by
  refine Met.ofW (cc := cFo_isFirstOfTwo) (maxL := 3) (ret := (some .boolean)) (by decide) rfl ?_
  intro p e s m args below meth c s₁ B hml hv
  obtain ⟨rfl, rfl⟩ := hv
  have hx := B.exec
  have hb := B.bytes
  have hr := B.returns
  have hT : ∀ w ∈ tB, w.before _ s = true := fun w h => atoms_spec (ws := wsFo_isFirstOfTwo) B.pre w (List.mem_cons_of_mem _ h)
  have hown : s.vm.findClass "CompiledProgram$Form" = some m.cls := findClass_of_methodNamed B.named
  have hlocks := B.notSynchronized
  have hS : va_S (fun _ => False) s.heap s.heap [] := va_S.rf
  have hl := lv_entry ([.long a0]) (n := 3) (Nat.le_of_ble_eq_true rfl)
  rw [lg_entry_eq]
  generalize (lg_sl ([.long a0]) ++ List.replicate (3 - (lg_sl ([.long a0])).length) Slot.unset).toArray = ls at hl ⊢
  have hl : lv_has ls 3 [(0, .long a0)] := hl
  refine lv_lload_n hx hb dFo_isFirstOfTwo_0 rfl (lv_at hl 0 rfl) ?_
  refine va_calli (va_runS (As := [.long a0]) (rest := []) ⟨hx, hb, hml, hown, hT⟩ (c_Fi_source l s.heap a0) (va_cwS 1 hT (gB_SV mw_137 mw_138 mw_16 mw_139) rfl rfl rfl (by decide +kernel) ⟨Nat.le_of_ble_eq_true rfl, Nat.le_of_ble_eq_true rfl⟩) ⟨fun _ _ _ _ q => q, fun U hU hW => ⟨rfl, hU⟩⟩ rfl rfl hl.1 rfl (lv_room (Nat.le_of_ble_eq_true rfl)) dFo_isFirstOfTwo_1 ⟨Nat.zero_le _, Nat.zero_le _⟩) hS (fun _ _ h => h.elim) (fun _ h => h.elim) (fun r u t H1 locs ht hvm hw hB hz8 hk8 hS => ?_)
  obtain rfl : s.heap = H1 := hB.symm.trans ht
  subst hw
  refine lv_istore_n (lv' := [(2, .int (f_Fi_source a0)), (0, .long a0)]) hx hb dFo_isFirstOfTwo_4 rfl hl (by decide) rfl (fun ls hl => ?_)
  refine lv_lload_n hx hb dFo_isFirstOfTwo_5 rfl (lv_at hl 1 rfl) ?_
  refine va_calli (va_runS (As := [.long a0]) (rest := []) ⟨hx, hb, hml, hown, hT⟩ (c_Fi_isTwoPlaces l s.heap a0) (va_cwS 1 hT (gB_SV mw_140 mw_141 mw_16 mw_142) rfl rfl rfl (by decide +kernel) ⟨Nat.le_of_ble_eq_true rfl, Nat.le_of_ble_eq_true rfl⟩) ⟨fun _ _ _ _ q => q, fun U hU hW => ⟨rfl, hU⟩⟩ rfl rfl hl.1 rfl (lv_room (Nat.le_of_ble_eq_true rfl)) dFo_isFirstOfTwo_6 ⟨Nat.zero_le _, Nat.zero_le _⟩) hS (fun _ _ h => h.elim) (fun _ h => h.elim) (fun r u t H1 locs ht hvm hw hB hz8 hk8 hS => ?_)
  obtain rfl : s.heap = H1 := hB.symm.trans ht
  subst hw
  refine lv_if_eq (tgt := 48) hx hb dFo_isFirstOfTwo_9 (by decide) (fun c1 => ?_) (fun c1 => ?_)
  · have c1 := bI_z c1
    refine lv_iconst (v := (0 : Int32)) hx hb dFo_isFirstOfTwo_48 (by decide) ?_
    exact W.zret (v := (0 : Int32)) hx hb hr rfl (fun t ht hW => ⟨⟨(0 : Int32), (), rfl, (by unfold f_Fo_isFirstOfTwo; rw [if_neg c1]; try rfl), ht⟩, hS.F ht⟩) hS.2.2 dFo_isFirstOfTwo_49
  · have c1 := bI_n c1
    refine lv_lload_n hx hb dFo_isFirstOfTwo_12 rfl (lv_at hl 1 rfl) ?_
    refine va_calli (va_runS (As := [.long a0]) (rest := []) ⟨hx, hb, hml, hown, hT⟩ (c_Fi_target l s.heap a0) (va_cwS 1 hT (gB_SV mw_146 mw_147 mw_16 mw_148) rfl rfl rfl (by decide +kernel) ⟨Nat.le_of_ble_eq_true rfl, Nat.le_of_ble_eq_true rfl⟩) ⟨fun _ _ _ _ q => q, fun U hU hW => ⟨rfl, hU⟩⟩ rfl rfl hl.1 rfl (lv_room (Nat.le_of_ble_eq_true rfl)) dFo_isFirstOfTwo_13 ⟨Nat.zero_le _, Nat.zero_le _⟩) hS (fun _ _ h => h.elim) (fun _ h => h.elim) (fun r u t H1 locs ht hvm hw hB hz8 hk8 hS => ?_)
    obtain rfl : s.heap = H1 := hB.symm.trans ht
    subst hw
    refine lv_bipush (v := (9 : Int32)) hx hb dFo_isFirstOfTwo_16 (by decide) ?_
    refine lv_icmp_gt (tgt := 48) hx hb dFo_isFirstOfTwo_18 (by decide) (fun c2 => ?_) (fun c2 => ?_)
    · skip
      refine lv_iconst (v := (0 : Int32)) hx hb dFo_isFirstOfTwo_48 (by decide) ?_
      exact W.zret (v := (0 : Int32)) hx hb hr rfl (fun t ht hW => ⟨⟨(0 : Int32), (), rfl, (by unfold f_Fo_isFirstOfTwo; rw [if_pos c1, if_pos c2]; try rfl), ht⟩, hS.F ht⟩) hS.2.2 dFo_isFirstOfTwo_49
    · skip
      refine lv_lload_n hx hb dFo_isFirstOfTwo_21 rfl (lv_at hl 1 rfl) ?_
      refine va_calli (va_runS (As := [.long a0]) (rest := []) ⟨hx, hb, hml, hown, hT⟩ (c_Fi_offset l s.heap a0) (va_cwS 1 hT (gB_SV mw_149 mw_150 mw_16 mw_151) rfl rfl rfl (by decide +kernel) ⟨Nat.le_of_ble_eq_true rfl, Nat.le_of_ble_eq_true rfl⟩) ⟨fun _ _ _ _ q => q, fun U hU hW => ⟨rfl, hU⟩⟩ rfl rfl hl.1 rfl (lv_room (Nat.le_of_ble_eq_true rfl)) dFo_isFirstOfTwo_22 ⟨Nat.zero_le _, Nat.zero_le _⟩) hS (fun _ _ h => h.elim) (fun _ h => h.elim) (fun r u t H1 locs ht hvm hw hB hz8 hk8 hS => ?_)
      obtain rfl : s.heap = H1 := hB.symm.trans ht
      subst hw
      refine lv_if_ne (tgt := 48) hx hb dFo_isFirstOfTwo_25 (by decide) (fun c3 => ?_) (fun c3 => ?_)
      · skip
        refine lv_iconst (v := (0 : Int32)) hx hb dFo_isFirstOfTwo_48 (by decide) ?_
        exact W.zret (v := (0 : Int32)) hx hb hr rfl (fun t ht hW => ⟨⟨(0 : Int32), (), rfl, (by unfold f_Fo_isFirstOfTwo; rw [if_pos c1, if_neg c2, if_neg c3]; try rfl), ht⟩, hS.F ht⟩) hS.2.2 dFo_isFirstOfTwo_49
      · skip
        refine lv_iload_n hx hb dFo_isFirstOfTwo_28 rfl (lv_at hl 0 rfl) ?_
        refine lv_if_eq (tgt := 44) hx hb dFo_isFirstOfTwo_29 (by decide) (fun c4 => ?_) (fun c4 => ?_)
        · skip
          refine lv_iconst (v := (1 : Int32)) hx hb dFo_isFirstOfTwo_44 (by decide) ?_
          refine lv_goto (tgt := 49) hx hb dFo_isFirstOfTwo_45 (by decide) ?_
          exact W.zret (v := (1 : Int32)) hx hb hr rfl (fun t ht hW => ⟨⟨(1 : Int32), (), rfl, (by unfold f_Fo_isFirstOfTwo; rw [if_pos c1, if_neg c2, if_pos c3, if_pos c4]; try rfl), ht⟩, hS.F ht⟩) hS.2.2 dFo_isFirstOfTwo_49
        · skip
          refine lv_iload_n hx hb dFo_isFirstOfTwo_32 rfl (lv_at hl 0 rfl) ?_
          refine lv_iconst (v := (1 : Int32)) hx hb dFo_isFirstOfTwo_33 (by decide) ?_
          refine lv_icmp_ne (tgt := 48) hx hb dFo_isFirstOfTwo_34 (by decide) (fun c5 => ?_) (fun c5 => ?_)
          · skip
            refine lv_iconst (v := (0 : Int32)) hx hb dFo_isFirstOfTwo_48 (by decide) ?_
            exact W.zret (v := (0 : Int32)) hx hb hr rfl (fun t ht hW => ⟨⟨(0 : Int32), (), rfl, (by unfold f_Fo_isFirstOfTwo; rw [if_pos c1, if_neg c2, if_pos c3, if_neg c4, if_neg c5]; try rfl), ht⟩, hS.F ht⟩) hS.2.2 dFo_isFirstOfTwo_49
          · skip
            refine lv_lload_n hx hb dFo_isFirstOfTwo_37 rfl (lv_at hl 1 rfl) ?_
            refine va_calli (va_runS (As := [.long a0]) (rest := []) ⟨hx, hb, hml, hown, hT⟩ (c_Fi_immediate l s.heap a0) (va_cwS 1 hT (gB_SV mw_152 mw_153 mw_16 mw_154) rfl rfl rfl (by decide +kernel) ⟨Nat.le_of_ble_eq_true rfl, Nat.le_of_ble_eq_true rfl⟩) ⟨fun _ _ _ _ q => q, fun U hU hW => ⟨rfl, hU⟩⟩ rfl rfl hl.1 rfl (lv_room (Nat.le_of_ble_eq_true rfl)) dFo_isFirstOfTwo_38 ⟨Nat.zero_le _, Nat.zero_le _⟩) hS (fun _ _ h => h.elim) (fun _ h => h.elim) (fun r u t H1 locs ht hvm hw hB hz8 hk8 hS => ?_)
            obtain rfl : s.heap = H1 := hB.symm.trans ht
            subst hw
            refine lv_if_lt (tgt := 48) hx hb dFo_isFirstOfTwo_41 (by decide) (fun c6 => ?_) (fun c6 => ?_)
            · skip
              refine lv_iconst (v := (0 : Int32)) hx hb dFo_isFirstOfTwo_48 (by decide) ?_
              exact W.zret (v := (0 : Int32)) hx hb hr rfl (fun t ht hW => ⟨⟨(0 : Int32), (), rfl, (by unfold f_Fo_isFirstOfTwo; rw [if_pos c1, if_neg c2, if_pos c3, if_neg c4, if_pos c5, if_pos c6]; try rfl), ht⟩, hS.F ht⟩) hS.2.2 dFo_isFirstOfTwo_49
            · skip
              refine lv_iconst (v := (1 : Int32)) hx hb dFo_isFirstOfTwo_44 (by decide) ?_
              refine lv_goto (tgt := 49) hx hb dFo_isFirstOfTwo_45 (by decide) ?_
              exact W.zret (v := (1 : Int32)) hx hb hr rfl (fun t ht hW => ⟨⟨(1 : Int32), (), rfl, (by unfold f_Fo_isFirstOfTwo; rw [if_pos c1, if_neg c2, if_pos c3, if_neg c4, if_pos c5, if_neg c6]; try rfl), ht⟩, hS.F ht⟩) hS.2.2 dFo_isFirstOfTwo_49

def f_Fo_isSecondOf (a0 : Int64) (a1 : Int64) : Bool :=
  if ((a1).toInt32) = 0 then
    if (f_Fi_source a0) = 0 then
      true
    else
      if (f_Fi_immediate a1) = 0 then
        true
      else
        false
  else
    false
set_option maxHeartbeats 4000000 in
set_option maxRecDepth 100000 in
theorem c_Fo_isSecondOf (l : Launch) (Hp : Heap) (a0 : Int64) (a1 : Int64) : Met l yFo_isSecondOf wsFo_isSecondOf ({ frames := 1, cells := 0, slots := 0, locals := 21 }) (va_Pc [.long a0, .long a1] (fun U => U.heap = Hp)) (va_Qi (fun (r : Int32) (_ : Unit) => r = (bI (f_Fo_isSecondOf a0 a1))) (fun _ t => t.heap = Hp) (fun _ => False)) 0 0 (fun _ => False) := by
  refine Met.ofW (cc := cFo_isSecondOf) (maxL := 5) (ret := (some .boolean)) (by decide) rfl ?_
  intro p e s m args below meth c s₁ B hml hv
  obtain ⟨rfl, rfl⟩ := hv
  have hx := B.exec
  have hb := B.bytes
  have hr := B.returns
  have hT : ∀ w ∈ tB, w.before _ s = true := fun w h => atoms_spec (ws := wsFo_isSecondOf) B.pre w (List.mem_cons_of_mem _ h)
  have hown : s.vm.findClass "CompiledProgram$Form" = some m.cls := findClass_of_methodNamed B.named
  have hlocks := B.notSynchronized
  have hS : va_S (fun _ => False) s.heap s.heap [] := va_S.rf
  have hl := lv_entry ([.long a0, .long a1]) (n := 5) (Nat.le_of_ble_eq_true rfl)
  rw [lg_entry_eq]
  generalize (lg_sl ([.long a0, .long a1]) ++ List.replicate (5 - (lg_sl ([.long a0, .long a1])).length) Slot.unset).toArray = ls at hl ⊢
  have hl : lv_has ls 5 [(0, .long a0), (2, .long a1)] := hl
  refine lv_lload_n hx hb dFo_isSecondOf_0 rfl (lv_at hl 1 rfl) ?_
  refine lv_l2i hx hb dFo_isSecondOf_1 rfl ?_
  refine lv_if_ne (tgt := 9) hx hb dFo_isSecondOf_2 (by decide) (fun c1 => ?_) (fun c1 => ?_)
  · skip
    refine lv_iconst (v := (0 : Int32)) hx hb dFo_isSecondOf_9 (by decide) ?_
    refine lv_istore (lv' := [(4, .int (0 : Int32)), (0, .long a0), (2, .long a1)]) hx hb dFo_isSecondOf_10 hl (by decide) rfl (fun ls hl => ?_)
    refine lv_iload hx hb dFo_isSecondOf_12 (lv_at hl 0 rfl) ?_
    refine lv_if_eq (tgt := 35) hx hb dFo_isSecondOf_14 (by decide) (fun _ => ?_) (fun c2 => absurd c2 (by decide))
    refine lv_iconst (v := (0 : Int32)) hx hb dFo_isSecondOf_35 (by decide) ?_
    exact W.zret (v := (0 : Int32)) hx hb hr rfl (fun t ht hW => ⟨⟨(0 : Int32), (), rfl, (by unfold f_Fo_isSecondOf; rw [if_neg c1]; try rfl), ht⟩, hS.F ht⟩) hS.2.2 dFo_isSecondOf_36
  · skip
    refine lv_iconst (v := (1 : Int32)) hx hb dFo_isSecondOf_5 (by decide) ?_
    refine lv_goto (tgt := 10) hx hb dFo_isSecondOf_6 (by decide) ?_
    refine lv_istore (lv' := [(4, .int (1 : Int32)), (0, .long a0), (2, .long a1)]) hx hb dFo_isSecondOf_10 hl (by decide) rfl (fun ls hl => ?_)
    refine lv_iload hx hb dFo_isSecondOf_12 (lv_at hl 0 rfl) ?_
    refine lv_if_eq (tgt := 35) hx hb dFo_isSecondOf_14 (by decide) (fun c3 => absurd c3 (by decide)) (fun _ => ?_)
    refine lv_lload_n hx hb dFo_isSecondOf_17 rfl (lv_at hl 1 rfl) ?_
    refine va_calli (va_runS (As := [.long a0]) (rest := []) ⟨hx, hb, hml, hown, hT⟩ (c_Fi_source l s.heap a0) (va_cwS 1 hT (gB_SV mw_137 mw_138 mw_16 mw_139) rfl rfl rfl (by decide +kernel) ⟨Nat.le_of_ble_eq_true rfl, Nat.le_of_ble_eq_true rfl⟩) ⟨fun _ _ _ _ q => q, fun U hU hW => ⟨rfl, hU⟩⟩ rfl rfl hl.1 rfl (lv_room (Nat.le_of_ble_eq_true rfl)) dFo_isSecondOf_18 ⟨Nat.zero_le _, Nat.zero_le _⟩) hS (fun _ _ h => h.elim) (fun _ h => h.elim) (fun r u t H1 locs ht hvm hw hB hz8 hk8 hS => ?_)
    obtain rfl : s.heap = H1 := hB.symm.trans ht
    subst hw
    refine lv_if_eq (tgt := 31) hx hb dFo_isSecondOf_21 (by decide) (fun c4 => ?_) (fun c4 => ?_)
    · skip
      refine lv_iconst (v := (1 : Int32)) hx hb dFo_isSecondOf_31 (by decide) ?_
      refine lv_goto (tgt := 36) hx hb dFo_isSecondOf_32 (by decide) ?_
      exact W.zret (v := (1 : Int32)) hx hb hr rfl (fun t ht hW => ⟨⟨(1 : Int32), (), rfl, (by unfold f_Fo_isSecondOf; rw [if_pos c1, if_pos c4]; try rfl), ht⟩, hS.F ht⟩) hS.2.2 dFo_isSecondOf_36
    · skip
      refine lv_lload_n hx hb dFo_isSecondOf_24 rfl (lv_at hl 2 rfl) ?_
      refine va_calli (va_runS (As := [.long a1]) (rest := []) ⟨hx, hb, hml, hown, hT⟩ (c_Fi_immediate l s.heap a1) (va_cwS 1 hT (gB_SV mw_152 mw_153 mw_16 mw_154) rfl rfl rfl (by decide +kernel) ⟨Nat.le_of_ble_eq_true rfl, Nat.le_of_ble_eq_true rfl⟩) ⟨fun _ _ _ _ q => q, fun U hU hW => ⟨rfl, hU⟩⟩ rfl rfl hl.1 rfl (lv_room (Nat.le_of_ble_eq_true rfl)) dFo_isSecondOf_25 ⟨Nat.zero_le _, Nat.zero_le _⟩) hS (fun _ _ h => h.elim) (fun _ h => h.elim) (fun r u t H1 locs ht hvm hw hB hz8 hk8 hS => ?_)
      obtain rfl : s.heap = H1 := hB.symm.trans ht
      subst hw
      refine lv_if_ne (tgt := 35) hx hb dFo_isSecondOf_28 (by decide) (fun c5 => ?_) (fun c5 => ?_)
      · skip
        refine lv_iconst (v := (0 : Int32)) hx hb dFo_isSecondOf_35 (by decide) ?_
        exact W.zret (v := (0 : Int32)) hx hb hr rfl (fun t ht hW => ⟨⟨(0 : Int32), (), rfl, (by unfold f_Fo_isSecondOf; rw [if_pos c1, if_neg c4, if_neg c5]; try rfl), ht⟩, hS.F ht⟩) hS.2.2 dFo_isSecondOf_36
      · skip
        refine lv_iconst (v := (1 : Int32)) hx hb dFo_isSecondOf_31 (by decide) ?_
        refine lv_goto (tgt := 36) hx hb dFo_isSecondOf_32 (by decide) ?_
        exact W.zret (v := (1 : Int32)) hx hb hr rfl (fun t ht hW => ⟨⟨(1 : Int32), (), rfl, (by unfold f_Fo_isSecondOf; rw [if_pos c1, if_neg c4, if_pos c5]; try rfl), ht⟩, hS.F ht⟩) hS.2.2 dFo_isSecondOf_36

def f_Fo_isRead (a0 : Int64) : Bool :=
  if (f_Fi_mode a0) = (3 : Int32) then
    if (f_Fi_immediate a0) = 0 then
      if (9 : Int32) < (f_Fi_target a0) then
        false
      else
        if (10 : Int32) < (f_Fi_source a0) then
          false
        else
          true
    else
      false
  else
    if (f_Fi_mode a0) = (4 : Int32) then
      if (8 : Int32) ≤ (f_Fi_size a0) then
        false
      else
        if (f_Fi_immediate a0) = 0 then
          if (9 : Int32) < (f_Fi_target a0) then
            false
          else
            if (10 : Int32) < (f_Fi_source a0) then
              false
            else
              true
        else
          false
    else
      false
set_option maxHeartbeats 4000000 in
set_option maxRecDepth 100000 in
theorem c_Fo_isRead (l : Launch) (Hp : Heap) (a0 : Int64) : Met l yFo_isRead wsFo_isRead ({ frames := 1, cells := 0, slots := 0, locals := 21 }) (va_Pc [.long a0] (fun U => U.heap = Hp)) (va_Qi (fun (r : Int32) (_ : Unit) => r = (bI (f_Fo_isRead a0))) (fun _ t => t.heap = Hp) (fun _ => False)) 0 0 (fun _ => False) := by
  refine Met.ofW (cc := cFo_isRead) (maxL := 3) (ret := (some .boolean)) (by decide) rfl ?_
  intro p e s m args below meth c s₁ B hml hv
  obtain ⟨rfl, rfl⟩ := hv
  have hx := B.exec
  have hb := B.bytes
  have hr := B.returns
  have hT : ∀ w ∈ tB, w.before _ s = true := fun w h => atoms_spec (ws := wsFo_isRead) B.pre w (List.mem_cons_of_mem _ h)
  have hown : s.vm.findClass "CompiledProgram$Form" = some m.cls := findClass_of_methodNamed B.named
  have hlocks := B.notSynchronized
  have hS : va_S (fun _ => False) s.heap s.heap [] := va_S.rf
  have hl := lv_entry ([.long a0]) (n := 3) (Nat.le_of_ble_eq_true rfl)
  rw [lg_entry_eq]
  generalize (lg_sl ([.long a0]) ++ List.replicate (3 - (lg_sl ([.long a0])).length) Slot.unset).toArray = ls at hl ⊢
  have hl : lv_has ls 3 [(0, .long a0)] := hl
  refine lv_lload_n hx hb dFo_isRead_0 rfl (lv_at hl 0 rfl) ?_
  refine va_calli (va_runS (As := [.long a0]) (rest := []) ⟨hx, hb, hml, hown, hT⟩ (c_Fi_mode l s.heap a0) (va_cwS 1 hT (gB_SV mw_158 mw_159 mw_16 mw_160) rfl rfl rfl (by decide +kernel) ⟨Nat.le_of_ble_eq_true rfl, Nat.le_of_ble_eq_true rfl⟩) ⟨fun _ _ _ _ q => q, fun U hU hW => ⟨rfl, hU⟩⟩ rfl rfl hl.1 rfl (lv_room (Nat.le_of_ble_eq_true rfl)) dFo_isRead_1 ⟨Nat.zero_le _, Nat.zero_le _⟩) hS (fun _ _ h => h.elim) (fun _ h => h.elim) (fun r u t H1 locs ht hvm hw hB hz8 hk8 hS => ?_)
  obtain rfl : s.heap = H1 := hB.symm.trans ht
  subst hw
  refine lv_istore_n (lv' := [(2, .int (f_Fi_mode a0)), (0, .long a0)]) hx hb dFo_isRead_4 rfl hl (by decide) rfl (fun ls hl => ?_)
  refine lv_iload_n hx hb dFo_isRead_5 rfl (lv_at hl 0 rfl) ?_
  refine lv_iconst (v := (3 : Int32)) hx hb dFo_isRead_6 (by decide) ?_
  refine lv_icmp_eq (tgt := 24) hx hb dFo_isRead_7 (by decide) (fun c1 => ?_) (fun c1 => ?_)
  · skip
    refine lv_lload_n hx hb dFo_isRead_24 rfl (lv_at hl 1 rfl) ?_
    refine va_calli (va_runS (As := [.long a0]) (rest := []) ⟨hx, hb, hml, hown, hT⟩ (c_Fi_immediate l s.heap a0) (va_cwS 1 hT (gB_SV mw_152 mw_153 mw_16 mw_154) rfl rfl rfl (by decide +kernel) ⟨Nat.le_of_ble_eq_true rfl, Nat.le_of_ble_eq_true rfl⟩) ⟨fun _ _ _ _ q => q, fun U hU hW => ⟨rfl, hU⟩⟩ rfl rfl hl.1 rfl (lv_room (Nat.le_of_ble_eq_true rfl)) dFo_isRead_25 ⟨Nat.zero_le _, Nat.zero_le _⟩) hS (fun _ _ h => h.elim) (fun _ h => h.elim) (fun r u t H1 locs ht hvm hw hB hz8 hk8 hS => ?_)
    obtain rfl : s.heap = H1 := hB.symm.trans ht
    subst hw
    refine lv_if_ne (tgt := 53) hx hb dFo_isRead_28 (by decide) (fun c2 => ?_) (fun c2 => ?_)
    · skip
      refine lv_iconst (v := (0 : Int32)) hx hb dFo_isRead_53 (by decide) ?_
      exact W.zret (v := (0 : Int32)) hx hb hr rfl (fun t ht hW => ⟨⟨(0 : Int32), (), rfl, (by unfold f_Fo_isRead; rw [if_pos c1, if_neg c2]; try rfl), ht⟩, hS.F ht⟩) hS.2.2 dFo_isRead_54
    · skip
      refine lv_lload_n hx hb dFo_isRead_31 rfl (lv_at hl 1 rfl) ?_
      refine va_calli (va_runS (As := [.long a0]) (rest := []) ⟨hx, hb, hml, hown, hT⟩ (c_Fi_target l s.heap a0) (va_cwS 1 hT (gB_SV mw_146 mw_147 mw_16 mw_148) rfl rfl rfl (by decide +kernel) ⟨Nat.le_of_ble_eq_true rfl, Nat.le_of_ble_eq_true rfl⟩) ⟨fun _ _ _ _ q => q, fun U hU hW => ⟨rfl, hU⟩⟩ rfl rfl hl.1 rfl (lv_room (Nat.le_of_ble_eq_true rfl)) dFo_isRead_32 ⟨Nat.zero_le _, Nat.zero_le _⟩) hS (fun _ _ h => h.elim) (fun _ h => h.elim) (fun r u t H1 locs ht hvm hw hB hz8 hk8 hS => ?_)
      obtain rfl : s.heap = H1 := hB.symm.trans ht
      subst hw
      refine lv_bipush (v := (9 : Int32)) hx hb dFo_isRead_35 (by decide) ?_
      refine lv_icmp_gt (tgt := 53) hx hb dFo_isRead_37 (by decide) (fun c3 => ?_) (fun c3 => ?_)
      · skip
        refine lv_iconst (v := (0 : Int32)) hx hb dFo_isRead_53 (by decide) ?_
        exact W.zret (v := (0 : Int32)) hx hb hr rfl (fun t ht hW => ⟨⟨(0 : Int32), (), rfl, (by unfold f_Fo_isRead; rw [if_pos c1, if_pos c2, if_pos c3]; try rfl), ht⟩, hS.F ht⟩) hS.2.2 dFo_isRead_54
      · skip
        refine lv_lload_n hx hb dFo_isRead_40 rfl (lv_at hl 1 rfl) ?_
        refine va_calli (va_runS (As := [.long a0]) (rest := []) ⟨hx, hb, hml, hown, hT⟩ (c_Fi_source l s.heap a0) (va_cwS 1 hT (gB_SV mw_137 mw_138 mw_16 mw_139) rfl rfl rfl (by decide +kernel) ⟨Nat.le_of_ble_eq_true rfl, Nat.le_of_ble_eq_true rfl⟩) ⟨fun _ _ _ _ q => q, fun U hU hW => ⟨rfl, hU⟩⟩ rfl rfl hl.1 rfl (lv_room (Nat.le_of_ble_eq_true rfl)) dFo_isRead_41 ⟨Nat.zero_le _, Nat.zero_le _⟩) hS (fun _ _ h => h.elim) (fun _ h => h.elim) (fun r u t H1 locs ht hvm hw hB hz8 hk8 hS => ?_)
        obtain rfl : s.heap = H1 := hB.symm.trans ht
        subst hw
        refine lv_bipush (v := (10 : Int32)) hx hb dFo_isRead_44 (by decide) ?_
        refine lv_icmp_gt (tgt := 53) hx hb dFo_isRead_46 (by decide) (fun c4 => ?_) (fun c4 => ?_)
        · skip
          refine lv_iconst (v := (0 : Int32)) hx hb dFo_isRead_53 (by decide) ?_
          exact W.zret (v := (0 : Int32)) hx hb hr rfl (fun t ht hW => ⟨⟨(0 : Int32), (), rfl, (by unfold f_Fo_isRead; rw [if_pos c1, if_pos c2, if_neg c3, if_pos c4]; try rfl), ht⟩, hS.F ht⟩) hS.2.2 dFo_isRead_54
        · skip
          refine lv_iconst (v := (1 : Int32)) hx hb dFo_isRead_49 (by decide) ?_
          refine lv_goto (tgt := 54) hx hb dFo_isRead_50 (by decide) ?_
          exact W.zret (v := (1 : Int32)) hx hb hr rfl (fun t ht hW => ⟨⟨(1 : Int32), (), rfl, (by unfold f_Fo_isRead; rw [if_pos c1, if_pos c2, if_neg c3, if_neg c4]; try rfl), ht⟩, hS.F ht⟩) hS.2.2 dFo_isRead_54
  · skip
    refine lv_iload_n hx hb dFo_isRead_10 rfl (lv_at hl 0 rfl) ?_
    refine lv_iconst (v := (4 : Int32)) hx hb dFo_isRead_11 (by decide) ?_
    refine lv_icmp_ne (tgt := 53) hx hb dFo_isRead_12 (by decide) (fun c5 => ?_) (fun c5 => ?_)
    · skip
      refine lv_iconst (v := (0 : Int32)) hx hb dFo_isRead_53 (by decide) ?_
      exact W.zret (v := (0 : Int32)) hx hb hr rfl (fun t ht hW => ⟨⟨(0 : Int32), (), rfl, (by unfold f_Fo_isRead; rw [if_neg c1, if_neg c5]; try rfl), ht⟩, hS.F ht⟩) hS.2.2 dFo_isRead_54
    · skip
      refine lv_lload_n hx hb dFo_isRead_15 rfl (lv_at hl 1 rfl) ?_
      refine va_calli (va_runS (As := [.long a0]) (rest := []) ⟨hx, hb, hml, hown, hT⟩ (c_Fi_size l s.heap a0) (va_cwS 1 hT (gB_SV mw_161 mw_162 mw_16 mw_163) rfl rfl rfl (by decide +kernel) ⟨Nat.le_of_ble_eq_true rfl, Nat.le_of_ble_eq_true rfl⟩) ⟨fun _ _ _ _ q => q, fun U hU hW => ⟨rfl, hU⟩⟩ rfl rfl hl.1 rfl (lv_room (Nat.le_of_ble_eq_true rfl)) dFo_isRead_16 ⟨Nat.zero_le _, Nat.zero_le _⟩) hS (fun _ _ h => h.elim) (fun _ h => h.elim) (fun r u t H1 locs ht hvm hw hB hz8 hk8 hS => ?_)
      obtain rfl : s.heap = H1 := hB.symm.trans ht
      subst hw
      refine lv_bipush (v := (8 : Int32)) hx hb dFo_isRead_19 (by decide) ?_
      refine lv_icmp_ge (tgt := 53) hx hb dFo_isRead_21 (by decide) (fun c6 => ?_) (fun c6 => ?_)
      · skip
        refine lv_iconst (v := (0 : Int32)) hx hb dFo_isRead_53 (by decide) ?_
        exact W.zret (v := (0 : Int32)) hx hb hr rfl (fun t ht hW => ⟨⟨(0 : Int32), (), rfl, (by unfold f_Fo_isRead; rw [if_neg c1, if_pos c5, if_pos c6]; try rfl), ht⟩, hS.F ht⟩) hS.2.2 dFo_isRead_54
      · skip
        refine lv_lload_n hx hb dFo_isRead_24 rfl (lv_at hl 1 rfl) ?_
        refine va_calli (va_runS (As := [.long a0]) (rest := []) ⟨hx, hb, hml, hown, hT⟩ (c_Fi_immediate l s.heap a0) (va_cwS 1 hT (gB_SV mw_152 mw_153 mw_16 mw_154) rfl rfl rfl (by decide +kernel) ⟨Nat.le_of_ble_eq_true rfl, Nat.le_of_ble_eq_true rfl⟩) ⟨fun _ _ _ _ q => q, fun U hU hW => ⟨rfl, hU⟩⟩ rfl rfl hl.1 rfl (lv_room (Nat.le_of_ble_eq_true rfl)) dFo_isRead_25 ⟨Nat.zero_le _, Nat.zero_le _⟩) hS (fun _ _ h => h.elim) (fun _ h => h.elim) (fun r u t H1 locs ht hvm hw hB hz8 hk8 hS => ?_)
        obtain rfl : s.heap = H1 := hB.symm.trans ht
        subst hw
        refine lv_if_ne (tgt := 53) hx hb dFo_isRead_28 (by decide) (fun c7 => ?_) (fun c7 => ?_)
        · skip
          refine lv_iconst (v := (0 : Int32)) hx hb dFo_isRead_53 (by decide) ?_
          exact W.zret (v := (0 : Int32)) hx hb hr rfl (fun t ht hW => ⟨⟨(0 : Int32), (), rfl, (by unfold f_Fo_isRead; rw [if_neg c1, if_pos c5, if_neg c6, if_neg c7]; try rfl), ht⟩, hS.F ht⟩) hS.2.2 dFo_isRead_54
        · skip
          refine lv_lload_n hx hb dFo_isRead_31 rfl (lv_at hl 1 rfl) ?_
          refine va_calli (va_runS (As := [.long a0]) (rest := []) ⟨hx, hb, hml, hown, hT⟩ (c_Fi_target l s.heap a0) (va_cwS 1 hT (gB_SV mw_146 mw_147 mw_16 mw_148) rfl rfl rfl (by decide +kernel) ⟨Nat.le_of_ble_eq_true rfl, Nat.le_of_ble_eq_true rfl⟩) ⟨fun _ _ _ _ q => q, fun U hU hW => ⟨rfl, hU⟩⟩ rfl rfl hl.1 rfl (lv_room (Nat.le_of_ble_eq_true rfl)) dFo_isRead_32 ⟨Nat.zero_le _, Nat.zero_le _⟩) hS (fun _ _ h => h.elim) (fun _ h => h.elim) (fun r u t H1 locs ht hvm hw hB hz8 hk8 hS => ?_)
          obtain rfl : s.heap = H1 := hB.symm.trans ht
          subst hw
          refine lv_bipush (v := (9 : Int32)) hx hb dFo_isRead_35 (by decide) ?_
          refine lv_icmp_gt (tgt := 53) hx hb dFo_isRead_37 (by decide) (fun c8 => ?_) (fun c8 => ?_)
          · skip
            refine lv_iconst (v := (0 : Int32)) hx hb dFo_isRead_53 (by decide) ?_
            exact W.zret (v := (0 : Int32)) hx hb hr rfl (fun t ht hW => ⟨⟨(0 : Int32), (), rfl, (by unfold f_Fo_isRead; rw [if_neg c1, if_pos c5, if_neg c6, if_pos c7, if_pos c8]; try rfl), ht⟩, hS.F ht⟩) hS.2.2 dFo_isRead_54
          · skip
            refine lv_lload_n hx hb dFo_isRead_40 rfl (lv_at hl 1 rfl) ?_
            refine va_calli (va_runS (As := [.long a0]) (rest := []) ⟨hx, hb, hml, hown, hT⟩ (c_Fi_source l s.heap a0) (va_cwS 1 hT (gB_SV mw_137 mw_138 mw_16 mw_139) rfl rfl rfl (by decide +kernel) ⟨Nat.le_of_ble_eq_true rfl, Nat.le_of_ble_eq_true rfl⟩) ⟨fun _ _ _ _ q => q, fun U hU hW => ⟨rfl, hU⟩⟩ rfl rfl hl.1 rfl (lv_room (Nat.le_of_ble_eq_true rfl)) dFo_isRead_41 ⟨Nat.zero_le _, Nat.zero_le _⟩) hS (fun _ _ h => h.elim) (fun _ h => h.elim) (fun r u t H1 locs ht hvm hw hB hz8 hk8 hS => ?_)
            obtain rfl : s.heap = H1 := hB.symm.trans ht
            subst hw
            refine lv_bipush (v := (10 : Int32)) hx hb dFo_isRead_44 (by decide) ?_
            refine lv_icmp_gt (tgt := 53) hx hb dFo_isRead_46 (by decide) (fun c9 => ?_) (fun c9 => ?_)
            · skip
              refine lv_iconst (v := (0 : Int32)) hx hb dFo_isRead_53 (by decide) ?_
              exact W.zret (v := (0 : Int32)) hx hb hr rfl (fun t ht hW => ⟨⟨(0 : Int32), (), rfl, (by unfold f_Fo_isRead; rw [if_neg c1, if_pos c5, if_neg c6, if_pos c7, if_neg c8, if_pos c9]; try rfl), ht⟩, hS.F ht⟩) hS.2.2 dFo_isRead_54
            · skip
              refine lv_iconst (v := (1 : Int32)) hx hb dFo_isRead_49 (by decide) ?_
              refine lv_goto (tgt := 54) hx hb dFo_isRead_50 (by decide) ?_
              exact W.zret (v := (1 : Int32)) hx hb hr rfl (fun t ht hW => ⟨⟨(1 : Int32), (), rfl, (by unfold f_Fo_isRead; rw [if_neg c1, if_pos c5, if_neg c6, if_pos c7, if_neg c8, if_neg c9]; try rfl), ht⟩, hS.F ht⟩) hS.2.2 dFo_isRead_54

def f_Fo_isWriteOfNumber (a0 : Int64) : Bool :=
  if (f_Fi_mode a0) = (3 : Int32) then
    if (10 : Int32) < (f_Fi_target a0) then
      false
    else
      if (f_Fi_source a0) = 0 then
        true
      else
        false
  else
    false
set_option maxHeartbeats 4000000 in
set_option maxRecDepth 100000 in
theorem c_Fo_isWriteOfNumber (l : Launch) (Hp : Heap) (a0 : Int64) : Met l yFo_isWriteOfNumber wsFo_isWriteOfNumber ({ frames := 1, cells := 0, slots := 0, locals := 21 }) (va_Pc [.long a0] (fun U => U.heap = Hp)) (va_Qi (fun (r : Int32) (_ : Unit) => r = (bI (f_Fo_isWriteOfNumber a0))) (fun _ t => t.heap = Hp) (fun _ => False)) 0 0 (fun _ => False) := by
  refine Met.ofW (cc := cFo_isWriteOfNumber) (maxL := 2) (ret := (some .boolean)) (by decide) rfl ?_
  intro p e s m args below meth c s₁ B hml hv
  obtain ⟨rfl, rfl⟩ := hv
  have hx := B.exec
  have hb := B.bytes
  have hr := B.returns
  have hT : ∀ w ∈ tB, w.before _ s = true := fun w h => atoms_spec (ws := wsFo_isWriteOfNumber) B.pre w (List.mem_cons_of_mem _ h)
  have hown : s.vm.findClass "CompiledProgram$Form" = some m.cls := findClass_of_methodNamed B.named
  have hlocks := B.notSynchronized
  have hS : va_S (fun _ => False) s.heap s.heap [] := va_S.rf
  have hl := lv_entry ([.long a0]) (n := 2) (Nat.le_of_ble_eq_true rfl)
  rw [lg_entry_eq]
  generalize (lg_sl ([.long a0]) ++ List.replicate (2 - (lg_sl ([.long a0])).length) Slot.unset).toArray = ls at hl ⊢
  have hl : lv_has ls 2 [(0, .long a0)] := hl
  refine lv_lload_n hx hb dFo_isWriteOfNumber_0 rfl (lv_at hl 0 rfl) ?_
  refine va_calli (va_runS (As := [.long a0]) (rest := []) ⟨hx, hb, hml, hown, hT⟩ (c_Fi_mode l s.heap a0) (va_cwS 1 hT (gB_SV mw_158 mw_159 mw_16 mw_160) rfl rfl rfl (by decide +kernel) ⟨Nat.le_of_ble_eq_true rfl, Nat.le_of_ble_eq_true rfl⟩) ⟨fun _ _ _ _ q => q, fun U hU hW => ⟨rfl, hU⟩⟩ rfl rfl hl.1 rfl (lv_room (Nat.le_of_ble_eq_true rfl)) dFo_isWriteOfNumber_1 ⟨Nat.zero_le _, Nat.zero_le _⟩) hS (fun _ _ h => h.elim) (fun _ h => h.elim) (fun r u t H1 locs ht hvm hw hB hz8 hk8 hS => ?_)
  obtain rfl : s.heap = H1 := hB.symm.trans ht
  subst hw
  refine lv_iconst (v := (3 : Int32)) hx hb dFo_isWriteOfNumber_4 (by decide) ?_
  refine lv_icmp_ne (tgt := 28) hx hb dFo_isWriteOfNumber_5 (by decide) (fun c1 => ?_) (fun c1 => ?_)
  · skip
    refine lv_iconst (v := (0 : Int32)) hx hb dFo_isWriteOfNumber_28 (by decide) ?_
    exact W.zret (v := (0 : Int32)) hx hb hr rfl (fun t ht hW => ⟨⟨(0 : Int32), (), rfl, (by unfold f_Fo_isWriteOfNumber; rw [if_neg c1]; try rfl), ht⟩, hS.F ht⟩) hS.2.2 dFo_isWriteOfNumber_29
  · skip
    refine lv_lload_n hx hb dFo_isWriteOfNumber_8 rfl (lv_at hl 0 rfl) ?_
    refine va_calli (va_runS (As := [.long a0]) (rest := []) ⟨hx, hb, hml, hown, hT⟩ (c_Fi_target l s.heap a0) (va_cwS 1 hT (gB_SV mw_146 mw_147 mw_16 mw_148) rfl rfl rfl (by decide +kernel) ⟨Nat.le_of_ble_eq_true rfl, Nat.le_of_ble_eq_true rfl⟩) ⟨fun _ _ _ _ q => q, fun U hU hW => ⟨rfl, hU⟩⟩ rfl rfl hl.1 rfl (lv_room (Nat.le_of_ble_eq_true rfl)) dFo_isWriteOfNumber_9 ⟨Nat.zero_le _, Nat.zero_le _⟩) hS (fun _ _ h => h.elim) (fun _ h => h.elim) (fun r u t H1 locs ht hvm hw hB hz8 hk8 hS => ?_)
    obtain rfl : s.heap = H1 := hB.symm.trans ht
    subst hw
    refine lv_bipush (v := (10 : Int32)) hx hb dFo_isWriteOfNumber_12 (by decide) ?_
    refine lv_icmp_gt (tgt := 28) hx hb dFo_isWriteOfNumber_14 (by decide) (fun c2 => ?_) (fun c2 => ?_)
    · skip
      refine lv_iconst (v := (0 : Int32)) hx hb dFo_isWriteOfNumber_28 (by decide) ?_
      exact W.zret (v := (0 : Int32)) hx hb hr rfl (fun t ht hW => ⟨⟨(0 : Int32), (), rfl, (by unfold f_Fo_isWriteOfNumber; rw [if_pos c1, if_pos c2]; try rfl), ht⟩, hS.F ht⟩) hS.2.2 dFo_isWriteOfNumber_29
    · skip
      refine lv_lload_n hx hb dFo_isWriteOfNumber_17 rfl (lv_at hl 0 rfl) ?_
      refine va_calli (va_runS (As := [.long a0]) (rest := []) ⟨hx, hb, hml, hown, hT⟩ (c_Fi_source l s.heap a0) (va_cwS 1 hT (gB_SV mw_137 mw_138 mw_16 mw_139) rfl rfl rfl (by decide +kernel) ⟨Nat.le_of_ble_eq_true rfl, Nat.le_of_ble_eq_true rfl⟩) ⟨fun _ _ _ _ q => q, fun U hU hW => ⟨rfl, hU⟩⟩ rfl rfl hl.1 rfl (lv_room (Nat.le_of_ble_eq_true rfl)) dFo_isWriteOfNumber_18 ⟨Nat.zero_le _, Nat.zero_le _⟩) hS (fun _ _ h => h.elim) (fun _ h => h.elim) (fun r u t H1 locs ht hvm hw hB hz8 hk8 hS => ?_)
      obtain rfl : s.heap = H1 := hB.symm.trans ht
      subst hw
      refine lv_if_ne (tgt := 28) hx hb dFo_isWriteOfNumber_21 (by decide) (fun c3 => ?_) (fun c3 => ?_)
      · skip
        refine lv_iconst (v := (0 : Int32)) hx hb dFo_isWriteOfNumber_28 (by decide) ?_
        exact W.zret (v := (0 : Int32)) hx hb hr rfl (fun t ht hW => ⟨⟨(0 : Int32), (), rfl, (by unfold f_Fo_isWriteOfNumber; rw [if_pos c1, if_neg c2, if_neg c3]; try rfl), ht⟩, hS.F ht⟩) hS.2.2 dFo_isWriteOfNumber_29
      · skip
        refine lv_iconst (v := (1 : Int32)) hx hb dFo_isWriteOfNumber_24 (by decide) ?_
        refine lv_goto (tgt := 29) hx hb dFo_isWriteOfNumber_25 (by decide) ?_
        exact W.zret (v := (1 : Int32)) hx hb hr rfl (fun t ht hW => ⟨⟨(1 : Int32), (), rfl, (by unfold f_Fo_isWriteOfNumber; rw [if_pos c1, if_neg c2, if_pos c3]; try rfl), ht⟩, hS.F ht⟩) hS.2.2 dFo_isWriteOfNumber_29

def f_Fo_isWriteOfRegister (a0 : Int64) : Bool :=
  if (f_Fi_mode a0) = (3 : Int32) then
    if (f_Fi_immediate a0) = 0 then
      if (10 : Int32) < (f_Fi_target a0) then
        false
      else
        if (10 : Int32) < (f_Fi_source a0) then
          false
        else
          true
    else
      false
  else
    false
set_option maxHeartbeats 4000000 in
set_option maxRecDepth 100000 in
theorem c_Fo_isWriteOfRegister (l : Launch) (Hp : Heap) (a0 : Int64) : Met l yFo_isWriteOfRegister wsFo_isWriteOfRegister ({ frames := 1, cells := 0, slots := 0, locals := 21 }) (va_Pc [.long a0] (fun U => U.heap = Hp)) (va_Qi (fun (r : Int32) (_ : Unit) => r = (bI (f_Fo_isWriteOfRegister a0))) (fun _ t => t.heap = Hp) (fun _ => False)) 0 0 (fun _ => False) := by
  refine Met.ofW (cc := cFo_isWriteOfRegister) (maxL := 2) (ret := (some .boolean)) (by decide) rfl ?_
  intro p e s m args below meth c s₁ B hml hv
  obtain ⟨rfl, rfl⟩ := hv
  have hx := B.exec
  have hb := B.bytes
  have hr := B.returns
  have hT : ∀ w ∈ tB, w.before _ s = true := fun w h => atoms_spec (ws := wsFo_isWriteOfRegister) B.pre w (List.mem_cons_of_mem _ h)
  have hown : s.vm.findClass "CompiledProgram$Form" = some m.cls := findClass_of_methodNamed B.named
  have hlocks := B.notSynchronized
  have hS : va_S (fun _ => False) s.heap s.heap [] := va_S.rf
  have hl := lv_entry ([.long a0]) (n := 2) (Nat.le_of_ble_eq_true rfl)
  rw [lg_entry_eq]
  generalize (lg_sl ([.long a0]) ++ List.replicate (2 - (lg_sl ([.long a0])).length) Slot.unset).toArray = ls at hl ⊢
  have hl : lv_has ls 2 [(0, .long a0)] := hl
  refine lv_lload_n hx hb dFo_isWriteOfRegister_0 rfl (lv_at hl 0 rfl) ?_
  refine va_calli (va_runS (As := [.long a0]) (rest := []) ⟨hx, hb, hml, hown, hT⟩ (c_Fi_mode l s.heap a0) (va_cwS 1 hT (gB_SV mw_158 mw_159 mw_16 mw_160) rfl rfl rfl (by decide +kernel) ⟨Nat.le_of_ble_eq_true rfl, Nat.le_of_ble_eq_true rfl⟩) ⟨fun _ _ _ _ q => q, fun U hU hW => ⟨rfl, hU⟩⟩ rfl rfl hl.1 rfl (lv_room (Nat.le_of_ble_eq_true rfl)) dFo_isWriteOfRegister_1 ⟨Nat.zero_le _, Nat.zero_le _⟩) hS (fun _ _ h => h.elim) (fun _ h => h.elim) (fun r u t H1 locs ht hvm hw hB hz8 hk8 hS => ?_)
  obtain rfl : s.heap = H1 := hB.symm.trans ht
  subst hw
  refine lv_iconst (v := (3 : Int32)) hx hb dFo_isWriteOfRegister_4 (by decide) ?_
  refine lv_icmp_ne (tgt := 37) hx hb dFo_isWriteOfRegister_5 (by decide) (fun c1 => ?_) (fun c1 => ?_)
  · skip
    refine lv_iconst (v := (0 : Int32)) hx hb dFo_isWriteOfRegister_37 (by decide) ?_
    exact W.zret (v := (0 : Int32)) hx hb hr rfl (fun t ht hW => ⟨⟨(0 : Int32), (), rfl, (by unfold f_Fo_isWriteOfRegister; rw [if_neg c1]; try rfl), ht⟩, hS.F ht⟩) hS.2.2 dFo_isWriteOfRegister_38
  · skip
    refine lv_lload_n hx hb dFo_isWriteOfRegister_8 rfl (lv_at hl 0 rfl) ?_
    refine va_calli (va_runS (As := [.long a0]) (rest := []) ⟨hx, hb, hml, hown, hT⟩ (c_Fi_immediate l s.heap a0) (va_cwS 1 hT (gB_SV mw_152 mw_153 mw_16 mw_154) rfl rfl rfl (by decide +kernel) ⟨Nat.le_of_ble_eq_true rfl, Nat.le_of_ble_eq_true rfl⟩) ⟨fun _ _ _ _ q => q, fun U hU hW => ⟨rfl, hU⟩⟩ rfl rfl hl.1 rfl (lv_room (Nat.le_of_ble_eq_true rfl)) dFo_isWriteOfRegister_9 ⟨Nat.zero_le _, Nat.zero_le _⟩) hS (fun _ _ h => h.elim) (fun _ h => h.elim) (fun r u t H1 locs ht hvm hw hB hz8 hk8 hS => ?_)
    obtain rfl : s.heap = H1 := hB.symm.trans ht
    subst hw
    refine lv_if_ne (tgt := 37) hx hb dFo_isWriteOfRegister_12 (by decide) (fun c2 => ?_) (fun c2 => ?_)
    · skip
      refine lv_iconst (v := (0 : Int32)) hx hb dFo_isWriteOfRegister_37 (by decide) ?_
      exact W.zret (v := (0 : Int32)) hx hb hr rfl (fun t ht hW => ⟨⟨(0 : Int32), (), rfl, (by unfold f_Fo_isWriteOfRegister; rw [if_pos c1, if_neg c2]; try rfl), ht⟩, hS.F ht⟩) hS.2.2 dFo_isWriteOfRegister_38
    · skip
      refine lv_lload_n hx hb dFo_isWriteOfRegister_15 rfl (lv_at hl 0 rfl) ?_
      refine va_calli (va_runS (As := [.long a0]) (rest := []) ⟨hx, hb, hml, hown, hT⟩ (c_Fi_target l s.heap a0) (va_cwS 1 hT (gB_SV mw_146 mw_147 mw_16 mw_148) rfl rfl rfl (by decide +kernel) ⟨Nat.le_of_ble_eq_true rfl, Nat.le_of_ble_eq_true rfl⟩) ⟨fun _ _ _ _ q => q, fun U hU hW => ⟨rfl, hU⟩⟩ rfl rfl hl.1 rfl (lv_room (Nat.le_of_ble_eq_true rfl)) dFo_isWriteOfRegister_16 ⟨Nat.zero_le _, Nat.zero_le _⟩) hS (fun _ _ h => h.elim) (fun _ h => h.elim) (fun r u t H1 locs ht hvm hw hB hz8 hk8 hS => ?_)
      obtain rfl : s.heap = H1 := hB.symm.trans ht
      subst hw
      refine lv_bipush (v := (10 : Int32)) hx hb dFo_isWriteOfRegister_19 (by decide) ?_
      refine lv_icmp_gt (tgt := 37) hx hb dFo_isWriteOfRegister_21 (by decide) (fun c3 => ?_) (fun c3 => ?_)
      · skip
        refine lv_iconst (v := (0 : Int32)) hx hb dFo_isWriteOfRegister_37 (by decide) ?_
        exact W.zret (v := (0 : Int32)) hx hb hr rfl (fun t ht hW => ⟨⟨(0 : Int32), (), rfl, (by unfold f_Fo_isWriteOfRegister; rw [if_pos c1, if_pos c2, if_pos c3]; try rfl), ht⟩, hS.F ht⟩) hS.2.2 dFo_isWriteOfRegister_38
      · skip
        refine lv_lload_n hx hb dFo_isWriteOfRegister_24 rfl (lv_at hl 0 rfl) ?_
        refine va_calli (va_runS (As := [.long a0]) (rest := []) ⟨hx, hb, hml, hown, hT⟩ (c_Fi_source l s.heap a0) (va_cwS 1 hT (gB_SV mw_137 mw_138 mw_16 mw_139) rfl rfl rfl (by decide +kernel) ⟨Nat.le_of_ble_eq_true rfl, Nat.le_of_ble_eq_true rfl⟩) ⟨fun _ _ _ _ q => q, fun U hU hW => ⟨rfl, hU⟩⟩ rfl rfl hl.1 rfl (lv_room (Nat.le_of_ble_eq_true rfl)) dFo_isWriteOfRegister_25 ⟨Nat.zero_le _, Nat.zero_le _⟩) hS (fun _ _ h => h.elim) (fun _ h => h.elim) (fun r u t H1 locs ht hvm hw hB hz8 hk8 hS => ?_)
        obtain rfl : s.heap = H1 := hB.symm.trans ht
        subst hw
        refine lv_bipush (v := (10 : Int32)) hx hb dFo_isWriteOfRegister_28 (by decide) ?_
        refine lv_icmp_gt (tgt := 37) hx hb dFo_isWriteOfRegister_30 (by decide) (fun c4 => ?_) (fun c4 => ?_)
        · skip
          refine lv_iconst (v := (0 : Int32)) hx hb dFo_isWriteOfRegister_37 (by decide) ?_
          exact W.zret (v := (0 : Int32)) hx hb hr rfl (fun t ht hW => ⟨⟨(0 : Int32), (), rfl, (by unfold f_Fo_isWriteOfRegister; rw [if_pos c1, if_pos c2, if_neg c3, if_pos c4]; try rfl), ht⟩, hS.F ht⟩) hS.2.2 dFo_isWriteOfRegister_38
        · skip
          refine lv_iconst (v := (1 : Int32)) hx hb dFo_isWriteOfRegister_33 (by decide) ?_
          refine lv_goto (tgt := 38) hx hb dFo_isWriteOfRegister_34 (by decide) ?_
          exact W.zret (v := (1 : Int32)) hx hb hr rfl (fun t ht hW => ⟨⟨(1 : Int32), (), rfl, (by unfold f_Fo_isWriteOfRegister; rw [if_pos c1, if_pos c2, if_neg c3, if_neg c4]; try rfl), ht⟩, hS.F ht⟩) hS.2.2 dFo_isWriteOfRegister_38

def f_Fo_isExchange (a0 : Int64) : Bool :=
  if (f_Fi_size a0) < (4 : Int32) then
    false
  else
    if (f_Ex_isKnown (f_Fi_immediate a0)) = true then
      if (10 : Int32) < (f_Fi_target a0) then
        false
      else
        if (f_Ex_changesSource (f_Fi_immediate a0)) = true then
          if (9 : Int32) < (f_Fi_source a0) then
            false
          else
            true
        else
          if (10 : Int32) < (f_Fi_source a0) then
            false
          else
            true
    else
      false
set_option maxHeartbeats 4000000 in
set_option maxRecDepth 100000 in
theorem c_Fo_isExchange (l : Launch) (Hp : Heap) (a0 : Int64) : Met l yFo_isExchange wsFo_isExchange ({ frames := 1, cells := 0, slots := 0, locals := 21 }) (va_Pc [.long a0] (fun U => U.heap = Hp)) (va_Qi (fun (r : Int32) (_ : Unit) => r = (bI (f_Fo_isExchange a0))) (fun _ t => t.heap = Hp) (fun _ => False)) 0 0 (fun _ => False) := by
  refine Met.ofW (cc := cFo_isExchange) (maxL := 2) (ret := (some .boolean)) (by decide) rfl ?_
  intro p e s m args below meth c s₁ B hml hv
  obtain ⟨rfl, rfl⟩ := hv
  have hx := B.exec
  have hb := B.bytes
  have hr := B.returns
  have hT : ∀ w ∈ tB, w.before _ s = true := fun w h => atoms_spec (ws := wsFo_isExchange) B.pre w (List.mem_cons_of_mem _ h)
  have hown : s.vm.findClass "CompiledProgram$Form" = some m.cls := findClass_of_methodNamed B.named
  have hlocks := B.notSynchronized
  have hS : va_S (fun _ => False) s.heap s.heap [] := va_S.rf
  have hl := lv_entry ([.long a0]) (n := 2) (Nat.le_of_ble_eq_true rfl)
  rw [lg_entry_eq]
  generalize (lg_sl ([.long a0]) ++ List.replicate (2 - (lg_sl ([.long a0])).length) Slot.unset).toArray = ls at hl ⊢
  have hl : lv_has ls 2 [(0, .long a0)] := hl
  refine lv_lload_n hx hb dFo_isExchange_0 rfl (lv_at hl 0 rfl) ?_
  refine va_calli (va_runS (As := [.long a0]) (rest := []) ⟨hx, hb, hml, hown, hT⟩ (c_Fi_size l s.heap a0) (va_cwS 1 hT (gB_SV mw_161 mw_162 mw_16 mw_163) rfl rfl rfl (by decide +kernel) ⟨Nat.le_of_ble_eq_true rfl, Nat.le_of_ble_eq_true rfl⟩) ⟨fun _ _ _ _ q => q, fun U hU hW => ⟨rfl, hU⟩⟩ rfl rfl hl.1 rfl (lv_room (Nat.le_of_ble_eq_true rfl)) dFo_isExchange_1 ⟨Nat.zero_le _, Nat.zero_le _⟩) hS (fun _ _ h => h.elim) (fun _ h => h.elim) (fun r u t H1 locs ht hvm hw hB hz8 hk8 hS => ?_)
  obtain rfl : s.heap = H1 := hB.symm.trans ht
  subst hw
  refine lv_iconst (v := (4 : Int32)) hx hb dFo_isExchange_4 (by decide) ?_
  refine lv_icmp_lt (tgt := 55) hx hb dFo_isExchange_5 (by decide) (fun c1 => ?_) (fun c1 => ?_)
  · skip
    refine lv_iconst (v := (0 : Int32)) hx hb dFo_isExchange_55 (by decide) ?_
    exact W.zret (v := (0 : Int32)) hx hb hr rfl (fun t ht hW => ⟨⟨(0 : Int32), (), rfl, (by unfold f_Fo_isExchange; rw [if_pos c1]; try rfl), ht⟩, hS.F ht⟩) hS.2.2 dFo_isExchange_56
  · skip
    refine lv_lload_n hx hb dFo_isExchange_8 rfl (lv_at hl 0 rfl) ?_
    refine va_calli (va_runS (As := [.long a0]) (rest := []) ⟨hx, hb, hml, hown, hT⟩ (c_Fi_immediate l s.heap a0) (va_cwS 1 hT (gB_SV mw_152 mw_153 mw_16 mw_154) rfl rfl rfl (by decide +kernel) ⟨Nat.le_of_ble_eq_true rfl, Nat.le_of_ble_eq_true rfl⟩) ⟨fun _ _ _ _ q => q, fun U hU hW => ⟨rfl, hU⟩⟩ rfl rfl hl.1 rfl (lv_room (Nat.le_of_ble_eq_true rfl)) dFo_isExchange_9 ⟨Nat.zero_le _, Nat.zero_le _⟩) hS (fun _ _ h => h.elim) (fun _ h => h.elim) (fun r u t H1 locs ht hvm hw hB hz8 hk8 hS => ?_)
    obtain rfl : s.heap = H1 := hB.symm.trans ht
    subst hw
    refine va_calli (va_runS (As := [.int (f_Fi_immediate a0)]) (rest := []) ⟨hx, hb, hml, hown, hT⟩ (c_Ex_isKnown l s.heap (f_Fi_immediate a0)) (va_cwS 1 hT (gB_SV mw_170 mw_171 mw_17 mw_172) rfl rfl rfl (by decide +kernel) ⟨Nat.le_of_ble_eq_true rfl, Nat.le_of_ble_eq_true rfl⟩) ⟨fun _ _ _ _ q => q, fun U hU hW => ⟨rfl, hU⟩⟩ rfl rfl hl.1 rfl (lv_room (Nat.le_of_ble_eq_true rfl)) dFo_isExchange_12 ⟨Nat.zero_le _, Nat.zero_le _⟩) hS (fun _ _ h => h.elim) (fun _ h => h.elim) (fun r u t H1 locs ht hvm hw hB hz8 hk8 hS => ?_)
    obtain rfl : s.heap = H1 := hB.symm.trans ht
    subst hw
    refine lv_if_eq (tgt := 55) hx hb dFo_isExchange_15 (by decide) (fun c2 => ?_) (fun c2 => ?_)
    · have c2 := bI_z c2
      refine lv_iconst (v := (0 : Int32)) hx hb dFo_isExchange_55 (by decide) ?_
      exact W.zret (v := (0 : Int32)) hx hb hr rfl (fun t ht hW => ⟨⟨(0 : Int32), (), rfl, (by unfold f_Fo_isExchange; rw [if_neg c1, if_neg c2]; try rfl), ht⟩, hS.F ht⟩) hS.2.2 dFo_isExchange_56
    · have c2 := bI_n c2
      refine lv_lload_n hx hb dFo_isExchange_18 rfl (lv_at hl 0 rfl) ?_
      refine va_calli (va_runS (As := [.long a0]) (rest := []) ⟨hx, hb, hml, hown, hT⟩ (c_Fi_target l s.heap a0) (va_cwS 1 hT (gB_SV mw_146 mw_147 mw_16 mw_148) rfl rfl rfl (by decide +kernel) ⟨Nat.le_of_ble_eq_true rfl, Nat.le_of_ble_eq_true rfl⟩) ⟨fun _ _ _ _ q => q, fun U hU hW => ⟨rfl, hU⟩⟩ rfl rfl hl.1 rfl (lv_room (Nat.le_of_ble_eq_true rfl)) dFo_isExchange_19 ⟨Nat.zero_le _, Nat.zero_le _⟩) hS (fun _ _ h => h.elim) (fun _ h => h.elim) (fun r u t H1 locs ht hvm hw hB hz8 hk8 hS => ?_)
      obtain rfl : s.heap = H1 := hB.symm.trans ht
      subst hw
      refine lv_bipush (v := (10 : Int32)) hx hb dFo_isExchange_22 (by decide) ?_
      refine lv_icmp_gt (tgt := 55) hx hb dFo_isExchange_24 (by decide) (fun c3 => ?_) (fun c3 => ?_)
      · skip
        refine lv_iconst (v := (0 : Int32)) hx hb dFo_isExchange_55 (by decide) ?_
        exact W.zret (v := (0 : Int32)) hx hb hr rfl (fun t ht hW => ⟨⟨(0 : Int32), (), rfl, (by unfold f_Fo_isExchange; rw [if_neg c1, if_pos c2, if_pos c3]; try rfl), ht⟩, hS.F ht⟩) hS.2.2 dFo_isExchange_56
      · skip
        refine lv_lload_n hx hb dFo_isExchange_27 rfl (lv_at hl 0 rfl) ?_
        refine va_calli (va_runS (As := [.long a0]) (rest := []) ⟨hx, hb, hml, hown, hT⟩ (c_Fi_source l s.heap a0) (va_cwS 1 hT (gB_SV mw_137 mw_138 mw_16 mw_139) rfl rfl rfl (by decide +kernel) ⟨Nat.le_of_ble_eq_true rfl, Nat.le_of_ble_eq_true rfl⟩) ⟨fun _ _ _ _ q => q, fun U hU hW => ⟨rfl, hU⟩⟩ rfl rfl hl.1 rfl (lv_room (Nat.le_of_ble_eq_true rfl)) dFo_isExchange_28 ⟨Nat.zero_le _, Nat.zero_le _⟩) hS (fun _ _ h => h.elim) (fun _ h => h.elim) (fun r u t H1 locs ht hvm hw hB hz8 hk8 hS => ?_)
        obtain rfl : s.heap = H1 := hB.symm.trans ht
        subst hw
        refine lv_lload_n hx hb dFo_isExchange_31 rfl (lv_at hl 0 rfl) ?_
        refine va_calli (va_runS (As := [.long a0]) (rest := [.int (f_Fi_source a0)]) ⟨hx, hb, hml, hown, hT⟩ (c_Fi_immediate l s.heap a0) (va_cwS 1 hT (gB_SV mw_152 mw_153 mw_16 mw_154) rfl rfl rfl (by decide +kernel) ⟨Nat.le_of_ble_eq_true rfl, Nat.le_of_ble_eq_true rfl⟩) ⟨fun _ _ _ _ q => q, fun U hU hW => ⟨rfl, hU⟩⟩ rfl rfl hl.1 rfl (lv_room (Nat.le_of_ble_eq_true rfl)) dFo_isExchange_32 ⟨Nat.zero_le _, Nat.zero_le _⟩) hS (fun _ _ h => h.elim) (fun _ h => h.elim) (fun r u t H1 locs ht hvm hw hB hz8 hk8 hS => ?_)
        obtain rfl : s.heap = H1 := hB.symm.trans ht
        subst hw
        refine va_calli (va_runS (As := [.int (f_Fi_immediate a0)]) (rest := [.int (f_Fi_source a0)]) ⟨hx, hb, hml, hown, hT⟩ (c_Ex_changesSource l s.heap (f_Fi_immediate a0)) (va_cwS 1 hT (gB_SV mw_173 mw_174 mw_17 mw_175) rfl rfl rfl (by decide +kernel) ⟨Nat.le_of_ble_eq_true rfl, Nat.le_of_ble_eq_true rfl⟩) ⟨fun _ _ _ _ q => q, fun U hU hW => ⟨rfl, hU⟩⟩ rfl rfl hl.1 rfl (lv_room (Nat.le_of_ble_eq_true rfl)) dFo_isExchange_35 ⟨Nat.zero_le _, Nat.zero_le _⟩) hS (fun _ _ h => h.elim) (fun _ h => h.elim) (fun r u t H1 locs ht hvm hw hB hz8 hk8 hS => ?_)
        obtain rfl : s.heap = H1 := hB.symm.trans ht
        subst hw
        refine lv_if_eq (tgt := 46) hx hb dFo_isExchange_38 (by decide) (fun c4 => ?_) (fun c4 => ?_)
        · have c4 := bI_z c4
          refine lv_bipush (v := (10 : Int32)) hx hb dFo_isExchange_46 (by decide) ?_
          refine lv_icmp_gt (tgt := 55) hx hb dFo_isExchange_48 (by decide) (fun c5 => ?_) (fun c5 => ?_)
          · skip
            refine lv_iconst (v := (0 : Int32)) hx hb dFo_isExchange_55 (by decide) ?_
            exact W.zret (v := (0 : Int32)) hx hb hr rfl (fun t ht hW => ⟨⟨(0 : Int32), (), rfl, (by unfold f_Fo_isExchange; rw [if_neg c1, if_pos c2, if_neg c3, if_neg c4, if_pos c5]; try rfl), ht⟩, hS.F ht⟩) hS.2.2 dFo_isExchange_56
          · skip
            refine lv_iconst (v := (1 : Int32)) hx hb dFo_isExchange_51 (by decide) ?_
            refine lv_goto (tgt := 56) hx hb dFo_isExchange_52 (by decide) ?_
            exact W.zret (v := (1 : Int32)) hx hb hr rfl (fun t ht hW => ⟨⟨(1 : Int32), (), rfl, (by unfold f_Fo_isExchange; rw [if_neg c1, if_pos c2, if_neg c3, if_neg c4, if_neg c5]; try rfl), ht⟩, hS.F ht⟩) hS.2.2 dFo_isExchange_56
        · have c4 := bI_n c4
          refine lv_bipush (v := (9 : Int32)) hx hb dFo_isExchange_41 (by decide) ?_
          refine lv_goto (tgt := 48) hx hb dFo_isExchange_43 (by decide) ?_
          refine lv_icmp_gt (tgt := 55) hx hb dFo_isExchange_48 (by decide) (fun c6 => ?_) (fun c6 => ?_)
          · skip
            refine lv_iconst (v := (0 : Int32)) hx hb dFo_isExchange_55 (by decide) ?_
            exact W.zret (v := (0 : Int32)) hx hb hr rfl (fun t ht hW => ⟨⟨(0 : Int32), (), rfl, (by unfold f_Fo_isExchange; rw [if_neg c1, if_pos c2, if_neg c3, if_pos c4, if_pos c6]; try rfl), ht⟩, hS.F ht⟩) hS.2.2 dFo_isExchange_56
          · skip
            refine lv_iconst (v := (1 : Int32)) hx hb dFo_isExchange_51 (by decide) ?_
            refine lv_goto (tgt := 56) hx hb dFo_isExchange_52 (by decide) ?_
            exact W.zret (v := (1 : Int32)) hx hb hr rfl (fun t ht hW => ⟨⟨(1 : Int32), (), rfl, (by unfold f_Fo_isExchange; rw [if_neg c1, if_pos c2, if_neg c3, if_pos c4, if_neg c6]; try rfl), ht⟩, hS.F ht⟩) hS.2.2 dFo_isExchange_56

def f_Fo_hasOperand (a0 : Int64) : Bool :=
  if (f_Fi_usesSource a0) = true then
    if (10 : Int32) < (f_Fi_source a0) then
      false
    else
      if (f_Fi_immediate a0) = 0 then
        true
      else
        false
  else
    if (f_Fi_source a0) = 0 then
      true
    else
      false
set_option maxHeartbeats 4000000 in
set_option maxRecDepth 100000 in
theorem c_Fo_hasOperand (l : Launch) (Hp : Heap) (a0 : Int64) : Met l yFo_hasOperand wsFo_hasOperand ({ frames := 1, cells := 0, slots := 0, locals := 21 }) (va_Pc [.long a0] (fun U => U.heap = Hp)) (va_Qi (fun (r : Int32) (_ : Unit) => r = (bI (f_Fo_hasOperand a0))) (fun _ t => t.heap = Hp) (fun _ => False)) 0 0 (fun _ => False) := by
  refine Met.ofW (cc := cFo_hasOperand) (maxL := 2) (ret := (some .boolean)) (by decide) rfl ?_
  intro p e s m args below meth c s₁ B hml hv
  obtain ⟨rfl, rfl⟩ := hv
  have hx := B.exec
  have hb := B.bytes
  have hr := B.returns
  have hT : ∀ w ∈ tB, w.before _ s = true := fun w h => atoms_spec (ws := wsFo_hasOperand) B.pre w (List.mem_cons_of_mem _ h)
  have hown : s.vm.findClass "CompiledProgram$Form" = some m.cls := findClass_of_methodNamed B.named
  have hlocks := B.notSynchronized
  have hS : va_S (fun _ => False) s.heap s.heap [] := va_S.rf
  have hl := lv_entry ([.long a0]) (n := 2) (Nat.le_of_ble_eq_true rfl)
  rw [lg_entry_eq]
  generalize (lg_sl ([.long a0]) ++ List.replicate (2 - (lg_sl ([.long a0])).length) Slot.unset).toArray = ls at hl ⊢
  have hl : lv_has ls 2 [(0, .long a0)] := hl
  refine lv_lload_n hx hb dFo_hasOperand_0 rfl (lv_at hl 0 rfl) ?_
  refine va_calli (va_runS (As := [.long a0]) (rest := []) ⟨hx, hb, hml, hown, hT⟩ (c_Fi_usesSource l s.heap a0) (va_cwS 1 hT (gB_SV mw_192 mw_193 mw_16 mw_194) rfl rfl rfl (by decide +kernel) ⟨Nat.le_of_ble_eq_true rfl, Nat.le_of_ble_eq_true rfl⟩) ⟨fun _ _ _ _ q => q, fun U hU hW => ⟨rfl, hU⟩⟩ rfl rfl hl.1 rfl (lv_room (Nat.le_of_ble_eq_true rfl)) dFo_hasOperand_1 ⟨Nat.zero_le _, Nat.zero_le _⟩) hS (fun _ _ h => h.elim) (fun _ h => h.elim) (fun r u t H1 locs ht hvm hw hB hz8 hk8 hS => ?_)
  obtain rfl : s.heap = H1 := hB.symm.trans ht
  subst hw
  refine lv_if_eq (tgt := 31) hx hb dFo_hasOperand_4 (by decide) (fun c1 => ?_) (fun c1 => ?_)
  · have c1 := bI_z c1
    refine lv_lload_n hx hb dFo_hasOperand_31 rfl (lv_at hl 0 rfl) ?_
    refine va_calli (va_runS (As := [.long a0]) (rest := []) ⟨hx, hb, hml, hown, hT⟩ (c_Fi_source l s.heap a0) (va_cwS 1 hT (gB_SV mw_137 mw_138 mw_16 mw_139) rfl rfl rfl (by decide +kernel) ⟨Nat.le_of_ble_eq_true rfl, Nat.le_of_ble_eq_true rfl⟩) ⟨fun _ _ _ _ q => q, fun U hU hW => ⟨rfl, hU⟩⟩ rfl rfl hl.1 rfl (lv_room (Nat.le_of_ble_eq_true rfl)) dFo_hasOperand_32 ⟨Nat.zero_le _, Nat.zero_le _⟩) hS (fun _ _ h => h.elim) (fun _ h => h.elim) (fun r u t H1 locs ht hvm hw hB hz8 hk8 hS => ?_)
    obtain rfl : s.heap = H1 := hB.symm.trans ht
    subst hw
    refine lv_if_ne (tgt := 42) hx hb dFo_hasOperand_35 (by decide) (fun c2 => ?_) (fun c2 => ?_)
    · skip
      refine lv_iconst (v := (0 : Int32)) hx hb dFo_hasOperand_42 (by decide) ?_
      exact W.zret (v := (0 : Int32)) hx hb hr rfl (fun t ht hW => ⟨⟨(0 : Int32), (), rfl, (by unfold f_Fo_hasOperand; rw [if_neg c1, if_neg c2]; try rfl), ht⟩, hS.F ht⟩) hS.2.2 dFo_hasOperand_43
    · skip
      refine lv_iconst (v := (1 : Int32)) hx hb dFo_hasOperand_38 (by decide) ?_
      refine lv_goto (tgt := 43) hx hb dFo_hasOperand_39 (by decide) ?_
      exact W.zret (v := (1 : Int32)) hx hb hr rfl (fun t ht hW => ⟨⟨(1 : Int32), (), rfl, (by unfold f_Fo_hasOperand; rw [if_neg c1, if_pos c2]; try rfl), ht⟩, hS.F ht⟩) hS.2.2 dFo_hasOperand_43
  · have c1 := bI_n c1
    refine lv_lload_n hx hb dFo_hasOperand_7 rfl (lv_at hl 0 rfl) ?_
    refine va_calli (va_runS (As := [.long a0]) (rest := []) ⟨hx, hb, hml, hown, hT⟩ (c_Fi_source l s.heap a0) (va_cwS 1 hT (gB_SV mw_137 mw_138 mw_16 mw_139) rfl rfl rfl (by decide +kernel) ⟨Nat.le_of_ble_eq_true rfl, Nat.le_of_ble_eq_true rfl⟩) ⟨fun _ _ _ _ q => q, fun U hU hW => ⟨rfl, hU⟩⟩ rfl rfl hl.1 rfl (lv_room (Nat.le_of_ble_eq_true rfl)) dFo_hasOperand_8 ⟨Nat.zero_le _, Nat.zero_le _⟩) hS (fun _ _ h => h.elim) (fun _ h => h.elim) (fun r u t H1 locs ht hvm hw hB hz8 hk8 hS => ?_)
    obtain rfl : s.heap = H1 := hB.symm.trans ht
    subst hw
    refine lv_bipush (v := (10 : Int32)) hx hb dFo_hasOperand_11 (by decide) ?_
    refine lv_icmp_gt (tgt := 27) hx hb dFo_hasOperand_13 (by decide) (fun c3 => ?_) (fun c3 => ?_)
    · skip
      refine lv_iconst (v := (0 : Int32)) hx hb dFo_hasOperand_27 (by decide) ?_
      refine lv_goto (tgt := 43) hx hb dFo_hasOperand_28 (by decide) ?_
      exact W.zret (v := (0 : Int32)) hx hb hr rfl (fun t ht hW => ⟨⟨(0 : Int32), (), rfl, (by unfold f_Fo_hasOperand; rw [if_pos c1, if_pos c3]; try rfl), ht⟩, hS.F ht⟩) hS.2.2 dFo_hasOperand_43
    · skip
      refine lv_lload_n hx hb dFo_hasOperand_16 rfl (lv_at hl 0 rfl) ?_
      refine va_calli (va_runS (As := [.long a0]) (rest := []) ⟨hx, hb, hml, hown, hT⟩ (c_Fi_immediate l s.heap a0) (va_cwS 1 hT (gB_SV mw_152 mw_153 mw_16 mw_154) rfl rfl rfl (by decide +kernel) ⟨Nat.le_of_ble_eq_true rfl, Nat.le_of_ble_eq_true rfl⟩) ⟨fun _ _ _ _ q => q, fun U hU hW => ⟨rfl, hU⟩⟩ rfl rfl hl.1 rfl (lv_room (Nat.le_of_ble_eq_true rfl)) dFo_hasOperand_17 ⟨Nat.zero_le _, Nat.zero_le _⟩) hS (fun _ _ h => h.elim) (fun _ h => h.elim) (fun r u t H1 locs ht hvm hw hB hz8 hk8 hS => ?_)
      obtain rfl : s.heap = H1 := hB.symm.trans ht
      subst hw
      refine lv_if_ne (tgt := 27) hx hb dFo_hasOperand_20 (by decide) (fun c4 => ?_) (fun c4 => ?_)
      · skip
        refine lv_iconst (v := (0 : Int32)) hx hb dFo_hasOperand_27 (by decide) ?_
        refine lv_goto (tgt := 43) hx hb dFo_hasOperand_28 (by decide) ?_
        exact W.zret (v := (0 : Int32)) hx hb hr rfl (fun t ht hW => ⟨⟨(0 : Int32), (), rfl, (by unfold f_Fo_hasOperand; rw [if_pos c1, if_neg c3, if_neg c4]; try rfl), ht⟩, hS.F ht⟩) hS.2.2 dFo_hasOperand_43
      · skip
        refine lv_iconst (v := (1 : Int32)) hx hb dFo_hasOperand_23 (by decide) ?_
        refine lv_goto (tgt := 43) hx hb dFo_hasOperand_24 (by decide) ?_
        exact W.zret (v := (1 : Int32)) hx hb hr rfl (fun t ht hW => ⟨⟨(1 : Int32), (), rfl, (by unfold f_Fo_hasOperand; rw [if_pos c1, if_neg c3, if_pos c4]; try rfl), ht⟩, hS.F ht⟩) hS.2.2 dFo_hasOperand_43

def f_Fo_isPerhapsJump (a0 : Int64) : Bool :=
  if (10 : Int32) < (f_Fi_target a0) then
    false
  else
    if (f_Fo_hasOperand a0) = true then
      true
    else
      false
set_option maxHeartbeats 4000000 in
set_option maxRecDepth 100000 in
theorem c_Fo_isPerhapsJump (l : Launch) (Hp : Heap) (a0 : Int64) : Met l yFo_isPerhapsJump wsFo_isPerhapsJump ({ frames := 2, cells := 0, slots := 0, locals := 42 }) (va_Pc [.long a0] (fun U => U.heap = Hp)) (va_Qi (fun (r : Int32) (_ : Unit) => r = (bI (f_Fo_isPerhapsJump a0))) (fun _ t => t.heap = Hp) (fun _ => False)) 0 0 (fun _ => False) := by
  refine Met.ofW (cc := cFo_isPerhapsJump) (maxL := 2) (ret := (some .boolean)) (by decide) rfl ?_
  intro p e s m args below meth c s₁ B hml hv
  obtain ⟨rfl, rfl⟩ := hv
  have hx := B.exec
  have hb := B.bytes
  have hr := B.returns
  have hT : ∀ w ∈ tB, w.before _ s = true := fun w h => atoms_spec (ws := wsFo_isPerhapsJump) B.pre w (List.mem_cons_of_mem _ h)
  have hown : s.vm.findClass "CompiledProgram$Form" = some m.cls := findClass_of_methodNamed B.named
  have hlocks := B.notSynchronized
  have hS : va_S (fun _ => False) s.heap s.heap [] := va_S.rf
  have hl := lv_entry ([.long a0]) (n := 2) (Nat.le_of_ble_eq_true rfl)
  rw [lg_entry_eq]
  generalize (lg_sl ([.long a0]) ++ List.replicate (2 - (lg_sl ([.long a0])).length) Slot.unset).toArray = ls at hl ⊢
  have hl : lv_has ls 2 [(0, .long a0)] := hl
  refine lv_lload_n hx hb dFo_isPerhapsJump_0 rfl (lv_at hl 0 rfl) ?_
  refine va_calli (va_runS (As := [.long a0]) (rest := []) ⟨hx, hb, hml, hown, hT⟩ (c_Fi_target l s.heap a0) (va_cwS 1 hT (gB_SV mw_146 mw_147 mw_16 mw_148) rfl rfl rfl (by decide +kernel) ⟨Nat.le_of_ble_eq_true rfl, Nat.le_of_ble_eq_true rfl⟩) ⟨fun _ _ _ _ q => q, fun U hU hW => ⟨rfl, hU⟩⟩ rfl rfl hl.1 rfl (lv_room (Nat.le_of_ble_eq_true rfl)) dFo_isPerhapsJump_1 ⟨Nat.zero_le _, Nat.zero_le _⟩) hS (fun _ _ h => h.elim) (fun _ h => h.elim) (fun r u t H1 locs ht hvm hw hB hz8 hk8 hS => ?_)
  obtain rfl : s.heap = H1 := hB.symm.trans ht
  subst hw
  refine lv_bipush (v := (10 : Int32)) hx hb dFo_isPerhapsJump_4 (by decide) ?_
  refine lv_icmp_gt (tgt := 20) hx hb dFo_isPerhapsJump_6 (by decide) (fun c1 => ?_) (fun c1 => ?_)
  · skip
    refine lv_iconst (v := (0 : Int32)) hx hb dFo_isPerhapsJump_20 (by decide) ?_
    exact W.zret (v := (0 : Int32)) hx hb hr rfl (fun t ht hW => ⟨⟨(0 : Int32), (), rfl, (by unfold f_Fo_isPerhapsJump; rw [if_pos c1]; try rfl), ht⟩, hS.F ht⟩) hS.2.2 dFo_isPerhapsJump_21
  · skip
    refine lv_lload_n hx hb dFo_isPerhapsJump_9 rfl (lv_at hl 0 rfl) ?_
    refine va_calli (va_runS (As := [.long a0]) (rest := []) ⟨hx, hb, hml, hown, hT⟩ (c_Fo_hasOperand l s.heap a0) (cwS 1 hT (gB_S mw_189 mw_190 mw_15 mw_191) rfl rfl rfl (by decide +kernel) ⟨Nat.le_of_ble_eq_true rfl, Nat.le_of_ble_eq_true rfl⟩) ⟨fun _ _ _ _ q => q, fun U hU hW => ⟨rfl, hU⟩⟩ rfl rfl hl.1 rfl (lv_room (Nat.le_of_ble_eq_true rfl)) dFo_isPerhapsJump_10 ⟨Nat.zero_le _, Nat.zero_le _⟩) hS (fun _ _ h => h.elim) (fun _ h => h.elim) (fun r u t H1 locs ht hvm hw hB hz8 hk8 hS => ?_)
    obtain rfl : s.heap = H1 := hB.symm.trans ht
    subst hw
    refine lv_if_eq (tgt := 20) hx hb dFo_isPerhapsJump_13 (by decide) (fun c2 => ?_) (fun c2 => ?_)
    · have c2 := bI_z c2
      refine lv_iconst (v := (0 : Int32)) hx hb dFo_isPerhapsJump_20 (by decide) ?_
      exact W.zret (v := (0 : Int32)) hx hb hr rfl (fun t ht hW => ⟨⟨(0 : Int32), (), rfl, (by unfold f_Fo_isPerhapsJump; rw [if_neg c1, if_neg c2]; try rfl), ht⟩, hS.F ht⟩) hS.2.2 dFo_isPerhapsJump_21
    · have c2 := bI_n c2
      refine lv_iconst (v := (1 : Int32)) hx hb dFo_isPerhapsJump_16 (by decide) ?_
      refine lv_goto (tgt := 21) hx hb dFo_isPerhapsJump_17 (by decide) ?_
      exact W.zret (v := (1 : Int32)) hx hb hr rfl (fun t ht hW => ⟨⟨(1 : Int32), (), rfl, (by unfold f_Fo_isPerhapsJump; rw [if_neg c1, if_pos c2]; try rfl), ht⟩, hS.F ht⟩) hS.2.2 dFo_isPerhapsJump_21

def f_Fo_isCallOrExitOrJump (a0 : Int64) : Bool :=
  if (f_Fi_target a0) = 0 then
    if (f_Fi_source a0) = 0 then
      if (f_Fi_code a0) = (5 : Int32) then
        if (f_Fi_immediate a0) = 0 then
          true
        else
          false
      else
        if (f_Fi_code a0) = (6 : Int32) then
          if (f_Fi_offset a0) = 0 then
            true
          else
            false
        else
          if (f_Fi_code a0) = (133 : Int32) then
            if (f_Fi_offset a0) = 0 then
              true
            else
              false
          else
            if (f_Fi_code a0) = (149 : Int32) then
              if (f_Fi_offset a0) = 0 then
                if (f_Fi_immediate a0) = 0 then
                  true
                else
                  false
              else
                false
            else
              false
    else
      false
  else
    false
set_option maxHeartbeats 4000000 in
set_option maxRecDepth 100000 in
theorem c_Fo_isCallOrExitOrJump (l : Launch) (Hp : Heap) (a0 : Int64) : Met l yFo_isCallOrExitOrJump wsFo_isCallOrExitOrJump ({ frames := 1, cells := 0, slots := 0, locals := 21 }) (va_Pc [.long a0] (fun U => U.heap = Hp)) (va_Qi (fun (r : Int32) (_ : Unit) => r = (bI (f_Fo_isCallOrExitOrJump a0))) (fun _ t => t.heap = Hp) (fun _ => False)) 0 0 (fun _ => False) := by
  refine Met.ofW (cc := cFo_isCallOrExitOrJump) (maxL := 2) (ret := (some .boolean)) (by decide) rfl ?_
  intro p e s m args below meth c s₁ B hml hv
  obtain ⟨rfl, rfl⟩ := hv
  have hx := B.exec
  have hb := B.bytes
  have hr := B.returns
  have hT : ∀ w ∈ tB, w.before _ s = true := fun w h => atoms_spec (ws := wsFo_isCallOrExitOrJump) B.pre w (List.mem_cons_of_mem _ h)
  have hown : s.vm.findClass "CompiledProgram$Form" = some m.cls := findClass_of_methodNamed B.named
  have hlocks := B.notSynchronized
  have hS : va_S (fun _ => False) s.heap s.heap [] := va_S.rf
  have hl := lv_entry ([.long a0]) (n := 2) (Nat.le_of_ble_eq_true rfl)
  rw [lg_entry_eq]
  generalize (lg_sl ([.long a0]) ++ List.replicate (2 - (lg_sl ([.long a0])).length) Slot.unset).toArray = ls at hl ⊢
  have hl : lv_has ls 2 [(0, .long a0)] := hl
  refine lv_lload_n hx hb dFo_isCallOrExitOrJump_0 rfl (lv_at hl 0 rfl) ?_
  refine va_calli (va_runS (As := [.long a0]) (rest := []) ⟨hx, hb, hml, hown, hT⟩ (c_Fi_target l s.heap a0) (va_cwS 1 hT (gB_SV mw_146 mw_147 mw_16 mw_148) rfl rfl rfl (by decide +kernel) ⟨Nat.le_of_ble_eq_true rfl, Nat.le_of_ble_eq_true rfl⟩) ⟨fun _ _ _ _ q => q, fun U hU hW => ⟨rfl, hU⟩⟩ rfl rfl hl.1 rfl (lv_room (Nat.le_of_ble_eq_true rfl)) dFo_isCallOrExitOrJump_1 ⟨Nat.zero_le _, Nat.zero_le _⟩) hS (fun _ _ h => h.elim) (fun _ h => h.elim) (fun r u t H1 locs ht hvm hw hB hz8 hk8 hS => ?_)
  obtain rfl : s.heap = H1 := hB.symm.trans ht
  subst hw
  refine lv_if_ne (tgt := 14) hx hb dFo_isCallOrExitOrJump_4 (by decide) (fun c1 => ?_) (fun c1 => ?_)
  · skip
    refine lv_iconst (v := (0 : Int32)) hx hb dFo_isCallOrExitOrJump_14 (by decide) ?_
    exact W.zret (v := (0 : Int32)) hx hb hr rfl (fun t ht hW => ⟨⟨(0 : Int32), (), rfl, (by unfold f_Fo_isCallOrExitOrJump; rw [if_neg c1]; try rfl), ht⟩, hS.F ht⟩) hS.2.2 dFo_isCallOrExitOrJump_15
  · skip
    refine lv_lload_n hx hb dFo_isCallOrExitOrJump_7 rfl (lv_at hl 0 rfl) ?_
    refine va_calli (va_runS (As := [.long a0]) (rest := []) ⟨hx, hb, hml, hown, hT⟩ (c_Fi_source l s.heap a0) (va_cwS 1 hT (gB_SV mw_137 mw_138 mw_16 mw_139) rfl rfl rfl (by decide +kernel) ⟨Nat.le_of_ble_eq_true rfl, Nat.le_of_ble_eq_true rfl⟩) ⟨fun _ _ _ _ q => q, fun U hU hW => ⟨rfl, hU⟩⟩ rfl rfl hl.1 rfl (lv_room (Nat.le_of_ble_eq_true rfl)) dFo_isCallOrExitOrJump_8 ⟨Nat.zero_le _, Nat.zero_le _⟩) hS (fun _ _ h => h.elim) (fun _ h => h.elim) (fun r u t H1 locs ht hvm hw hB hz8 hk8 hS => ?_)
    obtain rfl : s.heap = H1 := hB.symm.trans ht
    subst hw
    refine lv_if_eq (tgt := 16) hx hb dFo_isCallOrExitOrJump_11 (by decide) (fun c2 => ?_) (fun c2 => ?_)
    · skip
      refine lv_lload_n hx hb dFo_isCallOrExitOrJump_16 rfl (lv_at hl 0 rfl) ?_
      refine va_calli (va_runS (As := [.long a0]) (rest := []) ⟨hx, hb, hml, hown, hT⟩ (c_Fi_code l s.heap a0) (va_cwS 1 hT (gB_SV mw_199 mw_144 mw_16 mw_145) rfl rfl rfl (by decide +kernel) ⟨Nat.le_of_ble_eq_true rfl, Nat.le_of_ble_eq_true rfl⟩) ⟨fun _ _ _ _ q => q, fun U hU hW => ⟨rfl, hU⟩⟩ rfl rfl hl.1 rfl (lv_room (Nat.le_of_ble_eq_true rfl)) dFo_isCallOrExitOrJump_17 ⟨Nat.zero_le _, Nat.zero_le _⟩) hS (fun _ _ h => h.elim) (fun _ h => h.elim) (fun r u t H1 locs ht hvm hw hB hz8 hk8 hS => ?_)
      obtain rfl : s.heap = H1 := hB.symm.trans ht
      subst hw
      by_cases c3 : (f_Fi_code a0) = (5 : Int32)
      · skip
        refine lv_lookup (tgt := 64) (off := 44) hx hb dFo_isCallOrExitOrJump_20 (by decide) (by rw [c3]; rfl) (by decide) ?_
        refine lv_lload_n hx hb dFo_isCallOrExitOrJump_64 rfl (lv_at hl 0 rfl) ?_
        refine va_calli (va_runS (As := [.long a0]) (rest := []) ⟨hx, hb, hml, hown, hT⟩ (c_Fi_immediate l s.heap a0) (va_cwS 1 hT (gB_SV mw_152 mw_153 mw_16 mw_154) rfl rfl rfl (by decide +kernel) ⟨Nat.le_of_ble_eq_true rfl, Nat.le_of_ble_eq_true rfl⟩) ⟨fun _ _ _ _ q => q, fun U hU hW => ⟨rfl, hU⟩⟩ rfl rfl hl.1 rfl (lv_room (Nat.le_of_ble_eq_true rfl)) dFo_isCallOrExitOrJump_65 ⟨Nat.zero_le _, Nat.zero_le _⟩) hS (fun _ _ h => h.elim) (fun _ h => h.elim) (fun r u t H1 locs ht hvm hw hB hz8 hk8 hS => ?_)
        obtain rfl : s.heap = H1 := hB.symm.trans ht
        subst hw
        refine lv_if_ne (tgt := 75) hx hb dFo_isCallOrExitOrJump_68 (by decide) (fun c4 => ?_) (fun c4 => ?_)
        · skip
          refine lv_iconst (v := (0 : Int32)) hx hb dFo_isCallOrExitOrJump_75 (by decide) ?_
          exact W.zret (v := (0 : Int32)) hx hb hr rfl (fun t ht hW => ⟨⟨(0 : Int32), (), rfl, (by unfold f_Fo_isCallOrExitOrJump; rw [if_pos c1, if_pos c2, if_pos c3, if_neg c4]; try rfl), ht⟩, hS.F ht⟩) hS.2.2 dFo_isCallOrExitOrJump_76
        · skip
          refine lv_iconst (v := (1 : Int32)) hx hb dFo_isCallOrExitOrJump_71 (by decide) ?_
          refine lv_goto (tgt := 76) hx hb dFo_isCallOrExitOrJump_72 (by decide) ?_
          exact W.zret (v := (1 : Int32)) hx hb hr rfl (fun t ht hW => ⟨⟨(1 : Int32), (), rfl, (by unfold f_Fo_isCallOrExitOrJump; rw [if_pos c1, if_pos c2, if_pos c3, if_pos c4]; try rfl), ht⟩, hS.F ht⟩) hS.2.2 dFo_isCallOrExitOrJump_76
      by_cases c5 : (f_Fi_code a0) = (6 : Int32)
      · skip
        refine lv_lookup (tgt := 77) (off := 57) hx hb dFo_isCallOrExitOrJump_20 (by decide) (by rw [c5]; rfl) (by decide) ?_
        refine lv_lload_n hx hb dFo_isCallOrExitOrJump_77 rfl (lv_at hl 0 rfl) ?_
        refine va_calli (va_runS (As := [.long a0]) (rest := []) ⟨hx, hb, hml, hown, hT⟩ (c_Fi_offset l s.heap a0) (va_cwS 1 hT (gB_SV mw_149 mw_150 mw_16 mw_151) rfl rfl rfl (by decide +kernel) ⟨Nat.le_of_ble_eq_true rfl, Nat.le_of_ble_eq_true rfl⟩) ⟨fun _ _ _ _ q => q, fun U hU hW => ⟨rfl, hU⟩⟩ rfl rfl hl.1 rfl (lv_room (Nat.le_of_ble_eq_true rfl)) dFo_isCallOrExitOrJump_78 ⟨Nat.zero_le _, Nat.zero_le _⟩) hS (fun _ _ h => h.elim) (fun _ h => h.elim) (fun r u t H1 locs ht hvm hw hB hz8 hk8 hS => ?_)
        obtain rfl : s.heap = H1 := hB.symm.trans ht
        subst hw
        refine lv_if_ne (tgt := 88) hx hb dFo_isCallOrExitOrJump_81 (by decide) (fun c6 => ?_) (fun c6 => ?_)
        · skip
          refine lv_iconst (v := (0 : Int32)) hx hb dFo_isCallOrExitOrJump_88 (by decide) ?_
          exact W.zret (v := (0 : Int32)) hx hb hr rfl (fun t ht hW => ⟨⟨(0 : Int32), (), rfl, (by unfold f_Fo_isCallOrExitOrJump; rw [if_pos c1, if_pos c2, if_neg c3, if_pos c5, if_neg c6]; try rfl), ht⟩, hS.F ht⟩) hS.2.2 dFo_isCallOrExitOrJump_89
        · skip
          refine lv_iconst (v := (1 : Int32)) hx hb dFo_isCallOrExitOrJump_84 (by decide) ?_
          refine lv_goto (tgt := 89) hx hb dFo_isCallOrExitOrJump_85 (by decide) ?_
          exact W.zret (v := (1 : Int32)) hx hb hr rfl (fun t ht hW => ⟨⟨(1 : Int32), (), rfl, (by unfold f_Fo_isCallOrExitOrJump; rw [if_pos c1, if_pos c2, if_neg c3, if_pos c5, if_pos c6]; try rfl), ht⟩, hS.F ht⟩) hS.2.2 dFo_isCallOrExitOrJump_89
      by_cases c7 : (f_Fi_code a0) = (133 : Int32)
      · skip
        refine lv_lookup (tgt := 77) (off := 57) hx hb dFo_isCallOrExitOrJump_20 (by decide) (by rw [c7]; rfl) (by decide) ?_
        refine lv_lload_n hx hb dFo_isCallOrExitOrJump_77 rfl (lv_at hl 0 rfl) ?_
        refine va_calli (va_runS (As := [.long a0]) (rest := []) ⟨hx, hb, hml, hown, hT⟩ (c_Fi_offset l s.heap a0) (va_cwS 1 hT (gB_SV mw_149 mw_150 mw_16 mw_151) rfl rfl rfl (by decide +kernel) ⟨Nat.le_of_ble_eq_true rfl, Nat.le_of_ble_eq_true rfl⟩) ⟨fun _ _ _ _ q => q, fun U hU hW => ⟨rfl, hU⟩⟩ rfl rfl hl.1 rfl (lv_room (Nat.le_of_ble_eq_true rfl)) dFo_isCallOrExitOrJump_78 ⟨Nat.zero_le _, Nat.zero_le _⟩) hS (fun _ _ h => h.elim) (fun _ h => h.elim) (fun r u t H1 locs ht hvm hw hB hz8 hk8 hS => ?_)
        obtain rfl : s.heap = H1 := hB.symm.trans ht
        subst hw
        refine lv_if_ne (tgt := 88) hx hb dFo_isCallOrExitOrJump_81 (by decide) (fun c8 => ?_) (fun c8 => ?_)
        · skip
          refine lv_iconst (v := (0 : Int32)) hx hb dFo_isCallOrExitOrJump_88 (by decide) ?_
          exact W.zret (v := (0 : Int32)) hx hb hr rfl (fun t ht hW => ⟨⟨(0 : Int32), (), rfl, (by unfold f_Fo_isCallOrExitOrJump; rw [if_pos c1, if_pos c2, if_neg c3, if_neg c5, if_pos c7, if_neg c8]; try rfl), ht⟩, hS.F ht⟩) hS.2.2 dFo_isCallOrExitOrJump_89
        · skip
          refine lv_iconst (v := (1 : Int32)) hx hb dFo_isCallOrExitOrJump_84 (by decide) ?_
          refine lv_goto (tgt := 89) hx hb dFo_isCallOrExitOrJump_85 (by decide) ?_
          exact W.zret (v := (1 : Int32)) hx hb hr rfl (fun t ht hW => ⟨⟨(1 : Int32), (), rfl, (by unfold f_Fo_isCallOrExitOrJump; rw [if_pos c1, if_pos c2, if_neg c3, if_neg c5, if_pos c7, if_pos c8]; try rfl), ht⟩, hS.F ht⟩) hS.2.2 dFo_isCallOrExitOrJump_89
      by_cases c9 : (f_Fi_code a0) = (149 : Int32)
      · skip
        refine lv_lookup (tgt := 90) (off := 70) hx hb dFo_isCallOrExitOrJump_20 (by decide) (by rw [c9]; rfl) (by decide) ?_
        refine lv_lload_n hx hb dFo_isCallOrExitOrJump_90 rfl (lv_at hl 0 rfl) ?_
        refine va_calli (va_runS (As := [.long a0]) (rest := []) ⟨hx, hb, hml, hown, hT⟩ (c_Fi_offset l s.heap a0) (va_cwS 1 hT (gB_SV mw_149 mw_150 mw_16 mw_151) rfl rfl rfl (by decide +kernel) ⟨Nat.le_of_ble_eq_true rfl, Nat.le_of_ble_eq_true rfl⟩) ⟨fun _ _ _ _ q => q, fun U hU hW => ⟨rfl, hU⟩⟩ rfl rfl hl.1 rfl (lv_room (Nat.le_of_ble_eq_true rfl)) dFo_isCallOrExitOrJump_91 ⟨Nat.zero_le _, Nat.zero_le _⟩) hS (fun _ _ h => h.elim) (fun _ h => h.elim) (fun r u t H1 locs ht hvm hw hB hz8 hk8 hS => ?_)
        obtain rfl : s.heap = H1 := hB.symm.trans ht
        subst hw
        refine lv_if_ne (tgt := 108) hx hb dFo_isCallOrExitOrJump_94 (by decide) (fun c10 => ?_) (fun c10 => ?_)
        · skip
          refine lv_iconst (v := (0 : Int32)) hx hb dFo_isCallOrExitOrJump_108 (by decide) ?_
          exact W.zret (v := (0 : Int32)) hx hb hr rfl (fun t ht hW => ⟨⟨(0 : Int32), (), rfl, (by unfold f_Fo_isCallOrExitOrJump; rw [if_pos c1, if_pos c2, if_neg c3, if_neg c5, if_neg c7, if_pos c9, if_neg c10]; try rfl), ht⟩, hS.F ht⟩) hS.2.2 dFo_isCallOrExitOrJump_109
        · skip
          refine lv_lload_n hx hb dFo_isCallOrExitOrJump_97 rfl (lv_at hl 0 rfl) ?_
          refine va_calli (va_runS (As := [.long a0]) (rest := []) ⟨hx, hb, hml, hown, hT⟩ (c_Fi_immediate l s.heap a0) (va_cwS 1 hT (gB_SV mw_152 mw_153 mw_16 mw_154) rfl rfl rfl (by decide +kernel) ⟨Nat.le_of_ble_eq_true rfl, Nat.le_of_ble_eq_true rfl⟩) ⟨fun _ _ _ _ q => q, fun U hU hW => ⟨rfl, hU⟩⟩ rfl rfl hl.1 rfl (lv_room (Nat.le_of_ble_eq_true rfl)) dFo_isCallOrExitOrJump_98 ⟨Nat.zero_le _, Nat.zero_le _⟩) hS (fun _ _ h => h.elim) (fun _ h => h.elim) (fun r u t H1 locs ht hvm hw hB hz8 hk8 hS => ?_)
          obtain rfl : s.heap = H1 := hB.symm.trans ht
          subst hw
          refine lv_if_ne (tgt := 108) hx hb dFo_isCallOrExitOrJump_101 (by decide) (fun c11 => ?_) (fun c11 => ?_)
          · skip
            refine lv_iconst (v := (0 : Int32)) hx hb dFo_isCallOrExitOrJump_108 (by decide) ?_
            exact W.zret (v := (0 : Int32)) hx hb hr rfl (fun t ht hW => ⟨⟨(0 : Int32), (), rfl, (by unfold f_Fo_isCallOrExitOrJump; rw [if_pos c1, if_pos c2, if_neg c3, if_neg c5, if_neg c7, if_pos c9, if_pos c10, if_neg c11]; try rfl), ht⟩, hS.F ht⟩) hS.2.2 dFo_isCallOrExitOrJump_109
          · skip
            refine lv_iconst (v := (1 : Int32)) hx hb dFo_isCallOrExitOrJump_104 (by decide) ?_
            refine lv_goto (tgt := 109) hx hb dFo_isCallOrExitOrJump_105 (by decide) ?_
            exact W.zret (v := (1 : Int32)) hx hb hr rfl (fun t ht hW => ⟨⟨(1 : Int32), (), rfl, (by unfold f_Fo_isCallOrExitOrJump; rw [if_pos c1, if_pos c2, if_neg c3, if_neg c5, if_neg c7, if_pos c9, if_pos c10, if_pos c11]; try rfl), ht⟩, hS.F ht⟩) hS.2.2 dFo_isCallOrExitOrJump_109
      refine lv_lookup (tgt := 110) (off := 90) hx hb dFo_isCallOrExitOrJump_20 (by decide) (by rw [lv_osw c3 (by decide), lv_osw c5 (by decide), lv_osw c7 (by decide), lv_osw c9 (by decide)]; rfl) (by decide) ?_
      refine lv_iconst (v := (0 : Int32)) hx hb dFo_isCallOrExitOrJump_110 (by decide) ?_
      exact W.zret (v := (0 : Int32)) hx hb hr rfl (fun t ht hW => ⟨⟨(0 : Int32), (), rfl, (by unfold f_Fo_isCallOrExitOrJump; rw [if_pos c1, if_pos c2, if_neg c3, if_neg c5, if_neg c7, if_neg c9]; try rfl), ht⟩, hS.F ht⟩) hS.2.2 dFo_isCallOrExitOrJump_111
    · skip
      refine lv_iconst (v := (0 : Int32)) hx hb dFo_isCallOrExitOrJump_14 (by decide) ?_
      exact W.zret (v := (0 : Int32)) hx hb hr rfl (fun t ht hW => ⟨⟨(0 : Int32), (), rfl, (by unfold f_Fo_isCallOrExitOrJump; rw [if_pos c1, if_neg c2]; try rfl), ht⟩, hS.F ht⟩) hS.2.2 dFo_isCallOrExitOrJump_15

def f_Fo_isMoveOffset (a0 : Int64) : Bool :=
  if (f_Fi_offset a0) = (0 : Int32) then
    true
  else
    if (f_Fi_offset a0) = (8 : Int32) then
      (f_Fi_usesSource a0)
    else
      if (f_Fi_offset a0) = (16 : Int32) then
        (f_Fi_usesSource a0)
      else
        if (f_Fi_offset a0) = (32 : Int32) then
          if (f_Fi_usesSource a0) = true then
            if (f_Fi_kind a0) = (7 : Int32) then
              true
            else
              false
          else
            false
        else
          false
set_option maxHeartbeats 4000000 in
set_option maxRecDepth 100000 in
theorem c_Fo_isMoveOffset (l : Launch) (Hp : Heap) (a0 : Int64) : Met l yFo_isMoveOffset wsFo_isMoveOffset ({ frames := 1, cells := 0, slots := 0, locals := 21 }) (va_Pc [.long a0] (fun U => U.heap = Hp)) (va_Qi (fun (r : Int32) (_ : Unit) => r = (bI (f_Fo_isMoveOffset a0))) (fun _ t => t.heap = Hp) (fun _ => False)) 0 0 (fun _ => False) := by
  refine Met.ofW (cc := cFo_isMoveOffset) (maxL := 2) (ret := (some .boolean)) (by decide) rfl ?_
  intro p e s m args below meth c s₁ B hml hv
  obtain ⟨rfl, rfl⟩ := hv
  have hx := B.exec
  have hb := B.bytes
  have hr := B.returns
  have hT : ∀ w ∈ tB, w.before _ s = true := fun w h => atoms_spec (ws := wsFo_isMoveOffset) B.pre w (List.mem_cons_of_mem _ h)
  have hown : s.vm.findClass "CompiledProgram$Form" = some m.cls := findClass_of_methodNamed B.named
  have hlocks := B.notSynchronized
  have hS : va_S (fun _ => False) s.heap s.heap [] := va_S.rf
  have hl := lv_entry ([.long a0]) (n := 2) (Nat.le_of_ble_eq_true rfl)
  rw [lg_entry_eq]
  generalize (lg_sl ([.long a0]) ++ List.replicate (2 - (lg_sl ([.long a0])).length) Slot.unset).toArray = ls at hl ⊢
  have hl : lv_has ls 2 [(0, .long a0)] := hl
  refine lv_lload_n hx hb dFo_isMoveOffset_0 rfl (lv_at hl 0 rfl) ?_
  refine va_calli (va_runS (As := [.long a0]) (rest := []) ⟨hx, hb, hml, hown, hT⟩ (c_Fi_offset l s.heap a0) (va_cwS 1 hT (gB_SV mw_149 mw_150 mw_16 mw_151) rfl rfl rfl (by decide +kernel) ⟨Nat.le_of_ble_eq_true rfl, Nat.le_of_ble_eq_true rfl⟩) ⟨fun _ _ _ _ q => q, fun U hU hW => ⟨rfl, hU⟩⟩ rfl rfl hl.1 rfl (lv_room (Nat.le_of_ble_eq_true rfl)) dFo_isMoveOffset_1 ⟨Nat.zero_le _, Nat.zero_le _⟩) hS (fun _ _ h => h.elim) (fun _ h => h.elim) (fun r u t H1 locs ht hvm hw hB hz8 hk8 hS => ?_)
  obtain rfl : s.heap = H1 := hB.symm.trans ht
  subst hw
  by_cases c1 : (f_Fi_offset a0) = (0 : Int32)
  · skip
    refine lv_lookup (tgt := 48) (off := 44) hx hb dFo_isMoveOffset_4 (by decide) (by rw [c1]; rfl) (by decide) ?_
    refine lv_iconst (v := (1 : Int32)) hx hb dFo_isMoveOffset_48 (by decide) ?_
    exact W.zret (v := (1 : Int32)) hx hb hr rfl (fun t ht hW => ⟨⟨(1 : Int32), (), rfl, (by unfold f_Fo_isMoveOffset; rw [if_pos c1]; try rfl), ht⟩, hS.F ht⟩) hS.2.2 dFo_isMoveOffset_49
  by_cases c2 : (f_Fi_offset a0) = (8 : Int32)
  · skip
    refine lv_lookup (tgt := 50) (off := 46) hx hb dFo_isMoveOffset_4 (by decide) (by rw [c2]; rfl) (by decide) ?_
    refine lv_lload_n hx hb dFo_isMoveOffset_50 rfl (lv_at hl 0 rfl) ?_
    refine va_calli (va_runS (As := [.long a0]) (rest := []) ⟨hx, hb, hml, hown, hT⟩ (c_Fi_usesSource l s.heap a0) (va_cwS 1 hT (gB_SV mw_192 mw_193 mw_16 mw_194) rfl rfl rfl (by decide +kernel) ⟨Nat.le_of_ble_eq_true rfl, Nat.le_of_ble_eq_true rfl⟩) ⟨fun _ _ _ _ q => q, fun U hU hW => ⟨rfl, hU⟩⟩ rfl rfl hl.1 rfl (lv_room (Nat.le_of_ble_eq_true rfl)) dFo_isMoveOffset_51 ⟨Nat.zero_le _, Nat.zero_le _⟩) hS (fun _ _ h => h.elim) (fun _ h => h.elim) (fun r u t H1 locs ht hvm hw hB hz8 hk8 hS => ?_)
    obtain rfl : s.heap = H1 := hB.symm.trans ht
    subst hw
    exact W.zret (v := (bI (f_Fi_usesSource a0))) hx hb hr (bI_nar _) (fun t ht hW => ⟨⟨(bI (f_Fi_usesSource a0)), (), rfl, (by unfold f_Fo_isMoveOffset; rw [if_neg c1, if_pos c2]; try rfl), ht⟩, hS.F ht⟩) hS.2.2 dFo_isMoveOffset_54
  by_cases c3 : (f_Fi_offset a0) = (16 : Int32)
  · skip
    refine lv_lookup (tgt := 50) (off := 46) hx hb dFo_isMoveOffset_4 (by decide) (by rw [c3]; rfl) (by decide) ?_
    refine lv_lload_n hx hb dFo_isMoveOffset_50 rfl (lv_at hl 0 rfl) ?_
    refine va_calli (va_runS (As := [.long a0]) (rest := []) ⟨hx, hb, hml, hown, hT⟩ (c_Fi_usesSource l s.heap a0) (va_cwS 1 hT (gB_SV mw_192 mw_193 mw_16 mw_194) rfl rfl rfl (by decide +kernel) ⟨Nat.le_of_ble_eq_true rfl, Nat.le_of_ble_eq_true rfl⟩) ⟨fun _ _ _ _ q => q, fun U hU hW => ⟨rfl, hU⟩⟩ rfl rfl hl.1 rfl (lv_room (Nat.le_of_ble_eq_true rfl)) dFo_isMoveOffset_51 ⟨Nat.zero_le _, Nat.zero_le _⟩) hS (fun _ _ h => h.elim) (fun _ h => h.elim) (fun r u t H1 locs ht hvm hw hB hz8 hk8 hS => ?_)
    obtain rfl : s.heap = H1 := hB.symm.trans ht
    subst hw
    exact W.zret (v := (bI (f_Fi_usesSource a0))) hx hb hr (bI_nar _) (fun t ht hW => ⟨⟨(bI (f_Fi_usesSource a0)), (), rfl, (by unfold f_Fo_isMoveOffset; rw [if_neg c1, if_neg c2, if_pos c3]; try rfl), ht⟩, hS.F ht⟩) hS.2.2 dFo_isMoveOffset_54
  by_cases c4 : (f_Fi_offset a0) = (32 : Int32)
  · skip
    refine lv_lookup (tgt := 55) (off := 51) hx hb dFo_isMoveOffset_4 (by decide) (by rw [c4]; rfl) (by decide) ?_
    refine lv_lload_n hx hb dFo_isMoveOffset_55 rfl (lv_at hl 0 rfl) ?_
    refine va_calli (va_runS (As := [.long a0]) (rest := []) ⟨hx, hb, hml, hown, hT⟩ (c_Fi_usesSource l s.heap a0) (va_cwS 1 hT (gB_SV mw_192 mw_193 mw_16 mw_194) rfl rfl rfl (by decide +kernel) ⟨Nat.le_of_ble_eq_true rfl, Nat.le_of_ble_eq_true rfl⟩) ⟨fun _ _ _ _ q => q, fun U hU hW => ⟨rfl, hU⟩⟩ rfl rfl hl.1 rfl (lv_room (Nat.le_of_ble_eq_true rfl)) dFo_isMoveOffset_56 ⟨Nat.zero_le _, Nat.zero_le _⟩) hS (fun _ _ h => h.elim) (fun _ h => h.elim) (fun r u t H1 locs ht hvm hw hB hz8 hk8 hS => ?_)
    obtain rfl : s.heap = H1 := hB.symm.trans ht
    subst hw
    refine lv_if_eq (tgt := 75) hx hb dFo_isMoveOffset_59 (by decide) (fun c5 => ?_) (fun c5 => ?_)
    · have c5 := bI_z c5
      refine lv_iconst (v := (0 : Int32)) hx hb dFo_isMoveOffset_75 (by decide) ?_
      exact W.zret (v := (0 : Int32)) hx hb hr rfl (fun t ht hW => ⟨⟨(0 : Int32), (), rfl, (by unfold f_Fo_isMoveOffset; rw [if_neg c1, if_neg c2, if_neg c3, if_pos c4, if_neg c5]; try rfl), ht⟩, hS.F ht⟩) hS.2.2 dFo_isMoveOffset_76
    · have c5 := bI_n c5
      refine lv_lload_n hx hb dFo_isMoveOffset_62 rfl (lv_at hl 0 rfl) ?_
      refine va_calli (va_runS (As := [.long a0]) (rest := []) ⟨hx, hb, hml, hown, hT⟩ (c_Fi_kind l s.heap a0) (va_cwS 1 hT (gB_SV mw_131 mw_132 mw_16 mw_133) rfl rfl rfl (by decide +kernel) ⟨Nat.le_of_ble_eq_true rfl, Nat.le_of_ble_eq_true rfl⟩) ⟨fun _ _ _ _ q => q, fun U hU hW => ⟨rfl, hU⟩⟩ rfl rfl hl.1 rfl (lv_room (Nat.le_of_ble_eq_true rfl)) dFo_isMoveOffset_63 ⟨Nat.zero_le _, Nat.zero_le _⟩) hS (fun _ _ h => h.elim) (fun _ h => h.elim) (fun r u t H1 locs ht hvm hw hB hz8 hk8 hS => ?_)
      obtain rfl : s.heap = H1 := hB.symm.trans ht
      subst hw
      refine lv_bipush (v := (7 : Int32)) hx hb dFo_isMoveOffset_66 (by decide) ?_
      refine lv_icmp_ne (tgt := 75) hx hb dFo_isMoveOffset_68 (by decide) (fun c6 => ?_) (fun c6 => ?_)
      · skip
        refine lv_iconst (v := (0 : Int32)) hx hb dFo_isMoveOffset_75 (by decide) ?_
        exact W.zret (v := (0 : Int32)) hx hb hr rfl (fun t ht hW => ⟨⟨(0 : Int32), (), rfl, (by unfold f_Fo_isMoveOffset; rw [if_neg c1, if_neg c2, if_neg c3, if_pos c4, if_pos c5, if_neg c6]; try rfl), ht⟩, hS.F ht⟩) hS.2.2 dFo_isMoveOffset_76
      · skip
        refine lv_iconst (v := (1 : Int32)) hx hb dFo_isMoveOffset_71 (by decide) ?_
        refine lv_goto (tgt := 76) hx hb dFo_isMoveOffset_72 (by decide) ?_
        exact W.zret (v := (1 : Int32)) hx hb hr rfl (fun t ht hW => ⟨⟨(1 : Int32), (), rfl, (by unfold f_Fo_isMoveOffset; rw [if_neg c1, if_neg c2, if_neg c3, if_pos c4, if_pos c5, if_pos c6]; try rfl), ht⟩, hS.F ht⟩) hS.2.2 dFo_isMoveOffset_76
  refine lv_lookup (tgt := 77) (off := 73) hx hb dFo_isMoveOffset_4 (by decide) (by rw [lv_osw c1 (by decide), lv_osw c2 (by decide), lv_osw c3 (by decide), lv_osw c4 (by decide)]; rfl) (by decide) ?_
  refine lv_iconst (v := (0 : Int32)) hx hb dFo_isMoveOffset_77 (by decide) ?_
  exact W.zret (v := (0 : Int32)) hx hb hr rfl (fun t ht hW => ⟨⟨(0 : Int32), (), rfl, (by unfold f_Fo_isMoveOffset; rw [if_neg c1, if_neg c2, if_neg c3, if_neg c4]; try rfl), ht⟩, hS.F ht⟩) hS.2.2 dFo_isMoveOffset_78

def f_Fo_isTurning (a0 : Int64) : Bool :=
  if (f_Fi_kind a0) = (4 : Int32) then
    if (f_Fi_source a0) = 0 then
      if (f_Fi_offset a0) = 0 then
        if (f_Fi_immediate a0) = (16 : Int32) then
          true
        else
          if (f_Fi_immediate a0) = (32 : Int32) then
            true
          else
            if (f_Fi_immediate a0) = (64 : Int32) then
              true
            else
              false
      else
        false
    else
      false
  else
    if (f_Fi_usesSource a0) = true then
      false
    else
      if (f_Fi_source a0) = 0 then
        if (f_Fi_offset a0) = 0 then
          if (f_Fi_immediate a0) = (16 : Int32) then
            true
          else
            if (f_Fi_immediate a0) = (32 : Int32) then
              true
            else
              if (f_Fi_immediate a0) = (64 : Int32) then
                true
              else
                false
        else
          false
      else
        false
set_option maxHeartbeats 4000000 in
set_option maxRecDepth 100000 in
theorem c_Fo_isTurning (l : Launch) (Hp : Heap) (a0 : Int64) : Met l yFo_isTurning wsFo_isTurning ({ frames := 1, cells := 0, slots := 0, locals := 21 }) (va_Pc [.long a0] (fun U => U.heap = Hp)) (va_Qi (fun (r : Int32) (_ : Unit) => r = (bI (f_Fo_isTurning a0))) (fun _ t => t.heap = Hp) (fun _ => False)) 0 0 (fun _ => False) := by
  refine Met.ofW (cc := cFo_isTurning) (maxL := 3) (ret := (some .boolean)) (by decide) rfl ?_
  intro p e s m args below meth c s₁ B hml hv
  obtain ⟨rfl, rfl⟩ := hv
  have hx := B.exec
  have hb := B.bytes
  have hr := B.returns
  have hT : ∀ w ∈ tB, w.before _ s = true := fun w h => atoms_spec (ws := wsFo_isTurning) B.pre w (List.mem_cons_of_mem _ h)
  have hown : s.vm.findClass "CompiledProgram$Form" = some m.cls := findClass_of_methodNamed B.named
  have hlocks := B.notSynchronized
  have hS : va_S (fun _ => False) s.heap s.heap [] := va_S.rf
  have hl := lv_entry ([.long a0]) (n := 3) (Nat.le_of_ble_eq_true rfl)
  rw [lg_entry_eq]
  generalize (lg_sl ([.long a0]) ++ List.replicate (3 - (lg_sl ([.long a0])).length) Slot.unset).toArray = ls at hl ⊢
  have hl : lv_has ls 3 [(0, .long a0)] := hl
  refine lv_lload_n hx hb dFo_isTurning_0 rfl (lv_at hl 0 rfl) ?_
  refine va_calli (va_runS (As := [.long a0]) (rest := []) ⟨hx, hb, hml, hown, hT⟩ (c_Fi_immediate l s.heap a0) (va_cwS 1 hT (gB_SV mw_152 mw_153 mw_16 mw_154) rfl rfl rfl (by decide +kernel) ⟨Nat.le_of_ble_eq_true rfl, Nat.le_of_ble_eq_true rfl⟩) ⟨fun _ _ _ _ q => q, fun U hU hW => ⟨rfl, hU⟩⟩ rfl rfl hl.1 rfl (lv_room (Nat.le_of_ble_eq_true rfl)) dFo_isTurning_1 ⟨Nat.zero_le _, Nat.zero_le _⟩) hS (fun _ _ h => h.elim) (fun _ h => h.elim) (fun r u t H1 locs ht hvm hw hB hz8 hk8 hS => ?_)
  obtain rfl : s.heap = H1 := hB.symm.trans ht
  subst hw
  refine lv_istore_n (lv' := [(2, .int (f_Fi_immediate a0)), (0, .long a0)]) hx hb dFo_isTurning_4 rfl hl (by decide) rfl (fun ls hl => ?_)
  refine lv_lload_n hx hb dFo_isTurning_5 rfl (lv_at hl 1 rfl) ?_
  refine va_calli (va_runS (As := [.long a0]) (rest := []) ⟨hx, hb, hml, hown, hT⟩ (c_Fi_kind l s.heap a0) (va_cwS 1 hT (gB_SV mw_131 mw_132 mw_16 mw_133) rfl rfl rfl (by decide +kernel) ⟨Nat.le_of_ble_eq_true rfl, Nat.le_of_ble_eq_true rfl⟩) ⟨fun _ _ _ _ q => q, fun U hU hW => ⟨rfl, hU⟩⟩ rfl rfl hl.1 rfl (lv_room (Nat.le_of_ble_eq_true rfl)) dFo_isTurning_6 ⟨Nat.zero_le _, Nat.zero_le _⟩) hS (fun _ _ h => h.elim) (fun _ h => h.elim) (fun r u t H1 locs ht hvm hw hB hz8 hk8 hS => ?_)
  obtain rfl : s.heap = H1 := hB.symm.trans ht
  subst hw
  refine lv_iconst (v := (4 : Int32)) hx hb dFo_isTurning_9 (by decide) ?_
  refine lv_icmp_eq (tgt := 20) hx hb dFo_isTurning_10 (by decide) (fun c1 => ?_) (fun c1 => ?_)
  · skip
    refine lv_lload_n hx hb dFo_isTurning_20 rfl (lv_at hl 1 rfl) ?_
    refine va_calli (va_runS (As := [.long a0]) (rest := []) ⟨hx, hb, hml, hown, hT⟩ (c_Fi_source l s.heap a0) (va_cwS 1 hT (gB_SV mw_137 mw_138 mw_16 mw_139) rfl rfl rfl (by decide +kernel) ⟨Nat.le_of_ble_eq_true rfl, Nat.le_of_ble_eq_true rfl⟩) ⟨fun _ _ _ _ q => q, fun U hU hW => ⟨rfl, hU⟩⟩ rfl rfl hl.1 rfl (lv_room (Nat.le_of_ble_eq_true rfl)) dFo_isTurning_21 ⟨Nat.zero_le _, Nat.zero_le _⟩) hS (fun _ _ h => h.elim) (fun _ h => h.elim) (fun r u t H1 locs ht hvm hw hB hz8 hk8 hS => ?_)
    obtain rfl : s.heap = H1 := hB.symm.trans ht
    subst hw
    refine lv_if_ne (tgt := 56) hx hb dFo_isTurning_24 (by decide) (fun c2 => ?_) (fun c2 => ?_)
    · skip
      refine lv_iconst (v := (0 : Int32)) hx hb dFo_isTurning_56 (by decide) ?_
      exact W.zret (v := (0 : Int32)) hx hb hr rfl (fun t ht hW => ⟨⟨(0 : Int32), (), rfl, (by unfold f_Fo_isTurning; rw [if_pos c1, if_neg c2]; try rfl), ht⟩, hS.F ht⟩) hS.2.2 dFo_isTurning_57
    · skip
      refine lv_lload_n hx hb dFo_isTurning_27 rfl (lv_at hl 1 rfl) ?_
      refine va_calli (va_runS (As := [.long a0]) (rest := []) ⟨hx, hb, hml, hown, hT⟩ (c_Fi_offset l s.heap a0) (va_cwS 1 hT (gB_SV mw_149 mw_150 mw_16 mw_151) rfl rfl rfl (by decide +kernel) ⟨Nat.le_of_ble_eq_true rfl, Nat.le_of_ble_eq_true rfl⟩) ⟨fun _ _ _ _ q => q, fun U hU hW => ⟨rfl, hU⟩⟩ rfl rfl hl.1 rfl (lv_room (Nat.le_of_ble_eq_true rfl)) dFo_isTurning_28 ⟨Nat.zero_le _, Nat.zero_le _⟩) hS (fun _ _ h => h.elim) (fun _ h => h.elim) (fun r u t H1 locs ht hvm hw hB hz8 hk8 hS => ?_)
      obtain rfl : s.heap = H1 := hB.symm.trans ht
      subst hw
      refine lv_if_ne (tgt := 56) hx hb dFo_isTurning_31 (by decide) (fun c3 => ?_) (fun c3 => ?_)
      · skip
        refine lv_iconst (v := (0 : Int32)) hx hb dFo_isTurning_56 (by decide) ?_
        exact W.zret (v := (0 : Int32)) hx hb hr rfl (fun t ht hW => ⟨⟨(0 : Int32), (), rfl, (by unfold f_Fo_isTurning; rw [if_pos c1, if_pos c2, if_neg c3]; try rfl), ht⟩, hS.F ht⟩) hS.2.2 dFo_isTurning_57
      · skip
        refine lv_iload_n hx hb dFo_isTurning_34 rfl (lv_at hl 0 rfl) ?_
        refine lv_bipush (v := (16 : Int32)) hx hb dFo_isTurning_35 (by decide) ?_
        refine lv_icmp_eq (tgt := 52) hx hb dFo_isTurning_37 (by decide) (fun c4 => ?_) (fun c4 => ?_)
        · skip
          refine lv_iconst (v := (1 : Int32)) hx hb dFo_isTurning_52 (by decide) ?_
          refine lv_goto (tgt := 57) hx hb dFo_isTurning_53 (by decide) ?_
          exact W.zret (v := (1 : Int32)) hx hb hr rfl (fun t ht hW => ⟨⟨(1 : Int32), (), rfl, (by unfold f_Fo_isTurning; rw [if_pos c1, if_pos c2, if_pos c3, if_pos c4]; try rfl), ht⟩, hS.F ht⟩) hS.2.2 dFo_isTurning_57
        · skip
          refine lv_iload_n hx hb dFo_isTurning_40 rfl (lv_at hl 0 rfl) ?_
          refine lv_bipush (v := (32 : Int32)) hx hb dFo_isTurning_41 (by decide) ?_
          refine lv_icmp_eq (tgt := 52) hx hb dFo_isTurning_43 (by decide) (fun c5 => ?_) (fun c5 => ?_)
          · skip
            refine lv_iconst (v := (1 : Int32)) hx hb dFo_isTurning_52 (by decide) ?_
            refine lv_goto (tgt := 57) hx hb dFo_isTurning_53 (by decide) ?_
            exact W.zret (v := (1 : Int32)) hx hb hr rfl (fun t ht hW => ⟨⟨(1 : Int32), (), rfl, (by unfold f_Fo_isTurning; rw [if_pos c1, if_pos c2, if_pos c3, if_neg c4, if_pos c5]; try rfl), ht⟩, hS.F ht⟩) hS.2.2 dFo_isTurning_57
          · skip
            refine lv_iload_n hx hb dFo_isTurning_46 rfl (lv_at hl 0 rfl) ?_
            refine lv_bipush (v := (64 : Int32)) hx hb dFo_isTurning_47 (by decide) ?_
            refine lv_icmp_ne (tgt := 56) hx hb dFo_isTurning_49 (by decide) (fun c6 => ?_) (fun c6 => ?_)
            · skip
              refine lv_iconst (v := (0 : Int32)) hx hb dFo_isTurning_56 (by decide) ?_
              exact W.zret (v := (0 : Int32)) hx hb hr rfl (fun t ht hW => ⟨⟨(0 : Int32), (), rfl, (by unfold f_Fo_isTurning; rw [if_pos c1, if_pos c2, if_pos c3, if_neg c4, if_neg c5, if_neg c6]; try rfl), ht⟩, hS.F ht⟩) hS.2.2 dFo_isTurning_57
            · skip
              refine lv_iconst (v := (1 : Int32)) hx hb dFo_isTurning_52 (by decide) ?_
              refine lv_goto (tgt := 57) hx hb dFo_isTurning_53 (by decide) ?_
              exact W.zret (v := (1 : Int32)) hx hb hr rfl (fun t ht hW => ⟨⟨(1 : Int32), (), rfl, (by unfold f_Fo_isTurning; rw [if_pos c1, if_pos c2, if_pos c3, if_neg c4, if_neg c5, if_pos c6]; try rfl), ht⟩, hS.F ht⟩) hS.2.2 dFo_isTurning_57
  · skip
    refine lv_lload_n hx hb dFo_isTurning_13 rfl (lv_at hl 1 rfl) ?_
    refine va_calli (va_runS (As := [.long a0]) (rest := []) ⟨hx, hb, hml, hown, hT⟩ (c_Fi_usesSource l s.heap a0) (va_cwS 1 hT (gB_SV mw_192 mw_193 mw_16 mw_194) rfl rfl rfl (by decide +kernel) ⟨Nat.le_of_ble_eq_true rfl, Nat.le_of_ble_eq_true rfl⟩) ⟨fun _ _ _ _ q => q, fun U hU hW => ⟨rfl, hU⟩⟩ rfl rfl hl.1 rfl (lv_room (Nat.le_of_ble_eq_true rfl)) dFo_isTurning_14 ⟨Nat.zero_le _, Nat.zero_le _⟩) hS (fun _ _ h => h.elim) (fun _ h => h.elim) (fun r u t H1 locs ht hvm hw hB hz8 hk8 hS => ?_)
    obtain rfl : s.heap = H1 := hB.symm.trans ht
    subst hw
    refine lv_if_ne (tgt := 56) hx hb dFo_isTurning_17 (by decide) (fun c7 => ?_) (fun c7 => ?_)
    · have c7 := bI_n c7
      refine lv_iconst (v := (0 : Int32)) hx hb dFo_isTurning_56 (by decide) ?_
      exact W.zret (v := (0 : Int32)) hx hb hr rfl (fun t ht hW => ⟨⟨(0 : Int32), (), rfl, (by unfold f_Fo_isTurning; rw [if_neg c1, if_pos c7]; try rfl), ht⟩, hS.F ht⟩) hS.2.2 dFo_isTurning_57
    · have c7 := bI_z c7
      refine lv_lload_n hx hb dFo_isTurning_20 rfl (lv_at hl 1 rfl) ?_
      refine va_calli (va_runS (As := [.long a0]) (rest := []) ⟨hx, hb, hml, hown, hT⟩ (c_Fi_source l s.heap a0) (va_cwS 1 hT (gB_SV mw_137 mw_138 mw_16 mw_139) rfl rfl rfl (by decide +kernel) ⟨Nat.le_of_ble_eq_true rfl, Nat.le_of_ble_eq_true rfl⟩) ⟨fun _ _ _ _ q => q, fun U hU hW => ⟨rfl, hU⟩⟩ rfl rfl hl.1 rfl (lv_room (Nat.le_of_ble_eq_true rfl)) dFo_isTurning_21 ⟨Nat.zero_le _, Nat.zero_le _⟩) hS (fun _ _ h => h.elim) (fun _ h => h.elim) (fun r u t H1 locs ht hvm hw hB hz8 hk8 hS => ?_)
      obtain rfl : s.heap = H1 := hB.symm.trans ht
      subst hw
      refine lv_if_ne (tgt := 56) hx hb dFo_isTurning_24 (by decide) (fun c8 => ?_) (fun c8 => ?_)
      · skip
        refine lv_iconst (v := (0 : Int32)) hx hb dFo_isTurning_56 (by decide) ?_
        exact W.zret (v := (0 : Int32)) hx hb hr rfl (fun t ht hW => ⟨⟨(0 : Int32), (), rfl, (by unfold f_Fo_isTurning; rw [if_neg c1, if_neg c7, if_neg c8]; try rfl), ht⟩, hS.F ht⟩) hS.2.2 dFo_isTurning_57
      · skip
        refine lv_lload_n hx hb dFo_isTurning_27 rfl (lv_at hl 1 rfl) ?_
        refine va_calli (va_runS (As := [.long a0]) (rest := []) ⟨hx, hb, hml, hown, hT⟩ (c_Fi_offset l s.heap a0) (va_cwS 1 hT (gB_SV mw_149 mw_150 mw_16 mw_151) rfl rfl rfl (by decide +kernel) ⟨Nat.le_of_ble_eq_true rfl, Nat.le_of_ble_eq_true rfl⟩) ⟨fun _ _ _ _ q => q, fun U hU hW => ⟨rfl, hU⟩⟩ rfl rfl hl.1 rfl (lv_room (Nat.le_of_ble_eq_true rfl)) dFo_isTurning_28 ⟨Nat.zero_le _, Nat.zero_le _⟩) hS (fun _ _ h => h.elim) (fun _ h => h.elim) (fun r u t H1 locs ht hvm hw hB hz8 hk8 hS => ?_)
        obtain rfl : s.heap = H1 := hB.symm.trans ht
        subst hw
        refine lv_if_ne (tgt := 56) hx hb dFo_isTurning_31 (by decide) (fun c9 => ?_) (fun c9 => ?_)
        · skip
          refine lv_iconst (v := (0 : Int32)) hx hb dFo_isTurning_56 (by decide) ?_
          exact W.zret (v := (0 : Int32)) hx hb hr rfl (fun t ht hW => ⟨⟨(0 : Int32), (), rfl, (by unfold f_Fo_isTurning; rw [if_neg c1, if_neg c7, if_pos c8, if_neg c9]; try rfl), ht⟩, hS.F ht⟩) hS.2.2 dFo_isTurning_57
        · skip
          refine lv_iload_n hx hb dFo_isTurning_34 rfl (lv_at hl 0 rfl) ?_
          refine lv_bipush (v := (16 : Int32)) hx hb dFo_isTurning_35 (by decide) ?_
          refine lv_icmp_eq (tgt := 52) hx hb dFo_isTurning_37 (by decide) (fun c10 => ?_) (fun c10 => ?_)
          · skip
            refine lv_iconst (v := (1 : Int32)) hx hb dFo_isTurning_52 (by decide) ?_
            refine lv_goto (tgt := 57) hx hb dFo_isTurning_53 (by decide) ?_
            exact W.zret (v := (1 : Int32)) hx hb hr rfl (fun t ht hW => ⟨⟨(1 : Int32), (), rfl, (by unfold f_Fo_isTurning; rw [if_neg c1, if_neg c7, if_pos c8, if_pos c9, if_pos c10]; try rfl), ht⟩, hS.F ht⟩) hS.2.2 dFo_isTurning_57
          · skip
            refine lv_iload_n hx hb dFo_isTurning_40 rfl (lv_at hl 0 rfl) ?_
            refine lv_bipush (v := (32 : Int32)) hx hb dFo_isTurning_41 (by decide) ?_
            refine lv_icmp_eq (tgt := 52) hx hb dFo_isTurning_43 (by decide) (fun c11 => ?_) (fun c11 => ?_)
            · skip
              refine lv_iconst (v := (1 : Int32)) hx hb dFo_isTurning_52 (by decide) ?_
              refine lv_goto (tgt := 57) hx hb dFo_isTurning_53 (by decide) ?_
              exact W.zret (v := (1 : Int32)) hx hb hr rfl (fun t ht hW => ⟨⟨(1 : Int32), (), rfl, (by unfold f_Fo_isTurning; rw [if_neg c1, if_neg c7, if_pos c8, if_pos c9, if_neg c10, if_pos c11]; try rfl), ht⟩, hS.F ht⟩) hS.2.2 dFo_isTurning_57
            · skip
              refine lv_iload_n hx hb dFo_isTurning_46 rfl (lv_at hl 0 rfl) ?_
              refine lv_bipush (v := (64 : Int32)) hx hb dFo_isTurning_47 (by decide) ?_
              refine lv_icmp_ne (tgt := 56) hx hb dFo_isTurning_49 (by decide) (fun c12 => ?_) (fun c12 => ?_)
              · skip
                refine lv_iconst (v := (0 : Int32)) hx hb dFo_isTurning_56 (by decide) ?_
                exact W.zret (v := (0 : Int32)) hx hb hr rfl (fun t ht hW => ⟨⟨(0 : Int32), (), rfl, (by unfold f_Fo_isTurning; rw [if_neg c1, if_neg c7, if_pos c8, if_pos c9, if_neg c10, if_neg c11, if_neg c12]; try rfl), ht⟩, hS.F ht⟩) hS.2.2 dFo_isTurning_57
              · skip
                refine lv_iconst (v := (1 : Int32)) hx hb dFo_isTurning_52 (by decide) ?_
                refine lv_goto (tgt := 57) hx hb dFo_isTurning_53 (by decide) ?_
                exact W.zret (v := (1 : Int32)) hx hb hr rfl (fun t ht hW => ⟨⟨(1 : Int32), (), rfl, (by unfold f_Fo_isTurning; rw [if_neg c1, if_neg c7, if_pos c8, if_pos c9, if_neg c10, if_neg c11, if_pos c12]; try rfl), ht⟩, hS.F ht⟩) hS.2.2 dFo_isTurning_57

def f_Fo_isArithmetic (a0 : Int64) : Bool :=
  if (f_Fi_target a0) ≤ (9 : Int32) then
    if (f_Fi_operation a0) = (3 : Int32) then
      if (f_Fo_hasOperand a0) = true then
        if (f_Fi_offset a0) = 0 then
          true
        else
          if (f_Fi_offset a0) = (1 : Int32) then
            true
          else
            false
      else
        false
    else
      if (f_Fi_operation a0) = (4 : Int32) then
        if (f_Fo_hasOperand a0) = true then
          if (f_Fi_offset a0) = 0 then
            true
          else
            false
        else
          false
      else
        if (f_Fi_operation a0) = (5 : Int32) then
          if (f_Fo_hasOperand a0) = true then
            if (f_Fi_offset a0) = 0 then
              true
            else
              false
          else
            false
        else
          if (f_Fi_operation a0) = (6 : Int32) then
            if (f_Fo_hasOperand a0) = true then
              if (f_Fi_offset a0) = 0 then
                true
              else
                false
            else
              false
          else
            if (f_Fi_operation a0) = (7 : Int32) then
              if (f_Fo_hasOperand a0) = true then
                if (f_Fi_offset a0) = 0 then
                  true
                else
                  false
              else
                false
            else
              if (f_Fi_operation a0) = (8 : Int32) then
                if (f_Fi_usesSource a0) = true then
                  false
                else
                  if (f_Fo_hasOperand a0) = true then
                    if (f_Fi_immediate a0) = 0 then
                      if (f_Fi_offset a0) = 0 then
                        true
                      else
                        false
                    else
                      false
                  else
                    false
              else
                if (f_Fi_operation a0) = (9 : Int32) then
                  if (f_Fo_hasOperand a0) = true then
                    if (f_Fi_offset a0) = 0 then
                      true
                    else
                      if (f_Fi_offset a0) = (1 : Int32) then
                        true
                      else
                        false
                  else
                    false
                else
                  if (f_Fi_operation a0) = (10 : Int32) then
                    if (f_Fo_hasOperand a0) = true then
                      if (f_Fi_offset a0) = 0 then
                        true
                      else
                        false
                    else
                      false
                  else
                    if (f_Fi_operation a0) = (11 : Int32) then
                      if (f_Fo_hasOperand a0) = true then
                        if (f_Fo_isMoveOffset a0) = true then
                          true
                        else
                          false
                      else
                        false
                    else
                      if (f_Fi_operation a0) = (12 : Int32) then
                        if (f_Fo_hasOperand a0) = true then
                          if (f_Fi_offset a0) = 0 then
                            true
                          else
                            false
                        else
                          false
                      else
                        if (f_Fi_operation a0) = (13 : Int32) then
                          (f_Fo_isTurning a0)
                        else
                          if (f_Fi_operation a0) = (14 : Int32) then
                            false
                          else
                            if (f_Fi_operation a0) = (15 : Int32) then
                              false
                            else
                              if (f_Fo_hasOperand a0) = true then
                                if (f_Fi_offset a0) = 0 then
                                  true
                                else
                                  false
                              else
                                false
  else
    false
set_option maxHeartbeats 4000000 in
set_option maxRecDepth 100000 in
theorem c_Fo_isArithmetic (l : Launch) (Hp : Heap) (a0 : Int64) : Met l yFo_isArithmetic wsFo_isArithmetic ({ frames := 2, cells := 0, slots := 0, locals := 43 }) (va_Pc [.long a0] (fun U => U.heap = Hp)) (va_Qi (fun (r : Int32) (_ : Unit) => r = (bI (f_Fo_isArithmetic a0))) (fun _ t => t.heap = Hp) (fun _ => False)) 0 0 (fun _ => False) := by
  refine Met.ofW (cc := cFo_isArithmetic) (maxL := 2) (ret := (some .boolean)) (by decide) rfl ?_
  intro p e s m args below meth c s₁ B hml hv
  obtain ⟨rfl, rfl⟩ := hv
  have hx := B.exec
  have hb := B.bytes
  have hr := B.returns
  have hT : ∀ w ∈ tB, w.before _ s = true := fun w h => atoms_spec (ws := wsFo_isArithmetic) B.pre w (List.mem_cons_of_mem _ h)
  have hown : s.vm.findClass "CompiledProgram$Form" = some m.cls := findClass_of_methodNamed B.named
  have hlocks := B.notSynchronized
  have hS : va_S (fun _ => False) s.heap s.heap [] := va_S.rf
  have hl := lv_entry ([.long a0]) (n := 2) (Nat.le_of_ble_eq_true rfl)
  rw [lg_entry_eq]
  generalize (lg_sl ([.long a0]) ++ List.replicate (2 - (lg_sl ([.long a0])).length) Slot.unset).toArray = ls at hl ⊢
  have hl : lv_has ls 2 [(0, .long a0)] := hl
  refine lv_lload_n hx hb dFo_isArithmetic_0 rfl (lv_at hl 0 rfl) ?_
  refine va_calli (va_runS (As := [.long a0]) (rest := []) ⟨hx, hb, hml, hown, hT⟩ (c_Fi_target l s.heap a0) (va_cwS 1 hT (gB_SV mw_146 mw_147 mw_16 mw_148) rfl rfl rfl (by decide +kernel) ⟨Nat.le_of_ble_eq_true rfl, Nat.le_of_ble_eq_true rfl⟩) ⟨fun _ _ _ _ q => q, fun U hU hW => ⟨rfl, hU⟩⟩ rfl rfl hl.1 rfl (lv_room (Nat.le_of_ble_eq_true rfl)) dFo_isArithmetic_1 ⟨Nat.zero_le _, Nat.zero_le _⟩) hS (fun _ _ h => h.elim) (fun _ h => h.elim) (fun r u t H1 locs ht hvm hw hB hz8 hk8 hS => ?_)
  obtain rfl : s.heap = H1 := hB.symm.trans ht
  subst hw
  refine lv_bipush (v := (9 : Int32)) hx hb dFo_isArithmetic_4 (by decide) ?_
  refine lv_icmp_le (tgt := 11) hx hb dFo_isArithmetic_6 (by decide) (fun c1 => ?_) (fun c1 => ?_)
  · skip
    refine lv_lload_n hx hb dFo_isArithmetic_11 rfl (lv_at hl 0 rfl) ?_
    refine va_calli (va_runS (As := [.long a0]) (rest := []) ⟨hx, hb, hml, hown, hT⟩ (c_Fi_operation l s.heap a0) (va_cwS 1 hT (gB_SV mw_203 mw_183 mw_16 mw_184) rfl rfl rfl (by decide +kernel) ⟨Nat.le_of_ble_eq_true rfl, Nat.le_of_ble_eq_true rfl⟩) ⟨fun _ _ _ _ q => q, fun U hU hW => ⟨rfl, hU⟩⟩ rfl rfl hl.1 rfl (lv_room (Nat.le_of_ble_eq_true rfl)) dFo_isArithmetic_12 ⟨Nat.zero_le _, Nat.zero_le _⟩) hS (fun _ _ h => h.elim) (fun _ h => h.elim) (fun r u t H1 locs ht hvm hw hB hz8 hk8 hS => ?_)
    obtain rfl : s.heap = H1 := hB.symm.trans ht
    subst hw
    by_cases c2 : (f_Fi_operation a0) = (3 : Int32)
    · skip
      refine lv_tableIn (tgt := 80) (off := 65) hx hb dFo_isArithmetic_15 (by rw [c2]; decide) (by rw [c2]; decide) (by rw [c2]; rfl) (by decide) ?_
      refine lv_lload_n hx hb dFo_isArithmetic_80 rfl (lv_at hl 0 rfl) ?_
      refine va_calli (va_runS (As := [.long a0]) (rest := []) ⟨hx, hb, hml, hown, hT⟩ (c_Fo_hasOperand l s.heap a0) (cwS 1 hT (gB_S mw_189 mw_190 mw_15 mw_191) rfl rfl rfl (by decide +kernel) ⟨Nat.le_of_ble_eq_true rfl, Nat.le_of_ble_eq_true rfl⟩) ⟨fun _ _ _ _ q => q, fun U hU hW => ⟨rfl, hU⟩⟩ rfl rfl hl.1 rfl (lv_room (Nat.le_of_ble_eq_true rfl)) dFo_isArithmetic_81 ⟨Nat.zero_le _, Nat.zero_le _⟩) hS (fun _ _ h => h.elim) (fun _ h => h.elim) (fun r u t H1 locs ht hvm hw hB hz8 hk8 hS => ?_)
      obtain rfl : s.heap = H1 := hB.symm.trans ht
      subst hw
      refine lv_if_eq (tgt := 106) hx hb dFo_isArithmetic_84 (by decide) (fun c3 => ?_) (fun c3 => ?_)
      · have c3 := bI_z c3
        refine lv_iconst (v := (0 : Int32)) hx hb dFo_isArithmetic_106 (by decide) ?_
        exact W.zret (v := (0 : Int32)) hx hb hr rfl (fun t ht hW => ⟨⟨(0 : Int32), (), rfl, (by unfold f_Fo_isArithmetic; rw [if_pos c1, if_pos c2, if_neg c3]; try rfl), ht⟩, hS.F ht⟩) hS.2.2 dFo_isArithmetic_107
      · have c3 := bI_n c3
        refine lv_lload_n hx hb dFo_isArithmetic_87 rfl (lv_at hl 0 rfl) ?_
        refine va_calli (va_runS (As := [.long a0]) (rest := []) ⟨hx, hb, hml, hown, hT⟩ (c_Fi_offset l s.heap a0) (va_cwS 1 hT (gB_SV mw_149 mw_150 mw_16 mw_151) rfl rfl rfl (by decide +kernel) ⟨Nat.le_of_ble_eq_true rfl, Nat.le_of_ble_eq_true rfl⟩) ⟨fun _ _ _ _ q => q, fun U hU hW => ⟨rfl, hU⟩⟩ rfl rfl hl.1 rfl (lv_room (Nat.le_of_ble_eq_true rfl)) dFo_isArithmetic_88 ⟨Nat.zero_le _, Nat.zero_le _⟩) hS (fun _ _ h => h.elim) (fun _ h => h.elim) (fun r u t H1 locs ht hvm hw hB hz8 hk8 hS => ?_)
        obtain rfl : s.heap = H1 := hB.symm.trans ht
        subst hw
        refine lv_if_eq (tgt := 102) hx hb dFo_isArithmetic_91 (by decide) (fun c4 => ?_) (fun c4 => ?_)
        · skip
          refine lv_iconst (v := (1 : Int32)) hx hb dFo_isArithmetic_102 (by decide) ?_
          refine lv_goto (tgt := 107) hx hb dFo_isArithmetic_103 (by decide) ?_
          exact W.zret (v := (1 : Int32)) hx hb hr rfl (fun t ht hW => ⟨⟨(1 : Int32), (), rfl, (by unfold f_Fo_isArithmetic; rw [if_pos c1, if_pos c2, if_pos c3, if_pos c4]; try rfl), ht⟩, hS.F ht⟩) hS.2.2 dFo_isArithmetic_107
        · skip
          refine lv_lload_n hx hb dFo_isArithmetic_94 rfl (lv_at hl 0 rfl) ?_
          refine va_calli (va_runS (As := [.long a0]) (rest := []) ⟨hx, hb, hml, hown, hT⟩ (c_Fi_offset l s.heap a0) (va_cwS 1 hT (gB_SV mw_149 mw_150 mw_16 mw_151) rfl rfl rfl (by decide +kernel) ⟨Nat.le_of_ble_eq_true rfl, Nat.le_of_ble_eq_true rfl⟩) ⟨fun _ _ _ _ q => q, fun U hU hW => ⟨rfl, hU⟩⟩ rfl rfl hl.1 rfl (lv_room (Nat.le_of_ble_eq_true rfl)) dFo_isArithmetic_95 ⟨Nat.zero_le _, Nat.zero_le _⟩) hS (fun _ _ h => h.elim) (fun _ h => h.elim) (fun r u t H1 locs ht hvm hw hB hz8 hk8 hS => ?_)
          obtain rfl : s.heap = H1 := hB.symm.trans ht
          subst hw
          refine lv_iconst (v := (1 : Int32)) hx hb dFo_isArithmetic_98 (by decide) ?_
          refine lv_icmp_ne (tgt := 106) hx hb dFo_isArithmetic_99 (by decide) (fun c5 => ?_) (fun c5 => ?_)
          · skip
            refine lv_iconst (v := (0 : Int32)) hx hb dFo_isArithmetic_106 (by decide) ?_
            exact W.zret (v := (0 : Int32)) hx hb hr rfl (fun t ht hW => ⟨⟨(0 : Int32), (), rfl, (by unfold f_Fo_isArithmetic; rw [if_pos c1, if_pos c2, if_pos c3, if_neg c4, if_neg c5]; try rfl), ht⟩, hS.F ht⟩) hS.2.2 dFo_isArithmetic_107
          · skip
            refine lv_iconst (v := (1 : Int32)) hx hb dFo_isArithmetic_102 (by decide) ?_
            refine lv_goto (tgt := 107) hx hb dFo_isArithmetic_103 (by decide) ?_
            exact W.zret (v := (1 : Int32)) hx hb hr rfl (fun t ht hW => ⟨⟨(1 : Int32), (), rfl, (by unfold f_Fo_isArithmetic; rw [if_pos c1, if_pos c2, if_pos c3, if_neg c4, if_pos c5]; try rfl), ht⟩, hS.F ht⟩) hS.2.2 dFo_isArithmetic_107
    by_cases c6 : (f_Fi_operation a0) = (4 : Int32)
    · skip
      refine lv_tableIn (tgt := 169) (off := 154) hx hb dFo_isArithmetic_15 (by rw [c6]; decide) (by rw [c6]; decide) (by rw [c6]; rfl) (by decide) ?_
      refine lv_lload_n hx hb dFo_isArithmetic_169 rfl (lv_at hl 0 rfl) ?_
      refine va_calli (va_runS (As := [.long a0]) (rest := []) ⟨hx, hb, hml, hown, hT⟩ (c_Fo_hasOperand l s.heap a0) (cwS 1 hT (gB_S mw_189 mw_190 mw_15 mw_191) rfl rfl rfl (by decide +kernel) ⟨Nat.le_of_ble_eq_true rfl, Nat.le_of_ble_eq_true rfl⟩) ⟨fun _ _ _ _ q => q, fun U hU hW => ⟨rfl, hU⟩⟩ rfl rfl hl.1 rfl (lv_room (Nat.le_of_ble_eq_true rfl)) dFo_isArithmetic_170 ⟨Nat.zero_le _, Nat.zero_le _⟩) hS (fun _ _ h => h.elim) (fun _ h => h.elim) (fun r u t H1 locs ht hvm hw hB hz8 hk8 hS => ?_)
      obtain rfl : s.heap = H1 := hB.symm.trans ht
      subst hw
      refine lv_if_eq (tgt := 187) hx hb dFo_isArithmetic_173 (by decide) (fun c7 => ?_) (fun c7 => ?_)
      · have c7 := bI_z c7
        refine lv_iconst (v := (0 : Int32)) hx hb dFo_isArithmetic_187 (by decide) ?_
        exact W.zret (v := (0 : Int32)) hx hb hr rfl (fun t ht hW => ⟨⟨(0 : Int32), (), rfl, (by unfold f_Fo_isArithmetic; rw [if_pos c1, if_neg c2, if_pos c6, if_neg c7]; try rfl), ht⟩, hS.F ht⟩) hS.2.2 dFo_isArithmetic_188
      · have c7 := bI_n c7
        refine lv_lload_n hx hb dFo_isArithmetic_176 rfl (lv_at hl 0 rfl) ?_
        refine va_calli (va_runS (As := [.long a0]) (rest := []) ⟨hx, hb, hml, hown, hT⟩ (c_Fi_offset l s.heap a0) (va_cwS 1 hT (gB_SV mw_149 mw_150 mw_16 mw_151) rfl rfl rfl (by decide +kernel) ⟨Nat.le_of_ble_eq_true rfl, Nat.le_of_ble_eq_true rfl⟩) ⟨fun _ _ _ _ q => q, fun U hU hW => ⟨rfl, hU⟩⟩ rfl rfl hl.1 rfl (lv_room (Nat.le_of_ble_eq_true rfl)) dFo_isArithmetic_177 ⟨Nat.zero_le _, Nat.zero_le _⟩) hS (fun _ _ h => h.elim) (fun _ h => h.elim) (fun r u t H1 locs ht hvm hw hB hz8 hk8 hS => ?_)
        obtain rfl : s.heap = H1 := hB.symm.trans ht
        subst hw
        refine lv_if_ne (tgt := 187) hx hb dFo_isArithmetic_180 (by decide) (fun c8 => ?_) (fun c8 => ?_)
        · skip
          refine lv_iconst (v := (0 : Int32)) hx hb dFo_isArithmetic_187 (by decide) ?_
          exact W.zret (v := (0 : Int32)) hx hb hr rfl (fun t ht hW => ⟨⟨(0 : Int32), (), rfl, (by unfold f_Fo_isArithmetic; rw [if_pos c1, if_neg c2, if_pos c6, if_pos c7, if_neg c8]; try rfl), ht⟩, hS.F ht⟩) hS.2.2 dFo_isArithmetic_188
        · skip
          refine lv_iconst (v := (1 : Int32)) hx hb dFo_isArithmetic_183 (by decide) ?_
          refine lv_goto (tgt := 188) hx hb dFo_isArithmetic_184 (by decide) ?_
          exact W.zret (v := (1 : Int32)) hx hb hr rfl (fun t ht hW => ⟨⟨(1 : Int32), (), rfl, (by unfold f_Fo_isArithmetic; rw [if_pos c1, if_neg c2, if_pos c6, if_pos c7, if_pos c8]; try rfl), ht⟩, hS.F ht⟩) hS.2.2 dFo_isArithmetic_188
    by_cases c9 : (f_Fi_operation a0) = (5 : Int32)
    · skip
      refine lv_tableIn (tgt := 169) (off := 154) hx hb dFo_isArithmetic_15 (by rw [c9]; decide) (by rw [c9]; decide) (by rw [c9]; rfl) (by decide) ?_
      refine lv_lload_n hx hb dFo_isArithmetic_169 rfl (lv_at hl 0 rfl) ?_
      refine va_calli (va_runS (As := [.long a0]) (rest := []) ⟨hx, hb, hml, hown, hT⟩ (c_Fo_hasOperand l s.heap a0) (cwS 1 hT (gB_S mw_189 mw_190 mw_15 mw_191) rfl rfl rfl (by decide +kernel) ⟨Nat.le_of_ble_eq_true rfl, Nat.le_of_ble_eq_true rfl⟩) ⟨fun _ _ _ _ q => q, fun U hU hW => ⟨rfl, hU⟩⟩ rfl rfl hl.1 rfl (lv_room (Nat.le_of_ble_eq_true rfl)) dFo_isArithmetic_170 ⟨Nat.zero_le _, Nat.zero_le _⟩) hS (fun _ _ h => h.elim) (fun _ h => h.elim) (fun r u t H1 locs ht hvm hw hB hz8 hk8 hS => ?_)
      obtain rfl : s.heap = H1 := hB.symm.trans ht
      subst hw
      refine lv_if_eq (tgt := 187) hx hb dFo_isArithmetic_173 (by decide) (fun c10 => ?_) (fun c10 => ?_)
      · have c10 := bI_z c10
        refine lv_iconst (v := (0 : Int32)) hx hb dFo_isArithmetic_187 (by decide) ?_
        exact W.zret (v := (0 : Int32)) hx hb hr rfl (fun t ht hW => ⟨⟨(0 : Int32), (), rfl, (by unfold f_Fo_isArithmetic; rw [if_pos c1, if_neg c2, if_neg c6, if_pos c9, if_neg c10]; try rfl), ht⟩, hS.F ht⟩) hS.2.2 dFo_isArithmetic_188
      · have c10 := bI_n c10
        refine lv_lload_n hx hb dFo_isArithmetic_176 rfl (lv_at hl 0 rfl) ?_
        refine va_calli (va_runS (As := [.long a0]) (rest := []) ⟨hx, hb, hml, hown, hT⟩ (c_Fi_offset l s.heap a0) (va_cwS 1 hT (gB_SV mw_149 mw_150 mw_16 mw_151) rfl rfl rfl (by decide +kernel) ⟨Nat.le_of_ble_eq_true rfl, Nat.le_of_ble_eq_true rfl⟩) ⟨fun _ _ _ _ q => q, fun U hU hW => ⟨rfl, hU⟩⟩ rfl rfl hl.1 rfl (lv_room (Nat.le_of_ble_eq_true rfl)) dFo_isArithmetic_177 ⟨Nat.zero_le _, Nat.zero_le _⟩) hS (fun _ _ h => h.elim) (fun _ h => h.elim) (fun r u t H1 locs ht hvm hw hB hz8 hk8 hS => ?_)
        obtain rfl : s.heap = H1 := hB.symm.trans ht
        subst hw
        refine lv_if_ne (tgt := 187) hx hb dFo_isArithmetic_180 (by decide) (fun c11 => ?_) (fun c11 => ?_)
        · skip
          refine lv_iconst (v := (0 : Int32)) hx hb dFo_isArithmetic_187 (by decide) ?_
          exact W.zret (v := (0 : Int32)) hx hb hr rfl (fun t ht hW => ⟨⟨(0 : Int32), (), rfl, (by unfold f_Fo_isArithmetic; rw [if_pos c1, if_neg c2, if_neg c6, if_pos c9, if_pos c10, if_neg c11]; try rfl), ht⟩, hS.F ht⟩) hS.2.2 dFo_isArithmetic_188
        · skip
          refine lv_iconst (v := (1 : Int32)) hx hb dFo_isArithmetic_183 (by decide) ?_
          refine lv_goto (tgt := 188) hx hb dFo_isArithmetic_184 (by decide) ?_
          exact W.zret (v := (1 : Int32)) hx hb hr rfl (fun t ht hW => ⟨⟨(1 : Int32), (), rfl, (by unfold f_Fo_isArithmetic; rw [if_pos c1, if_neg c2, if_neg c6, if_pos c9, if_pos c10, if_pos c11]; try rfl), ht⟩, hS.F ht⟩) hS.2.2 dFo_isArithmetic_188
    by_cases c12 : (f_Fi_operation a0) = (6 : Int32)
    · skip
      refine lv_tableIn (tgt := 169) (off := 154) hx hb dFo_isArithmetic_15 (by rw [c12]; decide) (by rw [c12]; decide) (by rw [c12]; rfl) (by decide) ?_
      refine lv_lload_n hx hb dFo_isArithmetic_169 rfl (lv_at hl 0 rfl) ?_
      refine va_calli (va_runS (As := [.long a0]) (rest := []) ⟨hx, hb, hml, hown, hT⟩ (c_Fo_hasOperand l s.heap a0) (cwS 1 hT (gB_S mw_189 mw_190 mw_15 mw_191) rfl rfl rfl (by decide +kernel) ⟨Nat.le_of_ble_eq_true rfl, Nat.le_of_ble_eq_true rfl⟩) ⟨fun _ _ _ _ q => q, fun U hU hW => ⟨rfl, hU⟩⟩ rfl rfl hl.1 rfl (lv_room (Nat.le_of_ble_eq_true rfl)) dFo_isArithmetic_170 ⟨Nat.zero_le _, Nat.zero_le _⟩) hS (fun _ _ h => h.elim) (fun _ h => h.elim) (fun r u t H1 locs ht hvm hw hB hz8 hk8 hS => ?_)
      obtain rfl : s.heap = H1 := hB.symm.trans ht
      subst hw
      refine lv_if_eq (tgt := 187) hx hb dFo_isArithmetic_173 (by decide) (fun c13 => ?_) (fun c13 => ?_)
      · have c13 := bI_z c13
        refine lv_iconst (v := (0 : Int32)) hx hb dFo_isArithmetic_187 (by decide) ?_
        exact W.zret (v := (0 : Int32)) hx hb hr rfl (fun t ht hW => ⟨⟨(0 : Int32), (), rfl, (by unfold f_Fo_isArithmetic; rw [if_pos c1, if_neg c2, if_neg c6, if_neg c9, if_pos c12, if_neg c13]; try rfl), ht⟩, hS.F ht⟩) hS.2.2 dFo_isArithmetic_188
      · have c13 := bI_n c13
        refine lv_lload_n hx hb dFo_isArithmetic_176 rfl (lv_at hl 0 rfl) ?_
        refine va_calli (va_runS (As := [.long a0]) (rest := []) ⟨hx, hb, hml, hown, hT⟩ (c_Fi_offset l s.heap a0) (va_cwS 1 hT (gB_SV mw_149 mw_150 mw_16 mw_151) rfl rfl rfl (by decide +kernel) ⟨Nat.le_of_ble_eq_true rfl, Nat.le_of_ble_eq_true rfl⟩) ⟨fun _ _ _ _ q => q, fun U hU hW => ⟨rfl, hU⟩⟩ rfl rfl hl.1 rfl (lv_room (Nat.le_of_ble_eq_true rfl)) dFo_isArithmetic_177 ⟨Nat.zero_le _, Nat.zero_le _⟩) hS (fun _ _ h => h.elim) (fun _ h => h.elim) (fun r u t H1 locs ht hvm hw hB hz8 hk8 hS => ?_)
        obtain rfl : s.heap = H1 := hB.symm.trans ht
        subst hw
        refine lv_if_ne (tgt := 187) hx hb dFo_isArithmetic_180 (by decide) (fun c14 => ?_) (fun c14 => ?_)
        · skip
          refine lv_iconst (v := (0 : Int32)) hx hb dFo_isArithmetic_187 (by decide) ?_
          exact W.zret (v := (0 : Int32)) hx hb hr rfl (fun t ht hW => ⟨⟨(0 : Int32), (), rfl, (by unfold f_Fo_isArithmetic; rw [if_pos c1, if_neg c2, if_neg c6, if_neg c9, if_pos c12, if_pos c13, if_neg c14]; try rfl), ht⟩, hS.F ht⟩) hS.2.2 dFo_isArithmetic_188
        · skip
          refine lv_iconst (v := (1 : Int32)) hx hb dFo_isArithmetic_183 (by decide) ?_
          refine lv_goto (tgt := 188) hx hb dFo_isArithmetic_184 (by decide) ?_
          exact W.zret (v := (1 : Int32)) hx hb hr rfl (fun t ht hW => ⟨⟨(1 : Int32), (), rfl, (by unfold f_Fo_isArithmetic; rw [if_pos c1, if_neg c2, if_neg c6, if_neg c9, if_pos c12, if_pos c13, if_pos c14]; try rfl), ht⟩, hS.F ht⟩) hS.2.2 dFo_isArithmetic_188
    by_cases c15 : (f_Fi_operation a0) = (7 : Int32)
    · skip
      refine lv_tableIn (tgt := 169) (off := 154) hx hb dFo_isArithmetic_15 (by rw [c15]; decide) (by rw [c15]; decide) (by rw [c15]; rfl) (by decide) ?_
      refine lv_lload_n hx hb dFo_isArithmetic_169 rfl (lv_at hl 0 rfl) ?_
      refine va_calli (va_runS (As := [.long a0]) (rest := []) ⟨hx, hb, hml, hown, hT⟩ (c_Fo_hasOperand l s.heap a0) (cwS 1 hT (gB_S mw_189 mw_190 mw_15 mw_191) rfl rfl rfl (by decide +kernel) ⟨Nat.le_of_ble_eq_true rfl, Nat.le_of_ble_eq_true rfl⟩) ⟨fun _ _ _ _ q => q, fun U hU hW => ⟨rfl, hU⟩⟩ rfl rfl hl.1 rfl (lv_room (Nat.le_of_ble_eq_true rfl)) dFo_isArithmetic_170 ⟨Nat.zero_le _, Nat.zero_le _⟩) hS (fun _ _ h => h.elim) (fun _ h => h.elim) (fun r u t H1 locs ht hvm hw hB hz8 hk8 hS => ?_)
      obtain rfl : s.heap = H1 := hB.symm.trans ht
      subst hw
      refine lv_if_eq (tgt := 187) hx hb dFo_isArithmetic_173 (by decide) (fun c16 => ?_) (fun c16 => ?_)
      · have c16 := bI_z c16
        refine lv_iconst (v := (0 : Int32)) hx hb dFo_isArithmetic_187 (by decide) ?_
        exact W.zret (v := (0 : Int32)) hx hb hr rfl (fun t ht hW => ⟨⟨(0 : Int32), (), rfl, (by unfold f_Fo_isArithmetic; rw [if_pos c1, if_neg c2, if_neg c6, if_neg c9, if_neg c12, if_pos c15, if_neg c16]; try rfl), ht⟩, hS.F ht⟩) hS.2.2 dFo_isArithmetic_188
      · have c16 := bI_n c16
        refine lv_lload_n hx hb dFo_isArithmetic_176 rfl (lv_at hl 0 rfl) ?_
        refine va_calli (va_runS (As := [.long a0]) (rest := []) ⟨hx, hb, hml, hown, hT⟩ (c_Fi_offset l s.heap a0) (va_cwS 1 hT (gB_SV mw_149 mw_150 mw_16 mw_151) rfl rfl rfl (by decide +kernel) ⟨Nat.le_of_ble_eq_true rfl, Nat.le_of_ble_eq_true rfl⟩) ⟨fun _ _ _ _ q => q, fun U hU hW => ⟨rfl, hU⟩⟩ rfl rfl hl.1 rfl (lv_room (Nat.le_of_ble_eq_true rfl)) dFo_isArithmetic_177 ⟨Nat.zero_le _, Nat.zero_le _⟩) hS (fun _ _ h => h.elim) (fun _ h => h.elim) (fun r u t H1 locs ht hvm hw hB hz8 hk8 hS => ?_)
        obtain rfl : s.heap = H1 := hB.symm.trans ht
        subst hw
        refine lv_if_ne (tgt := 187) hx hb dFo_isArithmetic_180 (by decide) (fun c17 => ?_) (fun c17 => ?_)
        · skip
          refine lv_iconst (v := (0 : Int32)) hx hb dFo_isArithmetic_187 (by decide) ?_
          exact W.zret (v := (0 : Int32)) hx hb hr rfl (fun t ht hW => ⟨⟨(0 : Int32), (), rfl, (by unfold f_Fo_isArithmetic; rw [if_pos c1, if_neg c2, if_neg c6, if_neg c9, if_neg c12, if_pos c15, if_pos c16, if_neg c17]; try rfl), ht⟩, hS.F ht⟩) hS.2.2 dFo_isArithmetic_188
        · skip
          refine lv_iconst (v := (1 : Int32)) hx hb dFo_isArithmetic_183 (by decide) ?_
          refine lv_goto (tgt := 188) hx hb dFo_isArithmetic_184 (by decide) ?_
          exact W.zret (v := (1 : Int32)) hx hb hr rfl (fun t ht hW => ⟨⟨(1 : Int32), (), rfl, (by unfold f_Fo_isArithmetic; rw [if_pos c1, if_neg c2, if_neg c6, if_neg c9, if_neg c12, if_pos c15, if_pos c16, if_pos c17]; try rfl), ht⟩, hS.F ht⟩) hS.2.2 dFo_isArithmetic_188
    by_cases c18 : (f_Fi_operation a0) = (8 : Int32)
    · skip
      refine lv_tableIn (tgt := 108) (off := 93) hx hb dFo_isArithmetic_15 (by rw [c18]; decide) (by rw [c18]; decide) (by rw [c18]; rfl) (by decide) ?_
      refine lv_lload_n hx hb dFo_isArithmetic_108 rfl (lv_at hl 0 rfl) ?_
      refine va_calli (va_runS (As := [.long a0]) (rest := []) ⟨hx, hb, hml, hown, hT⟩ (c_Fi_usesSource l s.heap a0) (va_cwS 1 hT (gB_SV mw_192 mw_193 mw_16 mw_194) rfl rfl rfl (by decide +kernel) ⟨Nat.le_of_ble_eq_true rfl, Nat.le_of_ble_eq_true rfl⟩) ⟨fun _ _ _ _ q => q, fun U hU hW => ⟨rfl, hU⟩⟩ rfl rfl hl.1 rfl (lv_room (Nat.le_of_ble_eq_true rfl)) dFo_isArithmetic_109 ⟨Nat.zero_le _, Nat.zero_le _⟩) hS (fun _ _ h => h.elim) (fun _ h => h.elim) (fun r u t H1 locs ht hvm hw hB hz8 hk8 hS => ?_)
      obtain rfl : s.heap = H1 := hB.symm.trans ht
      subst hw
      refine lv_if_ne (tgt := 140) hx hb dFo_isArithmetic_112 (by decide) (fun c19 => ?_) (fun c19 => ?_)
      · have c19 := bI_n c19
        refine lv_iconst (v := (0 : Int32)) hx hb dFo_isArithmetic_140 (by decide) ?_
        exact W.zret (v := (0 : Int32)) hx hb hr rfl (fun t ht hW => ⟨⟨(0 : Int32), (), rfl, (by unfold f_Fo_isArithmetic; rw [if_pos c1, if_neg c2, if_neg c6, if_neg c9, if_neg c12, if_neg c15, if_pos c18, if_pos c19]; try rfl), ht⟩, hS.F ht⟩) hS.2.2 dFo_isArithmetic_141
      · have c19 := bI_z c19
        refine lv_lload_n hx hb dFo_isArithmetic_115 rfl (lv_at hl 0 rfl) ?_
        refine va_calli (va_runS (As := [.long a0]) (rest := []) ⟨hx, hb, hml, hown, hT⟩ (c_Fo_hasOperand l s.heap a0) (cwS 1 hT (gB_S mw_189 mw_190 mw_15 mw_191) rfl rfl rfl (by decide +kernel) ⟨Nat.le_of_ble_eq_true rfl, Nat.le_of_ble_eq_true rfl⟩) ⟨fun _ _ _ _ q => q, fun U hU hW => ⟨rfl, hU⟩⟩ rfl rfl hl.1 rfl (lv_room (Nat.le_of_ble_eq_true rfl)) dFo_isArithmetic_116 ⟨Nat.zero_le _, Nat.zero_le _⟩) hS (fun _ _ h => h.elim) (fun _ h => h.elim) (fun r u t H1 locs ht hvm hw hB hz8 hk8 hS => ?_)
        obtain rfl : s.heap = H1 := hB.symm.trans ht
        subst hw
        refine lv_if_eq (tgt := 140) hx hb dFo_isArithmetic_119 (by decide) (fun c20 => ?_) (fun c20 => ?_)
        · have c20 := bI_z c20
          refine lv_iconst (v := (0 : Int32)) hx hb dFo_isArithmetic_140 (by decide) ?_
          exact W.zret (v := (0 : Int32)) hx hb hr rfl (fun t ht hW => ⟨⟨(0 : Int32), (), rfl, (by unfold f_Fo_isArithmetic; rw [if_pos c1, if_neg c2, if_neg c6, if_neg c9, if_neg c12, if_neg c15, if_pos c18, if_neg c19, if_neg c20]; try rfl), ht⟩, hS.F ht⟩) hS.2.2 dFo_isArithmetic_141
        · have c20 := bI_n c20
          refine lv_lload_n hx hb dFo_isArithmetic_122 rfl (lv_at hl 0 rfl) ?_
          refine va_calli (va_runS (As := [.long a0]) (rest := []) ⟨hx, hb, hml, hown, hT⟩ (c_Fi_immediate l s.heap a0) (va_cwS 1 hT (gB_SV mw_152 mw_153 mw_16 mw_154) rfl rfl rfl (by decide +kernel) ⟨Nat.le_of_ble_eq_true rfl, Nat.le_of_ble_eq_true rfl⟩) ⟨fun _ _ _ _ q => q, fun U hU hW => ⟨rfl, hU⟩⟩ rfl rfl hl.1 rfl (lv_room (Nat.le_of_ble_eq_true rfl)) dFo_isArithmetic_123 ⟨Nat.zero_le _, Nat.zero_le _⟩) hS (fun _ _ h => h.elim) (fun _ h => h.elim) (fun r u t H1 locs ht hvm hw hB hz8 hk8 hS => ?_)
          obtain rfl : s.heap = H1 := hB.symm.trans ht
          subst hw
          refine lv_if_ne (tgt := 140) hx hb dFo_isArithmetic_126 (by decide) (fun c21 => ?_) (fun c21 => ?_)
          · skip
            refine lv_iconst (v := (0 : Int32)) hx hb dFo_isArithmetic_140 (by decide) ?_
            exact W.zret (v := (0 : Int32)) hx hb hr rfl (fun t ht hW => ⟨⟨(0 : Int32), (), rfl, (by unfold f_Fo_isArithmetic; rw [if_pos c1, if_neg c2, if_neg c6, if_neg c9, if_neg c12, if_neg c15, if_pos c18, if_neg c19, if_pos c20, if_neg c21]; try rfl), ht⟩, hS.F ht⟩) hS.2.2 dFo_isArithmetic_141
          · skip
            refine lv_lload_n hx hb dFo_isArithmetic_129 rfl (lv_at hl 0 rfl) ?_
            refine va_calli (va_runS (As := [.long a0]) (rest := []) ⟨hx, hb, hml, hown, hT⟩ (c_Fi_offset l s.heap a0) (va_cwS 1 hT (gB_SV mw_149 mw_150 mw_16 mw_151) rfl rfl rfl (by decide +kernel) ⟨Nat.le_of_ble_eq_true rfl, Nat.le_of_ble_eq_true rfl⟩) ⟨fun _ _ _ _ q => q, fun U hU hW => ⟨rfl, hU⟩⟩ rfl rfl hl.1 rfl (lv_room (Nat.le_of_ble_eq_true rfl)) dFo_isArithmetic_130 ⟨Nat.zero_le _, Nat.zero_le _⟩) hS (fun _ _ h => h.elim) (fun _ h => h.elim) (fun r u t H1 locs ht hvm hw hB hz8 hk8 hS => ?_)
            obtain rfl : s.heap = H1 := hB.symm.trans ht
            subst hw
            refine lv_if_ne (tgt := 140) hx hb dFo_isArithmetic_133 (by decide) (fun c22 => ?_) (fun c22 => ?_)
            · skip
              refine lv_iconst (v := (0 : Int32)) hx hb dFo_isArithmetic_140 (by decide) ?_
              exact W.zret (v := (0 : Int32)) hx hb hr rfl (fun t ht hW => ⟨⟨(0 : Int32), (), rfl, (by unfold f_Fo_isArithmetic; rw [if_pos c1, if_neg c2, if_neg c6, if_neg c9, if_neg c12, if_neg c15, if_pos c18, if_neg c19, if_pos c20, if_pos c21, if_neg c22]; try rfl), ht⟩, hS.F ht⟩) hS.2.2 dFo_isArithmetic_141
            · skip
              refine lv_iconst (v := (1 : Int32)) hx hb dFo_isArithmetic_136 (by decide) ?_
              refine lv_goto (tgt := 141) hx hb dFo_isArithmetic_137 (by decide) ?_
              exact W.zret (v := (1 : Int32)) hx hb hr rfl (fun t ht hW => ⟨⟨(1 : Int32), (), rfl, (by unfold f_Fo_isArithmetic; rw [if_pos c1, if_neg c2, if_neg c6, if_neg c9, if_neg c12, if_neg c15, if_pos c18, if_neg c19, if_pos c20, if_pos c21, if_pos c22]; try rfl), ht⟩, hS.F ht⟩) hS.2.2 dFo_isArithmetic_141
    by_cases c23 : (f_Fi_operation a0) = (9 : Int32)
    · skip
      refine lv_tableIn (tgt := 80) (off := 65) hx hb dFo_isArithmetic_15 (by rw [c23]; decide) (by rw [c23]; decide) (by rw [c23]; rfl) (by decide) ?_
      refine lv_lload_n hx hb dFo_isArithmetic_80 rfl (lv_at hl 0 rfl) ?_
      refine va_calli (va_runS (As := [.long a0]) (rest := []) ⟨hx, hb, hml, hown, hT⟩ (c_Fo_hasOperand l s.heap a0) (cwS 1 hT (gB_S mw_189 mw_190 mw_15 mw_191) rfl rfl rfl (by decide +kernel) ⟨Nat.le_of_ble_eq_true rfl, Nat.le_of_ble_eq_true rfl⟩) ⟨fun _ _ _ _ q => q, fun U hU hW => ⟨rfl, hU⟩⟩ rfl rfl hl.1 rfl (lv_room (Nat.le_of_ble_eq_true rfl)) dFo_isArithmetic_81 ⟨Nat.zero_le _, Nat.zero_le _⟩) hS (fun _ _ h => h.elim) (fun _ h => h.elim) (fun r u t H1 locs ht hvm hw hB hz8 hk8 hS => ?_)
      obtain rfl : s.heap = H1 := hB.symm.trans ht
      subst hw
      refine lv_if_eq (tgt := 106) hx hb dFo_isArithmetic_84 (by decide) (fun c24 => ?_) (fun c24 => ?_)
      · have c24 := bI_z c24
        refine lv_iconst (v := (0 : Int32)) hx hb dFo_isArithmetic_106 (by decide) ?_
        exact W.zret (v := (0 : Int32)) hx hb hr rfl (fun t ht hW => ⟨⟨(0 : Int32), (), rfl, (by unfold f_Fo_isArithmetic; rw [if_pos c1, if_neg c2, if_neg c6, if_neg c9, if_neg c12, if_neg c15, if_neg c18, if_pos c23, if_neg c24]; try rfl), ht⟩, hS.F ht⟩) hS.2.2 dFo_isArithmetic_107
      · have c24 := bI_n c24
        refine lv_lload_n hx hb dFo_isArithmetic_87 rfl (lv_at hl 0 rfl) ?_
        refine va_calli (va_runS (As := [.long a0]) (rest := []) ⟨hx, hb, hml, hown, hT⟩ (c_Fi_offset l s.heap a0) (va_cwS 1 hT (gB_SV mw_149 mw_150 mw_16 mw_151) rfl rfl rfl (by decide +kernel) ⟨Nat.le_of_ble_eq_true rfl, Nat.le_of_ble_eq_true rfl⟩) ⟨fun _ _ _ _ q => q, fun U hU hW => ⟨rfl, hU⟩⟩ rfl rfl hl.1 rfl (lv_room (Nat.le_of_ble_eq_true rfl)) dFo_isArithmetic_88 ⟨Nat.zero_le _, Nat.zero_le _⟩) hS (fun _ _ h => h.elim) (fun _ h => h.elim) (fun r u t H1 locs ht hvm hw hB hz8 hk8 hS => ?_)
        obtain rfl : s.heap = H1 := hB.symm.trans ht
        subst hw
        refine lv_if_eq (tgt := 102) hx hb dFo_isArithmetic_91 (by decide) (fun c25 => ?_) (fun c25 => ?_)
        · skip
          refine lv_iconst (v := (1 : Int32)) hx hb dFo_isArithmetic_102 (by decide) ?_
          refine lv_goto (tgt := 107) hx hb dFo_isArithmetic_103 (by decide) ?_
          exact W.zret (v := (1 : Int32)) hx hb hr rfl (fun t ht hW => ⟨⟨(1 : Int32), (), rfl, (by unfold f_Fo_isArithmetic; rw [if_pos c1, if_neg c2, if_neg c6, if_neg c9, if_neg c12, if_neg c15, if_neg c18, if_pos c23, if_pos c24, if_pos c25]; try rfl), ht⟩, hS.F ht⟩) hS.2.2 dFo_isArithmetic_107
        · skip
          refine lv_lload_n hx hb dFo_isArithmetic_94 rfl (lv_at hl 0 rfl) ?_
          refine va_calli (va_runS (As := [.long a0]) (rest := []) ⟨hx, hb, hml, hown, hT⟩ (c_Fi_offset l s.heap a0) (va_cwS 1 hT (gB_SV mw_149 mw_150 mw_16 mw_151) rfl rfl rfl (by decide +kernel) ⟨Nat.le_of_ble_eq_true rfl, Nat.le_of_ble_eq_true rfl⟩) ⟨fun _ _ _ _ q => q, fun U hU hW => ⟨rfl, hU⟩⟩ rfl rfl hl.1 rfl (lv_room (Nat.le_of_ble_eq_true rfl)) dFo_isArithmetic_95 ⟨Nat.zero_le _, Nat.zero_le _⟩) hS (fun _ _ h => h.elim) (fun _ h => h.elim) (fun r u t H1 locs ht hvm hw hB hz8 hk8 hS => ?_)
          obtain rfl : s.heap = H1 := hB.symm.trans ht
          subst hw
          refine lv_iconst (v := (1 : Int32)) hx hb dFo_isArithmetic_98 (by decide) ?_
          refine lv_icmp_ne (tgt := 106) hx hb dFo_isArithmetic_99 (by decide) (fun c26 => ?_) (fun c26 => ?_)
          · skip
            refine lv_iconst (v := (0 : Int32)) hx hb dFo_isArithmetic_106 (by decide) ?_
            exact W.zret (v := (0 : Int32)) hx hb hr rfl (fun t ht hW => ⟨⟨(0 : Int32), (), rfl, (by unfold f_Fo_isArithmetic; rw [if_pos c1, if_neg c2, if_neg c6, if_neg c9, if_neg c12, if_neg c15, if_neg c18, if_pos c23, if_pos c24, if_neg c25, if_neg c26]; try rfl), ht⟩, hS.F ht⟩) hS.2.2 dFo_isArithmetic_107
          · skip
            refine lv_iconst (v := (1 : Int32)) hx hb dFo_isArithmetic_102 (by decide) ?_
            refine lv_goto (tgt := 107) hx hb dFo_isArithmetic_103 (by decide) ?_
            exact W.zret (v := (1 : Int32)) hx hb hr rfl (fun t ht hW => ⟨⟨(1 : Int32), (), rfl, (by unfold f_Fo_isArithmetic; rw [if_pos c1, if_neg c2, if_neg c6, if_neg c9, if_neg c12, if_neg c15, if_neg c18, if_pos c23, if_pos c24, if_neg c25, if_pos c26]; try rfl), ht⟩, hS.F ht⟩) hS.2.2 dFo_isArithmetic_107
    by_cases c27 : (f_Fi_operation a0) = (10 : Int32)
    · skip
      refine lv_tableIn (tgt := 169) (off := 154) hx hb dFo_isArithmetic_15 (by rw [c27]; decide) (by rw [c27]; decide) (by rw [c27]; rfl) (by decide) ?_
      refine lv_lload_n hx hb dFo_isArithmetic_169 rfl (lv_at hl 0 rfl) ?_
      refine va_calli (va_runS (As := [.long a0]) (rest := []) ⟨hx, hb, hml, hown, hT⟩ (c_Fo_hasOperand l s.heap a0) (cwS 1 hT (gB_S mw_189 mw_190 mw_15 mw_191) rfl rfl rfl (by decide +kernel) ⟨Nat.le_of_ble_eq_true rfl, Nat.le_of_ble_eq_true rfl⟩) ⟨fun _ _ _ _ q => q, fun U hU hW => ⟨rfl, hU⟩⟩ rfl rfl hl.1 rfl (lv_room (Nat.le_of_ble_eq_true rfl)) dFo_isArithmetic_170 ⟨Nat.zero_le _, Nat.zero_le _⟩) hS (fun _ _ h => h.elim) (fun _ h => h.elim) (fun r u t H1 locs ht hvm hw hB hz8 hk8 hS => ?_)
      obtain rfl : s.heap = H1 := hB.symm.trans ht
      subst hw
      refine lv_if_eq (tgt := 187) hx hb dFo_isArithmetic_173 (by decide) (fun c28 => ?_) (fun c28 => ?_)
      · have c28 := bI_z c28
        refine lv_iconst (v := (0 : Int32)) hx hb dFo_isArithmetic_187 (by decide) ?_
        exact W.zret (v := (0 : Int32)) hx hb hr rfl (fun t ht hW => ⟨⟨(0 : Int32), (), rfl, (by unfold f_Fo_isArithmetic; rw [if_pos c1, if_neg c2, if_neg c6, if_neg c9, if_neg c12, if_neg c15, if_neg c18, if_neg c23, if_pos c27, if_neg c28]; try rfl), ht⟩, hS.F ht⟩) hS.2.2 dFo_isArithmetic_188
      · have c28 := bI_n c28
        refine lv_lload_n hx hb dFo_isArithmetic_176 rfl (lv_at hl 0 rfl) ?_
        refine va_calli (va_runS (As := [.long a0]) (rest := []) ⟨hx, hb, hml, hown, hT⟩ (c_Fi_offset l s.heap a0) (va_cwS 1 hT (gB_SV mw_149 mw_150 mw_16 mw_151) rfl rfl rfl (by decide +kernel) ⟨Nat.le_of_ble_eq_true rfl, Nat.le_of_ble_eq_true rfl⟩) ⟨fun _ _ _ _ q => q, fun U hU hW => ⟨rfl, hU⟩⟩ rfl rfl hl.1 rfl (lv_room (Nat.le_of_ble_eq_true rfl)) dFo_isArithmetic_177 ⟨Nat.zero_le _, Nat.zero_le _⟩) hS (fun _ _ h => h.elim) (fun _ h => h.elim) (fun r u t H1 locs ht hvm hw hB hz8 hk8 hS => ?_)
        obtain rfl : s.heap = H1 := hB.symm.trans ht
        subst hw
        refine lv_if_ne (tgt := 187) hx hb dFo_isArithmetic_180 (by decide) (fun c29 => ?_) (fun c29 => ?_)
        · skip
          refine lv_iconst (v := (0 : Int32)) hx hb dFo_isArithmetic_187 (by decide) ?_
          exact W.zret (v := (0 : Int32)) hx hb hr rfl (fun t ht hW => ⟨⟨(0 : Int32), (), rfl, (by unfold f_Fo_isArithmetic; rw [if_pos c1, if_neg c2, if_neg c6, if_neg c9, if_neg c12, if_neg c15, if_neg c18, if_neg c23, if_pos c27, if_pos c28, if_neg c29]; try rfl), ht⟩, hS.F ht⟩) hS.2.2 dFo_isArithmetic_188
        · skip
          refine lv_iconst (v := (1 : Int32)) hx hb dFo_isArithmetic_183 (by decide) ?_
          refine lv_goto (tgt := 188) hx hb dFo_isArithmetic_184 (by decide) ?_
          exact W.zret (v := (1 : Int32)) hx hb hr rfl (fun t ht hW => ⟨⟨(1 : Int32), (), rfl, (by unfold f_Fo_isArithmetic; rw [if_pos c1, if_neg c2, if_neg c6, if_neg c9, if_neg c12, if_neg c15, if_neg c18, if_neg c23, if_pos c27, if_pos c28, if_pos c29]; try rfl), ht⟩, hS.F ht⟩) hS.2.2 dFo_isArithmetic_188
    by_cases c30 : (f_Fi_operation a0) = (11 : Int32)
    · skip
      refine lv_tableIn (tgt := 142) (off := 127) hx hb dFo_isArithmetic_15 (by rw [c30]; decide) (by rw [c30]; decide) (by rw [c30]; rfl) (by decide) ?_
      refine lv_lload_n hx hb dFo_isArithmetic_142 rfl (lv_at hl 0 rfl) ?_
      refine va_calli (va_runS (As := [.long a0]) (rest := []) ⟨hx, hb, hml, hown, hT⟩ (c_Fo_hasOperand l s.heap a0) (cwS 1 hT (gB_S mw_189 mw_190 mw_15 mw_191) rfl rfl rfl (by decide +kernel) ⟨Nat.le_of_ble_eq_true rfl, Nat.le_of_ble_eq_true rfl⟩) ⟨fun _ _ _ _ q => q, fun U hU hW => ⟨rfl, hU⟩⟩ rfl rfl hl.1 rfl (lv_room (Nat.le_of_ble_eq_true rfl)) dFo_isArithmetic_143 ⟨Nat.zero_le _, Nat.zero_le _⟩) hS (fun _ _ h => h.elim) (fun _ h => h.elim) (fun r u t H1 locs ht hvm hw hB hz8 hk8 hS => ?_)
      obtain rfl : s.heap = H1 := hB.symm.trans ht
      subst hw
      refine lv_if_eq (tgt := 160) hx hb dFo_isArithmetic_146 (by decide) (fun c31 => ?_) (fun c31 => ?_)
      · have c31 := bI_z c31
        refine lv_iconst (v := (0 : Int32)) hx hb dFo_isArithmetic_160 (by decide) ?_
        exact W.zret (v := (0 : Int32)) hx hb hr rfl (fun t ht hW => ⟨⟨(0 : Int32), (), rfl, (by unfold f_Fo_isArithmetic; rw [if_pos c1, if_neg c2, if_neg c6, if_neg c9, if_neg c12, if_neg c15, if_neg c18, if_neg c23, if_neg c27, if_pos c30, if_neg c31]; try rfl), ht⟩, hS.F ht⟩) hS.2.2 dFo_isArithmetic_161
      · have c31 := bI_n c31
        refine lv_lload_n hx hb dFo_isArithmetic_149 rfl (lv_at hl 0 rfl) ?_
        refine va_calli (va_runS (As := [.long a0]) (rest := []) ⟨hx, hb, hml, hown, hT⟩ (c_Fo_isMoveOffset l s.heap a0) (cwS 1 hT (gB_S mw_204 mw_205 mw_15 mw_206) rfl rfl rfl (by decide +kernel) ⟨Nat.le_of_ble_eq_true rfl, Nat.le_of_ble_eq_true rfl⟩) ⟨fun _ _ _ _ q => q, fun U hU hW => ⟨rfl, hU⟩⟩ rfl rfl hl.1 rfl (lv_room (Nat.le_of_ble_eq_true rfl)) dFo_isArithmetic_150 ⟨Nat.zero_le _, Nat.zero_le _⟩) hS (fun _ _ h => h.elim) (fun _ h => h.elim) (fun r u t H1 locs ht hvm hw hB hz8 hk8 hS => ?_)
        obtain rfl : s.heap = H1 := hB.symm.trans ht
        subst hw
        refine lv_if_eq (tgt := 160) hx hb dFo_isArithmetic_153 (by decide) (fun c32 => ?_) (fun c32 => ?_)
        · have c32 := bI_z c32
          refine lv_iconst (v := (0 : Int32)) hx hb dFo_isArithmetic_160 (by decide) ?_
          exact W.zret (v := (0 : Int32)) hx hb hr rfl (fun t ht hW => ⟨⟨(0 : Int32), (), rfl, (by unfold f_Fo_isArithmetic; rw [if_pos c1, if_neg c2, if_neg c6, if_neg c9, if_neg c12, if_neg c15, if_neg c18, if_neg c23, if_neg c27, if_pos c30, if_pos c31, if_neg c32]; try rfl), ht⟩, hS.F ht⟩) hS.2.2 dFo_isArithmetic_161
        · have c32 := bI_n c32
          refine lv_iconst (v := (1 : Int32)) hx hb dFo_isArithmetic_156 (by decide) ?_
          refine lv_goto (tgt := 161) hx hb dFo_isArithmetic_157 (by decide) ?_
          exact W.zret (v := (1 : Int32)) hx hb hr rfl (fun t ht hW => ⟨⟨(1 : Int32), (), rfl, (by unfold f_Fo_isArithmetic; rw [if_pos c1, if_neg c2, if_neg c6, if_neg c9, if_neg c12, if_neg c15, if_neg c18, if_neg c23, if_neg c27, if_pos c30, if_pos c31, if_pos c32]; try rfl), ht⟩, hS.F ht⟩) hS.2.2 dFo_isArithmetic_161
    by_cases c33 : (f_Fi_operation a0) = (12 : Int32)
    · skip
      refine lv_tableIn (tgt := 169) (off := 154) hx hb dFo_isArithmetic_15 (by rw [c33]; decide) (by rw [c33]; decide) (by rw [c33]; rfl) (by decide) ?_
      refine lv_lload_n hx hb dFo_isArithmetic_169 rfl (lv_at hl 0 rfl) ?_
      refine va_calli (va_runS (As := [.long a0]) (rest := []) ⟨hx, hb, hml, hown, hT⟩ (c_Fo_hasOperand l s.heap a0) (cwS 1 hT (gB_S mw_189 mw_190 mw_15 mw_191) rfl rfl rfl (by decide +kernel) ⟨Nat.le_of_ble_eq_true rfl, Nat.le_of_ble_eq_true rfl⟩) ⟨fun _ _ _ _ q => q, fun U hU hW => ⟨rfl, hU⟩⟩ rfl rfl hl.1 rfl (lv_room (Nat.le_of_ble_eq_true rfl)) dFo_isArithmetic_170 ⟨Nat.zero_le _, Nat.zero_le _⟩) hS (fun _ _ h => h.elim) (fun _ h => h.elim) (fun r u t H1 locs ht hvm hw hB hz8 hk8 hS => ?_)
      obtain rfl : s.heap = H1 := hB.symm.trans ht
      subst hw
      refine lv_if_eq (tgt := 187) hx hb dFo_isArithmetic_173 (by decide) (fun c34 => ?_) (fun c34 => ?_)
      · have c34 := bI_z c34
        refine lv_iconst (v := (0 : Int32)) hx hb dFo_isArithmetic_187 (by decide) ?_
        exact W.zret (v := (0 : Int32)) hx hb hr rfl (fun t ht hW => ⟨⟨(0 : Int32), (), rfl, (by unfold f_Fo_isArithmetic; rw [if_pos c1, if_neg c2, if_neg c6, if_neg c9, if_neg c12, if_neg c15, if_neg c18, if_neg c23, if_neg c27, if_neg c30, if_pos c33, if_neg c34]; try rfl), ht⟩, hS.F ht⟩) hS.2.2 dFo_isArithmetic_188
      · have c34 := bI_n c34
        refine lv_lload_n hx hb dFo_isArithmetic_176 rfl (lv_at hl 0 rfl) ?_
        refine va_calli (va_runS (As := [.long a0]) (rest := []) ⟨hx, hb, hml, hown, hT⟩ (c_Fi_offset l s.heap a0) (va_cwS 1 hT (gB_SV mw_149 mw_150 mw_16 mw_151) rfl rfl rfl (by decide +kernel) ⟨Nat.le_of_ble_eq_true rfl, Nat.le_of_ble_eq_true rfl⟩) ⟨fun _ _ _ _ q => q, fun U hU hW => ⟨rfl, hU⟩⟩ rfl rfl hl.1 rfl (lv_room (Nat.le_of_ble_eq_true rfl)) dFo_isArithmetic_177 ⟨Nat.zero_le _, Nat.zero_le _⟩) hS (fun _ _ h => h.elim) (fun _ h => h.elim) (fun r u t H1 locs ht hvm hw hB hz8 hk8 hS => ?_)
        obtain rfl : s.heap = H1 := hB.symm.trans ht
        subst hw
        refine lv_if_ne (tgt := 187) hx hb dFo_isArithmetic_180 (by decide) (fun c35 => ?_) (fun c35 => ?_)
        · skip
          refine lv_iconst (v := (0 : Int32)) hx hb dFo_isArithmetic_187 (by decide) ?_
          exact W.zret (v := (0 : Int32)) hx hb hr rfl (fun t ht hW => ⟨⟨(0 : Int32), (), rfl, (by unfold f_Fo_isArithmetic; rw [if_pos c1, if_neg c2, if_neg c6, if_neg c9, if_neg c12, if_neg c15, if_neg c18, if_neg c23, if_neg c27, if_neg c30, if_pos c33, if_pos c34, if_neg c35]; try rfl), ht⟩, hS.F ht⟩) hS.2.2 dFo_isArithmetic_188
        · skip
          refine lv_iconst (v := (1 : Int32)) hx hb dFo_isArithmetic_183 (by decide) ?_
          refine lv_goto (tgt := 188) hx hb dFo_isArithmetic_184 (by decide) ?_
          exact W.zret (v := (1 : Int32)) hx hb hr rfl (fun t ht hW => ⟨⟨(1 : Int32), (), rfl, (by unfold f_Fo_isArithmetic; rw [if_pos c1, if_neg c2, if_neg c6, if_neg c9, if_neg c12, if_neg c15, if_neg c18, if_neg c23, if_neg c27, if_neg c30, if_pos c33, if_pos c34, if_pos c35]; try rfl), ht⟩, hS.F ht⟩) hS.2.2 dFo_isArithmetic_188
    by_cases c36 : (f_Fi_operation a0) = (13 : Int32)
    · skip
      refine lv_tableIn (tgt := 162) (off := 147) hx hb dFo_isArithmetic_15 (by rw [c36]; decide) (by rw [c36]; decide) (by rw [c36]; rfl) (by decide) ?_
      refine lv_lload_n hx hb dFo_isArithmetic_162 rfl (lv_at hl 0 rfl) ?_
      refine va_calli (va_runS (As := [.long a0]) (rest := []) ⟨hx, hb, hml, hown, hT⟩ (c_Fo_isTurning l s.heap a0) (cwS 1 hT (gB_S mw_207 mw_208 mw_15 mw_209) rfl rfl rfl (by decide +kernel) ⟨Nat.le_of_ble_eq_true rfl, Nat.le_of_ble_eq_true rfl⟩) ⟨fun _ _ _ _ q => q, fun U hU hW => ⟨rfl, hU⟩⟩ rfl rfl hl.1 rfl (lv_room (Nat.le_of_ble_eq_true rfl)) dFo_isArithmetic_163 ⟨Nat.zero_le _, Nat.zero_le _⟩) hS (fun _ _ h => h.elim) (fun _ h => h.elim) (fun r u t H1 locs ht hvm hw hB hz8 hk8 hS => ?_)
      obtain rfl : s.heap = H1 := hB.symm.trans ht
      subst hw
      exact W.zret (v := (bI (f_Fo_isTurning a0))) hx hb hr (bI_nar _) (fun t ht hW => ⟨⟨(bI (f_Fo_isTurning a0)), (), rfl, (by unfold f_Fo_isArithmetic; rw [if_pos c1, if_neg c2, if_neg c6, if_neg c9, if_neg c12, if_neg c15, if_neg c18, if_neg c23, if_neg c27, if_neg c30, if_neg c33, if_pos c36]; try rfl), ht⟩, hS.F ht⟩) hS.2.2 dFo_isArithmetic_166
    by_cases c37 : (f_Fi_operation a0) = (14 : Int32)
    · skip
      refine lv_tableIn (tgt := 167) (off := 152) hx hb dFo_isArithmetic_15 (by rw [c37]; decide) (by rw [c37]; decide) (by rw [c37]; rfl) (by decide) ?_
      refine lv_iconst (v := (0 : Int32)) hx hb dFo_isArithmetic_167 (by decide) ?_
      exact W.zret (v := (0 : Int32)) hx hb hr rfl (fun t ht hW => ⟨⟨(0 : Int32), (), rfl, (by unfold f_Fo_isArithmetic; rw [if_pos c1, if_neg c2, if_neg c6, if_neg c9, if_neg c12, if_neg c15, if_neg c18, if_neg c23, if_neg c27, if_neg c30, if_neg c33, if_neg c36, if_pos c37]; try rfl), ht⟩, hS.F ht⟩) hS.2.2 dFo_isArithmetic_168
    by_cases c38 : (f_Fi_operation a0) = (15 : Int32)
    · skip
      refine lv_tableIn (tgt := 167) (off := 152) hx hb dFo_isArithmetic_15 (by rw [c38]; decide) (by rw [c38]; decide) (by rw [c38]; rfl) (by decide) ?_
      refine lv_iconst (v := (0 : Int32)) hx hb dFo_isArithmetic_167 (by decide) ?_
      exact W.zret (v := (0 : Int32)) hx hb hr rfl (fun t ht hW => ⟨⟨(0 : Int32), (), rfl, (by unfold f_Fo_isArithmetic; rw [if_pos c1, if_neg c2, if_neg c6, if_neg c9, if_neg c12, if_neg c15, if_neg c18, if_neg c23, if_neg c27, if_neg c30, if_neg c33, if_neg c36, if_neg c37, if_pos c38]; try rfl), ht⟩, hS.F ht⟩) hS.2.2 dFo_isArithmetic_168
    refine lv_tableOut (tgt := 169) hx hb dFo_isArithmetic_15 (by have h0 := lv_neT c2 (a := 3) (by decide); have h1 := lv_neT c6 (a := 4) (by decide); have h2 := lv_neT c9 (a := 5) (by decide); have h3 := lv_neT c12 (a := 6) (by decide); have h4 := lv_neT c15 (a := 7) (by decide); have h5 := lv_neT c18 (a := 8) (by decide); have h6 := lv_neT c23 (a := 9) (by decide); have h7 := lv_neT c27 (a := 10) (by decide); have h8 := lv_neT c30 (a := 11) (by decide); have h9 := lv_neT c33 (a := 12) (by decide); have h10 := lv_neT c36 (a := 13) (by decide); have h11 := lv_neT c37 (a := 14) (by decide); have h12 := lv_neT c38 (a := 15) (by decide); omega) (by decide) ?_
    refine lv_lload_n hx hb dFo_isArithmetic_169 rfl (lv_at hl 0 rfl) ?_
    refine va_calli (va_runS (As := [.long a0]) (rest := []) ⟨hx, hb, hml, hown, hT⟩ (c_Fo_hasOperand l s.heap a0) (cwS 1 hT (gB_S mw_189 mw_190 mw_15 mw_191) rfl rfl rfl (by decide +kernel) ⟨Nat.le_of_ble_eq_true rfl, Nat.le_of_ble_eq_true rfl⟩) ⟨fun _ _ _ _ q => q, fun U hU hW => ⟨rfl, hU⟩⟩ rfl rfl hl.1 rfl (lv_room (Nat.le_of_ble_eq_true rfl)) dFo_isArithmetic_170 ⟨Nat.zero_le _, Nat.zero_le _⟩) hS (fun _ _ h => h.elim) (fun _ h => h.elim) (fun r u t H1 locs ht hvm hw hB hz8 hk8 hS => ?_)
    obtain rfl : s.heap = H1 := hB.symm.trans ht
    subst hw
    refine lv_if_eq (tgt := 187) hx hb dFo_isArithmetic_173 (by decide) (fun c39 => ?_) (fun c39 => ?_)
    · have c39 := bI_z c39
      refine lv_iconst (v := (0 : Int32)) hx hb dFo_isArithmetic_187 (by decide) ?_
      exact W.zret (v := (0 : Int32)) hx hb hr rfl (fun t ht hW => ⟨⟨(0 : Int32), (), rfl, (by unfold f_Fo_isArithmetic; rw [if_pos c1, if_neg c2, if_neg c6, if_neg c9, if_neg c12, if_neg c15, if_neg c18, if_neg c23, if_neg c27, if_neg c30, if_neg c33, if_neg c36, if_neg c37, if_neg c38, if_neg c39]; try rfl), ht⟩, hS.F ht⟩) hS.2.2 dFo_isArithmetic_188
    · have c39 := bI_n c39
      refine lv_lload_n hx hb dFo_isArithmetic_176 rfl (lv_at hl 0 rfl) ?_
      refine va_calli (va_runS (As := [.long a0]) (rest := []) ⟨hx, hb, hml, hown, hT⟩ (c_Fi_offset l s.heap a0) (va_cwS 1 hT (gB_SV mw_149 mw_150 mw_16 mw_151) rfl rfl rfl (by decide +kernel) ⟨Nat.le_of_ble_eq_true rfl, Nat.le_of_ble_eq_true rfl⟩) ⟨fun _ _ _ _ q => q, fun U hU hW => ⟨rfl, hU⟩⟩ rfl rfl hl.1 rfl (lv_room (Nat.le_of_ble_eq_true rfl)) dFo_isArithmetic_177 ⟨Nat.zero_le _, Nat.zero_le _⟩) hS (fun _ _ h => h.elim) (fun _ h => h.elim) (fun r u t H1 locs ht hvm hw hB hz8 hk8 hS => ?_)
      obtain rfl : s.heap = H1 := hB.symm.trans ht
      subst hw
      refine lv_if_ne (tgt := 187) hx hb dFo_isArithmetic_180 (by decide) (fun c40 => ?_) (fun c40 => ?_)
      · skip
        refine lv_iconst (v := (0 : Int32)) hx hb dFo_isArithmetic_187 (by decide) ?_
        exact W.zret (v := (0 : Int32)) hx hb hr rfl (fun t ht hW => ⟨⟨(0 : Int32), (), rfl, (by unfold f_Fo_isArithmetic; rw [if_pos c1, if_neg c2, if_neg c6, if_neg c9, if_neg c12, if_neg c15, if_neg c18, if_neg c23, if_neg c27, if_neg c30, if_neg c33, if_neg c36, if_neg c37, if_neg c38, if_pos c39, if_neg c40]; try rfl), ht⟩, hS.F ht⟩) hS.2.2 dFo_isArithmetic_188
      · skip
        refine lv_iconst (v := (1 : Int32)) hx hb dFo_isArithmetic_183 (by decide) ?_
        refine lv_goto (tgt := 188) hx hb dFo_isArithmetic_184 (by decide) ?_
        exact W.zret (v := (1 : Int32)) hx hb hr rfl (fun t ht hW => ⟨⟨(1 : Int32), (), rfl, (by unfold f_Fo_isArithmetic; rw [if_pos c1, if_neg c2, if_neg c6, if_neg c9, if_neg c12, if_neg c15, if_neg c18, if_neg c23, if_neg c27, if_neg c30, if_neg c33, if_neg c36, if_neg c37, if_neg c38, if_pos c39, if_pos c40]; try rfl), ht⟩, hS.F ht⟩) hS.2.2 dFo_isArithmetic_188
  · skip
    refine lv_iconst (v := (0 : Int32)) hx hb dFo_isArithmetic_9 (by decide) ?_
    exact W.zret (v := (0 : Int32)) hx hb hr rfl (fun t ht hW => ⟨⟨(0 : Int32), (), rfl, (by unfold f_Fo_isArithmetic; rw [if_neg c1]; try rfl), ht⟩, hS.F ht⟩) hS.2.2 dFo_isArithmetic_10

def f_Fo_isInstruction (a0 : Int64) : Bool :=
  if (f_Fi_kind a0) = (0 : Int32) then
    (f_Fo_isFirstOfTwo a0)
  else
    if (f_Fi_kind a0) = (1 : Int32) then
      (f_Fo_isRead a0)
    else
      if (f_Fi_kind a0) = (2 : Int32) then
        (f_Fo_isWriteOfNumber a0)
      else
        if (f_Fi_kind a0) = (3 : Int32) then
          if (f_Fi_mode a0) = (6 : Int32) then
            (f_Fo_isExchange a0)
          else
            (f_Fo_isWriteOfRegister a0)
        else
          if (f_Fi_kind a0) = (4 : Int32) then
            (f_Fo_isArithmetic a0)
          else
            if (f_Fi_kind a0) = (5 : Int32) then
              if (f_Fi_jumpsPerhaps a0) = true then
                (f_Fo_isPerhapsJump a0)
              else
                (f_Fo_isCallOrExitOrJump a0)
            else
              if (f_Fi_kind a0) = (6 : Int32) then
                if (f_Fi_jumpsPerhaps a0) = true then
                  (f_Fo_isPerhapsJump a0)
                else
                  (f_Fo_isCallOrExitOrJump a0)
              else
                (f_Fo_isArithmetic a0)
set_option maxHeartbeats 4000000 in
set_option maxRecDepth 100000 in
theorem c_Fo_isInstruction (l : Launch) (Hp : Heap) (a0 : Int64) : Met l yFo_isInstruction wsFo_isInstruction ({ frames := 3, cells := 0, slots := 0, locals := 64 }) (va_Pc [.long a0] (fun U => U.heap = Hp)) (va_Qi (fun (r : Int32) (_ : Unit) => r = (bI (f_Fo_isInstruction a0))) (fun _ t => t.heap = Hp) (fun _ => False)) 0 0 (fun _ => False) := by
  refine Met.ofW (cc := cFo_isInstruction) (maxL := 2) (ret := (some .boolean)) (by decide) rfl ?_
  intro p e s m args below meth c s₁ B hml hv
  obtain ⟨rfl, rfl⟩ := hv
  have hx := B.exec
  have hb := B.bytes
  have hr := B.returns
  have hT : ∀ w ∈ tB, w.before _ s = true := fun w h => atoms_spec (ws := wsFo_isInstruction) B.pre w (List.mem_cons_of_mem _ h)
  have hown : s.vm.findClass "CompiledProgram$Form" = some m.cls := findClass_of_methodNamed B.named
  have hlocks := B.notSynchronized
  have hS : va_S (fun _ => False) s.heap s.heap [] := va_S.rf
  have hl := lv_entry ([.long a0]) (n := 2) (Nat.le_of_ble_eq_true rfl)
  rw [lg_entry_eq]
  generalize (lg_sl ([.long a0]) ++ List.replicate (2 - (lg_sl ([.long a0])).length) Slot.unset).toArray = ls at hl ⊢
  have hl : lv_has ls 2 [(0, .long a0)] := hl
  refine lv_lload_n hx hb dFo_isInstruction_0 rfl (lv_at hl 0 rfl) ?_
  refine va_calli (va_runS (As := [.long a0]) (rest := []) ⟨hx, hb, hml, hown, hT⟩ (c_Fi_kind l s.heap a0) (va_cwS 1 hT (gB_SV mw_131 mw_132 mw_16 mw_133) rfl rfl rfl (by decide +kernel) ⟨Nat.le_of_ble_eq_true rfl, Nat.le_of_ble_eq_true rfl⟩) ⟨fun _ _ _ _ q => q, fun U hU hW => ⟨rfl, hU⟩⟩ rfl rfl hl.1 rfl (lv_room (Nat.le_of_ble_eq_true rfl)) dFo_isInstruction_1 ⟨Nat.zero_le _, Nat.zero_le _⟩) hS (fun _ _ h => h.elim) (fun _ h => h.elim) (fun r u t H1 locs ht hvm hw hB hz8 hk8 hS => ?_)
  obtain rfl : s.heap = H1 := hB.symm.trans ht
  subst hw
  by_cases c1 : (f_Fi_kind a0) = (0 : Int32)
  · skip
    refine lv_tableIn (tgt := 48) (off := 44) hx hb dFo_isInstruction_4 (by rw [c1]; decide) (by rw [c1]; decide) (by rw [c1]; rfl) (by decide) ?_
    refine lv_lload_n hx hb dFo_isInstruction_48 rfl (lv_at hl 0 rfl) ?_
    refine va_calli (va_runS (As := [.long a0]) (rest := []) ⟨hx, hb, hml, hown, hT⟩ (c_Fo_isFirstOfTwo l s.heap a0) (cwS 1 hT (gB_S mw_134 mw_135 mw_15 mw_136) rfl rfl rfl (by decide +kernel) ⟨Nat.le_of_ble_eq_true rfl, Nat.le_of_ble_eq_true rfl⟩) ⟨fun _ _ _ _ q => q, fun U hU hW => ⟨rfl, hU⟩⟩ rfl rfl hl.1 rfl (lv_room (Nat.le_of_ble_eq_true rfl)) dFo_isInstruction_49 ⟨Nat.zero_le _, Nat.zero_le _⟩) hS (fun _ _ h => h.elim) (fun _ h => h.elim) (fun r u t H1 locs ht hvm hw hB hz8 hk8 hS => ?_)
    obtain rfl : s.heap = H1 := hB.symm.trans ht
    subst hw
    exact W.zret (v := (bI (f_Fo_isFirstOfTwo a0))) hx hb hr (bI_nar _) (fun t ht hW => ⟨⟨(bI (f_Fo_isFirstOfTwo a0)), (), rfl, (by unfold f_Fo_isInstruction; rw [if_pos c1]; try rfl), ht⟩, hS.F ht⟩) hS.2.2 dFo_isInstruction_52
  by_cases c2 : (f_Fi_kind a0) = (1 : Int32)
  · skip
    refine lv_tableIn (tgt := 53) (off := 49) hx hb dFo_isInstruction_4 (by rw [c2]; decide) (by rw [c2]; decide) (by rw [c2]; rfl) (by decide) ?_
    refine lv_lload_n hx hb dFo_isInstruction_53 rfl (lv_at hl 0 rfl) ?_
    refine va_calli (va_runS (As := [.long a0]) (rest := []) ⟨hx, hb, hml, hown, hT⟩ (c_Fo_isRead l s.heap a0) (cwS 1 hT (gB_S mw_155 mw_156 mw_15 mw_157) rfl rfl rfl (by decide +kernel) ⟨Nat.le_of_ble_eq_true rfl, Nat.le_of_ble_eq_true rfl⟩) ⟨fun _ _ _ _ q => q, fun U hU hW => ⟨rfl, hU⟩⟩ rfl rfl hl.1 rfl (lv_room (Nat.le_of_ble_eq_true rfl)) dFo_isInstruction_54 ⟨Nat.zero_le _, Nat.zero_le _⟩) hS (fun _ _ h => h.elim) (fun _ h => h.elim) (fun r u t H1 locs ht hvm hw hB hz8 hk8 hS => ?_)
    obtain rfl : s.heap = H1 := hB.symm.trans ht
    subst hw
    exact W.zret (v := (bI (f_Fo_isRead a0))) hx hb hr (bI_nar _) (fun t ht hW => ⟨⟨(bI (f_Fo_isRead a0)), (), rfl, (by unfold f_Fo_isInstruction; rw [if_neg c1, if_pos c2]; try rfl), ht⟩, hS.F ht⟩) hS.2.2 dFo_isInstruction_57
  by_cases c3 : (f_Fi_kind a0) = (2 : Int32)
  · skip
    refine lv_tableIn (tgt := 58) (off := 54) hx hb dFo_isInstruction_4 (by rw [c3]; decide) (by rw [c3]; decide) (by rw [c3]; rfl) (by decide) ?_
    refine lv_lload_n hx hb dFo_isInstruction_58 rfl (lv_at hl 0 rfl) ?_
    refine va_calli (va_runS (As := [.long a0]) (rest := []) ⟨hx, hb, hml, hown, hT⟩ (c_Fo_isWriteOfNumber l s.heap a0) (cwS 1 hT (gB_S mw_164 mw_165 mw_15 mw_166) rfl rfl rfl (by decide +kernel) ⟨Nat.le_of_ble_eq_true rfl, Nat.le_of_ble_eq_true rfl⟩) ⟨fun _ _ _ _ q => q, fun U hU hW => ⟨rfl, hU⟩⟩ rfl rfl hl.1 rfl (lv_room (Nat.le_of_ble_eq_true rfl)) dFo_isInstruction_59 ⟨Nat.zero_le _, Nat.zero_le _⟩) hS (fun _ _ h => h.elim) (fun _ h => h.elim) (fun r u t H1 locs ht hvm hw hB hz8 hk8 hS => ?_)
    obtain rfl : s.heap = H1 := hB.symm.trans ht
    subst hw
    exact W.zret (v := (bI (f_Fo_isWriteOfNumber a0))) hx hb hr (bI_nar _) (fun t ht hW => ⟨⟨(bI (f_Fo_isWriteOfNumber a0)), (), rfl, (by unfold f_Fo_isInstruction; rw [if_neg c1, if_neg c2, if_pos c3]; try rfl), ht⟩, hS.F ht⟩) hS.2.2 dFo_isInstruction_62
  by_cases c4 : (f_Fi_kind a0) = (3 : Int32)
  · skip
    refine lv_tableIn (tgt := 63) (off := 59) hx hb dFo_isInstruction_4 (by rw [c4]; decide) (by rw [c4]; decide) (by rw [c4]; rfl) (by decide) ?_
    refine lv_lload_n hx hb dFo_isInstruction_63 rfl (lv_at hl 0 rfl) ?_
    refine va_calli (va_runS (As := [.long a0]) (rest := []) ⟨hx, hb, hml, hown, hT⟩ (c_Fi_mode l s.heap a0) (va_cwS 1 hT (gB_SV mw_158 mw_159 mw_16 mw_160) rfl rfl rfl (by decide +kernel) ⟨Nat.le_of_ble_eq_true rfl, Nat.le_of_ble_eq_true rfl⟩) ⟨fun _ _ _ _ q => q, fun U hU hW => ⟨rfl, hU⟩⟩ rfl rfl hl.1 rfl (lv_room (Nat.le_of_ble_eq_true rfl)) dFo_isInstruction_64 ⟨Nat.zero_le _, Nat.zero_le _⟩) hS (fun _ _ h => h.elim) (fun _ h => h.elim) (fun r u t H1 locs ht hvm hw hB hz8 hk8 hS => ?_)
    obtain rfl : s.heap = H1 := hB.symm.trans ht
    subst hw
    refine lv_bipush (v := (6 : Int32)) hx hb dFo_isInstruction_67 (by decide) ?_
    refine lv_icmp_ne (tgt := 79) hx hb dFo_isInstruction_69 (by decide) (fun c5 => ?_) (fun c5 => ?_)
    · skip
      refine lv_lload_n hx hb dFo_isInstruction_79 rfl (lv_at hl 0 rfl) ?_
      refine va_calli (va_runS (As := [.long a0]) (rest := []) ⟨hx, hb, hml, hown, hT⟩ (c_Fo_isWriteOfRegister l s.heap a0) (cwS 1 hT (gB_S mw_176 mw_177 mw_15 mw_178) rfl rfl rfl (by decide +kernel) ⟨Nat.le_of_ble_eq_true rfl, Nat.le_of_ble_eq_true rfl⟩) ⟨fun _ _ _ _ q => q, fun U hU hW => ⟨rfl, hU⟩⟩ rfl rfl hl.1 rfl (lv_room (Nat.le_of_ble_eq_true rfl)) dFo_isInstruction_80 ⟨Nat.zero_le _, Nat.zero_le _⟩) hS (fun _ _ h => h.elim) (fun _ h => h.elim) (fun r u t H1 locs ht hvm hw hB hz8 hk8 hS => ?_)
      obtain rfl : s.heap = H1 := hB.symm.trans ht
      subst hw
      exact W.zret (v := (bI (f_Fo_isWriteOfRegister a0))) hx hb hr (bI_nar _) (fun t ht hW => ⟨⟨(bI (f_Fo_isWriteOfRegister a0)), (), rfl, (by unfold f_Fo_isInstruction; rw [if_neg c1, if_neg c2, if_neg c3, if_pos c4, if_neg c5]; try rfl), ht⟩, hS.F ht⟩) hS.2.2 dFo_isInstruction_83
    · skip
      refine lv_lload_n hx hb dFo_isInstruction_72 rfl (lv_at hl 0 rfl) ?_
      refine va_calli (va_runS (As := [.long a0]) (rest := []) ⟨hx, hb, hml, hown, hT⟩ (c_Fo_isExchange l s.heap a0) (cwS 1 hT (gB_S mw_167 mw_168 mw_15 mw_169) rfl rfl rfl (by decide +kernel) ⟨Nat.le_of_ble_eq_true rfl, Nat.le_of_ble_eq_true rfl⟩) ⟨fun _ _ _ _ q => q, fun U hU hW => ⟨rfl, hU⟩⟩ rfl rfl hl.1 rfl (lv_room (Nat.le_of_ble_eq_true rfl)) dFo_isInstruction_73 ⟨Nat.zero_le _, Nat.zero_le _⟩) hS (fun _ _ h => h.elim) (fun _ h => h.elim) (fun r u t H1 locs ht hvm hw hB hz8 hk8 hS => ?_)
      obtain rfl : s.heap = H1 := hB.symm.trans ht
      subst hw
      refine lv_goto (tgt := 83) hx hb dFo_isInstruction_76 (by decide) ?_
      exact W.zret (v := (bI (f_Fo_isExchange a0))) hx hb hr (bI_nar _) (fun t ht hW => ⟨⟨(bI (f_Fo_isExchange a0)), (), rfl, (by unfold f_Fo_isInstruction; rw [if_neg c1, if_neg c2, if_neg c3, if_pos c4, if_pos c5]; try rfl), ht⟩, hS.F ht⟩) hS.2.2 dFo_isInstruction_83
  by_cases c6 : (f_Fi_kind a0) = (4 : Int32)
  · skip
    refine lv_tableIn (tgt := 103) (off := 99) hx hb dFo_isInstruction_4 (by rw [c6]; decide) (by rw [c6]; decide) (by rw [c6]; rfl) (by decide) ?_
    refine lv_lload_n hx hb dFo_isInstruction_103 rfl (lv_at hl 0 rfl) ?_
    refine va_calli (va_runS (As := [.long a0]) (rest := []) ⟨hx, hb, hml, hown, hT⟩ (c_Fo_isArithmetic l s.heap a0) (cwS 1 hT (gB_S mw_200 mw_201 mw_15 mw_202) rfl rfl rfl (by decide +kernel) ⟨Nat.le_of_ble_eq_true rfl, Nat.le_of_ble_eq_true rfl⟩) ⟨fun _ _ _ _ q => q, fun U hU hW => ⟨rfl, hU⟩⟩ rfl rfl hl.1 rfl (lv_room (Nat.le_of_ble_eq_true rfl)) dFo_isInstruction_104 ⟨Nat.zero_le _, Nat.zero_le _⟩) hS (fun _ _ h => h.elim) (fun _ h => h.elim) (fun r u t H1 locs ht hvm hw hB hz8 hk8 hS => ?_)
    obtain rfl : s.heap = H1 := hB.symm.trans ht
    subst hw
    exact W.zret (v := (bI (f_Fo_isArithmetic a0))) hx hb hr (bI_nar _) (fun t ht hW => ⟨⟨(bI (f_Fo_isArithmetic a0)), (), rfl, (by unfold f_Fo_isInstruction; rw [if_neg c1, if_neg c2, if_neg c3, if_neg c4, if_pos c6]; try rfl), ht⟩, hS.F ht⟩) hS.2.2 dFo_isInstruction_107
  by_cases c7 : (f_Fi_kind a0) = (5 : Int32)
  · skip
    refine lv_tableIn (tgt := 84) (off := 80) hx hb dFo_isInstruction_4 (by rw [c7]; decide) (by rw [c7]; decide) (by rw [c7]; rfl) (by decide) ?_
    refine lv_lload_n hx hb dFo_isInstruction_84 rfl (lv_at hl 0 rfl) ?_
    refine va_calli (va_runS (As := [.long a0]) (rest := []) ⟨hx, hb, hml, hown, hT⟩ (c_Fi_jumpsPerhaps l s.heap a0) (va_cwS 1 hT (gB_SV mw_179 mw_180 mw_16 mw_181) rfl rfl rfl (by decide +kernel) ⟨Nat.le_of_ble_eq_true rfl, Nat.le_of_ble_eq_true rfl⟩) ⟨fun _ _ _ _ q => q, fun U hU hW => ⟨rfl, hU⟩⟩ rfl rfl hl.1 rfl (lv_room (Nat.le_of_ble_eq_true rfl)) dFo_isInstruction_85 ⟨Nat.zero_le _, Nat.zero_le _⟩) hS (fun _ _ h => h.elim) (fun _ h => h.elim) (fun r u t H1 locs ht hvm hw hB hz8 hk8 hS => ?_)
    obtain rfl : s.heap = H1 := hB.symm.trans ht
    subst hw
    refine lv_if_eq (tgt := 98) hx hb dFo_isInstruction_88 (by decide) (fun c8 => ?_) (fun c8 => ?_)
    · have c8 := bI_z c8
      refine lv_lload_n hx hb dFo_isInstruction_98 rfl (lv_at hl 0 rfl) ?_
      refine va_calli (va_runS (As := [.long a0]) (rest := []) ⟨hx, hb, hml, hown, hT⟩ (c_Fo_isCallOrExitOrJump l s.heap a0) (cwS 1 hT (gB_S mw_196 mw_197 mw_15 mw_198) rfl rfl rfl (by decide +kernel) ⟨Nat.le_of_ble_eq_true rfl, Nat.le_of_ble_eq_true rfl⟩) ⟨fun _ _ _ _ q => q, fun U hU hW => ⟨rfl, hU⟩⟩ rfl rfl hl.1 rfl (lv_room (Nat.le_of_ble_eq_true rfl)) dFo_isInstruction_99 ⟨Nat.zero_le _, Nat.zero_le _⟩) hS (fun _ _ h => h.elim) (fun _ h => h.elim) (fun r u t H1 locs ht hvm hw hB hz8 hk8 hS => ?_)
      obtain rfl : s.heap = H1 := hB.symm.trans ht
      subst hw
      exact W.zret (v := (bI (f_Fo_isCallOrExitOrJump a0))) hx hb hr (bI_nar _) (fun t ht hW => ⟨⟨(bI (f_Fo_isCallOrExitOrJump a0)), (), rfl, (by unfold f_Fo_isInstruction; rw [if_neg c1, if_neg c2, if_neg c3, if_neg c4, if_neg c6, if_pos c7, if_neg c8]; try rfl), ht⟩, hS.F ht⟩) hS.2.2 dFo_isInstruction_102
    · have c8 := bI_n c8
      refine lv_lload_n hx hb dFo_isInstruction_91 rfl (lv_at hl 0 rfl) ?_
      refine va_calli (va_runS (As := [.long a0]) (rest := []) ⟨hx, hb, hml, hown, hT⟩ (c_Fo_isPerhapsJump l s.heap a0) (cwS 1 hT (gB_S mw_186 mw_187 mw_15 mw_188) rfl rfl rfl (by decide +kernel) ⟨Nat.le_of_ble_eq_true rfl, Nat.le_of_ble_eq_true rfl⟩) ⟨fun _ _ _ _ q => q, fun U hU hW => ⟨rfl, hU⟩⟩ rfl rfl hl.1 rfl (lv_room (Nat.le_of_ble_eq_true rfl)) dFo_isInstruction_92 ⟨Nat.zero_le _, Nat.zero_le _⟩) hS (fun _ _ h => h.elim) (fun _ h => h.elim) (fun r u t H1 locs ht hvm hw hB hz8 hk8 hS => ?_)
      obtain rfl : s.heap = H1 := hB.symm.trans ht
      subst hw
      refine lv_goto (tgt := 102) hx hb dFo_isInstruction_95 (by decide) ?_
      exact W.zret (v := (bI (f_Fo_isPerhapsJump a0))) hx hb hr (bI_nar _) (fun t ht hW => ⟨⟨(bI (f_Fo_isPerhapsJump a0)), (), rfl, (by unfold f_Fo_isInstruction; rw [if_neg c1, if_neg c2, if_neg c3, if_neg c4, if_neg c6, if_pos c7, if_pos c8]; try rfl), ht⟩, hS.F ht⟩) hS.2.2 dFo_isInstruction_102
  by_cases c9 : (f_Fi_kind a0) = (6 : Int32)
  · skip
    refine lv_tableIn (tgt := 84) (off := 80) hx hb dFo_isInstruction_4 (by rw [c9]; decide) (by rw [c9]; decide) (by rw [c9]; rfl) (by decide) ?_
    refine lv_lload_n hx hb dFo_isInstruction_84 rfl (lv_at hl 0 rfl) ?_
    refine va_calli (va_runS (As := [.long a0]) (rest := []) ⟨hx, hb, hml, hown, hT⟩ (c_Fi_jumpsPerhaps l s.heap a0) (va_cwS 1 hT (gB_SV mw_179 mw_180 mw_16 mw_181) rfl rfl rfl (by decide +kernel) ⟨Nat.le_of_ble_eq_true rfl, Nat.le_of_ble_eq_true rfl⟩) ⟨fun _ _ _ _ q => q, fun U hU hW => ⟨rfl, hU⟩⟩ rfl rfl hl.1 rfl (lv_room (Nat.le_of_ble_eq_true rfl)) dFo_isInstruction_85 ⟨Nat.zero_le _, Nat.zero_le _⟩) hS (fun _ _ h => h.elim) (fun _ h => h.elim) (fun r u t H1 locs ht hvm hw hB hz8 hk8 hS => ?_)
    obtain rfl : s.heap = H1 := hB.symm.trans ht
    subst hw
    refine lv_if_eq (tgt := 98) hx hb dFo_isInstruction_88 (by decide) (fun c10 => ?_) (fun c10 => ?_)
    · have c10 := bI_z c10
      refine lv_lload_n hx hb dFo_isInstruction_98 rfl (lv_at hl 0 rfl) ?_
      refine va_calli (va_runS (As := [.long a0]) (rest := []) ⟨hx, hb, hml, hown, hT⟩ (c_Fo_isCallOrExitOrJump l s.heap a0) (cwS 1 hT (gB_S mw_196 mw_197 mw_15 mw_198) rfl rfl rfl (by decide +kernel) ⟨Nat.le_of_ble_eq_true rfl, Nat.le_of_ble_eq_true rfl⟩) ⟨fun _ _ _ _ q => q, fun U hU hW => ⟨rfl, hU⟩⟩ rfl rfl hl.1 rfl (lv_room (Nat.le_of_ble_eq_true rfl)) dFo_isInstruction_99 ⟨Nat.zero_le _, Nat.zero_le _⟩) hS (fun _ _ h => h.elim) (fun _ h => h.elim) (fun r u t H1 locs ht hvm hw hB hz8 hk8 hS => ?_)
      obtain rfl : s.heap = H1 := hB.symm.trans ht
      subst hw
      exact W.zret (v := (bI (f_Fo_isCallOrExitOrJump a0))) hx hb hr (bI_nar _) (fun t ht hW => ⟨⟨(bI (f_Fo_isCallOrExitOrJump a0)), (), rfl, (by unfold f_Fo_isInstruction; rw [if_neg c1, if_neg c2, if_neg c3, if_neg c4, if_neg c6, if_neg c7, if_pos c9, if_neg c10]; try rfl), ht⟩, hS.F ht⟩) hS.2.2 dFo_isInstruction_102
    · have c10 := bI_n c10
      refine lv_lload_n hx hb dFo_isInstruction_91 rfl (lv_at hl 0 rfl) ?_
      refine va_calli (va_runS (As := [.long a0]) (rest := []) ⟨hx, hb, hml, hown, hT⟩ (c_Fo_isPerhapsJump l s.heap a0) (cwS 1 hT (gB_S mw_186 mw_187 mw_15 mw_188) rfl rfl rfl (by decide +kernel) ⟨Nat.le_of_ble_eq_true rfl, Nat.le_of_ble_eq_true rfl⟩) ⟨fun _ _ _ _ q => q, fun U hU hW => ⟨rfl, hU⟩⟩ rfl rfl hl.1 rfl (lv_room (Nat.le_of_ble_eq_true rfl)) dFo_isInstruction_92 ⟨Nat.zero_le _, Nat.zero_le _⟩) hS (fun _ _ h => h.elim) (fun _ h => h.elim) (fun r u t H1 locs ht hvm hw hB hz8 hk8 hS => ?_)
      obtain rfl : s.heap = H1 := hB.symm.trans ht
      subst hw
      refine lv_goto (tgt := 102) hx hb dFo_isInstruction_95 (by decide) ?_
      exact W.zret (v := (bI (f_Fo_isPerhapsJump a0))) hx hb hr (bI_nar _) (fun t ht hW => ⟨⟨(bI (f_Fo_isPerhapsJump a0)), (), rfl, (by unfold f_Fo_isInstruction; rw [if_neg c1, if_neg c2, if_neg c3, if_neg c4, if_neg c6, if_neg c7, if_pos c9, if_pos c10]; try rfl), ht⟩, hS.F ht⟩) hS.2.2 dFo_isInstruction_102
  refine lv_tableOut (tgt := 103) hx hb dFo_isInstruction_4 (by have h0 := lv_neT c1 (a := 0) (by decide); have h1 := lv_neT c2 (a := 1) (by decide); have h2 := lv_neT c3 (a := 2) (by decide); have h3 := lv_neT c4 (a := 3) (by decide); have h4 := lv_neT c6 (a := 4) (by decide); have h5 := lv_neT c7 (a := 5) (by decide); have h6 := lv_neT c9 (a := 6) (by decide); omega) (by decide) ?_
  refine lv_lload_n hx hb dFo_isInstruction_103 rfl (lv_at hl 0 rfl) ?_
  refine va_calli (va_runS (As := [.long a0]) (rest := []) ⟨hx, hb, hml, hown, hT⟩ (c_Fo_isArithmetic l s.heap a0) (cwS 1 hT (gB_S mw_200 mw_201 mw_15 mw_202) rfl rfl rfl (by decide +kernel) ⟨Nat.le_of_ble_eq_true rfl, Nat.le_of_ble_eq_true rfl⟩) ⟨fun _ _ _ _ q => q, fun U hU hW => ⟨rfl, hU⟩⟩ rfl rfl hl.1 rfl (lv_room (Nat.le_of_ble_eq_true rfl)) dFo_isInstruction_104 ⟨Nat.zero_le _, Nat.zero_le _⟩) hS (fun _ _ h => h.elim) (fun _ h => h.elim) (fun r u t H1 locs ht hvm hw hB hz8 hk8 hS => ?_)
  obtain rfl : s.heap = H1 := hB.symm.trans ht
  subst hw
  exact W.zret (v := (bI (f_Fo_isArithmetic a0))) hx hb hr (bI_nar _) (fun t ht hW => ⟨⟨(bI (f_Fo_isArithmetic a0)), (), rfl, (by unfold f_Fo_isInstruction; rw [if_neg c1, if_neg c2, if_neg c3, if_neg c4, if_neg c6, if_neg c7, if_neg c9]; try rfl), ht⟩, hS.F ht⟩) hS.2.2 dFo_isInstruction_107
end
section
-- what the class's indices and loops ask for
theorem in_Fi_target (w : Int64) : vp_in (f_Fi_target w) 16 := by
  unfold f_Fi_target; exact pk_andIn _ 4 (by decide) (by decide)
theorem in_Fi_source (w : Int64) : vp_in (f_Fi_source w) 16 := by
  unfold f_Fi_source; exact pk_andIn _ 4 (by decide) (by decide)
theorem size_ok (w : Int64) : 1 ≤ (f_Fi_size w).toInt ∧ (f_Fi_size w).toInt ≤ 8 := by
  unfold f_Fi_size
  split
  · decide
  · split
    · decide
    · split <;> decide
theorem an_in {r9 : Int32} (h : 1 ≤ r9.toInt) (c : ¬ (5 : Int32) < r9) : vp_in r9 16 := by
  have c := i_nlt c
  have : (5 : Int32).toInt = 5 := by decide
  rw [vp_in_iff]; omega
theorem an_b1 {r9 : Int32} (h : 1 ≤ r9.toInt) (c : ¬ (5 : Int32) < r9) : 1 ≤ (r9 + (1 : Int32)).toInt := by
  have c := i_nlt c
  have e : (5 : Int32).toInt = 5 := by decide
  rw [i_add (by rw [i_1]; omega) (by rw [i_1]; omega), i_1]; omega
theorem an_b2 {r9 : Int32} {n : Nat} (h : 1 ≤ r9.toInt) (c : ¬ (5 : Int32) < r9) (hM : (6 - r9.toInt).toNat < n + 1) : (6 - (r9 + (1 : Int32)).toInt).toNat < n := by
  have c := i_nlt c
  have e : (5 : Int32).toInt = 5 := by decide
  rw [i_add (by rw [i_1]; omega) (by rw [i_1]; omega), i_1]; omega
end
section
def f_Pr_has (cnt : Int32) (a0 : Int64) : Bool :=
  if a0 < (0 : Int64) then
    false
  else
    if ((cnt).toInt64) ≤ a0 then
      false
    else
      true
set_option maxHeartbeats 4000000 in
set_option maxRecDepth 100000 in
theorem c_Pr_has (l : Launch) (G : va_G) (cB cL : ClassId) (Hp : Heap) (h0 : Nat) (h1 : Nat) (pn : Nat) (pf : Nat → Int64) (cnt : Int32) (a0 : Int64) (hP : va_P G vwCl [(h0, .inr (0, [.ref h1, .int cnt])), (h1, .inl (cL, pn, .inr (.inl pf)))] Hp) : Met l yPr_has wsPr_has ({ frames := 0, cells := 0, slots := 0, locals := 0 }) (va_Pc [.ref h0, .long a0] (fun U => U.heap = Hp ∧ va_K G vwCl [(cB, .byte), (cL, .long)] U)) (va_Qi (fun (r : Int32) (_ : Unit) => r = bI (f_Pr_has cnt a0)) (fun _ t => t.heap = Hp) (fun _ => False)) 0 0 (fun _ => False) := by
  refine Met.ofW (cc := cPr_has) (maxL := 3) (ret := (some .boolean)) (by decide) rfl ?_
  intro p e s m args below meth c s₁ B hml hv
  obtain ⟨rfl, rfl, hK⟩ := hv
  have hx := B.exec
  have hb := B.bytes
  have hr := B.returns
  have hT : ∀ w ∈ tB, w.before _ s = true := fun w h => atoms_spec (ws := wsPr_has) B.pre w (List.mem_cons_of_mem _ h)
  have hown : s.vm.findClass "CompiledProgram$Program" = some m.cls := findClass_of_methodNamed B.named
  have hlocks := B.notSynchronized
  have hA : ∀ q : Nat, (fun _ : Nat => False) q → False := fun _ h => h
  have hS : va_S (fun _ => False) s.heap s.heap [] := va_S.rf
  have hl := lv_entry ([.ref h0, .long a0]) (n := 3) (Nat.le_of_ble_eq_true rfl)
  rw [lg_entry_eq]
  generalize (lg_sl ([.ref h0, .long a0]) ++ List.replicate (3 - (lg_sl ([.ref h0, .long a0])).length) Slot.unset).toArray = ls at hl ⊢
  have hl : lv_has ls 3 [(0, .ref h0), (1, .long a0)] := hl
  refine lv_lload_n hx hb dPr_has_0 rfl (lv_at hl 1 rfl) ?_
  refine lv_lconst (v := (0 : Int64)) hx hb dPr_has_1 (by decide) ?_
  refine W.lcmp hx hb dPr_has_2 ?_
  refine lv_if_lt (tgt := 20) hx hb dPr_has_3 (by decide) (fun c1 => ?_) (fun c1 => ?_)
  · have c1 := (lg_cmp_lt _ _).mp c1
    refine lv_iconst (v := (0 : Int32)) hx hb dPr_has_20 (by decide) ?_
    exact W.zret (v := (0 : Int32)) hx hb hr rfl (fun t ht hW => ⟨⟨(0 : Int32), (), rfl, (by unfold f_Pr_has; rw [if_pos c1]; try rfl), ht⟩, hS.F ht⟩) hS.2.2 dPr_has_21
  · have c1 := mt (lg_cmp_lt _ _).mpr c1
    refine lv_lload_n hx hb dPr_has_6 rfl (lv_at hl 1 rfl) ?_
    refine lv_aload_n hx hb dPr_has_7 rfl (lv_at hl 0 rfl) ?_
    refine va_get (D := G) (ci := 0) (v := .int cnt) (C := RPr) (T := TPr) (N := 2) hx hb hT inPr hown hK hP 0 rfl rfl 1 (by decide) (hT _ mw_52) (fun _ h9 => h9) rfl dPr_has_8 ?_
    refine lv_i2l hx hb dPr_has_11 rfl ?_
    refine W.lcmp hx hb dPr_has_12 ?_
    refine lv_if_ge (tgt := 20) hx hb dPr_has_13 (by decide) (fun c2 => ?_) (fun c2 => ?_)
    · have c2 := (lg_cmp_ge _ _).mp c2
      refine lv_iconst (v := (0 : Int32)) hx hb dPr_has_20 (by decide) ?_
      exact W.zret (v := (0 : Int32)) hx hb hr rfl (fun t ht hW => ⟨⟨(0 : Int32), (), rfl, (by unfold f_Pr_has; rw [if_neg c1, if_pos c2]; try rfl), ht⟩, hS.F ht⟩) hS.2.2 dPr_has_21
    · have c2 := mt (lg_cmp_ge _ _).mpr c2
      refine lv_iconst (v := (1 : Int32)) hx hb dPr_has_16 (by decide) ?_
      refine lv_goto (tgt := 21) hx hb dPr_has_17 (by decide) ?_
      exact W.zret (v := (1 : Int32)) hx hb hr rfl (fun t ht hW => ⟨⟨(1 : Int32), (), rfl, (by unfold f_Pr_has; rw [if_neg c1, if_neg c2]; try rfl), ht⟩, hS.F ht⟩) hS.2.2 dPr_has_21

theorem has_spec {cnt : Int32} {x : Int64} (h : (f_Pr_has cnt x) = true) : 0 ≤ x.toInt ∧ x.toInt < cnt.toInt := by
  unfold f_Pr_has at h
  by_cases c1 : x < (0 : Int64)
  · rw [if_pos c1] at h; cases h
  · rw [if_neg c1] at h
    by_cases c2 : ((cnt).toInt64) ≤ x
    · rw [if_pos c2] at h; cases h
    · have c1 := l_nlt c1
      have c2 := l_nle c2
      rw [l_0] at c1
      rw [Int32.toInt_toInt64] at c2
      exact ⟨c1, c2⟩
theorem pr_in {cnt a0 : Int32} {pn : Nat} (hc : cnt.toInt ≤ pn) (h : (f_Pr_has cnt ((a0).toInt64)) = true) : vp_in a0 pn := by
  have h := has_spec h
  rw [Int32.toInt_toInt64] at h
  rw [vp_in_iff]; omega
theorem fw_fuel {cnt : Int32} : (cnt.toInt - (0 : Int32).toInt).toNat < cnt.toNatClampNeg + 1 := by
  rw [i_0, Int.sub_zero, Int32.toNat_toInt]; omega
theorem fw_inv {cnt p q : Int32} {pn : Nat} (hc : cnt.toInt ≤ pn) (hn : pn < 1073741824) (hp : 0 ≤ p.toInt) (c : ¬ cnt ≤ p) (hq : q = p + (1 : Int32) ∨ q = p + (1 : Int32) + (1 : Int32)) : 0 ≤ q.toInt ∧ (cnt.toInt - q.toInt).toNat < (cnt.toInt - p.toInt).toNat := by
  have c := i_nle c
  have e1 : (p + (1 : Int32)).toInt = p.toInt + 1 := by
    rw [i_add (by rw [i_1]; omega) (by rw [i_1]; omega), i_1]
  rcases hq with rfl | rfl
  · rw [e1]; omega
  · have e2 : (p + (1 : Int32) + (1 : Int32)).toInt = p.toInt + 2 := by
      rw [i_add (by rw [i_1, e1]; omega) (by rw [i_1, e1]; omega), i_1, e1]; omega
    rw [e2]; omega
def f_Pr_at (pf : Nat → Int64) (cnt : Int32) (a0 : Int32) : Int64 :=
  if (f_Pr_has cnt ((a0).toInt64)) = true then
    (pf a0.toNatClampNeg)
  else
    (0 : Int64)
set_option maxHeartbeats 4000000 in
set_option maxRecDepth 100000 in
theorem c_Pr_at (l : Launch) (G : va_G) (cB cL : ClassId) (Hp : Heap) (h0 : Nat) (h1 : Nat) (pn : Nat) (pf : Nat → Int64) (cnt : Int32) (a0 : Int32) (hP : va_P G vwCl [(h0, .inr (0, [.ref h1, .int cnt])), (h1, .inl (cL, pn, .inr (.inl pf)))] Hp) (hc : cnt.toInt ≤ pn) : Met l yPr_at wsPr_at ({ frames := 1, cells := 0, slots := 0, locals := 22 }) (va_Pc [.ref h0, .int a0] (fun U => U.heap = Hp ∧ va_K G vwCl [(cB, .byte), (cL, .long)] U)) (va_Ql (fun (r : Int64) (_ : Unit) => r = (f_Pr_at pf cnt a0)) (fun _ t => t.heap = Hp) (fun _ => False)) 0 0 (fun _ => False) := by
  refine Met.ofW (cc := cPr_at) (maxL := 2) (ret := (some .long)) (by decide) rfl ?_
  intro p e s m args below meth c s₁ B hml hv
  obtain ⟨rfl, rfl, hK⟩ := hv
  have hx := B.exec
  have hb := B.bytes
  have hr := B.returns
  have hT : ∀ w ∈ tB, w.before _ s = true := fun w h => atoms_spec (ws := wsPr_at) B.pre w (List.mem_cons_of_mem _ h)
  have hown : s.vm.findClass "CompiledProgram$Program" = some m.cls := findClass_of_methodNamed B.named
  have hlocks := B.notSynchronized
  have hA : ∀ q : Nat, (fun _ : Nat => False) q → False := fun _ h => h
  have hS : va_S (fun _ => False) s.heap s.heap [] := va_S.rf
  have hl := lv_entry ([.ref h0, .int a0]) (n := 2) (Nat.le_of_ble_eq_true rfl)
  rw [lg_entry_eq]
  generalize (lg_sl ([.ref h0, .int a0]) ++ List.replicate (2 - (lg_sl ([.ref h0, .int a0])).length) Slot.unset).toArray = ls at hl ⊢
  have hl : lv_has ls 2 [(0, .ref h0), (1, .int a0)] := hl
  refine lv_aload_n hx hb dPr_at_0 rfl (lv_at hl 0 rfl) ?_
  refine lv_iload_n hx hb dPr_at_1 rfl (lv_at hl 1 rfl) ?_
  refine lv_i2l hx hb dPr_at_2 rfl ?_
  have hPc := hP.sub (ws' := [(h0, .inr (0, [.ref h1, .int cnt])), (h1, .inl (cL, pn, .inr (.inl pf)))]) [0, 1] rfl
  refine va_calli (va_runV (As := [.long ((a0).toInt64)]) (rest := []) ⟨hx, hb, hml, hown, hT⟩ (c_Pr_has l G cB cL s.heap h0 h1 pn pf cnt ((a0).toInt64) hPc ) (cwV 1 hT (gB_V mw_124 mw_125 mw_126 mw_3 mw_127) rfl rfl rfl (by decide +kernel) ⟨Nat.le_of_ble_eq_true rfl, Nat.le_of_ble_eq_true rfl⟩) ⟨fun a U g mk q => ⟨q.1, q.2.1, va_K.moved (u := U) (U := U.calling g mk a) (Vm.Alike.refl U.vm) q.2.2⟩, va_recv hK hPc (ci := 0) (q0 := 0) rfl rfl, fun U hU hW => ⟨rfl, hU, va_K.moved hW.alike hK⟩⟩ rfl rfl hl.1 rfl (lv_room (Nat.le_of_ble_eq_true rfl)) dPr_at_3 ⟨Nat.zero_le _, Nat.zero_le _⟩) hS (fun _ _ h => h.elim) (fun _ h => h.elim) (fun r u t H1 locs ht hvm hw hB hz8 hk8 hS => ?_)
  obtain rfl : s.heap = H1 := hB.symm.trans ht
  subst hw
  refine lv_if_eq (tgt := 18) hx hb dPr_at_6 (by decide) (fun c1 => ?_) (fun c1 => ?_)
  · have c1 := bI_z c1
    refine lv_lconst (v := (0 : Int64)) hx hb dPr_at_18 (by decide) ?_
    exact W.lret (v := (0 : Int64)) hx hb hr (fun t ht hW => ⟨⟨(0 : Int64), (), rfl, (by unfold f_Pr_at; rw [if_neg c1]; try rfl), ht⟩, hS.F ht⟩) hS.2.2 dPr_at_19
  · have c1 := bI_n c1
    refine lv_aload_n hx hb dPr_at_9 rfl (lv_at hl 0 rfl) ?_
    refine va_get (D := G) (ci := 0) (v := .ref h1) (C := RPr) (T := TPr) (N := 2) hx hb hT inPr hown hK hP 0 rfl rfl 0 (by decide) (hT _ mw_51) (fun _ h9 => h9) rfl dPr_at_10 ?_
    refine lv_iload_n hx hb dPr_at_13 rfl (lv_at hl 1 rfl) ?_
    refine va_lald hx hb hK hP 1 1 rfl rfl (pr_in hc c1) dPr_at_14 ?_
    refine lv_goto (tgt := 19) hx hb dPr_at_15 (by decide) ?_
    exact W.lret (v := (pf a0.toNatClampNeg)) hx hb hr (fun t ht hW => ⟨⟨(pf a0.toNatClampNeg), (), rfl, (by unfold f_Pr_at; rw [if_pos c1]; try rfl), ht⟩, hS.F ht⟩) hS.2.2 dPr_at_19
end
section
def f_Fo_isStart (pf : Nat → Int64) (cnt : Int32) (a1 : Int64) : Bool :=
  if (f_Pr_has cnt a1) = true then
    if (f_Fi_code (f_Pr_at pf cnt ((a1).toInt32))) = 0 then
      false
    else
      true
  else
    false
set_option maxHeartbeats 4000000 in
set_option maxRecDepth 100000 in
theorem c_Fo_isStart (l : Launch) (G : va_G) (cB cL : ClassId) (Hp : Heap) (h0 : Nat) (h1 : Nat) (pn : Nat) (pf : Nat → Int64) (cnt : Int32) (a1 : Int64) (hP : va_P G vwCl [(h0, .inr (0, [.ref h1, .int cnt])), (h1, .inl (cL, pn, .inr (.inl pf)))] Hp) (hc : cnt.toInt ≤ pn) : Met l yFo_isStart wsFo_isStart ({ frames := 2, cells := 0, slots := 0, locals := 43 }) (va_Pc [.ref h0, .long a1] (fun U => U.heap = Hp ∧ va_K G vwCl [(cB, .byte), (cL, .long)] U)) (va_Qi (fun (r : Int32) (_ : Unit) => r = bI (f_Fo_isStart pf cnt a1)) (fun _ t => t.heap = Hp) (fun _ => False)) 0 0 (fun _ => False) := by
  refine Met.ofW (cc := cFo_isStart) (maxL := 3) (ret := (some .boolean)) (by decide) rfl ?_
  intro p e s m args below meth c s₁ B hml hv
  obtain ⟨rfl, rfl, hK⟩ := hv
  have hx := B.exec
  have hb := B.bytes
  have hr := B.returns
  have hT : ∀ w ∈ tB, w.before _ s = true := fun w h => atoms_spec (ws := wsFo_isStart) B.pre w (List.mem_cons_of_mem _ h)
  have hown : s.vm.findClass "CompiledProgram$Form" = some m.cls := findClass_of_methodNamed B.named
  have hlocks := B.notSynchronized
  have hA : ∀ q : Nat, (fun _ : Nat => False) q → False := fun _ h => h
  have hS : va_S (fun _ => False) s.heap s.heap [] := va_S.rf
  have hl := lv_entry ([.ref h0, .long a1]) (n := 3) (Nat.le_of_ble_eq_true rfl)
  rw [lg_entry_eq]
  generalize (lg_sl ([.ref h0, .long a1]) ++ List.replicate (3 - (lg_sl ([.ref h0, .long a1])).length) Slot.unset).toArray = ls at hl ⊢
  have hl : lv_has ls 3 [(0, .ref h0), (1, .long a1)] := hl
  refine lv_aload_n hx hb dFo_isStart_0 rfl (lv_at hl 0 rfl) ?_
  refine lv_lload_n hx hb dFo_isStart_1 rfl (lv_at hl 1 rfl) ?_
  have hPc := hP.sub (ws' := [(h0, .inr (0, [.ref h1, .int cnt])), (h1, .inl (cL, pn, .inr (.inl pf)))]) [0, 1] rfl
  refine va_calli (va_runV (As := [.long a1]) (rest := []) ⟨hx, hb, hml, hown, hT⟩ (c_Pr_has l G cB cL s.heap h0 h1 pn pf cnt a1 hPc ) (cwV 1 hT (gB_V mw_210 mw_125 mw_126 mw_3 mw_127) rfl rfl rfl (by decide +kernel) ⟨Nat.le_of_ble_eq_true rfl, Nat.le_of_ble_eq_true rfl⟩) ⟨fun a U g mk q => ⟨q.1, q.2.1, va_K.moved (u := U) (U := U.calling g mk a) (Vm.Alike.refl U.vm) q.2.2⟩, va_recv hK hPc (ci := 0) (q0 := 0) rfl rfl, fun U hU hW => ⟨rfl, hU, va_K.moved hW.alike hK⟩⟩ rfl rfl hl.1 rfl (lv_room (Nat.le_of_ble_eq_true rfl)) dFo_isStart_2 ⟨Nat.zero_le _, Nat.zero_le _⟩) hS (fun _ _ h => h.elim) (fun _ h => h.elim) (fun r u t H1 locs ht hvm hw hB hz8 hk8 hS => ?_)
  obtain rfl : s.heap = H1 := hB.symm.trans ht
  subst hw
  refine lv_if_eq (tgt := 24) hx hb dFo_isStart_5 (by decide) (fun c1 => ?_) (fun c1 => ?_)
  · have c1 := bI_z c1
    refine lv_iconst (v := (0 : Int32)) hx hb dFo_isStart_24 (by decide) ?_
    exact W.zret (v := (0 : Int32)) hx hb hr rfl (fun t ht hW => ⟨⟨(0 : Int32), (), rfl, (by unfold f_Fo_isStart; rw [if_neg c1]; try rfl), ht⟩, hS.F ht⟩) hS.2.2 dFo_isStart_25
  · have c1 := bI_n c1
    refine lv_aload_n hx hb dFo_isStart_8 rfl (lv_at hl 0 rfl) ?_
    refine lv_lload_n hx hb dFo_isStart_9 rfl (lv_at hl 1 rfl) ?_
    refine lv_l2i hx hb dFo_isStart_10 rfl ?_
    have hPc := hP.sub (ws' := [(h0, .inr (0, [.ref h1, .int cnt])), (h1, .inl (cL, pn, .inr (.inl pf)))]) [0, 1] rfl
    refine va_calll (va_runV (As := [.int ((a1).toInt32)]) (rest := []) ⟨hx, hb, hml, hown, hT⟩ (c_Pr_at l G cB cL s.heap h0 h1 pn pf cnt ((a1).toInt32) hPc hc) (cwV 1 hT (gB_V mw_120 mw_121 mw_122 mw_3 mw_123) rfl rfl rfl (by decide +kernel) ⟨Nat.le_of_ble_eq_true rfl, Nat.le_of_ble_eq_true rfl⟩) ⟨fun a U g mk q => ⟨q.1, q.2.1, va_K.moved (u := U) (U := U.calling g mk a) (Vm.Alike.refl U.vm) q.2.2⟩, va_recv hK hPc (ci := 0) (q0 := 0) rfl rfl, fun U hU hW => ⟨rfl, hU, va_K.moved hW.alike hK⟩⟩ rfl rfl hl.1 rfl (lv_room (Nat.le_of_ble_eq_true rfl)) dFo_isStart_11 ⟨Nat.zero_le _, Nat.zero_le _⟩) hS (fun _ _ h => h.elim) (fun _ h => h.elim) (fun r u t H1 locs ht hvm hw hB hz8 hk8 hS => ?_)
    obtain rfl : s.heap = H1 := hB.symm.trans ht
    subst hw
    refine va_calli (va_runS (As := [.long (f_Pr_at pf cnt ((a1).toInt32))]) (rest := []) ⟨hx, hb, hml, hown, hT⟩ (c_Fi_code l s.heap (f_Pr_at pf cnt ((a1).toInt32))) (va_cwS 1 hT (gB_SV mw_199 mw_144 mw_16 mw_145) rfl rfl rfl (by decide +kernel) ⟨Nat.le_of_ble_eq_true rfl, Nat.le_of_ble_eq_true rfl⟩) ⟨fun _ _ _ _ q => q, fun U hU hW => ⟨rfl, hU⟩⟩ rfl rfl hl.1 rfl (lv_room (Nat.le_of_ble_eq_true rfl)) dFo_isStart_14 ⟨Nat.zero_le _, Nat.zero_le _⟩) hS (fun _ _ h => h.elim) (fun _ h => h.elim) (fun r u t H1 locs ht hvm hw hB hz8 hk8 hS => ?_)
    obtain rfl : s.heap = H1 := hB.symm.trans ht
    subst hw
    refine lv_if_eq (tgt := 24) hx hb dFo_isStart_17 (by decide) (fun c2 => ?_) (fun c2 => ?_)
    · skip
      refine lv_iconst (v := (0 : Int32)) hx hb dFo_isStart_24 (by decide) ?_
      exact W.zret (v := (0 : Int32)) hx hb hr rfl (fun t ht hW => ⟨⟨(0 : Int32), (), rfl, (by unfold f_Fo_isStart; rw [if_pos c1, if_pos c2]; try rfl), ht⟩, hS.F ht⟩) hS.2.2 dFo_isStart_25
    · skip
      refine lv_iconst (v := (1 : Int32)) hx hb dFo_isStart_20 (by decide) ?_
      refine lv_goto (tgt := 25) hx hb dFo_isStart_21 (by decide) ?_
      exact W.zret (v := (1 : Int32)) hx hb hr rfl (fun t ht hW => ⟨⟨(1 : Int32), (), rfl, (by unfold f_Fo_isStart; rw [if_pos c1, if_neg c2]; try rfl), ht⟩, hS.F ht⟩) hS.2.2 dFo_isStart_25

def f_Fo_goesOnRightly (pf : Nat → Int64) (cnt : Int32) (a1 : Int32) (a2 : Int64) : Bool :=
  if (f_Fi_isExit a2) = true then
    true
  else
    if (f_Fi_jumpsAlways a2) = true then
      (f_Fo_isStart pf cnt (f_Fi_jumpFrom a1 a2))
    else
      if (f_Fi_jumpsPerhaps a2) = true then
        if (f_Fo_isStart pf cnt (f_Fi_jumpFrom a1 a2)) = true then
          if (f_Fi_isTwoPlaces a2) = true then
            (f_Fo_isStart pf cnt ((a1 + (2 : Int32)).toInt64))
          else
            (f_Fo_isStart pf cnt ((a1 + (1 : Int32)).toInt64))
        else
          false
      else
        if (f_Fi_isTwoPlaces a2) = true then
          (f_Fo_isStart pf cnt ((a1 + (2 : Int32)).toInt64))
        else
          (f_Fo_isStart pf cnt ((a1 + (1 : Int32)).toInt64))
set_option maxHeartbeats 4000000 in
set_option maxRecDepth 100000 in
theorem c_Fo_goesOnRightly (l : Launch) (G : va_G) (cB cL : ClassId) (Hp : Heap) (h0 : Nat) (h1 : Nat) (pn : Nat) (pf : Nat → Int64) (cnt : Int32) (a1 : Int32) (a2 : Int64) (hP : va_P G vwCl [(h0, .inr (0, [.ref h1, .int cnt])), (h1, .inl (cL, pn, .inr (.inl pf)))] Hp) (hc : cnt.toInt ≤ pn) : Met l yFo_goesOnRightly wsFo_goesOnRightly ({ frames := 3, cells := 0, slots := 0, locals := 65 }) (va_Pc [.ref h0, .int a1, .long a2] (fun U => U.heap = Hp ∧ va_K G vwCl [(cB, .byte), (cL, .long)] U)) (va_Qi (fun (r : Int32) (_ : Unit) => r = bI (f_Fo_goesOnRightly pf cnt a1 a2)) (fun _ t => t.heap = Hp) (fun _ => False)) 0 0 (fun _ => False) := by
  refine Met.ofW (cc := cFo_goesOnRightly) (maxL := 4) (ret := (some .boolean)) (by decide) rfl ?_
  intro p e s m args below meth c s₁ B hml hv
  obtain ⟨rfl, rfl, hK⟩ := hv
  have hx := B.exec
  have hb := B.bytes
  have hr := B.returns
  have hT : ∀ w ∈ tB, w.before _ s = true := fun w h => atoms_spec (ws := wsFo_goesOnRightly) B.pre w (List.mem_cons_of_mem _ h)
  have hown : s.vm.findClass "CompiledProgram$Form" = some m.cls := findClass_of_methodNamed B.named
  have hlocks := B.notSynchronized
  have hA : ∀ q : Nat, (fun _ : Nat => False) q → False := fun _ h => h
  have hS : va_S (fun _ => False) s.heap s.heap [] := va_S.rf
  have hl := lv_entry ([.ref h0, .int a1, .long a2]) (n := 4) (Nat.le_of_ble_eq_true rfl)
  rw [lg_entry_eq]
  generalize (lg_sl ([.ref h0, .int a1, .long a2]) ++ List.replicate (4 - (lg_sl ([.ref h0, .int a1, .long a2])).length) Slot.unset).toArray = ls at hl ⊢
  have hl : lv_has ls 4 [(0, .ref h0), (1, .int a1), (2, .long a2)] := hl
  refine lv_lload_n hx hb dFo_goesOnRightly_0 rfl (lv_at hl 2 rfl) ?_
  refine va_calli (va_runS (As := [.long a2]) (rest := []) ⟨hx, hb, hml, hown, hT⟩ (c_Fi_isExit l s.heap a2) (va_cwS 1 hT (gB_SV mw_220 mw_221 mw_16 mw_222) rfl rfl rfl (by decide +kernel) ⟨Nat.le_of_ble_eq_true rfl, Nat.le_of_ble_eq_true rfl⟩) ⟨fun _ _ _ _ q => q, fun U hU hW => ⟨rfl, hU⟩⟩ rfl rfl hl.1 rfl (lv_room (Nat.le_of_ble_eq_true rfl)) dFo_goesOnRightly_1 ⟨Nat.zero_le _, Nat.zero_le _⟩) hS (fun _ _ h => h.elim) (fun _ h => h.elim) (fun r u t H1 locs ht hvm hw hB hz8 hk8 hS => ?_)
  obtain rfl : s.heap = H1 := hB.symm.trans ht
  subst hw
  refine lv_if_eq (tgt := 9) hx hb dFo_goesOnRightly_4 (by decide) (fun c1 => ?_) (fun c1 => ?_)
  · have c1 := bI_z c1
    refine lv_lload_n hx hb dFo_goesOnRightly_9 rfl (lv_at hl 2 rfl) ?_
    refine va_calli (va_runS (As := [.long a2]) (rest := []) ⟨hx, hb, hml, hown, hT⟩ (c_Fi_jumpsAlways l s.heap a2) (va_cwS 1 hT (gB_SV mw_223 mw_224 mw_16 mw_225) rfl rfl rfl (by decide +kernel) ⟨Nat.le_of_ble_eq_true rfl, Nat.le_of_ble_eq_true rfl⟩) ⟨fun _ _ _ _ q => q, fun U hU hW => ⟨rfl, hU⟩⟩ rfl rfl hl.1 rfl (lv_room (Nat.le_of_ble_eq_true rfl)) dFo_goesOnRightly_10 ⟨Nat.zero_le _, Nat.zero_le _⟩) hS (fun _ _ h => h.elim) (fun _ h => h.elim) (fun r u t H1 locs ht hvm hw hB hz8 hk8 hS => ?_)
    obtain rfl : s.heap = H1 := hB.symm.trans ht
    subst hw
    refine lv_if_eq (tgt := 26) hx hb dFo_goesOnRightly_13 (by decide) (fun c2 => ?_) (fun c2 => ?_)
    · have c2 := bI_z c2
      refine lv_lload_n hx hb dFo_goesOnRightly_26 rfl (lv_at hl 2 rfl) ?_
      refine va_calli (va_runS (As := [.long a2]) (rest := []) ⟨hx, hb, hml, hown, hT⟩ (c_Fi_jumpsPerhaps l s.heap a2) (va_cwS 1 hT (gB_SV mw_179 mw_180 mw_16 mw_181) rfl rfl rfl (by decide +kernel) ⟨Nat.le_of_ble_eq_true rfl, Nat.le_of_ble_eq_true rfl⟩) ⟨fun _ _ _ _ q => q, fun U hU hW => ⟨rfl, hU⟩⟩ rfl rfl hl.1 rfl (lv_room (Nat.le_of_ble_eq_true rfl)) dFo_goesOnRightly_27 ⟨Nat.zero_le _, Nat.zero_le _⟩) hS (fun _ _ h => h.elim) (fun _ h => h.elim) (fun r u t H1 locs ht hvm hw hB hz8 hk8 hS => ?_)
      obtain rfl : s.heap = H1 := hB.symm.trans ht
      subst hw
      refine lv_if_eq (tgt := 47) hx hb dFo_goesOnRightly_30 (by decide) (fun c3 => ?_) (fun c3 => ?_)
      · have c3 := bI_z c3
        refine lv_aload_n hx hb dFo_goesOnRightly_47 rfl (lv_at hl 0 rfl) ?_
        refine lv_iload_n hx hb dFo_goesOnRightly_48 rfl (lv_at hl 1 rfl) ?_
        refine lv_lload_n hx hb dFo_goesOnRightly_49 rfl (lv_at hl 2 rfl) ?_
        refine va_calli (va_runS (As := [.long a2]) (rest := [.int a1, .ref h0]) ⟨hx, hb, hml, hown, hT⟩ (c_Fi_isTwoPlaces l s.heap a2) (va_cwS 1 hT (gB_SV mw_140 mw_141 mw_16 mw_142) rfl rfl rfl (by decide +kernel) ⟨Nat.le_of_ble_eq_true rfl, Nat.le_of_ble_eq_true rfl⟩) ⟨fun _ _ _ _ q => q, fun U hU hW => ⟨rfl, hU⟩⟩ rfl rfl hl.1 rfl (lv_room (Nat.le_of_ble_eq_true rfl)) dFo_goesOnRightly_50 ⟨Nat.zero_le _, Nat.zero_le _⟩) hS (fun _ _ h => h.elim) (fun _ h => h.elim) (fun r u t H1 locs ht hvm hw hB hz8 hk8 hS => ?_)
        obtain rfl : s.heap = H1 := hB.symm.trans ht
        subst hw
        refine lv_if_eq (tgt := 60) hx hb dFo_goesOnRightly_53 (by decide) (fun c4 => ?_) (fun c4 => ?_)
        · have c4 := bI_z c4
          refine lv_iconst (v := (1 : Int32)) hx hb dFo_goesOnRightly_60 (by decide) ?_
          refine lv_iadd hx hb dFo_goesOnRightly_61 ?_
          refine lv_i2l hx hb dFo_goesOnRightly_62 rfl ?_
          have hPc := hP.sub (ws' := [(h0, .inr (0, [.ref h1, .int cnt])), (h1, .inl (cL, pn, .inr (.inl pf)))]) [0, 1] rfl
          refine va_calli (va_runS (As := [.ref h0, .long ((a1 + (1 : Int32)).toInt64)]) (rest := []) ⟨hx, hb, hml, hown, hT⟩ (c_Fo_isStart l G cB cL s.heap h0 h1 pn pf cnt ((a1 + (1 : Int32)).toInt64) hPc hc) (cwS 2 hT (gB_S mw_231 mw_232 mw_15 mw_233) rfl rfl rfl (by decide +kernel) ⟨Nat.le_of_ble_eq_true rfl, Nat.le_of_ble_eq_true rfl⟩) ⟨fun a U g mk q => ⟨q.1, q.2.1, va_K.moved (u := U) (U := U.calling g mk a) (Vm.Alike.refl U.vm) q.2.2⟩, fun U hU hW => ⟨rfl, hU, va_K.moved hW.alike hK⟩⟩ rfl rfl hl.1 rfl (lv_room (Nat.le_of_ble_eq_true rfl)) dFo_goesOnRightly_63 ⟨Nat.zero_le _, Nat.zero_le _⟩) hS (fun _ _ h => h.elim) (fun _ h => h.elim) (fun r u t H1 locs ht hvm hw hB hz8 hk8 hS => ?_)
          obtain rfl : s.heap = H1 := hB.symm.trans ht
          subst hw
          exact W.zret (v := (bI (f_Fo_isStart pf cnt ((a1 + (1 : Int32)).toInt64)))) hx hb hr (bI_nar _) (fun t ht hW => ⟨⟨(bI (f_Fo_isStart pf cnt ((a1 + (1 : Int32)).toInt64))), (), rfl, (by unfold f_Fo_goesOnRightly; rw [if_neg c1, if_neg c2, if_neg c3, if_neg c4]; try rfl), ht⟩, hS.F ht⟩) hS.2.2 dFo_goesOnRightly_66
        · have c4 := bI_n c4
          refine lv_iconst (v := (2 : Int32)) hx hb dFo_goesOnRightly_56 (by decide) ?_
          refine lv_goto (tgt := 61) hx hb dFo_goesOnRightly_57 (by decide) ?_
          refine lv_iadd hx hb dFo_goesOnRightly_61 ?_
          refine lv_i2l hx hb dFo_goesOnRightly_62 rfl ?_
          have hPc := hP.sub (ws' := [(h0, .inr (0, [.ref h1, .int cnt])), (h1, .inl (cL, pn, .inr (.inl pf)))]) [0, 1] rfl
          refine va_calli (va_runS (As := [.ref h0, .long ((a1 + (2 : Int32)).toInt64)]) (rest := []) ⟨hx, hb, hml, hown, hT⟩ (c_Fo_isStart l G cB cL s.heap h0 h1 pn pf cnt ((a1 + (2 : Int32)).toInt64) hPc hc) (cwS 2 hT (gB_S mw_231 mw_232 mw_15 mw_233) rfl rfl rfl (by decide +kernel) ⟨Nat.le_of_ble_eq_true rfl, Nat.le_of_ble_eq_true rfl⟩) ⟨fun a U g mk q => ⟨q.1, q.2.1, va_K.moved (u := U) (U := U.calling g mk a) (Vm.Alike.refl U.vm) q.2.2⟩, fun U hU hW => ⟨rfl, hU, va_K.moved hW.alike hK⟩⟩ rfl rfl hl.1 rfl (lv_room (Nat.le_of_ble_eq_true rfl)) dFo_goesOnRightly_63 ⟨Nat.zero_le _, Nat.zero_le _⟩) hS (fun _ _ h => h.elim) (fun _ h => h.elim) (fun r u t H1 locs ht hvm hw hB hz8 hk8 hS => ?_)
          obtain rfl : s.heap = H1 := hB.symm.trans ht
          subst hw
          exact W.zret (v := (bI (f_Fo_isStart pf cnt ((a1 + (2 : Int32)).toInt64)))) hx hb hr (bI_nar _) (fun t ht hW => ⟨⟨(bI (f_Fo_isStart pf cnt ((a1 + (2 : Int32)).toInt64))), (), rfl, (by unfold f_Fo_goesOnRightly; rw [if_neg c1, if_neg c2, if_neg c3, if_pos c4]; try rfl), ht⟩, hS.F ht⟩) hS.2.2 dFo_goesOnRightly_66
      · have c3 := bI_n c3
        refine lv_aload_n hx hb dFo_goesOnRightly_33 rfl (lv_at hl 0 rfl) ?_
        refine lv_iload_n hx hb dFo_goesOnRightly_34 rfl (lv_at hl 1 rfl) ?_
        refine lv_lload_n hx hb dFo_goesOnRightly_35 rfl (lv_at hl 2 rfl) ?_
        refine va_calll (va_runS (As := [.int a1, .long a2]) (rest := [.ref h0]) ⟨hx, hb, hml, hown, hT⟩ (c_Fi_jumpFrom l s.heap a1 a2) (va_cwS 2 hT (gB_SV mw_226 mw_227 mw_16 mw_228) rfl rfl rfl (by decide +kernel) ⟨Nat.le_of_ble_eq_true rfl, Nat.le_of_ble_eq_true rfl⟩) ⟨fun _ _ _ _ q => q, fun U hU hW => ⟨rfl, hU⟩⟩ rfl rfl hl.1 rfl (lv_room (Nat.le_of_ble_eq_true rfl)) dFo_goesOnRightly_36 ⟨Nat.zero_le _, Nat.zero_le _⟩) hS (fun _ _ h => h.elim) (fun _ h => h.elim) (fun r u t H1 locs ht hvm hw hB hz8 hk8 hS => ?_)
        obtain rfl : s.heap = H1 := hB.symm.trans ht
        subst hw
        have hPc := hP.sub (ws' := [(h0, .inr (0, [.ref h1, .int cnt])), (h1, .inl (cL, pn, .inr (.inl pf)))]) [0, 1] rfl
        refine va_calli (va_runS (As := [.ref h0, .long (f_Fi_jumpFrom a1 a2)]) (rest := []) ⟨hx, hb, hml, hown, hT⟩ (c_Fo_isStart l G cB cL s.heap h0 h1 pn pf cnt (f_Fi_jumpFrom a1 a2) hPc hc) (cwS 2 hT (gB_S mw_231 mw_232 mw_15 mw_233) rfl rfl rfl (by decide +kernel) ⟨Nat.le_of_ble_eq_true rfl, Nat.le_of_ble_eq_true rfl⟩) ⟨fun a U g mk q => ⟨q.1, q.2.1, va_K.moved (u := U) (U := U.calling g mk a) (Vm.Alike.refl U.vm) q.2.2⟩, fun U hU hW => ⟨rfl, hU, va_K.moved hW.alike hK⟩⟩ rfl rfl hl.1 rfl (lv_room (Nat.le_of_ble_eq_true rfl)) dFo_goesOnRightly_39 ⟨Nat.zero_le _, Nat.zero_le _⟩) hS (fun _ _ h => h.elim) (fun _ h => h.elim) (fun r u t H1 locs ht hvm hw hB hz8 hk8 hS => ?_)
        obtain rfl : s.heap = H1 := hB.symm.trans ht
        subst hw
        refine lv_if_ne (tgt := 47) hx hb dFo_goesOnRightly_42 (by decide) (fun c5 => ?_) (fun c5 => ?_)
        · have c5 := bI_n c5
          refine lv_aload_n hx hb dFo_goesOnRightly_47 rfl (lv_at hl 0 rfl) ?_
          refine lv_iload_n hx hb dFo_goesOnRightly_48 rfl (lv_at hl 1 rfl) ?_
          refine lv_lload_n hx hb dFo_goesOnRightly_49 rfl (lv_at hl 2 rfl) ?_
          refine va_calli (va_runS (As := [.long a2]) (rest := [.int a1, .ref h0]) ⟨hx, hb, hml, hown, hT⟩ (c_Fi_isTwoPlaces l s.heap a2) (va_cwS 1 hT (gB_SV mw_140 mw_141 mw_16 mw_142) rfl rfl rfl (by decide +kernel) ⟨Nat.le_of_ble_eq_true rfl, Nat.le_of_ble_eq_true rfl⟩) ⟨fun _ _ _ _ q => q, fun U hU hW => ⟨rfl, hU⟩⟩ rfl rfl hl.1 rfl (lv_room (Nat.le_of_ble_eq_true rfl)) dFo_goesOnRightly_50 ⟨Nat.zero_le _, Nat.zero_le _⟩) hS (fun _ _ h => h.elim) (fun _ h => h.elim) (fun r u t H1 locs ht hvm hw hB hz8 hk8 hS => ?_)
          obtain rfl : s.heap = H1 := hB.symm.trans ht
          subst hw
          refine lv_if_eq (tgt := 60) hx hb dFo_goesOnRightly_53 (by decide) (fun c6 => ?_) (fun c6 => ?_)
          · have c6 := bI_z c6
            refine lv_iconst (v := (1 : Int32)) hx hb dFo_goesOnRightly_60 (by decide) ?_
            refine lv_iadd hx hb dFo_goesOnRightly_61 ?_
            refine lv_i2l hx hb dFo_goesOnRightly_62 rfl ?_
            have hPc := hP.sub (ws' := [(h0, .inr (0, [.ref h1, .int cnt])), (h1, .inl (cL, pn, .inr (.inl pf)))]) [0, 1] rfl
            refine va_calli (va_runS (As := [.ref h0, .long ((a1 + (1 : Int32)).toInt64)]) (rest := []) ⟨hx, hb, hml, hown, hT⟩ (c_Fo_isStart l G cB cL s.heap h0 h1 pn pf cnt ((a1 + (1 : Int32)).toInt64) hPc hc) (cwS 2 hT (gB_S mw_231 mw_232 mw_15 mw_233) rfl rfl rfl (by decide +kernel) ⟨Nat.le_of_ble_eq_true rfl, Nat.le_of_ble_eq_true rfl⟩) ⟨fun a U g mk q => ⟨q.1, q.2.1, va_K.moved (u := U) (U := U.calling g mk a) (Vm.Alike.refl U.vm) q.2.2⟩, fun U hU hW => ⟨rfl, hU, va_K.moved hW.alike hK⟩⟩ rfl rfl hl.1 rfl (lv_room (Nat.le_of_ble_eq_true rfl)) dFo_goesOnRightly_63 ⟨Nat.zero_le _, Nat.zero_le _⟩) hS (fun _ _ h => h.elim) (fun _ h => h.elim) (fun r u t H1 locs ht hvm hw hB hz8 hk8 hS => ?_)
            obtain rfl : s.heap = H1 := hB.symm.trans ht
            subst hw
            exact W.zret (v := (bI (f_Fo_isStart pf cnt ((a1 + (1 : Int32)).toInt64)))) hx hb hr (bI_nar _) (fun t ht hW => ⟨⟨(bI (f_Fo_isStart pf cnt ((a1 + (1 : Int32)).toInt64))), (), rfl, (by unfold f_Fo_goesOnRightly; rw [if_neg c1, if_neg c2, if_pos c3, if_pos c5, if_neg c6]; try rfl), ht⟩, hS.F ht⟩) hS.2.2 dFo_goesOnRightly_66
          · have c6 := bI_n c6
            refine lv_iconst (v := (2 : Int32)) hx hb dFo_goesOnRightly_56 (by decide) ?_
            refine lv_goto (tgt := 61) hx hb dFo_goesOnRightly_57 (by decide) ?_
            refine lv_iadd hx hb dFo_goesOnRightly_61 ?_
            refine lv_i2l hx hb dFo_goesOnRightly_62 rfl ?_
            have hPc := hP.sub (ws' := [(h0, .inr (0, [.ref h1, .int cnt])), (h1, .inl (cL, pn, .inr (.inl pf)))]) [0, 1] rfl
            refine va_calli (va_runS (As := [.ref h0, .long ((a1 + (2 : Int32)).toInt64)]) (rest := []) ⟨hx, hb, hml, hown, hT⟩ (c_Fo_isStart l G cB cL s.heap h0 h1 pn pf cnt ((a1 + (2 : Int32)).toInt64) hPc hc) (cwS 2 hT (gB_S mw_231 mw_232 mw_15 mw_233) rfl rfl rfl (by decide +kernel) ⟨Nat.le_of_ble_eq_true rfl, Nat.le_of_ble_eq_true rfl⟩) ⟨fun a U g mk q => ⟨q.1, q.2.1, va_K.moved (u := U) (U := U.calling g mk a) (Vm.Alike.refl U.vm) q.2.2⟩, fun U hU hW => ⟨rfl, hU, va_K.moved hW.alike hK⟩⟩ rfl rfl hl.1 rfl (lv_room (Nat.le_of_ble_eq_true rfl)) dFo_goesOnRightly_63 ⟨Nat.zero_le _, Nat.zero_le _⟩) hS (fun _ _ h => h.elim) (fun _ h => h.elim) (fun r u t H1 locs ht hvm hw hB hz8 hk8 hS => ?_)
            obtain rfl : s.heap = H1 := hB.symm.trans ht
            subst hw
            exact W.zret (v := (bI (f_Fo_isStart pf cnt ((a1 + (2 : Int32)).toInt64)))) hx hb hr (bI_nar _) (fun t ht hW => ⟨⟨(bI (f_Fo_isStart pf cnt ((a1 + (2 : Int32)).toInt64))), (), rfl, (by unfold f_Fo_goesOnRightly; rw [if_neg c1, if_neg c2, if_pos c3, if_pos c5, if_pos c6]; try rfl), ht⟩, hS.F ht⟩) hS.2.2 dFo_goesOnRightly_66
        · have c5 := bI_z c5
          refine lv_iconst (v := (0 : Int32)) hx hb dFo_goesOnRightly_45 (by decide) ?_
          exact W.zret (v := (0 : Int32)) hx hb hr rfl (fun t ht hW => ⟨⟨(0 : Int32), (), rfl, (by unfold f_Fo_goesOnRightly; rw [if_neg c1, if_neg c2, if_pos c3, if_neg c5]; try rfl), ht⟩, hS.F ht⟩) hS.2.2 dFo_goesOnRightly_46
    · have c2 := bI_n c2
      refine lv_aload_n hx hb dFo_goesOnRightly_16 rfl (lv_at hl 0 rfl) ?_
      refine lv_iload_n hx hb dFo_goesOnRightly_17 rfl (lv_at hl 1 rfl) ?_
      refine lv_lload_n hx hb dFo_goesOnRightly_18 rfl (lv_at hl 2 rfl) ?_
      refine va_calll (va_runS (As := [.int a1, .long a2]) (rest := [.ref h0]) ⟨hx, hb, hml, hown, hT⟩ (c_Fi_jumpFrom l s.heap a1 a2) (va_cwS 2 hT (gB_SV mw_226 mw_227 mw_16 mw_228) rfl rfl rfl (by decide +kernel) ⟨Nat.le_of_ble_eq_true rfl, Nat.le_of_ble_eq_true rfl⟩) ⟨fun _ _ _ _ q => q, fun U hU hW => ⟨rfl, hU⟩⟩ rfl rfl hl.1 rfl (lv_room (Nat.le_of_ble_eq_true rfl)) dFo_goesOnRightly_19 ⟨Nat.zero_le _, Nat.zero_le _⟩) hS (fun _ _ h => h.elim) (fun _ h => h.elim) (fun r u t H1 locs ht hvm hw hB hz8 hk8 hS => ?_)
      obtain rfl : s.heap = H1 := hB.symm.trans ht
      subst hw
      have hPc := hP.sub (ws' := [(h0, .inr (0, [.ref h1, .int cnt])), (h1, .inl (cL, pn, .inr (.inl pf)))]) [0, 1] rfl
      refine va_calli (va_runS (As := [.ref h0, .long (f_Fi_jumpFrom a1 a2)]) (rest := []) ⟨hx, hb, hml, hown, hT⟩ (c_Fo_isStart l G cB cL s.heap h0 h1 pn pf cnt (f_Fi_jumpFrom a1 a2) hPc hc) (cwS 2 hT (gB_S mw_231 mw_232 mw_15 mw_233) rfl rfl rfl (by decide +kernel) ⟨Nat.le_of_ble_eq_true rfl, Nat.le_of_ble_eq_true rfl⟩) ⟨fun a U g mk q => ⟨q.1, q.2.1, va_K.moved (u := U) (U := U.calling g mk a) (Vm.Alike.refl U.vm) q.2.2⟩, fun U hU hW => ⟨rfl, hU, va_K.moved hW.alike hK⟩⟩ rfl rfl hl.1 rfl (lv_room (Nat.le_of_ble_eq_true rfl)) dFo_goesOnRightly_22 ⟨Nat.zero_le _, Nat.zero_le _⟩) hS (fun _ _ h => h.elim) (fun _ h => h.elim) (fun r u t H1 locs ht hvm hw hB hz8 hk8 hS => ?_)
      obtain rfl : s.heap = H1 := hB.symm.trans ht
      subst hw
      exact W.zret (v := (bI (f_Fo_isStart pf cnt (f_Fi_jumpFrom a1 a2)))) hx hb hr (bI_nar _) (fun t ht hW => ⟨⟨(bI (f_Fo_isStart pf cnt (f_Fi_jumpFrom a1 a2))), (), rfl, (by unfold f_Fo_goesOnRightly; rw [if_neg c1, if_pos c2]; try rfl), ht⟩, hS.F ht⟩) hS.2.2 dFo_goesOnRightly_25
  · have c1 := bI_n c1
    refine lv_iconst (v := (1 : Int32)) hx hb dFo_goesOnRightly_7 (by decide) ?_
    exact W.zret (v := (1 : Int32)) hx hb hr rfl (fun t ht hW => ⟨⟨(1 : Int32), (), rfl, (by unfold f_Fo_goesOnRightly; rw [if_pos c1]; try rfl), ht⟩, hS.F ht⟩) hS.2.2 dFo_goesOnRightly_8
end
section
def l_Fo_firstWrongForItself_2 (pf : Nat → Int64) (cnt : Int32) (a1 : Bool) : Nat → (Int32) → Int32
  | 0, _ => default
  | n + 1, p9 =>
    if cnt ≤ p9 then
      if a1 = true then
        cnt
      else
        if cnt = 0 then
          cnt
        else
          (-1 : Int32)
    else
      if (f_Fo_isInstruction (f_Pr_at pf cnt p9)) = true then
        if (f_Fi_isTwoPlaces (f_Pr_at pf cnt p9)) = true then
          if (f_Pr_has cnt ((p9 + (1 : Int32)).toInt64)) = true then
            if (f_Fo_isSecondOf (f_Pr_at pf cnt p9) (f_Pr_at pf cnt (p9 + (1 : Int32)))) = true then
              l_Fo_firstWrongForItself_2 pf cnt a1 n ((p9 + (1 : Int32)) + (1 : Int32))
            else
              p9
          else
            p9
        else
          l_Fo_firstWrongForItself_2 pf cnt a1 n (p9 + (1 : Int32))
      else
        p9
def f_Fo_firstWrongForItself (pf : Nat → Int64) (cnt : Int32) (a1 : Bool) : Int32 :=
  l_Fo_firstWrongForItself_2 pf cnt a1 (cnt.toNatClampNeg + 1) (0 : Int32)
set_option maxHeartbeats 4000000 in
set_option maxRecDepth 100000 in
theorem c_Fo_firstWrongForItself (l : Launch) (G : va_G) (cB cL : ClassId) (Hp : Heap) (h0 : Nat) (h1 : Nat) (pn : Nat) (pf : Nat → Int64) (cnt : Int32) (a1 : Bool) (hP : va_P G vwCl [(h0, .inr (0, [.ref h1, .int cnt])), (h1, .inl (cL, pn, .inr (.inl pf)))] Hp) (hc : cnt.toInt ≤ pn) (hn : pn < 1073741824) : Met l yFo_firstWrongForItself wsFo_firstWrongForItself ({ frames := 4, cells := 0, slots := 0, locals := 85 }) (va_Pc [.ref h0, .int (bI a1)] (fun U => U.heap = Hp ∧ va_K G vwCl [(cB, .byte), (cL, .long)] U)) (va_Qi (fun (r : Int32) (_ : Unit) => r = (f_Fo_firstWrongForItself pf cnt a1)) (fun _ t => t.heap = Hp) (fun _ => False)) 0 0 (fun _ => False) := by
  refine Met.ofW (cc := cFo_firstWrongForItself) (maxL := 5) (ret := (some .int)) (by decide) rfl ?_
  intro p e s m args below meth c s₁ B hml hv
  obtain ⟨rfl, rfl, hK⟩ := hv
  have hx := B.exec
  have hb := B.bytes
  have hr := B.returns
  have hT : ∀ w ∈ tB, w.before _ s = true := fun w h => atoms_spec (ws := wsFo_firstWrongForItself) B.pre w (List.mem_cons_of_mem _ h)
  have hown : s.vm.findClass "CompiledProgram$Form" = some m.cls := findClass_of_methodNamed B.named
  have hlocks := B.notSynchronized
  have hA : ∀ q : Nat, (fun _ : Nat => False) q → False := fun _ h => h
  have hS : va_S (fun _ => False) s.heap s.heap [] := va_S.rf
  have hl := lv_entry ([.ref h0, .int (bI a1)]) (n := 5) (Nat.le_of_ble_eq_true rfl)
  rw [lg_entry_eq]
  generalize (lg_sl ([.ref h0, .int (bI a1)]) ++ List.replicate (5 - (lg_sl ([.ref h0, .int (bI a1)])).length) Slot.unset).toArray = ls at hl ⊢
  have hl : lv_has ls 5 [(0, .ref h0), (1, .int (bI a1))] := hl
  refine lv_iconst (v := (0 : Int32)) hx hb dFo_firstWrongForItself_0 (by decide) ?_
  refine lv_istore_n (lv' := [(2, .int (0 : Int32)), (0, .ref h0), (1, .int (bI a1))]) hx hb dFo_firstWrongForItself_1 rfl hl (by decide) rfl (fun ls hl => ?_)
  have loop : ∀ (n : Nat) (p9 : Int32), (0 ≤ p9.toInt) → (cnt.toInt - p9.toInt).toNat < n → (f_Fo_firstWrongForItself pf cnt a1) = l_Fo_firstWrongForItself_2 pf cnt a1 n p9 → ∀ (locs : List Loc), va_S (fun _ => False) s.heap s.heap locs → ∀ (ls : Array Slot), lv_has ls 5 [(2, .int p9), (0, .ref h0), (1, .int (bI a1))] → W p l e (headSpec wsFo_firstWrongForItself ({ frames := 4, cells := 0, slots := 0, locals := 85 })).room s m ([.ref h0, .int (bI a1)] : List Value).toArray below meth c s.heap locs 0 0 (MQ below (va_Qi (fun (r : Int32) (_ : Unit) => r = (f_Fo_firstWrongForItself pf cnt a1)) (fun _ t => t.heap = s.heap) (fun _ => False)) ([.ref h0, .int (bI a1)] : List Value).toArray s 0 0 (fun _ => False)) (F0 m 2 ls []) := by
    intro n
    induction n with
    | zero =>
      intro p9 hp hM
      exact absurd hM (Nat.not_lt_zero _)
    | succ n ih =>
      intro p9 hp hM hE locs hS ls hl
      refine lv_iload_n hx hb dFo_firstWrongForItself_2 rfl (lv_at hl 0 rfl) ?_
      refine lv_aload_n hx hb dFo_firstWrongForItself_3 rfl (lv_at hl 1 rfl) ?_
      refine va_get (D := G) (ci := 0) (v := .int cnt) (C := RPr) (T := TPr) (N := 2) hx hb hT inPr hown hK hP 0 rfl rfl 1 (by decide) (hT _ mw_53) (fun _ h9 => h9) rfl dFo_firstWrongForItself_4 ?_
      refine lv_icmp_ge (tgt := 68) hx hb dFo_firstWrongForItself_7 (by decide) (fun c1 => ?_) (fun c1 => ?_)
      · skip
        refine lv_iload_n hx hb dFo_firstWrongForItself_68 rfl (lv_at hl 2 rfl) ?_
        refine lv_if_ne (tgt := 79) hx hb dFo_firstWrongForItself_69 (by decide) (fun c2 => ?_) (fun c2 => ?_)
        · have c2 := bI_n c2
          refine lv_aload_n hx hb dFo_firstWrongForItself_79 rfl (lv_at hl 1 rfl) ?_
          refine va_get (D := G) (ci := 0) (v := .int cnt) (C := RPr) (T := TPr) (N := 2) hx hb hT inPr hown hK hP 0 rfl rfl 1 (by decide) (hT _ mw_53) (fun _ h9 => h9) rfl dFo_firstWrongForItself_80 ?_
          refine lv_goto (tgt := 87) hx hb dFo_firstWrongForItself_83 (by decide) ?_
          exact W.iret (v := cnt) hx hb hr (fun t ht hW => ⟨⟨cnt, (), rfl, (by rw [hE, l_Fo_firstWrongForItself_2, if_pos c1, if_pos c2]; try rfl), ht⟩, hS.F ht⟩) hS.2.2 dFo_firstWrongForItself_87
        · have c2 := bI_z c2
          refine lv_aload_n hx hb dFo_firstWrongForItself_72 rfl (lv_at hl 1 rfl) ?_
          refine va_get (D := G) (ci := 0) (v := .int cnt) (C := RPr) (T := TPr) (N := 2) hx hb hT inPr hown hK hP 0 rfl rfl 1 (by decide) (hT _ mw_53) (fun _ h9 => h9) rfl dFo_firstWrongForItself_73 ?_
          refine lv_if_ne (tgt := 86) hx hb dFo_firstWrongForItself_76 (by decide) (fun c3 => ?_) (fun c3 => ?_)
          · skip
            refine lv_iconst (v := (-1 : Int32)) hx hb dFo_firstWrongForItself_86 (by decide) ?_
            exact W.iret (v := (-1 : Int32)) hx hb hr (fun t ht hW => ⟨⟨(-1 : Int32), (), rfl, (by rw [hE, l_Fo_firstWrongForItself_2, if_pos c1, if_neg c2, if_neg c3]; try rfl), ht⟩, hS.F ht⟩) hS.2.2 dFo_firstWrongForItself_87
          · skip
            refine lv_aload_n hx hb dFo_firstWrongForItself_79 rfl (lv_at hl 1 rfl) ?_
            refine va_get (D := G) (ci := 0) (v := .int cnt) (C := RPr) (T := TPr) (N := 2) hx hb hT inPr hown hK hP 0 rfl rfl 1 (by decide) (hT _ mw_53) (fun _ h9 => h9) rfl dFo_firstWrongForItself_80 ?_
            refine lv_goto (tgt := 87) hx hb dFo_firstWrongForItself_83 (by decide) ?_
            exact W.iret (v := cnt) hx hb hr (fun t ht hW => ⟨⟨cnt, (), rfl, (by rw [hE, l_Fo_firstWrongForItself_2, if_pos c1, if_neg c2, if_pos c3]; try rfl), ht⟩, hS.F ht⟩) hS.2.2 dFo_firstWrongForItself_87
      · skip
        refine lv_aload_n hx hb dFo_firstWrongForItself_10 rfl (lv_at hl 1 rfl) ?_
        refine lv_iload_n hx hb dFo_firstWrongForItself_11 rfl (lv_at hl 0 rfl) ?_
        have hPc := hP.sub (ws' := [(h0, .inr (0, [.ref h1, .int cnt])), (h1, .inl (cL, pn, .inr (.inl pf)))]) [0, 1] rfl
        refine va_calll (va_runV (As := [.int p9]) (rest := []) ⟨hx, hb, hml, hown, hT⟩ (c_Pr_at l G cB cL s.heap h0 h1 pn pf cnt p9 hPc hc) (cwV 1 hT (gB_V mw_120 mw_121 mw_122 mw_3 mw_123) rfl rfl rfl (by decide +kernel) ⟨Nat.le_of_ble_eq_true rfl, Nat.le_of_ble_eq_true rfl⟩) ⟨fun a U g mk q => ⟨q.1, q.2.1, va_K.moved (u := U) (U := U.calling g mk a) (Vm.Alike.refl U.vm) q.2.2⟩, va_recv hK hPc (ci := 0) (q0 := 0) rfl rfl, fun U hU hW => ⟨rfl, hU, va_K.moved hW.alike hK⟩⟩ rfl rfl hl.1 rfl (lv_room (Nat.le_of_ble_eq_true rfl)) dFo_firstWrongForItself_12 ⟨Nat.zero_le _, Nat.zero_le _⟩) hS (fun _ _ h => h.elim) (fun _ h => h.elim) (fun r u t H1 locs ht hvm hw hB hz8 hk8 hS => ?_)
        obtain rfl : s.heap = H1 := hB.symm.trans ht
        subst hw
        refine lv_lstore_n (lv' := [(3, .long (f_Pr_at pf cnt p9)), (2, .int p9), (0, .ref h0), (1, .int (bI a1))]) hx hb dFo_firstWrongForItself_15 rfl hl (by decide) rfl (fun ls hl => ?_)
        refine lv_lload_n hx hb dFo_firstWrongForItself_16 rfl (lv_at hl 0 rfl) ?_
        refine va_calli (va_runS (As := [.long (f_Pr_at pf cnt p9)]) (rest := []) ⟨hx, hb, hml, hown, hT⟩ (c_Fo_isInstruction l s.heap (f_Pr_at pf cnt p9)) (cwS 1 hT (gB_S mw_128 mw_129 mw_15 mw_130) rfl rfl rfl (by decide +kernel) ⟨Nat.le_of_ble_eq_true rfl, Nat.le_of_ble_eq_true rfl⟩) ⟨fun _ _ _ _ q => q, fun U hU hW => ⟨rfl, hU⟩⟩ rfl rfl hl.1 rfl (lv_room (Nat.le_of_ble_eq_true rfl)) dFo_firstWrongForItself_17 ⟨Nat.zero_le _, Nat.zero_le _⟩) hS (fun _ _ h => h.elim) (fun _ h => h.elim) (fun r u t H1 locs ht hvm hw hB hz8 hk8 hS => ?_)
        obtain rfl : s.heap = H1 := hB.symm.trans ht
        subst hw
        refine lv_if_ne (tgt := 25) hx hb dFo_firstWrongForItself_20 (by decide) (fun c4 => ?_) (fun c4 => ?_)
        · have c4 := bI_n c4
          refine lv_lload_n hx hb dFo_firstWrongForItself_25 rfl (lv_at hl 0 rfl) ?_
          refine va_calli (va_runS (As := [.long (f_Pr_at pf cnt p9)]) (rest := []) ⟨hx, hb, hml, hown, hT⟩ (c_Fi_isTwoPlaces l s.heap (f_Pr_at pf cnt p9)) (va_cwS 1 hT (gB_SV mw_140 mw_141 mw_16 mw_142) rfl rfl rfl (by decide +kernel) ⟨Nat.le_of_ble_eq_true rfl, Nat.le_of_ble_eq_true rfl⟩) ⟨fun _ _ _ _ q => q, fun U hU hW => ⟨rfl, hU⟩⟩ rfl rfl hl.1 rfl (lv_room (Nat.le_of_ble_eq_true rfl)) dFo_firstWrongForItself_26 ⟨Nat.zero_le _, Nat.zero_le _⟩) hS (fun _ _ h => h.elim) (fun _ h => h.elim) (fun r u t H1 locs ht hvm hw hB hz8 hk8 hS => ?_)
          obtain rfl : s.heap = H1 := hB.symm.trans ht
          subst hw
          refine lv_if_eq (tgt := 62) hx hb dFo_firstWrongForItself_29 (by decide) (fun c5 => ?_) (fun c5 => ?_)
          · have c5 := bI_z c5
            refine lv_iinc (v := (p9 + (1 : Int32))) (lv' := [(2, .int (p9 + (1 : Int32))), (3, .long (f_Pr_at pf cnt p9)), (0, .ref h0), (1, .int (bI a1))]) hx hb dFo_firstWrongForItself_62 hl (k := 1) rfl (by first | rfl | decide) (by decide) rfl (fun ls hl => ?_)
            refine lv_goto (tgt := 2) hx hb dFo_firstWrongForItself_65 (by decide) ?_
            exact ih (p9 + (1 : Int32)) (fw_inv hc hn hp c1 (Or.inl rfl)).1 (Nat.lt_of_lt_of_le (fw_inv hc hn hp c1 (Or.inl rfl)).2 (Nat.le_of_lt_succ hM)) (by rw [hE, l_Fo_firstWrongForItself_2, if_neg c1, if_pos c4, if_neg c5]) _ hS ls (lv_sub hl [0, 2, 3] rfl)
          · have c5 := bI_n c5
            refine lv_aload_n hx hb dFo_firstWrongForItself_32 rfl (lv_at hl 2 rfl) ?_
            refine lv_iload_n hx hb dFo_firstWrongForItself_33 rfl (lv_at hl 1 rfl) ?_
            refine lv_iconst (v := (1 : Int32)) hx hb dFo_firstWrongForItself_34 (by decide) ?_
            refine lv_iadd hx hb dFo_firstWrongForItself_35 ?_
            refine lv_i2l hx hb dFo_firstWrongForItself_36 rfl ?_
            have hPc := hP.sub (ws' := [(h0, .inr (0, [.ref h1, .int cnt])), (h1, .inl (cL, pn, .inr (.inl pf)))]) [0, 1] rfl
            refine va_calli (va_runV (As := [.long ((p9 + (1 : Int32)).toInt64)]) (rest := []) ⟨hx, hb, hml, hown, hT⟩ (c_Pr_has l G cB cL s.heap h0 h1 pn pf cnt ((p9 + (1 : Int32)).toInt64) hPc ) (cwV 1 hT (gB_V mw_210 mw_125 mw_126 mw_3 mw_127) rfl rfl rfl (by decide +kernel) ⟨Nat.le_of_ble_eq_true rfl, Nat.le_of_ble_eq_true rfl⟩) ⟨fun a U g mk q => ⟨q.1, q.2.1, va_K.moved (u := U) (U := U.calling g mk a) (Vm.Alike.refl U.vm) q.2.2⟩, va_recv hK hPc (ci := 0) (q0 := 0) rfl rfl, fun U hU hW => ⟨rfl, hU, va_K.moved hW.alike hK⟩⟩ rfl rfl hl.1 rfl (lv_room (Nat.le_of_ble_eq_true rfl)) dFo_firstWrongForItself_37 ⟨Nat.zero_le _, Nat.zero_le _⟩) hS (fun _ _ h => h.elim) (fun _ h => h.elim) (fun r u t H1 locs ht hvm hw hB hz8 hk8 hS => ?_)
            obtain rfl : s.heap = H1 := hB.symm.trans ht
            subst hw
            refine lv_if_eq (tgt := 57) hx hb dFo_firstWrongForItself_40 (by decide) (fun c6 => ?_) (fun c6 => ?_)
            · have c6 := bI_z c6
              refine lv_iload_n hx hb dFo_firstWrongForItself_57 rfl (lv_at hl 1 rfl) ?_
              exact W.iret (v := p9) hx hb hr (fun t ht hW => ⟨⟨p9, (), rfl, (by rw [hE, l_Fo_firstWrongForItself_2, if_neg c1, if_pos c4, if_pos c5, if_neg c6]; try rfl), ht⟩, hS.F ht⟩) hS.2.2 dFo_firstWrongForItself_58
            · have c6 := bI_n c6
              refine lv_lload_n hx hb dFo_firstWrongForItself_43 rfl (lv_at hl 0 rfl) ?_
              refine lv_aload_n hx hb dFo_firstWrongForItself_44 rfl (lv_at hl 2 rfl) ?_
              refine lv_iload_n hx hb dFo_firstWrongForItself_45 rfl (lv_at hl 1 rfl) ?_
              refine lv_iconst (v := (1 : Int32)) hx hb dFo_firstWrongForItself_46 (by decide) ?_
              refine lv_iadd hx hb dFo_firstWrongForItself_47 ?_
              have hPc := hP.sub (ws' := [(h0, .inr (0, [.ref h1, .int cnt])), (h1, .inl (cL, pn, .inr (.inl pf)))]) [0, 1] rfl
              refine va_calll (va_runV (As := [.int (p9 + (1 : Int32))]) (rest := [.long (f_Pr_at pf cnt p9)]) ⟨hx, hb, hml, hown, hT⟩ (c_Pr_at l G cB cL s.heap h0 h1 pn pf cnt (p9 + (1 : Int32)) hPc hc) (cwV 1 hT (gB_V mw_120 mw_121 mw_122 mw_3 mw_123) rfl rfl rfl (by decide +kernel) ⟨Nat.le_of_ble_eq_true rfl, Nat.le_of_ble_eq_true rfl⟩) ⟨fun a U g mk q => ⟨q.1, q.2.1, va_K.moved (u := U) (U := U.calling g mk a) (Vm.Alike.refl U.vm) q.2.2⟩, va_recv hK hPc (ci := 0) (q0 := 0) rfl rfl, fun U hU hW => ⟨rfl, hU, va_K.moved hW.alike hK⟩⟩ rfl rfl hl.1 rfl (lv_room (Nat.le_of_ble_eq_true rfl)) dFo_firstWrongForItself_48 ⟨Nat.zero_le _, Nat.zero_le _⟩) hS (fun _ _ h => h.elim) (fun _ h => h.elim) (fun r u t H1 locs ht hvm hw hB hz8 hk8 hS => ?_)
              obtain rfl : s.heap = H1 := hB.symm.trans ht
              subst hw
              refine va_calli (va_runS (As := [.long (f_Pr_at pf cnt p9), .long (f_Pr_at pf cnt (p9 + (1 : Int32)))]) (rest := []) ⟨hx, hb, hml, hown, hT⟩ (c_Fo_isSecondOf l s.heap (f_Pr_at pf cnt p9) (f_Pr_at pf cnt (p9 + (1 : Int32)))) (cwS 2 hT (gB_S mw_211 mw_212 mw_15 mw_213) rfl rfl rfl (by decide +kernel) ⟨Nat.le_of_ble_eq_true rfl, Nat.le_of_ble_eq_true rfl⟩) ⟨fun _ _ _ _ q => q, fun U hU hW => ⟨rfl, hU⟩⟩ rfl rfl hl.1 rfl (lv_room (Nat.le_of_ble_eq_true rfl)) dFo_firstWrongForItself_51 ⟨Nat.zero_le _, Nat.zero_le _⟩) hS (fun _ _ h => h.elim) (fun _ h => h.elim) (fun r u t H1 locs ht hvm hw hB hz8 hk8 hS => ?_)
              obtain rfl : s.heap = H1 := hB.symm.trans ht
              subst hw
              refine lv_if_ne (tgt := 59) hx hb dFo_firstWrongForItself_54 (by decide) (fun c7 => ?_) (fun c7 => ?_)
              · have c7 := bI_n c7
                refine lv_iinc (v := (p9 + (1 : Int32))) (lv' := [(2, .int (p9 + (1 : Int32))), (3, .long (f_Pr_at pf cnt p9)), (0, .ref h0), (1, .int (bI a1))]) hx hb dFo_firstWrongForItself_59 hl (k := 1) rfl (by first | rfl | decide) (by decide) rfl (fun ls hl => ?_)
                refine lv_iinc (v := ((p9 + (1 : Int32)) + (1 : Int32))) (lv' := [(2, .int ((p9 + (1 : Int32)) + (1 : Int32))), (3, .long (f_Pr_at pf cnt p9)), (0, .ref h0), (1, .int (bI a1))]) hx hb dFo_firstWrongForItself_62 hl (k := 0) rfl (by first | rfl | decide) (by decide) rfl (fun ls hl => ?_)
                refine lv_goto (tgt := 2) hx hb dFo_firstWrongForItself_65 (by decide) ?_
                exact ih ((p9 + (1 : Int32)) + (1 : Int32)) (fw_inv hc hn hp c1 (Or.inr rfl)).1 (Nat.lt_of_lt_of_le (fw_inv hc hn hp c1 (Or.inr rfl)).2 (Nat.le_of_lt_succ hM)) (by rw [hE, l_Fo_firstWrongForItself_2, if_neg c1, if_pos c4, if_pos c5, if_pos c6, if_pos c7]) _ hS ls (lv_sub hl [0, 2, 3] rfl)
              · have c7 := bI_z c7
                refine lv_iload_n hx hb dFo_firstWrongForItself_57 rfl (lv_at hl 1 rfl) ?_
                exact W.iret (v := p9) hx hb hr (fun t ht hW => ⟨⟨p9, (), rfl, (by rw [hE, l_Fo_firstWrongForItself_2, if_neg c1, if_pos c4, if_pos c5, if_pos c6, if_neg c7]; try rfl), ht⟩, hS.F ht⟩) hS.2.2 dFo_firstWrongForItself_58
        · have c4 := bI_z c4
          refine lv_iload_n hx hb dFo_firstWrongForItself_23 rfl (lv_at hl 1 rfl) ?_
          exact W.iret (v := p9) hx hb hr (fun t ht hW => ⟨⟨p9, (), rfl, (by rw [hE, l_Fo_firstWrongForItself_2, if_neg c1, if_neg c4]; try rfl), ht⟩, hS.F ht⟩) hS.2.2 dFo_firstWrongForItself_24
  exact loop (cnt.toNatClampNeg + 1) (0 : Int32) (by decide) fw_fuel rfl _ hS ls (lv_sub hl [0, 1, 2] rfl)

def l_Fo_firstGoingWrong_2 (pf : Nat → Int64) (cnt : Int32) : Nat → (Int32) → Int32
  | 0, _ => default
  | n + 1, p9 =>
    if cnt ≤ p9 then
      (-1 : Int32)
    else
      if (f_Fo_goesOnRightly pf cnt p9 (f_Pr_at pf cnt p9)) = true then
        if (f_Fi_isTwoPlaces (f_Pr_at pf cnt p9)) = true then
          l_Fo_firstGoingWrong_2 pf cnt n ((p9 + (1 : Int32)) + (1 : Int32))
        else
          l_Fo_firstGoingWrong_2 pf cnt n (p9 + (1 : Int32))
      else
        p9
def f_Fo_firstGoingWrong (pf : Nat → Int64) (cnt : Int32) : Int32 :=
  l_Fo_firstGoingWrong_2 pf cnt (cnt.toNatClampNeg + 1) (0 : Int32)
set_option maxHeartbeats 4000000 in
set_option maxRecDepth 100000 in
theorem c_Fo_firstGoingWrong (l : Launch) (G : va_G) (cB cL : ClassId) (Hp : Heap) (h0 : Nat) (h1 : Nat) (pn : Nat) (pf : Nat → Int64) (cnt : Int32) (hP : va_P G vwCl [(h0, .inr (0, [.ref h1, .int cnt])), (h1, .inl (cL, pn, .inr (.inl pf)))] Hp) (hc : cnt.toInt ≤ pn) (hn : pn < 1073741824) : Met l yFo_firstGoingWrong wsFo_firstGoingWrong ({ frames := 4, cells := 0, slots := 0, locals := 88 }) (va_Pc [.ref h0] (fun U => U.heap = Hp ∧ va_K G vwCl [(cB, .byte), (cL, .long)] U)) (va_Qi (fun (r : Int32) (_ : Unit) => r = (f_Fo_firstGoingWrong pf cnt)) (fun _ t => t.heap = Hp) (fun _ => False)) 0 0 (fun _ => False) := by
  refine Met.ofW (cc := cFo_firstGoingWrong) (maxL := 4) (ret := (some .int)) (by decide) rfl ?_
  intro p e s m args below meth c s₁ B hml hv
  obtain ⟨rfl, rfl, hK⟩ := hv
  have hx := B.exec
  have hb := B.bytes
  have hr := B.returns
  have hT : ∀ w ∈ tB, w.before _ s = true := fun w h => atoms_spec (ws := wsFo_firstGoingWrong) B.pre w (List.mem_cons_of_mem _ h)
  have hown : s.vm.findClass "CompiledProgram$Form" = some m.cls := findClass_of_methodNamed B.named
  have hlocks := B.notSynchronized
  have hA : ∀ q : Nat, (fun _ : Nat => False) q → False := fun _ h => h
  have hS : va_S (fun _ => False) s.heap s.heap [] := va_S.rf
  have hl := lv_entry ([.ref h0]) (n := 4) (Nat.le_of_ble_eq_true rfl)
  rw [lg_entry_eq]
  generalize (lg_sl ([.ref h0]) ++ List.replicate (4 - (lg_sl ([.ref h0])).length) Slot.unset).toArray = ls at hl ⊢
  have hl : lv_has ls 4 [(0, .ref h0)] := hl
  refine lv_iconst (v := (0 : Int32)) hx hb dFo_firstGoingWrong_0 (by decide) ?_
  refine lv_istore_n (lv' := [(1, .int (0 : Int32)), (0, .ref h0)]) hx hb dFo_firstGoingWrong_1 rfl hl (by decide) rfl (fun ls hl => ?_)
  have loop : ∀ (n : Nat) (p9 : Int32), (0 ≤ p9.toInt) → (cnt.toInt - p9.toInt).toNat < n → (f_Fo_firstGoingWrong pf cnt) = l_Fo_firstGoingWrong_2 pf cnt n p9 → ∀ (locs : List Loc), va_S (fun _ => False) s.heap s.heap locs → ∀ (ls : Array Slot), lv_has ls 4 [(1, .int p9), (0, .ref h0)] → W p l e (headSpec wsFo_firstGoingWrong ({ frames := 4, cells := 0, slots := 0, locals := 88 })).room s m ([.ref h0] : List Value).toArray below meth c s.heap locs 0 0 (MQ below (va_Qi (fun (r : Int32) (_ : Unit) => r = (f_Fo_firstGoingWrong pf cnt)) (fun _ t => t.heap = s.heap) (fun _ => False)) ([.ref h0] : List Value).toArray s 0 0 (fun _ => False)) (F0 m 2 ls []) := by
    intro n
    induction n with
    | zero =>
      intro p9 hp hM
      exact absurd hM (Nat.not_lt_zero _)
    | succ n ih =>
      intro p9 hp hM hE locs hS ls hl
      refine lv_iload_n hx hb dFo_firstGoingWrong_2 rfl (lv_at hl 0 rfl) ?_
      refine lv_aload_n hx hb dFo_firstGoingWrong_3 rfl (lv_at hl 1 rfl) ?_
      refine va_get (D := G) (ci := 0) (v := .int cnt) (C := RPr) (T := TPr) (N := 2) hx hb hT inPr hown hK hP 0 rfl rfl 1 (by decide) (hT _ mw_53) (fun _ h9 => h9) rfl dFo_firstGoingWrong_4 ?_
      refine lv_icmp_ge (tgt := 43) hx hb dFo_firstGoingWrong_7 (by decide) (fun c1 => ?_) (fun c1 => ?_)
      · skip
        refine lv_iconst (v := (-1 : Int32)) hx hb dFo_firstGoingWrong_43 (by decide) ?_
        exact W.iret (v := (-1 : Int32)) hx hb hr (fun t ht hW => ⟨⟨(-1 : Int32), (), rfl, (by rw [hE, l_Fo_firstGoingWrong_2, if_pos c1]; try rfl), ht⟩, hS.F ht⟩) hS.2.2 dFo_firstGoingWrong_44
      · skip
        refine lv_aload_n hx hb dFo_firstGoingWrong_10 rfl (lv_at hl 1 rfl) ?_
        refine lv_iload_n hx hb dFo_firstGoingWrong_11 rfl (lv_at hl 0 rfl) ?_
        have hPc := hP.sub (ws' := [(h0, .inr (0, [.ref h1, .int cnt])), (h1, .inl (cL, pn, .inr (.inl pf)))]) [0, 1] rfl
        refine va_calll (va_runV (As := [.int p9]) (rest := []) ⟨hx, hb, hml, hown, hT⟩ (c_Pr_at l G cB cL s.heap h0 h1 pn pf cnt p9 hPc hc) (cwV 1 hT (gB_V mw_120 mw_121 mw_122 mw_3 mw_123) rfl rfl rfl (by decide +kernel) ⟨Nat.le_of_ble_eq_true rfl, Nat.le_of_ble_eq_true rfl⟩) ⟨fun a U g mk q => ⟨q.1, q.2.1, va_K.moved (u := U) (U := U.calling g mk a) (Vm.Alike.refl U.vm) q.2.2⟩, va_recv hK hPc (ci := 0) (q0 := 0) rfl rfl, fun U hU hW => ⟨rfl, hU, va_K.moved hW.alike hK⟩⟩ rfl rfl hl.1 rfl (lv_room (Nat.le_of_ble_eq_true rfl)) dFo_firstGoingWrong_12 ⟨Nat.zero_le _, Nat.zero_le _⟩) hS (fun _ _ h => h.elim) (fun _ h => h.elim) (fun r u t H1 locs ht hvm hw hB hz8 hk8 hS => ?_)
        obtain rfl : s.heap = H1 := hB.symm.trans ht
        subst hw
        refine lv_lstore_n (lv' := [(2, .long (f_Pr_at pf cnt p9)), (1, .int p9), (0, .ref h0)]) hx hb dFo_firstGoingWrong_15 rfl hl (by decide) rfl (fun ls hl => ?_)
        refine lv_aload_n hx hb dFo_firstGoingWrong_16 rfl (lv_at hl 2 rfl) ?_
        refine lv_iload_n hx hb dFo_firstGoingWrong_17 rfl (lv_at hl 1 rfl) ?_
        refine lv_lload_n hx hb dFo_firstGoingWrong_18 rfl (lv_at hl 0 rfl) ?_
        have hPc := hP.sub (ws' := [(h0, .inr (0, [.ref h1, .int cnt])), (h1, .inl (cL, pn, .inr (.inl pf)))]) [0, 1] rfl
        refine va_calli (va_runS (As := [.ref h0, .int p9, .long (f_Pr_at pf cnt p9)]) (rest := []) ⟨hx, hb, hml, hown, hT⟩ (c_Fo_goesOnRightly l G cB cL s.heap h0 h1 pn pf cnt p9 (f_Pr_at pf cnt p9) hPc hc) (cwS 3 hT (gB_S mw_217 mw_218 mw_15 mw_219) rfl rfl rfl (by decide +kernel) ⟨Nat.le_of_ble_eq_true rfl, Nat.le_of_ble_eq_true rfl⟩) ⟨fun a U g mk q => ⟨q.1, q.2.1, va_K.moved (u := U) (U := U.calling g mk a) (Vm.Alike.refl U.vm) q.2.2⟩, fun U hU hW => ⟨rfl, hU, va_K.moved hW.alike hK⟩⟩ rfl rfl hl.1 rfl (lv_room (Nat.le_of_ble_eq_true rfl)) dFo_firstGoingWrong_19 ⟨Nat.zero_le _, Nat.zero_le _⟩) hS (fun _ _ h => h.elim) (fun _ h => h.elim) (fun r u t H1 locs ht hvm hw hB hz8 hk8 hS => ?_)
        obtain rfl : s.heap = H1 := hB.symm.trans ht
        subst hw
        refine lv_if_ne (tgt := 27) hx hb dFo_firstGoingWrong_22 (by decide) (fun c2 => ?_) (fun c2 => ?_)
        · have c2 := bI_n c2
          refine lv_lload_n hx hb dFo_firstGoingWrong_27 rfl (lv_at hl 0 rfl) ?_
          refine va_calli (va_runS (As := [.long (f_Pr_at pf cnt p9)]) (rest := []) ⟨hx, hb, hml, hown, hT⟩ (c_Fi_isTwoPlaces l s.heap (f_Pr_at pf cnt p9)) (va_cwS 1 hT (gB_SV mw_140 mw_141 mw_16 mw_142) rfl rfl rfl (by decide +kernel) ⟨Nat.le_of_ble_eq_true rfl, Nat.le_of_ble_eq_true rfl⟩) ⟨fun _ _ _ _ q => q, fun U hU hW => ⟨rfl, hU⟩⟩ rfl rfl hl.1 rfl (lv_room (Nat.le_of_ble_eq_true rfl)) dFo_firstGoingWrong_28 ⟨Nat.zero_le _, Nat.zero_le _⟩) hS (fun _ _ h => h.elim) (fun _ h => h.elim) (fun r u t H1 locs ht hvm hw hB hz8 hk8 hS => ?_)
          obtain rfl : s.heap = H1 := hB.symm.trans ht
          subst hw
          refine lv_if_eq (tgt := 37) hx hb dFo_firstGoingWrong_31 (by decide) (fun c3 => ?_) (fun c3 => ?_)
          · have c3 := bI_z c3
            refine lv_iinc (v := (p9 + (1 : Int32))) (lv' := [(1, .int (p9 + (1 : Int32))), (2, .long (f_Pr_at pf cnt p9)), (0, .ref h0)]) hx hb dFo_firstGoingWrong_37 hl (k := 1) rfl (by first | rfl | decide) (by decide) rfl (fun ls hl => ?_)
            refine lv_goto (tgt := 2) hx hb dFo_firstGoingWrong_40 (by decide) ?_
            exact ih (p9 + (1 : Int32)) (fw_inv hc hn hp c1 (Or.inl rfl)).1 (Nat.lt_of_lt_of_le (fw_inv hc hn hp c1 (Or.inl rfl)).2 (Nat.le_of_lt_succ hM)) (by rw [hE, l_Fo_firstGoingWrong_2, if_neg c1, if_pos c2, if_neg c3]) _ hS ls (lv_sub hl [0, 2] rfl)
          · have c3 := bI_n c3
            refine lv_iinc (v := (p9 + (1 : Int32))) (lv' := [(1, .int (p9 + (1 : Int32))), (2, .long (f_Pr_at pf cnt p9)), (0, .ref h0)]) hx hb dFo_firstGoingWrong_34 hl (k := 1) rfl (by first | rfl | decide) (by decide) rfl (fun ls hl => ?_)
            refine lv_iinc (v := ((p9 + (1 : Int32)) + (1 : Int32))) (lv' := [(1, .int ((p9 + (1 : Int32)) + (1 : Int32))), (2, .long (f_Pr_at pf cnt p9)), (0, .ref h0)]) hx hb dFo_firstGoingWrong_37 hl (k := 0) rfl (by first | rfl | decide) (by decide) rfl (fun ls hl => ?_)
            refine lv_goto (tgt := 2) hx hb dFo_firstGoingWrong_40 (by decide) ?_
            exact ih ((p9 + (1 : Int32)) + (1 : Int32)) (fw_inv hc hn hp c1 (Or.inr rfl)).1 (Nat.lt_of_lt_of_le (fw_inv hc hn hp c1 (Or.inr rfl)).2 (Nat.le_of_lt_succ hM)) (by rw [hE, l_Fo_firstGoingWrong_2, if_neg c1, if_pos c2, if_pos c3]) _ hS ls (lv_sub hl [0, 2] rfl)
        · have c2 := bI_z c2
          refine lv_iload_n hx hb dFo_firstGoingWrong_25 rfl (lv_at hl 1 rfl) ?_
          exact W.iret (v := p9) hx hb hr (fun t ht hW => ⟨⟨p9, (), rfl, (by rw [hE, l_Fo_firstGoingWrong_2, if_neg c1, if_neg c2]; try rfl), ht⟩, hS.F ht⟩) hS.2.2 dFo_firstGoingWrong_26
  exact loop (cnt.toNatClampNeg + 1) (0 : Int32) (by decide) fw_fuel rfl _ hS ls (lv_sub hl [0, 1] rfl)
end
section
def f_Me_holds  (a0 : Int64) (a1 : Int32) : Bool :=
  if (a0 - (2147483648 : Int64)) < (0 : Int64) then
    false
  else
    if (((4096 : Int32) - a1).toInt64) < (a0 - (2147483648 : Int64)) then
      false
    else
      true
set_option maxHeartbeats 4000000 in
set_option maxRecDepth 100000 in
theorem c_Me_holds (l : Launch) (G : va_G) (cB cL : ClassId) (Hp : Heap) (h2 : Nat) (h3 : Nat) (mf : Nat → Int32) (a0 : Int64) (a1 : Int32) (hP : va_P G vwCl [(h2, .inr (1, [.ref h3])), (h3, .inl (cB, 4096, .inl mf))] Hp) : Met l yMe_holds wsMe_holds ({ frames := 0, cells := 0, slots := 0, locals := 0 }) (va_Pc [.ref h2, .long a0, .int a1] (fun U => U.heap = Hp ∧ va_K G vwCl [(cB, .byte), (cL, .long)] U)) (va_Qi (fun (r : Int32) (_ : Unit) => r = bI (f_Me_holds a0 a1)) (fun _ t => t.heap = Hp) (fun _ => False)) 0 0 (fun _ => False) := by
  refine Met.ofW (cc := cMe_holds) (maxL := 6) (ret := (some .boolean)) (by decide) rfl ?_
  intro p e s m args below meth c s₁ B hml hv
  obtain ⟨rfl, rfl, hK⟩ := hv
  have hx := B.exec
  have hb := B.bytes
  have hr := B.returns
  have hT : ∀ w ∈ tB, w.before _ s = true := fun w h => atoms_spec (ws := wsMe_holds) B.pre w (List.mem_cons_of_mem _ h)
  have hown : s.vm.findClass "CompiledProgram$Memory" = some m.cls := findClass_of_methodNamed B.named
  have hlocks := B.notSynchronized
  have hA : ∀ q : Nat, (fun _ : Nat => False) q → False := fun _ h => h
  have hS : va_S (fun _ => False) s.heap s.heap [] := va_S.rf
  have hl := lv_entry ([.ref h2, .long a0, .int a1]) (n := 6) (Nat.le_of_ble_eq_true rfl)
  rw [lg_entry_eq]
  generalize (lg_sl ([.ref h2, .long a0, .int a1]) ++ List.replicate (6 - (lg_sl ([.ref h2, .long a0, .int a1])).length) Slot.unset).toArray = ls at hl ⊢
  have hl : lv_has ls 6 [(0, .ref h2), (1, .long a0), (3, .int a1)] := hl
  refine lv_lload_n hx hb dMe_holds_0 rfl (lv_at hl 1 rfl) ?_
  refine lv_ldc2 (v := (2147483648 : Int64)) hx hb hown (hT _ mw_417) dMe_holds_1 ?_
  refine lv_lsub hx hb dMe_holds_4 ?_
  refine lv_lstore (lv' := [(4, .long (a0 - (2147483648 : Int64))), (0, .ref h2), (1, .long a0), (3, .int a1)]) hx hb dMe_holds_5 hl (by decide) rfl (fun ls hl => ?_)
  refine lv_lload hx hb dMe_holds_7 (lv_at hl 0 rfl) ?_
  refine lv_lconst (v := (0 : Int64)) hx hb dMe_holds_9 (by decide) ?_
  refine W.lcmp hx hb dMe_holds_10 ?_
  refine lv_if_lt (tgt := 30) hx hb dMe_holds_11 (by decide) (fun c1 => ?_) (fun c1 => ?_)
  · have c1 := (lg_cmp_lt _ _).mp c1
    refine lv_iconst (v := (0 : Int32)) hx hb dMe_holds_30 (by decide) ?_
    exact W.zret (v := (0 : Int32)) hx hb hr rfl (fun t ht hW => ⟨⟨(0 : Int32), (), rfl, (by unfold f_Me_holds; rw [if_pos c1]; try rfl), ht⟩, hS.F ht⟩) hS.2.2 dMe_holds_31
  · have c1 := mt (lg_cmp_lt _ _).mpr c1
    refine lv_lload hx hb dMe_holds_14 (lv_at hl 0 rfl) ?_
    refine lv_sipush (v := (4096 : Int32)) hx hb dMe_holds_16 (by decide) ?_
    refine lv_iload_n hx hb dMe_holds_19 rfl (lv_at hl 3 rfl) ?_
    refine lv_isub hx hb dMe_holds_20 ?_
    refine lv_i2l hx hb dMe_holds_21 rfl ?_
    refine W.lcmp hx hb dMe_holds_22 ?_
    refine lv_if_gt (tgt := 30) hx hb dMe_holds_23 (by decide) (fun c2 => ?_) (fun c2 => ?_)
    · have c2 := (lg_cmp_gt _ _).mp c2
      refine lv_iconst (v := (0 : Int32)) hx hb dMe_holds_30 (by decide) ?_
      exact W.zret (v := (0 : Int32)) hx hb hr rfl (fun t ht hW => ⟨⟨(0 : Int32), (), rfl, (by unfold f_Me_holds; rw [if_neg c1, if_pos c2]; try rfl), ht⟩, hS.F ht⟩) hS.2.2 dMe_holds_31
    · have c2 := mt (lg_cmp_gt _ _).mpr c2
      refine lv_iconst (v := (1 : Int32)) hx hb dMe_holds_26 (by decide) ?_
      refine lv_goto (tgt := 31) hx hb dMe_holds_27 (by decide) ?_
      exact W.zret (v := (1 : Int32)) hx hb hr rfl (fun t ht hW => ⟨⟨(1 : Int32), (), rfl, (by unfold f_Me_holds; rw [if_neg c1, if_neg c2]; try rfl), ht⟩, hS.F ht⟩) hS.2.2 dMe_holds_31

theorem holds_spec {a0 : Int64} {a1 : Int32} (h : (f_Me_holds a0 a1) = true) : 0 ≤ (a0 - (2147483648 : Int64)).toInt ∧ (a0 - (2147483648 : Int64)).toInt ≤ ((4096 : Int32) - a1).toInt := by
  unfold f_Me_holds at h
  by_cases c1 : (a0 - (2147483648 : Int64)) < (0 : Int64)
  · rw [if_pos c1] at h; cases h
  · rw [if_neg c1] at h
    by_cases c2 : (((4096 : Int32) - a1).toInt64) < (a0 - (2147483648 : Int64))
    · rw [if_pos c2] at h; cases h
    · have c1 := l_nlt c1
      have c2 := l_nlt c2
      rw [l_0] at c1
      rw [Int32.toInt_toInt64] at c2
      exact ⟨c1, c2⟩
theorem me_at {a0 : Int64} {a1 k : Int32} (h : (f_Me_holds a0 a1) = true) (h0 : 0 ≤ k.toInt) (h1 : k.toInt < a1.toInt) : (((a0 - (2147483648 : Int64)).toInt32) + k).toInt = (a0 - (2147483648 : Int64)).toInt + k.toInt ∧ (a0 - (2147483648 : Int64)).toInt + k.toInt < 4096 ∧ 0 ≤ (a0 - (2147483648 : Int64)).toInt := by
  obtain ⟨g1, g2⟩ := holds_spec h
  have e : (4096 : Int32).toInt = 4096 := by decide
  have l1 := i_lim a1
  rw [i_sub (by rw [e]; omega) (by rw [e]; omega), e] at g2
  have e2 : ((a0 - (2147483648 : Int64)).toInt32).toInt = (a0 - (2147483648 : Int64)).toInt := by
    rw [Int64.toInt_toInt32]; exact bm32 (by omega) (by omega)
  rw [i_add (by rw [e2]; omega) (by rw [e2]; omega), e2]
  omega
theorem me_in {a0 : Int64} {a1 k : Int32} (h : (f_Me_holds a0 a1) = true) (h1 : k.toInt < a1.toInt) (c : ¬ k < 0) : vp_in (((a0 - (2147483648 : Int64)).toInt32) + k) 4096 := by
  have := me_at h (i_nlt0 c) h1
  have := i_nlt0 c
  rw [vp_in_iff]; omega
theorem me_in2 {a0 : Int64} {a1 k : Int32} (h : (f_Me_holds a0 a1) = true) (h0 : 0 ≤ k.toInt) (c : ¬ a1 ≤ k) : vp_in (((a0 - (2147483648 : Int64)).toInt32) + k) 4096 := by
  have := me_at h h0 (i_nle c)
  rw [vp_in_iff]; omega
theorem rd_d {a1 : Int32} (hz : 1 ≤ a1.toInt ∧ a1.toInt ≤ 8) : (a1 - (1 : Int32)).toInt = a1.toInt - 1 := by
  rw [i_sub (by rw [i_1]; omega) (by rw [i_1]; omega), i_1]
theorem rd_i1 {a1 : Int32} (hz : 1 ≤ a1.toInt ∧ a1.toInt ≤ 8) : -1 ≤ (a1 - (1 : Int32)).toInt := by rw [rd_d hz]; omega
theorem rd_i2 {a1 : Int32} (hz : 1 ≤ a1.toInt ∧ a1.toInt ≤ 8) : (a1 - (1 : Int32)).toInt < a1.toInt := by rw [rd_d hz]; omega
theorem rd_fuel {a1 : Int32} (hz : 1 ≤ a1.toInt ∧ a1.toInt ≤ 8) : ((a1 - (1 : Int32)).toInt + 1).toNat < a1.toNatClampNeg + 1 := by
  rw [rd_d hz, ← Int32.toNat_toInt]; omega
theorem rd_b1 {k : Int32} (c : ¬ k < 0) : -1 ≤ (k + (-1 : Int32)).toInt := by
  rw [i_dec c]; have := i_nlt0 c; omega
theorem rd_b2 {a1 k : Int32} (c : ¬ k < 0) (h : k.toInt < a1.toInt) : (k + (-1 : Int32)).toInt < a1.toInt := by
  rw [i_dec c]; omega
theorem rd_b3 {k : Int32} {n : Nat} (c : ¬ k < 0) (h : (k.toInt + 1).toNat < n + 1) : ((k + (-1 : Int32)).toInt + 1).toNat < n := by
  rw [i_dec c]; have := i_nlt0 c; omega
theorem wr_fuel {a1 : Int32} : (a1.toInt - (0 : Int32).toInt).toNat < a1.toNatClampNeg + 1 := fw_fuel
theorem wr_d {a1 k : Int32} (hz : 1 ≤ a1.toInt ∧ a1.toInt ≤ 8) (h : 0 ≤ k.toInt) (c : ¬ a1 ≤ k) : (k + (1 : Int32)).toInt = k.toInt + 1 := by
  have := i_nle c
  rw [i_add (by rw [i_1]; omega) (by rw [i_1]; omega), i_1]
theorem wr_b1 {a1 k : Int32} (hz : 1 ≤ a1.toInt ∧ a1.toInt ≤ 8) (h : 0 ≤ k.toInt) (c : ¬ a1 ≤ k) : 0 ≤ (k + (1 : Int32)).toInt := by
  rw [wr_d hz h c]; omega
theorem wr_b2 {a1 k : Int32} {n : Nat} (hz : 1 ≤ a1.toInt ∧ a1.toInt ≤ 8) (h : 0 ≤ k.toInt) (c : ¬ a1 ≤ k) (hM : (a1.toInt - k.toInt).toNat < n + 1) : (a1.toInt - (k + (1 : Int32)).toInt).toNat < n := by
  have := i_nle c
  rw [wr_d hz h c]; omega
def l_Me_read_27 (mf : Nat → Int32) (a0 : Int64) (a1 : Int32) : Nat → (Int32) → (Int64) → Int64
  | 0, _, _ => default
  | n + 1, k, v =>
    if k < 0 then
      v
    else
      l_Me_read_27 mf a0 a1 n (k + (-1 : Int32)) ((j_lshl v (8 : Int32)) ||| (((mf (((a0 - (2147483648 : Int64)).toInt32) + k).toNatClampNeg) &&& (255 : Int32)).toInt64))
def f_Me_read (mf : Nat → Int32) (a0 : Int64) (a1 : Int32) : Int64 :=
  if (f_Me_holds a0 a1) = true then
    l_Me_read_27 mf a0 a1 (a1.toNatClampNeg + 1) (a1 - (1 : Int32)) (0 : Int64)
  else
    (0 : Int64)
set_option maxHeartbeats 4000000 in
set_option maxRecDepth 100000 in
theorem c_Me_read (l : Launch) (G : va_G) (cB cL : ClassId) (Hp : Heap) (h2 : Nat) (h3 : Nat) (mf : Nat → Int32) (a0 : Int64) (a1 : Int32) (hP : va_P G vwCl [(h2, .inr (1, [.ref h3])), (h3, .inl (cB, 4096, .inl mf))] Hp) (hz : 1 ≤ a1.toInt ∧ a1.toInt ≤ 8) : Met l yMe_read wsMe_read ({ frames := 1, cells := 0, slots := 0, locals := 25 }) (va_Pc [.ref h2, .long a0, .int a1] (fun U => U.heap = Hp ∧ va_K G vwCl [(cB, .byte), (cL, .long)] U)) (va_Ql (fun (r : Int64) (_ : Unit) => r = (f_Me_read mf a0 a1)) (fun _ t => t.heap = Hp) (fun _ => False)) 0 0 (fun _ => False) := by
  refine Met.ofW (cc := cMe_read) (maxL := 8) (ret := (some .long)) (by decide) rfl ?_
  intro p e s m args below meth c s₁ B hml hv
  obtain ⟨rfl, rfl, hK⟩ := hv
  have hx := B.exec
  have hb := B.bytes
  have hr := B.returns
  have hT : ∀ w ∈ tB, w.before _ s = true := fun w h => atoms_spec (ws := wsMe_read) B.pre w (List.mem_cons_of_mem _ h)
  have hown : s.vm.findClass "CompiledProgram$Memory" = some m.cls := findClass_of_methodNamed B.named
  have hlocks := B.notSynchronized
  have hA : ∀ q : Nat, (fun _ : Nat => False) q → False := fun _ h => h
  have hS : va_S (fun _ => False) s.heap s.heap [] := va_S.rf
  have hl := lv_entry ([.ref h2, .long a0, .int a1]) (n := 8) (Nat.le_of_ble_eq_true rfl)
  rw [lg_entry_eq]
  generalize (lg_sl ([.ref h2, .long a0, .int a1]) ++ List.replicate (8 - (lg_sl ([.ref h2, .long a0, .int a1])).length) Slot.unset).toArray = ls at hl ⊢
  have hl : lv_has ls 8 [(0, .ref h2), (1, .long a0), (3, .int a1)] := hl
  refine lv_aload_n hx hb dMe_read_0 rfl (lv_at hl 0 rfl) ?_
  refine lv_lload_n hx hb dMe_read_1 rfl (lv_at hl 1 rfl) ?_
  refine lv_iload_n hx hb dMe_read_2 rfl (lv_at hl 2 rfl) ?_
  have hPc := hP.sub (ws' := [(h2, .inr (1, [.ref h3])), (h3, .inl (cB, 4096, .inl mf))]) [0, 1] rfl
  refine va_calli (va_runV (As := [.long a0, .int a1]) (rest := []) ⟨hx, hb, hml, hown, hT⟩ (c_Me_holds l G cB cL s.heap h2 h3 mf a0 a1 hPc ) (cwV 2 hT (gB_V mw_423 mw_414 mw_415 mw_5 mw_416) rfl rfl rfl (by decide +kernel) ⟨Nat.le_of_ble_eq_true rfl, Nat.le_of_ble_eq_true rfl⟩) ⟨fun a U g mk q => ⟨q.1, q.2.1, va_K.moved (u := U) (U := U.calling g mk a) (Vm.Alike.refl U.vm) q.2.2⟩, va_recv hK hPc (ci := 1) (q0 := 0) rfl rfl, fun U hU hW => ⟨rfl, hU, va_K.moved hW.alike hK⟩⟩ rfl rfl hl.1 rfl (lv_room (Nat.le_of_ble_eq_true rfl)) dMe_read_3 ⟨Nat.zero_le _, Nat.zero_le _⟩) hS (fun _ _ h => h.elim) (fun _ h => h.elim) (fun r u t H1 locs ht hvm hw hB hz8 hk8 hS => ?_)
  obtain rfl : s.heap = H1 := hB.symm.trans ht
  subst hw
  refine lv_if_ne (tgt := 11) hx hb dMe_read_6 (by decide) (fun c1 => ?_) (fun c1 => ?_)
  · have c1 := bI_n c1
    refine lv_lload_n hx hb dMe_read_11 rfl (lv_at hl 1 rfl) ?_
    refine lv_ldc2 (v := (2147483648 : Int64)) hx hb hown (hT _ mw_417) dMe_read_12 ?_
    refine lv_lsub hx hb dMe_read_15 ?_
    refine lv_l2i hx hb dMe_read_16 rfl ?_
    refine lv_istore (lv' := [(4, .int ((a0 - (2147483648 : Int64)).toInt32)), (0, .ref h2), (1, .long a0), (3, .int a1)]) hx hb dMe_read_17 hl (by decide) rfl (fun ls hl => ?_)
    refine lv_lconst (v := (0 : Int64)) hx hb dMe_read_19 (by decide) ?_
    refine lv_lstore (lv' := [(5, .long (0 : Int64)), (4, .int ((a0 - (2147483648 : Int64)).toInt32)), (0, .ref h2), (1, .long a0), (3, .int a1)]) hx hb dMe_read_20 hl (by decide) rfl (fun ls hl => ?_)
    refine lv_iload_n hx hb dMe_read_22 rfl (lv_at hl 4 rfl) ?_
    refine lv_iconst (v := (1 : Int32)) hx hb dMe_read_23 (by decide) ?_
    refine lv_isub hx hb dMe_read_24 ?_
    refine lv_istore (lv' := [(7, .int (a1 - (1 : Int32))), (5, .long (0 : Int64)), (4, .int ((a0 - (2147483648 : Int64)).toInt32)), (0, .ref h2), (1, .long a0), (3, .int a1)]) hx hb dMe_read_25 hl (by decide) rfl (fun ls hl => ?_)
    have loop : ∀ (n : Nat) (k : Int32) (v : Int64), ((f_Me_holds a0 a1) = true) → (-1 ≤ k.toInt) → (k.toInt < a1.toInt) → (k.toInt + 1).toNat < n → (f_Me_read mf a0 a1) = l_Me_read_27 mf a0 a1 n k v → ∀ (locs : List Loc), va_S (fun _ => False) s.heap s.heap locs → ∀ (ls : Array Slot), lv_has ls 8 [(7, .int k), (5, .long v), (4, .int ((a0 - (2147483648 : Int64)).toInt32)), (0, .ref h2), (1, .long a0), (3, .int a1)] → W p l e (headSpec wsMe_read ({ frames := 1, cells := 0, slots := 0, locals := 25 })).room s m ([.ref h2, .long a0, .int a1] : List Value).toArray below meth c s.heap locs 0 0 (MQ below (va_Ql (fun (r : Int64) (_ : Unit) => r = (f_Me_read mf a0 a1)) (fun _ t => t.heap = s.heap) (fun _ => False)) ([.ref h2, .long a0, .int a1] : List Value).toArray s 0 0 (fun _ => False)) (F0 m 27 ls []) := by
      intro n
      induction n with
      | zero =>
        intro k v hH hk1 hk2 hM
        exact absurd hM (Nat.not_lt_zero _)
      | succ n ih =>
        intro k v hH hk1 hk2 hM hE locs hS ls hl
        refine lv_iload hx hb dMe_read_27 (lv_at hl 0 rfl) ?_
        refine lv_if_lt (tgt := 61) hx hb dMe_read_29 (by decide) (fun c2 => ?_) (fun c2 => ?_)
        · skip
          refine lv_lload hx hb dMe_read_61 (lv_at hl 1 rfl) ?_
          exact W.lret (v := v) hx hb hr (fun t ht hW => ⟨⟨v, (), rfl, (by rw [hE, l_Me_read_27, if_pos c2]; try rfl), ht⟩, hS.F ht⟩) hS.2.2 dMe_read_63
        · skip
          refine lv_lload hx hb dMe_read_32 (lv_at hl 1 rfl) ?_
          refine lv_bipush (v := (8 : Int32)) hx hb dMe_read_34 (by decide) ?_
          refine lv_lshl (v := (j_lshl v (8 : Int32))) hx hb dMe_read_36 rfl ?_
          refine lv_aload_n hx hb dMe_read_37 rfl (lv_at hl 3 rfl) ?_
          refine va_get (D := G) (ci := 1) (v := .ref h3) (C := RMe) (T := TMe) (N := 1) hx hb hT inMe hown hK hP 0 rfl rfl 0 (by decide) (hT _ mw_73) (fun _ h9 => h9) rfl dMe_read_38 ?_
          refine lv_iload hx hb dMe_read_41 (lv_at hl 2 rfl) ?_
          refine lv_iload hx hb dMe_read_43 (lv_at hl 0 rfl) ?_
          refine lv_iadd hx hb dMe_read_45 ?_
          refine va_bald hx hb hK hP 1 0 rfl rfl (me_in hH hk2 c2) dMe_read_46 ?_
          refine lv_sipush (v := (255 : Int32)) hx hb dMe_read_47 (by decide) ?_
          refine lv_iand hx hb dMe_read_50 ?_
          refine lv_i2l hx hb dMe_read_51 rfl ?_
          refine lv_lor hx hb dMe_read_52 ?_
          refine lv_lstore (lv' := [(5, .long ((j_lshl v (8 : Int32)) ||| (((mf (((a0 - (2147483648 : Int64)).toInt32) + k).toNatClampNeg) &&& (255 : Int32)).toInt64))), (7, .int k), (4, .int ((a0 - (2147483648 : Int64)).toInt32)), (0, .ref h2), (1, .long a0), (3, .int a1)]) hx hb dMe_read_53 hl (by decide) rfl (fun ls hl => ?_)
          refine lv_iinc (v := (k + (-1 : Int32))) (lv' := [(7, .int (k + (-1 : Int32))), (5, .long ((j_lshl v (8 : Int32)) ||| (((mf (((a0 - (2147483648 : Int64)).toInt32) + k).toNatClampNeg) &&& (255 : Int32)).toInt64))), (4, .int ((a0 - (2147483648 : Int64)).toInt32)), (0, .ref h2), (1, .long a0), (3, .int a1)]) hx hb dMe_read_55 hl (k := 1) rfl (by first | rfl | decide) (by decide) rfl (fun ls hl => ?_)
          refine lv_goto (tgt := 27) hx hb dMe_read_58 (by decide) ?_
          exact ih (k + (-1 : Int32)) ((j_lshl v (8 : Int32)) ||| (((mf (((a0 - (2147483648 : Int64)).toInt32) + k).toNatClampNeg) &&& (255 : Int32)).toInt64)) hH (rd_b1 c2) (rd_b2 c2 hk2) (rd_b3 c2 hM) (by rw [hE, l_Me_read_27, if_neg c2]) _ hS ls (lv_sub hl [0, 1, 2, 3, 4, 5] rfl)
    exact loop (a1.toNatClampNeg + 1) (a1 - (1 : Int32)) (0 : Int64) c1 (rd_i1 hz) (rd_i2 hz) (rd_fuel hz) (by unfold f_Me_read; rw [if_pos c1]) _ hS ls (lv_sub hl [0, 1, 2, 3, 4, 5] rfl)
  · have c1 := bI_z c1
    refine lv_lconst (v := (0 : Int64)) hx hb dMe_read_9 (by decide) ?_
    exact W.lret (v := (0 : Int64)) hx hb hr (fun t ht hW => ⟨⟨(0 : Int64), (), rfl, (by unfold f_Me_read; rw [if_neg c1]; try rfl), ht⟩, hS.F ht⟩) hS.2.2 dMe_read_10

def l_Me_write_21 (mf : Nat → Int32) (a0 : Int64) (a1 : Int32) (a2 : Int64) : Nat → (Int32) → (Nat → Int32) → (Nat → Int32)
  | 0, _, _ => default
  | n + 1, k, g =>
    if a1 ≤ k then
      (g)
    else
      l_Me_write_21 mf a0 a1 a2 n (k + (1 : Int32)) (upd g (((a0 - (2147483648 : Int64)).toInt32) + k).toNatClampNeg (vp_nar .byte (j_i2b ((j_lshr a2 ((8 : Int32) * k)).toInt32))))
def f_Me_write (mf : Nat → Int32) (a0 : Int64) (a1 : Int32) (a2 : Int64) : (Nat → Int32) :=
  if (f_Me_holds a0 a1) = true then
    l_Me_write_21 mf a0 a1 a2 (a1.toNatClampNeg + 1) (0 : Int32) mf
  else
    (mf)
set_option maxHeartbeats 4000000 in
set_option maxRecDepth 100000 in
theorem c_Me_write (l : Launch) (G : va_G) (cB cL : ClassId) (Hp : Heap) (h2 : Nat) (h3 : Nat) (mf : Nat → Int32) (a0 : Int64) (a1 : Int32) (a2 : Int64) (hP : va_P G vwCl [(h2, .inr (1, [.ref h3])), (h3, .inl (cB, 4096, .inl mf))] Hp) (hD : va_D (fun _ => True) [(h2, .inr (1, [.ref h3])), (h3, .inl (cB, 4096, .inl mf))]) (hz : 1 ≤ a1.toInt ∧ a1.toInt ≤ 8) : Met l yMe_write wsMe_write ({ frames := 1, cells := 0, slots := 0, locals := 25 }) (va_Pc [.ref h2, .long a0, .int a1, .long a2] (fun U => U.heap = Hp ∧ va_K G vwCl [(cB, .byte), (cL, .long)] U)) (va_Qv (fun (u : (Nat → Int32)) => u = (f_Me_write mf a0 a1 a2)) (fun (u : (Nat → Int32)) t => va_P G vwCl [(h2, .inr (1, [.ref h3])), (h3, .inl (cB, 4096, .inl (u)))] t.heap ∧ va_D (va_A [(h2, .inr (1, [.ref h3])), (h3, .inl (cB, 4096, .inl mf))] Hp.size) [(h2, .inr (1, [.ref h3])), (h3, .inl (cB, 4096, .inl (u)))]) (va_A [(h2, .inr (1, [.ref h3])), (h3, .inl (cB, 4096, .inl mf))] Hp.size)) 0 0 (va_A [(h2, .inr (1, [.ref h3])), (h3, .inl (cB, 4096, .inl mf))] Hp.size) := by
  refine Met.ofW (cc := cMe_write) (maxL := 8) (ret := none) (by decide) rfl ?_
  intro p e s m args below meth c s₁ B hml hv
  obtain ⟨rfl, rfl, hK⟩ := hv
  have hx := B.exec
  have hb := B.bytes
  have hr := B.returns
  have hT : ∀ w ∈ tB, w.before _ s = true := fun w h => atoms_spec (ws := wsMe_write) B.pre w (List.mem_cons_of_mem _ h)
  have hown : s.vm.findClass "CompiledProgram$Memory" = some m.cls := findClass_of_methodNamed B.named
  have hlocks := B.notSynchronized
  have hD := hD.self (sz := s.heap.size)
  generalize hAe : va_A [(h2, .inr (1, [.ref h3])), (h3, .inl (cB, 4096, .inl mf))] s.heap.size = A at hD ⊢
  have hA : ∀ q : Nat, s.heap.size ≤ q → A q := fun q h => by rw [← hAe]; exact Or.inr h
  have hS : va_S A s.heap s.heap [] := va_S.rf
  have hl := lv_entry ([.ref h2, .long a0, .int a1, .long a2]) (n := 8) (Nat.le_of_ble_eq_true rfl)
  rw [lg_entry_eq]
  generalize (lg_sl ([.ref h2, .long a0, .int a1, .long a2]) ++ List.replicate (8 - (lg_sl ([.ref h2, .long a0, .int a1, .long a2])).length) Slot.unset).toArray = ls at hl ⊢
  have hl : lv_has ls 8 [(0, .ref h2), (1, .long a0), (3, .int a1), (4, .long a2)] := hl
  refine lv_aload_n hx hb dMe_write_0 rfl (lv_at hl 0 rfl) ?_
  refine lv_lload_n hx hb dMe_write_1 rfl (lv_at hl 1 rfl) ?_
  refine lv_iload_n hx hb dMe_write_2 rfl (lv_at hl 2 rfl) ?_
  have hPc := hP.sub (ws' := [(h2, .inr (1, [.ref h3])), (h3, .inl (cB, 4096, .inl mf))]) [0, 1] rfl
  refine va_calli (va_runV (As := [.long a0, .int a1]) (rest := []) ⟨hx, hb, hml, hown, hT⟩ (c_Me_holds l G cB cL s.heap h2 h3 mf a0 a1 hPc ) (cwV 2 hT (gB_V mw_423 mw_414 mw_415 mw_5 mw_416) rfl rfl rfl (by decide +kernel) ⟨Nat.le_of_ble_eq_true rfl, Nat.le_of_ble_eq_true rfl⟩) ⟨fun a U g mk q => ⟨q.1, q.2.1, va_K.moved (u := U) (U := U.calling g mk a) (Vm.Alike.refl U.vm) q.2.2⟩, va_recv hK hPc (ci := 1) (q0 := 0) rfl rfl, fun U hU hW => ⟨rfl, hU, va_K.moved hW.alike hK⟩⟩ rfl rfl hl.1 rfl (lv_room (Nat.le_of_ble_eq_true rfl)) dMe_write_3 ⟨Nat.zero_le _, Nat.zero_le _⟩) hS (fun _ _ h => h.elim) (fun _ h => h.elim) (fun r u t H1 locs ht hvm hw hB hz8 hk8 hS => ?_)
  obtain rfl : s.heap = H1 := hB.symm.trans ht
  subst hw
  refine lv_if_ne (tgt := 10) hx hb dMe_write_6 (by decide) (fun c1 => ?_) (fun c1 => ?_)
  · have c1 := bI_n c1
    refine lv_lload_n hx hb dMe_write_10 rfl (lv_at hl 1 rfl) ?_
    refine lv_ldc2 (v := (2147483648 : Int64)) hx hb hown (hT _ mw_417) dMe_write_11 ?_
    refine lv_lsub hx hb dMe_write_14 ?_
    refine lv_l2i hx hb dMe_write_15 rfl ?_
    refine lv_istore (lv' := [(6, .int ((a0 - (2147483648 : Int64)).toInt32)), (0, .ref h2), (1, .long a0), (3, .int a1), (4, .long a2)]) hx hb dMe_write_16 hl (by decide) rfl (fun ls hl => ?_)
    refine lv_iconst (v := (0 : Int32)) hx hb dMe_write_18 (by decide) ?_
    refine lv_istore (lv' := [(7, .int (0 : Int32)), (6, .int ((a0 - (2147483648 : Int64)).toInt32)), (0, .ref h2), (1, .long a0), (3, .int a1), (4, .long a2)]) hx hb dMe_write_19 hl (by decide) rfl (fun ls hl => ?_)
    have loop : ∀ (n : Nat) (k : Int32) (g : Nat → Int32), ((f_Me_holds a0 a1) = true) → (0 ≤ k.toInt) → (a1.toInt - k.toInt).toNat < n → (f_Me_write mf a0 a1 a2) = l_Me_write_21 mf a0 a1 a2 n k g → ∀ (H : Heap), va_P G vwCl [(h2, .inr (1, [.ref h3])), (h3, .inl (cB, 4096, .inl g))] H → va_D A [(h2, .inr (1, [.ref h3])), (h3, .inl (cB, 4096, .inl g))] → ∀ (locs : List Loc), va_S A s.heap H locs → ∀ (ls : Array Slot), lv_has ls 8 [(7, .int k), (6, .int ((a0 - (2147483648 : Int64)).toInt32)), (0, .ref h2), (1, .long a0), (3, .int a1), (4, .long a2)] → W p l e (headSpec wsMe_write ({ frames := 1, cells := 0, slots := 0, locals := 25 })).room s m ([.ref h2, .long a0, .int a1, .long a2] : List Value).toArray below meth c H locs 0 0 (MQ below (va_Qv (fun (u : (Nat → Int32)) => u = (f_Me_write mf a0 a1 a2)) (fun (u : (Nat → Int32)) t => va_P G vwCl [(h2, .inr (1, [.ref h3])), (h3, .inl (cB, 4096, .inl (u)))] t.heap ∧ va_D (A) [(h2, .inr (1, [.ref h3])), (h3, .inl (cB, 4096, .inl (u)))]) (A)) ([.ref h2, .long a0, .int a1, .long a2] : List Value).toArray s 0 0 A) (F0 m 21 ls []) := by
      intro n
      induction n with
      | zero =>
        intro k g hH hk1 hM
        exact absurd hM (Nat.not_lt_zero _)
      | succ n ih =>
        intro k g hH hk1 hM hE H hP hD locs hS ls hl
        refine lv_iload hx hb dMe_write_21 (lv_at hl 0 rfl) ?_
        refine lv_iload_n hx hb dMe_write_23 rfl (lv_at hl 4 rfl) ?_
        refine lv_icmp_ge (tgt := 53) hx hb dMe_write_24 (by decide) (fun c2 => ?_) (fun c2 => ?_)
        · skip
          have hP9 := hP.sub (ws' := [(h2, .inr (1, [.ref h3])), (h3, .inl (cB, 4096, .inl g))]) [0, 1] rfl
          have hD9 := hD.sub (ws' := [(h2, .inr (1, [.ref h3])), (h3, .inl (cB, 4096, .inl g))]) [0, 1] (by decide) rfl
          exact W.vret hx hb hr (fun t ht hW => ⟨⟨(g), rfl, (by rw [hE, l_Me_write_21, if_pos c2]; try rfl), by rw [ht]; exact hP9, hD9⟩, hS.F ht⟩) hS.2.2 dMe_write_53
        · skip
          refine lv_aload_n hx hb dMe_write_27 rfl (lv_at hl 2 rfl) ?_
          refine va_get (D := G) (ci := 1) (v := .ref h3) (C := RMe) (T := TMe) (N := 1) hx hb hT inMe hown hK hP 0 rfl rfl 0 (by decide) (hT _ mw_73) (fun _ h9 => h9) rfl dMe_write_28 ?_
          refine lv_iload hx hb dMe_write_31 (lv_at hl 1 rfl) ?_
          refine lv_iload hx hb dMe_write_33 (lv_at hl 0 rfl) ?_
          refine lv_iadd hx hb dMe_write_35 ?_
          refine lv_lload hx hb dMe_write_36 (lv_at hl 5 rfl) ?_
          refine lv_bipush (v := (8 : Int32)) hx hb dMe_write_38 (by decide) ?_
          refine lv_iload hx hb dMe_write_40 (lv_at hl 0 rfl) ?_
          refine lv_imul hx hb dMe_write_42 ?_
          refine lv_lshr (v := (j_lshr a2 ((8 : Int32) * k))) hx hb dMe_write_43 rfl ?_
          refine lv_l2i hx hb dMe_write_44 rfl ?_
          refine lv_i2b (v := (j_i2b ((j_lshr a2 ((8 : Int32) * k)).toInt32))) hx hb dMe_write_45 rfl ?_
          refine va_bast hx hb hK hP hD hS 1 0 rfl rfl (me_in2 hH hk1 c2) dMe_write_46 (fun H locs hP hD hS => ?_)
          have hP : va_P G vwCl [(h2, .inr (1, [.ref h3])), (h3, .inl (cB, 4096, .inl (upd g (((a0 - (2147483648 : Int64)).toInt32) + k).toNatClampNeg (vp_nar .byte (j_i2b ((j_lshr a2 ((8 : Int32) * k)).toInt32))))))] H := hP
          have hD : va_D A [(h2, .inr (1, [.ref h3])), (h3, .inl (cB, 4096, .inl (upd g (((a0 - (2147483648 : Int64)).toInt32) + k).toNatClampNeg (vp_nar .byte (j_i2b ((j_lshr a2 ((8 : Int32) * k)).toInt32))))))] := hD
          refine lv_iinc (v := (k + (1 : Int32))) (lv' := [(7, .int (k + (1 : Int32))), (6, .int ((a0 - (2147483648 : Int64)).toInt32)), (0, .ref h2), (1, .long a0), (3, .int a1), (4, .long a2)]) hx hb dMe_write_47 hl (k := 0) rfl (by first | rfl | decide) (by decide) rfl (fun ls hl => ?_)
          refine lv_goto (tgt := 21) hx hb dMe_write_50 (by decide) ?_
          exact ih (k + (1 : Int32)) (upd g (((a0 - (2147483648 : Int64)).toInt32) + k).toNatClampNeg (vp_nar .byte (j_i2b ((j_lshr a2 ((8 : Int32) * k)).toInt32)))) hH (wr_b1 hz hk1 c2) (wr_b2 hz hk1 c2 hM) (by rw [hE, l_Me_write_21, if_neg c2]) _ hP hD _ hS ls (lv_sub hl [0, 1, 2, 3, 4, 5] rfl)
    exact loop (a1.toNatClampNeg + 1) (0 : Int32) mf c1 (by decide) (wr_fuel) (by unfold f_Me_write; rw [if_pos c1]) _ hP hD _ hS ls (lv_sub hl [0, 1, 2, 3, 4, 5] rfl)
  · have c1 := bI_z c1
    have hP9 := hP.sub (ws' := [(h2, .inr (1, [.ref h3])), (h3, .inl (cB, 4096, .inl mf))]) [0, 1] rfl
    have hD9 := hD.sub (ws' := [(h2, .inr (1, [.ref h3])), (h3, .inl (cB, 4096, .inl mf))]) [0, 1] (by decide) rfl
    exact W.vret hx hb hr (fun t ht hW => ⟨⟨(mf), rfl, (by unfold f_Me_write; rw [if_neg c1]; try rfl), by rw [ht]; exact hP9, hD9⟩, hS.F ht⟩) hS.2.2 dMe_write_9
end
section
def f_Ma_x (rf : Nat → Int64) (a0 : Int64) : Int64 :=
  (rf (f_Fi_target a0).toNatClampNeg)
set_option maxHeartbeats 4000000 in
set_option maxRecDepth 100000 in
theorem c_Ma_x (l : Launch) (G : va_G) (cB cL : ClassId) (Hp : Heap) (h4 : Nat) (h5 : Nat) (h2 : Nat) (rf : Nat → Int64) (a0 : Int64) (hP : va_P G vwCl [(h4, .inr (2, [.ref h5, .ref h2])), (h5, .inl (cL, 16, .inr (.inl rf)))] Hp) : Met l yMa_x wsMa_x ({ frames := 1, cells := 0, slots := 0, locals := 21 }) (va_Pc [.ref h4, .long a0] (fun U => U.heap = Hp ∧ va_K G vwCl [(cB, .byte), (cL, .long)] U)) (va_Ql (fun (r : Int64) (_ : Unit) => r = (f_Ma_x rf a0)) (fun _ t => t.heap = Hp) (fun _ => False)) 0 0 (fun _ => False) := by
  refine Met.ofW (cc := cMa_x) (maxL := 3) (ret := (some .long)) (by decide) rfl ?_
  intro p e s m args below meth c s₁ B hml hv
  obtain ⟨rfl, rfl, hK⟩ := hv
  have hx := B.exec
  have hb := B.bytes
  have hr := B.returns
  have hT : ∀ w ∈ tB, w.before _ s = true := fun w h => atoms_spec (ws := wsMa_x) B.pre w (List.mem_cons_of_mem _ h)
  have hown : s.vm.findClass "CompiledProgram$Machine" = some m.cls := findClass_of_methodNamed B.named
  have hlocks := B.notSynchronized
  have hA : ∀ q : Nat, (fun _ : Nat => False) q → False := fun _ h => h
  have hS : va_S (fun _ => False) s.heap s.heap [] := va_S.rf
  have hl := lv_entry ([.ref h4, .long a0]) (n := 3) (Nat.le_of_ble_eq_true rfl)
  rw [lg_entry_eq]
  generalize (lg_sl ([.ref h4, .long a0]) ++ List.replicate (3 - (lg_sl ([.ref h4, .long a0])).length) Slot.unset).toArray = ls at hl ⊢
  have hl : lv_has ls 3 [(0, .ref h4), (1, .long a0)] := hl
  refine lv_aload_n hx hb dMa_x_0 rfl (lv_at hl 0 rfl) ?_
  refine va_get (D := G) (ci := 2) (v := .ref h5) (C := RMa) (T := TMa) (N := 2) hx hb hT inMa hown hK hP 0 rfl rfl 0 (by decide) (hT _ mw_77) (fun _ h9 => h9) rfl dMa_x_1 ?_
  refine lv_lload_n hx hb dMa_x_4 rfl (lv_at hl 1 rfl) ?_
  refine va_calli (va_runS (As := [.long a0]) (rest := [.ref h5]) ⟨hx, hb, hml, hown, hT⟩ (c_Fi_target l s.heap a0) (va_cwS 1 hT (gB_SV mw_456 mw_147 mw_16 mw_148) rfl rfl rfl (by decide +kernel) ⟨Nat.le_of_ble_eq_true rfl, Nat.le_of_ble_eq_true rfl⟩) ⟨fun _ _ _ _ q => q, fun U hU hW => ⟨rfl, hU⟩⟩ rfl rfl hl.1 rfl (lv_room (Nat.le_of_ble_eq_true rfl)) dMa_x_5 ⟨Nat.zero_le _, Nat.zero_le _⟩) hS (fun _ _ h => h.elim) (fun _ h => h.elim) (fun r u t H1 locs ht hvm hw hB hz8 hk8 hS => ?_)
  obtain rfl : s.heap = H1 := hB.symm.trans ht
  subst hw
  refine va_lald hx hb hK hP 1 1 rfl rfl (in_Fi_target a0) dMa_x_8 ?_
  exact W.lret (v := (rf (f_Fi_target a0).toNatClampNeg)) hx hb hr (fun t ht hW => ⟨⟨(rf (f_Fi_target a0).toNatClampNeg), (), rfl, rfl, ht⟩, hS.F ht⟩) hS.2.2 dMa_x_9

def f_Ma_y (rf : Nat → Int64) (a0 : Int64) : Int64 :=
  (rf (f_Fi_source a0).toNatClampNeg)
set_option maxHeartbeats 4000000 in
set_option maxRecDepth 100000 in
theorem c_Ma_y (l : Launch) (G : va_G) (cB cL : ClassId) (Hp : Heap) (h4 : Nat) (h5 : Nat) (h2 : Nat) (rf : Nat → Int64) (a0 : Int64) (hP : va_P G vwCl [(h4, .inr (2, [.ref h5, .ref h2])), (h5, .inl (cL, 16, .inr (.inl rf)))] Hp) : Met l yMa_y wsMa_y ({ frames := 1, cells := 0, slots := 0, locals := 21 }) (va_Pc [.ref h4, .long a0] (fun U => U.heap = Hp ∧ va_K G vwCl [(cB, .byte), (cL, .long)] U)) (va_Ql (fun (r : Int64) (_ : Unit) => r = (f_Ma_y rf a0)) (fun _ t => t.heap = Hp) (fun _ => False)) 0 0 (fun _ => False) := by
  refine Met.ofW (cc := cMa_y) (maxL := 3) (ret := (some .long)) (by decide) rfl ?_
  intro p e s m args below meth c s₁ B hml hv
  obtain ⟨rfl, rfl, hK⟩ := hv
  have hx := B.exec
  have hb := B.bytes
  have hr := B.returns
  have hT : ∀ w ∈ tB, w.before _ s = true := fun w h => atoms_spec (ws := wsMa_y) B.pre w (List.mem_cons_of_mem _ h)
  have hown : s.vm.findClass "CompiledProgram$Machine" = some m.cls := findClass_of_methodNamed B.named
  have hlocks := B.notSynchronized
  have hA : ∀ q : Nat, (fun _ : Nat => False) q → False := fun _ h => h
  have hS : va_S (fun _ => False) s.heap s.heap [] := va_S.rf
  have hl := lv_entry ([.ref h4, .long a0]) (n := 3) (Nat.le_of_ble_eq_true rfl)
  rw [lg_entry_eq]
  generalize (lg_sl ([.ref h4, .long a0]) ++ List.replicate (3 - (lg_sl ([.ref h4, .long a0])).length) Slot.unset).toArray = ls at hl ⊢
  have hl : lv_has ls 3 [(0, .ref h4), (1, .long a0)] := hl
  refine lv_aload_n hx hb dMa_y_0 rfl (lv_at hl 0 rfl) ?_
  refine va_get (D := G) (ci := 2) (v := .ref h5) (C := RMa) (T := TMa) (N := 2) hx hb hT inMa hown hK hP 0 rfl rfl 0 (by decide) (hT _ mw_77) (fun _ h9 => h9) rfl dMa_y_1 ?_
  refine lv_lload_n hx hb dMa_y_4 rfl (lv_at hl 1 rfl) ?_
  refine va_calli (va_runS (As := [.long a0]) (rest := [.ref h5]) ⟨hx, hb, hml, hown, hT⟩ (c_Fi_source l s.heap a0) (va_cwS 1 hT (gB_SV mw_469 mw_138 mw_16 mw_139) rfl rfl rfl (by decide +kernel) ⟨Nat.le_of_ble_eq_true rfl, Nat.le_of_ble_eq_true rfl⟩) ⟨fun _ _ _ _ q => q, fun U hU hW => ⟨rfl, hU⟩⟩ rfl rfl hl.1 rfl (lv_room (Nat.le_of_ble_eq_true rfl)) dMa_y_5 ⟨Nat.zero_le _, Nat.zero_le _⟩) hS (fun _ _ h => h.elim) (fun _ h => h.elim) (fun r u t H1 locs ht hvm hw hB hz8 hk8 hS => ?_)
  obtain rfl : s.heap = H1 := hB.symm.trans ht
  subst hw
  refine va_lald hx hb hK hP 1 1 rfl rfl (in_Fi_source a0) dMa_y_8 ?_
  exact W.lret (v := (rf (f_Fi_source a0).toNatClampNeg)) hx hb hr (fun t ht hW => ⟨⟨(rf (f_Fi_source a0).toNatClampNeg), (), rfl, rfl, ht⟩, hS.F ht⟩) hS.2.2 dMa_y_9

def f_Ma_operand (rf : Nat → Int64) (a0 : Int64) : Int64 :=
  if (f_Fi_usesSource a0) = true then
    (f_Ma_y rf a0)
  else
    ((f_Fi_immediate a0).toInt64)
set_option maxHeartbeats 4000000 in
set_option maxRecDepth 100000 in
theorem c_Ma_operand (l : Launch) (G : va_G) (cB cL : ClassId) (Hp : Heap) (h4 : Nat) (h5 : Nat) (h2 : Nat) (rf : Nat → Int64) (a0 : Int64) (hP : va_P G vwCl [(h4, .inr (2, [.ref h5, .ref h2])), (h5, .inl (cL, 16, .inr (.inl rf)))] Hp) : Met l yMa_operand wsMa_operand ({ frames := 2, cells := 0, slots := 0, locals := 43 }) (va_Pc [.ref h4, .long a0] (fun U => U.heap = Hp ∧ va_K G vwCl [(cB, .byte), (cL, .long)] U)) (va_Ql (fun (r : Int64) (_ : Unit) => r = (f_Ma_operand rf a0)) (fun _ t => t.heap = Hp) (fun _ => False)) 0 0 (fun _ => False) := by
  refine Met.ofW (cc := cMa_operand) (maxL := 3) (ret := (some .long)) (by decide) rfl ?_
  intro p e s m args below meth c s₁ B hml hv
  obtain ⟨rfl, rfl, hK⟩ := hv
  have hx := B.exec
  have hb := B.bytes
  have hr := B.returns
  have hT : ∀ w ∈ tB, w.before _ s = true := fun w h => atoms_spec (ws := wsMa_operand) B.pre w (List.mem_cons_of_mem _ h)
  have hown : s.vm.findClass "CompiledProgram$Machine" = some m.cls := findClass_of_methodNamed B.named
  have hlocks := B.notSynchronized
  have hA : ∀ q : Nat, (fun _ : Nat => False) q → False := fun _ h => h
  have hS : va_S (fun _ => False) s.heap s.heap [] := va_S.rf
  have hl := lv_entry ([.ref h4, .long a0]) (n := 3) (Nat.le_of_ble_eq_true rfl)
  rw [lg_entry_eq]
  generalize (lg_sl ([.ref h4, .long a0]) ++ List.replicate (3 - (lg_sl ([.ref h4, .long a0])).length) Slot.unset).toArray = ls at hl ⊢
  have hl : lv_has ls 3 [(0, .ref h4), (1, .long a0)] := hl
  refine lv_lload_n hx hb dMa_operand_0 rfl (lv_at hl 1 rfl) ?_
  refine va_calli (va_runS (As := [.long a0]) (rest := []) ⟨hx, hb, hml, hown, hT⟩ (c_Fi_usesSource l s.heap a0) (va_cwS 1 hT (gB_SV mw_516 mw_193 mw_16 mw_194) rfl rfl rfl (by decide +kernel) ⟨Nat.le_of_ble_eq_true rfl, Nat.le_of_ble_eq_true rfl⟩) ⟨fun _ _ _ _ q => q, fun U hU hW => ⟨rfl, hU⟩⟩ rfl rfl hl.1 rfl (lv_room (Nat.le_of_ble_eq_true rfl)) dMa_operand_1 ⟨Nat.zero_le _, Nat.zero_le _⟩) hS (fun _ _ h => h.elim) (fun _ h => h.elim) (fun r u t H1 locs ht hvm hw hB hz8 hk8 hS => ?_)
  obtain rfl : s.heap = H1 := hB.symm.trans ht
  subst hw
  refine lv_if_eq (tgt := 15) hx hb dMa_operand_4 (by decide) (fun c1 => ?_) (fun c1 => ?_)
  · have c1 := bI_z c1
    refine lv_lload_n hx hb dMa_operand_15 rfl (lv_at hl 1 rfl) ?_
    refine va_calli (va_runS (As := [.long a0]) (rest := []) ⟨hx, hb, hml, hown, hT⟩ (c_Fi_immediate l s.heap a0) (va_cwS 1 hT (gB_SV mw_455 mw_153 mw_16 mw_154) rfl rfl rfl (by decide +kernel) ⟨Nat.le_of_ble_eq_true rfl, Nat.le_of_ble_eq_true rfl⟩) ⟨fun _ _ _ _ q => q, fun U hU hW => ⟨rfl, hU⟩⟩ rfl rfl hl.1 rfl (lv_room (Nat.le_of_ble_eq_true rfl)) dMa_operand_16 ⟨Nat.zero_le _, Nat.zero_le _⟩) hS (fun _ _ h => h.elim) (fun _ h => h.elim) (fun r u t H1 locs ht hvm hw hB hz8 hk8 hS => ?_)
    obtain rfl : s.heap = H1 := hB.symm.trans ht
    subst hw
    refine lv_i2l hx hb dMa_operand_19 rfl ?_
    exact W.lret (v := ((f_Fi_immediate a0).toInt64)) hx hb hr (fun t ht hW => ⟨⟨((f_Fi_immediate a0).toInt64), (), rfl, (by unfold f_Ma_operand; rw [if_neg c1]; try rfl), ht⟩, hS.F ht⟩) hS.2.2 dMa_operand_20
  · have c1 := bI_n c1
    refine lv_aload_n hx hb dMa_operand_7 rfl (lv_at hl 0 rfl) ?_
    refine lv_lload_n hx hb dMa_operand_8 rfl (lv_at hl 1 rfl) ?_
    have hPc := hP.sub (ws' := [(h4, .inr (2, [.ref h5, .ref h2])), (h5, .inl (cL, 16, .inr (.inl rf)))]) [0, 1] rfl
    refine va_calll (va_runV (As := [.long a0]) (rest := []) ⟨hx, hb, hml, hown, hT⟩ (c_Ma_y l G cB cL s.heap h4 h5 h2 rf a0 hPc ) (cwV 1 hT (gB_V mw_465 mw_466 mw_467 mw_4 mw_468) rfl rfl rfl (by decide +kernel) ⟨Nat.le_of_ble_eq_true rfl, Nat.le_of_ble_eq_true rfl⟩) ⟨fun a U g mk q => ⟨q.1, q.2.1, va_K.moved (u := U) (U := U.calling g mk a) (Vm.Alike.refl U.vm) q.2.2⟩, va_recv hK hPc (ci := 2) (q0 := 0) rfl rfl, fun U hU hW => ⟨rfl, hU, va_K.moved hW.alike hK⟩⟩ rfl rfl hl.1 rfl (lv_room (Nat.le_of_ble_eq_true rfl)) dMa_operand_9 ⟨Nat.zero_le _, Nat.zero_le _⟩) hS (fun _ _ h => h.elim) (fun _ h => h.elim) (fun r u t H1 locs ht hvm hw hB hz8 hk8 hS => ?_)
    obtain rfl : s.heap = H1 := hB.symm.trans ht
    subst hw
    refine lv_goto (tgt := 20) hx hb dMa_operand_12 (by decide) ?_
    exact W.lret (v := (f_Ma_y rf a0)) hx hb hr (fun t ht hW => ⟨⟨(f_Ma_y rf a0), (), rfl, (by unfold f_Ma_operand; rw [if_pos c1]; try rfl), ht⟩, hS.F ht⟩) hS.2.2 dMa_operand_20

def f_Ma_takesJump (rf : Nat → Int64) (a0 : Int64) : Bool :=
  if (f_Fi_kind a0) = (6 : Int32) then
    (f_Ar_isTaken (f_Fi_operation a0) (((f_Ma_x rf a0).toInt32).toInt64) (((f_Ma_operand rf a0).toInt32).toInt64))
  else
    (f_Ar_isTaken (f_Fi_operation a0) (f_Ma_x rf a0) (f_Ma_operand rf a0))
set_option maxHeartbeats 4000000 in
set_option maxRecDepth 100000 in
theorem c_Ma_takesJump (l : Launch) (G : va_G) (cB cL : ClassId) (Hp : Heap) (h4 : Nat) (h5 : Nat) (h2 : Nat) (rf : Nat → Int64) (a0 : Int64) (hP : va_P G vwCl [(h4, .inr (2, [.ref h5, .ref h2])), (h5, .inl (cL, 16, .inr (.inl rf)))] Hp) : Met l yMa_takesJump wsMa_takesJump ({ frames := 3, cells := 0, slots := 0, locals := 65 }) (va_Pc [.ref h4, .long a0] (fun U => U.heap = Hp ∧ va_K G vwCl [(cB, .byte), (cL, .long)] U)) (va_Qi (fun (r : Int32) (_ : Unit) => r = bI (f_Ma_takesJump rf a0)) (fun _ t => t.heap = Hp) (fun _ => False)) 0 0 (fun _ => False) := by
  refine Met.ofW (cc := cMa_takesJump) (maxL := 7) (ret := (some .boolean)) (by decide) rfl ?_
  intro p e s m args below meth c s₁ B hml hv
  obtain ⟨rfl, rfl, hK⟩ := hv
  have hx := B.exec
  have hb := B.bytes
  have hr := B.returns
  have hT : ∀ w ∈ tB, w.before _ s = true := fun w h => atoms_spec (ws := wsMa_takesJump) B.pre w (List.mem_cons_of_mem _ h)
  have hown : s.vm.findClass "CompiledProgram$Machine" = some m.cls := findClass_of_methodNamed B.named
  have hlocks := B.notSynchronized
  have hA : ∀ q : Nat, (fun _ : Nat => False) q → False := fun _ h => h
  have hS : va_S (fun _ => False) s.heap s.heap [] := va_S.rf
  have hl := lv_entry ([.ref h4, .long a0]) (n := 7) (Nat.le_of_ble_eq_true rfl)
  rw [lg_entry_eq]
  generalize (lg_sl ([.ref h4, .long a0]) ++ List.replicate (7 - (lg_sl ([.ref h4, .long a0])).length) Slot.unset).toArray = ls at hl ⊢
  have hl : lv_has ls 7 [(0, .ref h4), (1, .long a0)] := hl
  refine lv_aload_n hx hb dMa_takesJump_0 rfl (lv_at hl 0 rfl) ?_
  refine lv_lload_n hx hb dMa_takesJump_1 rfl (lv_at hl 1 rfl) ?_
  have hPc := hP.sub (ws' := [(h4, .inr (2, [.ref h5, .ref h2])), (h5, .inl (cL, 16, .inr (.inl rf)))]) [0, 1] rfl
  refine va_calll (va_runV (As := [.long a0]) (rest := []) ⟨hx, hb, hml, hown, hT⟩ (c_Ma_x l G cB cL s.heap h4 h5 h2 rf a0 hPc ) (cwV 1 hT (gB_V mw_481 mw_482 mw_483 mw_4 mw_484) rfl rfl rfl (by decide +kernel) ⟨Nat.le_of_ble_eq_true rfl, Nat.le_of_ble_eq_true rfl⟩) ⟨fun a U g mk q => ⟨q.1, q.2.1, va_K.moved (u := U) (U := U.calling g mk a) (Vm.Alike.refl U.vm) q.2.2⟩, va_recv hK hPc (ci := 2) (q0 := 0) rfl rfl, fun U hU hW => ⟨rfl, hU, va_K.moved hW.alike hK⟩⟩ rfl rfl hl.1 rfl (lv_room (Nat.le_of_ble_eq_true rfl)) dMa_takesJump_2 ⟨Nat.zero_le _, Nat.zero_le _⟩) hS (fun _ _ h => h.elim) (fun _ h => h.elim) (fun r u t H1 locs ht hvm hw hB hz8 hk8 hS => ?_)
  obtain rfl : s.heap = H1 := hB.symm.trans ht
  subst hw
  refine lv_lstore_n (lv' := [(3, .long (f_Ma_x rf a0)), (0, .ref h4), (1, .long a0)]) hx hb dMa_takesJump_5 rfl hl (by decide) rfl (fun ls hl => ?_)
  refine lv_aload_n hx hb dMa_takesJump_6 rfl (lv_at hl 1 rfl) ?_
  refine lv_lload_n hx hb dMa_takesJump_7 rfl (lv_at hl 2 rfl) ?_
  have hPc := hP.sub (ws' := [(h4, .inr (2, [.ref h5, .ref h2])), (h5, .inl (cL, 16, .inr (.inl rf)))]) [0, 1] rfl
  refine va_calll (va_runV (As := [.long a0]) (rest := []) ⟨hx, hb, hml, hown, hT⟩ (c_Ma_operand l G cB cL s.heap h4 h5 h2 rf a0 hPc ) (cwV 1 hT (gB_V mw_512 mw_513 mw_514 mw_4 mw_515) rfl rfl rfl (by decide +kernel) ⟨Nat.le_of_ble_eq_true rfl, Nat.le_of_ble_eq_true rfl⟩) ⟨fun a U g mk q => ⟨q.1, q.2.1, va_K.moved (u := U) (U := U.calling g mk a) (Vm.Alike.refl U.vm) q.2.2⟩, va_recv hK hPc (ci := 2) (q0 := 0) rfl rfl, fun U hU hW => ⟨rfl, hU, va_K.moved hW.alike hK⟩⟩ rfl rfl hl.1 rfl (lv_room (Nat.le_of_ble_eq_true rfl)) dMa_takesJump_8 ⟨Nat.zero_le _, Nat.zero_le _⟩) hS (fun _ _ h => h.elim) (fun _ h => h.elim) (fun r u t H1 locs ht hvm hw hB hz8 hk8 hS => ?_)
  obtain rfl : s.heap = H1 := hB.symm.trans ht
  subst hw
  refine lv_lstore (lv' := [(5, .long (f_Ma_operand rf a0)), (3, .long (f_Ma_x rf a0)), (0, .ref h4), (1, .long a0)]) hx hb dMa_takesJump_11 hl (by decide) rfl (fun ls hl => ?_)
  refine lv_lload_n hx hb dMa_takesJump_13 rfl (lv_at hl 3 rfl) ?_
  refine va_calli (va_runS (As := [.long a0]) (rest := []) ⟨hx, hb, hml, hown, hT⟩ (c_Fi_kind l s.heap a0) (va_cwS 1 hT (gB_SV mw_450 mw_132 mw_16 mw_133) rfl rfl rfl (by decide +kernel) ⟨Nat.le_of_ble_eq_true rfl, Nat.le_of_ble_eq_true rfl⟩) ⟨fun _ _ _ _ q => q, fun U hU hW => ⟨rfl, hU⟩⟩ rfl rfl hl.1 rfl (lv_room (Nat.le_of_ble_eq_true rfl)) dMa_takesJump_14 ⟨Nat.zero_le _, Nat.zero_le _⟩) hS (fun _ _ h => h.elim) (fun _ h => h.elim) (fun r u t H1 locs ht hvm hw hB hz8 hk8 hS => ?_)
  obtain rfl : s.heap = H1 := hB.symm.trans ht
  subst hw
  refine lv_bipush (v := (6 : Int32)) hx hb dMa_takesJump_17 (by decide) ?_
  refine lv_icmp_ne (tgt := 39) hx hb dMa_takesJump_19 (by decide) (fun c1 => ?_) (fun c1 => ?_)
  · skip
    refine lv_lload_n hx hb dMa_takesJump_39 rfl (lv_at hl 3 rfl) ?_
    refine va_calli (va_runS (As := [.long a0]) (rest := []) ⟨hx, hb, hml, hown, hT⟩ (c_Fi_operation l s.heap a0) (va_cwS 1 hT (gB_SV mw_517 mw_183 mw_16 mw_184) rfl rfl rfl (by decide +kernel) ⟨Nat.le_of_ble_eq_true rfl, Nat.le_of_ble_eq_true rfl⟩) ⟨fun _ _ _ _ q => q, fun U hU hW => ⟨rfl, hU⟩⟩ rfl rfl hl.1 rfl (lv_room (Nat.le_of_ble_eq_true rfl)) dMa_takesJump_40 ⟨Nat.zero_le _, Nat.zero_le _⟩) hS (fun _ _ h => h.elim) (fun _ h => h.elim) (fun r u t H1 locs ht hvm hw hB hz8 hk8 hS => ?_)
    obtain rfl : s.heap = H1 := hB.symm.trans ht
    subst hw
    refine lv_lload_n hx hb dMa_takesJump_43 rfl (lv_at hl 1 rfl) ?_
    refine lv_lload hx hb dMa_takesJump_44 (lv_at hl 0 rfl) ?_
    refine va_calli (va_runS (As := [.int (f_Fi_operation a0), .long (f_Ma_x rf a0), .long (f_Ma_operand rf a0)]) (rest := []) ⟨hx, hb, hml, hown, hT⟩ (c_Ar_isTaken l s.heap (f_Fi_operation a0) (f_Ma_x rf a0) (f_Ma_operand rf a0)) (va_cwS 3 hT (gB_SV mw_518 mw_519 mw_19 mw_520) rfl rfl rfl (by decide +kernel) ⟨Nat.le_of_ble_eq_true rfl, Nat.le_of_ble_eq_true rfl⟩) ⟨fun _ _ _ _ q => q, fun U hU hW => ⟨rfl, hU⟩⟩ rfl rfl hl.1 rfl (lv_room (Nat.le_of_ble_eq_true rfl)) dMa_takesJump_46 ⟨Nat.zero_le _, Nat.zero_le _⟩) hS (fun _ _ h => h.elim) (fun _ h => h.elim) (fun r u t H1 locs ht hvm hw hB hz8 hk8 hS => ?_)
    obtain rfl : s.heap = H1 := hB.symm.trans ht
    subst hw
    exact W.zret (v := (bI (f_Ar_isTaken (f_Fi_operation a0) (f_Ma_x rf a0) (f_Ma_operand rf a0)))) hx hb hr (bI_nar _) (fun t ht hW => ⟨⟨(bI (f_Ar_isTaken (f_Fi_operation a0) (f_Ma_x rf a0) (f_Ma_operand rf a0))), (), rfl, (by unfold f_Ma_takesJump; rw [if_neg c1]; try rfl), ht⟩, hS.F ht⟩) hS.2.2 dMa_takesJump_49
  · skip
    refine lv_lload_n hx hb dMa_takesJump_22 rfl (lv_at hl 3 rfl) ?_
    refine va_calli (va_runS (As := [.long a0]) (rest := []) ⟨hx, hb, hml, hown, hT⟩ (c_Fi_operation l s.heap a0) (va_cwS 1 hT (gB_SV mw_517 mw_183 mw_16 mw_184) rfl rfl rfl (by decide +kernel) ⟨Nat.le_of_ble_eq_true rfl, Nat.le_of_ble_eq_true rfl⟩) ⟨fun _ _ _ _ q => q, fun U hU hW => ⟨rfl, hU⟩⟩ rfl rfl hl.1 rfl (lv_room (Nat.le_of_ble_eq_true rfl)) dMa_takesJump_23 ⟨Nat.zero_le _, Nat.zero_le _⟩) hS (fun _ _ h => h.elim) (fun _ h => h.elim) (fun r u t H1 locs ht hvm hw hB hz8 hk8 hS => ?_)
    obtain rfl : s.heap = H1 := hB.symm.trans ht
    subst hw
    refine lv_lload_n hx hb dMa_takesJump_26 rfl (lv_at hl 1 rfl) ?_
    refine lv_l2i hx hb dMa_takesJump_27 rfl ?_
    refine lv_i2l hx hb dMa_takesJump_28 rfl ?_
    refine lv_lload hx hb dMa_takesJump_29 (lv_at hl 0 rfl) ?_
    refine lv_l2i hx hb dMa_takesJump_31 rfl ?_
    refine lv_i2l hx hb dMa_takesJump_32 rfl ?_
    refine va_calli (va_runS (As := [.int (f_Fi_operation a0), .long (((f_Ma_x rf a0).toInt32).toInt64), .long (((f_Ma_operand rf a0).toInt32).toInt64)]) (rest := []) ⟨hx, hb, hml, hown, hT⟩ (c_Ar_isTaken l s.heap (f_Fi_operation a0) (((f_Ma_x rf a0).toInt32).toInt64) (((f_Ma_operand rf a0).toInt32).toInt64)) (va_cwS 3 hT (gB_SV mw_518 mw_519 mw_19 mw_520) rfl rfl rfl (by decide +kernel) ⟨Nat.le_of_ble_eq_true rfl, Nat.le_of_ble_eq_true rfl⟩) ⟨fun _ _ _ _ q => q, fun U hU hW => ⟨rfl, hU⟩⟩ rfl rfl hl.1 rfl (lv_room (Nat.le_of_ble_eq_true rfl)) dMa_takesJump_33 ⟨Nat.zero_le _, Nat.zero_le _⟩) hS (fun _ _ h => h.elim) (fun _ h => h.elim) (fun r u t H1 locs ht hvm hw hB hz8 hk8 hS => ?_)
    obtain rfl : s.heap = H1 := hB.symm.trans ht
    subst hw
    refine lv_goto (tgt := 49) hx hb dMa_takesJump_36 (by decide) ?_
    exact W.zret (v := (bI (f_Ar_isTaken (f_Fi_operation a0) (((f_Ma_x rf a0).toInt32).toInt64) (((f_Ma_operand rf a0).toInt32).toInt64)))) hx hb hr (bI_nar _) (fun t ht hW => ⟨⟨(bI (f_Ar_isTaken (f_Fi_operation a0) (((f_Ma_x rf a0).toInt32).toInt64) (((f_Ma_operand rf a0).toInt32).toInt64))), (), rfl, (by unfold f_Ma_takesJump; rw [if_pos c1]; try rfl), ht⟩, hS.F ht⟩) hS.2.2 dMa_takesJump_49

def f_Ma_turnedOrCut (rf : Nat → Int64) (a0 : Int64) : Int64 :=
  if (f_Fi_kind a0) = (7 : Int32) then
    (f_Ar_turned (f_Ma_x rf a0) (f_Fi_immediate a0))
  else
    if (f_Fi_usesSource a0) = true then
      (f_Ar_turned (f_Ma_x rf a0) (f_Fi_immediate a0))
    else
      (f_Ar_lowest (f_Ma_x rf a0) (f_Fi_immediate a0))
set_option maxHeartbeats 4000000 in
set_option maxRecDepth 100000 in
theorem c_Ma_turnedOrCut (l : Launch) (G : va_G) (cB cL : ClassId) (Hp : Heap) (h4 : Nat) (h5 : Nat) (h2 : Nat) (rf : Nat → Int64) (a0 : Int64) (hP : va_P G vwCl [(h4, .inr (2, [.ref h5, .ref h2])), (h5, .inl (cL, 16, .inr (.inl rf)))] Hp) : Met l yMa_turnedOrCut wsMa_turnedOrCut ({ frames := 2, cells := 0, slots := 0, locals := 43 }) (va_Pc [.ref h4, .long a0] (fun U => U.heap = Hp ∧ va_K G vwCl [(cB, .byte), (cL, .long)] U)) (va_Ql (fun (r : Int64) (_ : Unit) => r = (f_Ma_turnedOrCut rf a0)) (fun _ t => t.heap = Hp) (fun _ => False)) 0 0 (fun _ => False) := by
  refine Met.ofW (cc := cMa_turnedOrCut) (maxL := 5) (ret := (some .long)) (by decide) rfl ?_
  intro p e s m args below meth c s₁ B hml hv
  obtain ⟨rfl, rfl, hK⟩ := hv
  have hx := B.exec
  have hb := B.bytes
  have hr := B.returns
  have hT : ∀ w ∈ tB, w.before _ s = true := fun w h => atoms_spec (ws := wsMa_turnedOrCut) B.pre w (List.mem_cons_of_mem _ h)
  have hown : s.vm.findClass "CompiledProgram$Machine" = some m.cls := findClass_of_methodNamed B.named
  have hlocks := B.notSynchronized
  have hA : ∀ q : Nat, (fun _ : Nat => False) q → False := fun _ h => h
  have hS : va_S (fun _ => False) s.heap s.heap [] := va_S.rf
  have hl := lv_entry ([.ref h4, .long a0]) (n := 5) (Nat.le_of_ble_eq_true rfl)
  rw [lg_entry_eq]
  generalize (lg_sl ([.ref h4, .long a0]) ++ List.replicate (5 - (lg_sl ([.ref h4, .long a0])).length) Slot.unset).toArray = ls at hl ⊢
  have hl : lv_has ls 5 [(0, .ref h4), (1, .long a0)] := hl
  refine lv_lload_n hx hb dMa_turnedOrCut_0 rfl (lv_at hl 1 rfl) ?_
  refine va_calli (va_runS (As := [.long a0]) (rest := []) ⟨hx, hb, hml, hown, hT⟩ (c_Fi_immediate l s.heap a0) (va_cwS 1 hT (gB_SV mw_455 mw_153 mw_16 mw_154) rfl rfl rfl (by decide +kernel) ⟨Nat.le_of_ble_eq_true rfl, Nat.le_of_ble_eq_true rfl⟩) ⟨fun _ _ _ _ q => q, fun U hU hW => ⟨rfl, hU⟩⟩ rfl rfl hl.1 rfl (lv_room (Nat.le_of_ble_eq_true rfl)) dMa_turnedOrCut_1 ⟨Nat.zero_le _, Nat.zero_le _⟩) hS (fun _ _ h => h.elim) (fun _ h => h.elim) (fun r u t H1 locs ht hvm hw hB hz8 hk8 hS => ?_)
  obtain rfl : s.heap = H1 := hB.symm.trans ht
  subst hw
  refine lv_istore_n (lv' := [(3, .int (f_Fi_immediate a0)), (0, .ref h4), (1, .long a0)]) hx hb dMa_turnedOrCut_4 rfl hl (by decide) rfl (fun ls hl => ?_)
  refine lv_lload_n hx hb dMa_turnedOrCut_5 rfl (lv_at hl 2 rfl) ?_
  refine va_calli (va_runS (As := [.long a0]) (rest := []) ⟨hx, hb, hml, hown, hT⟩ (c_Fi_kind l s.heap a0) (va_cwS 1 hT (gB_SV mw_450 mw_132 mw_16 mw_133) rfl rfl rfl (by decide +kernel) ⟨Nat.le_of_ble_eq_true rfl, Nat.le_of_ble_eq_true rfl⟩) ⟨fun _ _ _ _ q => q, fun U hU hW => ⟨rfl, hU⟩⟩ rfl rfl hl.1 rfl (lv_room (Nat.le_of_ble_eq_true rfl)) dMa_turnedOrCut_6 ⟨Nat.zero_le _, Nat.zero_le _⟩) hS (fun _ _ h => h.elim) (fun _ h => h.elim) (fun r u t H1 locs ht hvm hw hB hz8 hk8 hS => ?_)
  obtain rfl : s.heap = H1 := hB.symm.trans ht
  subst hw
  refine lv_bipush (v := (7 : Int32)) hx hb dMa_turnedOrCut_9 (by decide) ?_
  refine lv_icmp_eq (tgt := 21) hx hb dMa_turnedOrCut_11 (by decide) (fun c1 => ?_) (fun c1 => ?_)
  · skip
    refine lv_iconst (v := (1 : Int32)) hx hb dMa_turnedOrCut_21 (by decide) ?_
    refine lv_goto (tgt := 26) hx hb dMa_turnedOrCut_22 (by decide) ?_
    refine lv_istore (lv' := [(4, .int (1 : Int32)), (3, .int (f_Fi_immediate a0)), (0, .ref h4), (1, .long a0)]) hx hb dMa_turnedOrCut_26 hl (by decide) rfl (fun ls hl => ?_)
    refine lv_iload hx hb dMa_turnedOrCut_28 (lv_at hl 0 rfl) ?_
    refine lv_if_eq (tgt := 45) hx hb dMa_turnedOrCut_30 (by decide) (fun c2 => absurd c2 (by decide)) (fun _ => ?_)
    refine lv_aload_n hx hb dMa_turnedOrCut_33 rfl (lv_at hl 2 rfl) ?_
    refine lv_lload_n hx hb dMa_turnedOrCut_34 rfl (lv_at hl 3 rfl) ?_
    have hPc := hP.sub (ws' := [(h4, .inr (2, [.ref h5, .ref h2])), (h5, .inl (cL, 16, .inr (.inl rf)))]) [0, 1] rfl
    refine va_calll (va_runV (As := [.long a0]) (rest := []) ⟨hx, hb, hml, hown, hT⟩ (c_Ma_x l G cB cL s.heap h4 h5 h2 rf a0 hPc ) (cwV 1 hT (gB_V mw_481 mw_482 mw_483 mw_4 mw_484) rfl rfl rfl (by decide +kernel) ⟨Nat.le_of_ble_eq_true rfl, Nat.le_of_ble_eq_true rfl⟩) ⟨fun a U g mk q => ⟨q.1, q.2.1, va_K.moved (u := U) (U := U.calling g mk a) (Vm.Alike.refl U.vm) q.2.2⟩, va_recv hK hPc (ci := 2) (q0 := 0) rfl rfl, fun U hU hW => ⟨rfl, hU, va_K.moved hW.alike hK⟩⟩ rfl rfl hl.1 rfl (lv_room (Nat.le_of_ble_eq_true rfl)) dMa_turnedOrCut_35 ⟨Nat.zero_le _, Nat.zero_le _⟩) hS (fun _ _ h => h.elim) (fun _ h => h.elim) (fun r u t H1 locs ht hvm hw hB hz8 hk8 hS => ?_)
    obtain rfl : s.heap = H1 := hB.symm.trans ht
    subst hw
    refine lv_iload_n hx hb dMa_turnedOrCut_38 rfl (lv_at hl 1 rfl) ?_
    refine va_calll (va_runS (As := [.long (f_Ma_x rf a0), .int (f_Fi_immediate a0)]) (rest := []) ⟨hx, hb, hml, hown, hT⟩ (c_Ar_turned l s.heap (f_Ma_x rf a0) (f_Fi_immediate a0)) (va_cwS 2 hT (gB_SV mw_531 mw_532 mw_19 mw_533) rfl rfl rfl (by decide +kernel) ⟨Nat.le_of_ble_eq_true rfl, Nat.le_of_ble_eq_true rfl⟩) ⟨fun _ _ _ _ q => q, fun U hU hW => ⟨rfl, hU⟩⟩ rfl rfl hl.1 rfl (lv_room (Nat.le_of_ble_eq_true rfl)) dMa_turnedOrCut_39 ⟨Nat.zero_le _, Nat.zero_le _⟩) hS (fun _ _ h => h.elim) (fun _ h => h.elim) (fun r u t H1 locs ht hvm hw hB hz8 hk8 hS => ?_)
    obtain rfl : s.heap = H1 := hB.symm.trans ht
    subst hw
    refine lv_goto (tgt := 54) hx hb dMa_turnedOrCut_42 (by decide) ?_
    exact W.lret (v := (f_Ar_turned (f_Ma_x rf a0) (f_Fi_immediate a0))) hx hb hr (fun t ht hW => ⟨⟨(f_Ar_turned (f_Ma_x rf a0) (f_Fi_immediate a0)), (), rfl, (by unfold f_Ma_turnedOrCut; rw [if_pos c1]; try rfl), ht⟩, hS.F ht⟩) hS.2.2 dMa_turnedOrCut_54
  · skip
    refine lv_lload_n hx hb dMa_turnedOrCut_14 rfl (lv_at hl 2 rfl) ?_
    refine va_calli (va_runS (As := [.long a0]) (rest := []) ⟨hx, hb, hml, hown, hT⟩ (c_Fi_usesSource l s.heap a0) (va_cwS 1 hT (gB_SV mw_516 mw_193 mw_16 mw_194) rfl rfl rfl (by decide +kernel) ⟨Nat.le_of_ble_eq_true rfl, Nat.le_of_ble_eq_true rfl⟩) ⟨fun _ _ _ _ q => q, fun U hU hW => ⟨rfl, hU⟩⟩ rfl rfl hl.1 rfl (lv_room (Nat.le_of_ble_eq_true rfl)) dMa_turnedOrCut_15 ⟨Nat.zero_le _, Nat.zero_le _⟩) hS (fun _ _ h => h.elim) (fun _ h => h.elim) (fun r u t H1 locs ht hvm hw hB hz8 hk8 hS => ?_)
    obtain rfl : s.heap = H1 := hB.symm.trans ht
    subst hw
    refine lv_if_eq (tgt := 25) hx hb dMa_turnedOrCut_18 (by decide) (fun c3 => ?_) (fun c3 => ?_)
    · have c3 := bI_z c3
      refine lv_iconst (v := (0 : Int32)) hx hb dMa_turnedOrCut_25 (by decide) ?_
      refine lv_istore (lv' := [(4, .int (0 : Int32)), (3, .int (f_Fi_immediate a0)), (0, .ref h4), (1, .long a0)]) hx hb dMa_turnedOrCut_26 hl (by decide) rfl (fun ls hl => ?_)
      refine lv_iload hx hb dMa_turnedOrCut_28 (lv_at hl 0 rfl) ?_
      refine lv_if_eq (tgt := 45) hx hb dMa_turnedOrCut_30 (by decide) (fun _ => ?_) (fun c4 => absurd c4 (by decide))
      refine lv_aload_n hx hb dMa_turnedOrCut_45 rfl (lv_at hl 2 rfl) ?_
      refine lv_lload_n hx hb dMa_turnedOrCut_46 rfl (lv_at hl 3 rfl) ?_
      have hPc := hP.sub (ws' := [(h4, .inr (2, [.ref h5, .ref h2])), (h5, .inl (cL, 16, .inr (.inl rf)))]) [0, 1] rfl
      refine va_calll (va_runV (As := [.long a0]) (rest := []) ⟨hx, hb, hml, hown, hT⟩ (c_Ma_x l G cB cL s.heap h4 h5 h2 rf a0 hPc ) (cwV 1 hT (gB_V mw_481 mw_482 mw_483 mw_4 mw_484) rfl rfl rfl (by decide +kernel) ⟨Nat.le_of_ble_eq_true rfl, Nat.le_of_ble_eq_true rfl⟩) ⟨fun a U g mk q => ⟨q.1, q.2.1, va_K.moved (u := U) (U := U.calling g mk a) (Vm.Alike.refl U.vm) q.2.2⟩, va_recv hK hPc (ci := 2) (q0 := 0) rfl rfl, fun U hU hW => ⟨rfl, hU, va_K.moved hW.alike hK⟩⟩ rfl rfl hl.1 rfl (lv_room (Nat.le_of_ble_eq_true rfl)) dMa_turnedOrCut_47 ⟨Nat.zero_le _, Nat.zero_le _⟩) hS (fun _ _ h => h.elim) (fun _ h => h.elim) (fun r u t H1 locs ht hvm hw hB hz8 hk8 hS => ?_)
      obtain rfl : s.heap = H1 := hB.symm.trans ht
      subst hw
      refine lv_iload_n hx hb dMa_turnedOrCut_50 rfl (lv_at hl 1 rfl) ?_
      refine va_calll (va_runS (As := [.long (f_Ma_x rf a0), .int (f_Fi_immediate a0)]) (rest := []) ⟨hx, hb, hml, hown, hT⟩ (c_Ar_lowest l s.heap (f_Ma_x rf a0) (f_Fi_immediate a0)) (va_cwS 2 hT (gB_SV mw_457 mw_458 mw_19 mw_459) rfl rfl rfl (by decide +kernel) ⟨Nat.le_of_ble_eq_true rfl, Nat.le_of_ble_eq_true rfl⟩) ⟨fun _ _ _ _ q => q, fun U hU hW => ⟨rfl, hU⟩⟩ rfl rfl hl.1 rfl (lv_room (Nat.le_of_ble_eq_true rfl)) dMa_turnedOrCut_51 ⟨Nat.zero_le _, Nat.zero_le _⟩) hS (fun _ _ h => h.elim) (fun _ h => h.elim) (fun r u t H1 locs ht hvm hw hB hz8 hk8 hS => ?_)
      obtain rfl : s.heap = H1 := hB.symm.trans ht
      subst hw
      exact W.lret (v := (f_Ar_lowest (f_Ma_x rf a0) (f_Fi_immediate a0))) hx hb hr (fun t ht hW => ⟨⟨(f_Ar_lowest (f_Ma_x rf a0) (f_Fi_immediate a0)), (), rfl, (by unfold f_Ma_turnedOrCut; rw [if_neg c1, if_neg c3]; try rfl), ht⟩, hS.F ht⟩) hS.2.2 dMa_turnedOrCut_54
    · have c3 := bI_n c3
      refine lv_iconst (v := (1 : Int32)) hx hb dMa_turnedOrCut_21 (by decide) ?_
      refine lv_goto (tgt := 26) hx hb dMa_turnedOrCut_22 (by decide) ?_
      refine lv_istore (lv' := [(4, .int (1 : Int32)), (3, .int (f_Fi_immediate a0)), (0, .ref h4), (1, .long a0)]) hx hb dMa_turnedOrCut_26 hl (by decide) rfl (fun ls hl => ?_)
      refine lv_iload hx hb dMa_turnedOrCut_28 (lv_at hl 0 rfl) ?_
      refine lv_if_eq (tgt := 45) hx hb dMa_turnedOrCut_30 (by decide) (fun c5 => absurd c5 (by decide)) (fun _ => ?_)
      refine lv_aload_n hx hb dMa_turnedOrCut_33 rfl (lv_at hl 2 rfl) ?_
      refine lv_lload_n hx hb dMa_turnedOrCut_34 rfl (lv_at hl 3 rfl) ?_
      have hPc := hP.sub (ws' := [(h4, .inr (2, [.ref h5, .ref h2])), (h5, .inl (cL, 16, .inr (.inl rf)))]) [0, 1] rfl
      refine va_calll (va_runV (As := [.long a0]) (rest := []) ⟨hx, hb, hml, hown, hT⟩ (c_Ma_x l G cB cL s.heap h4 h5 h2 rf a0 hPc ) (cwV 1 hT (gB_V mw_481 mw_482 mw_483 mw_4 mw_484) rfl rfl rfl (by decide +kernel) ⟨Nat.le_of_ble_eq_true rfl, Nat.le_of_ble_eq_true rfl⟩) ⟨fun a U g mk q => ⟨q.1, q.2.1, va_K.moved (u := U) (U := U.calling g mk a) (Vm.Alike.refl U.vm) q.2.2⟩, va_recv hK hPc (ci := 2) (q0 := 0) rfl rfl, fun U hU hW => ⟨rfl, hU, va_K.moved hW.alike hK⟩⟩ rfl rfl hl.1 rfl (lv_room (Nat.le_of_ble_eq_true rfl)) dMa_turnedOrCut_35 ⟨Nat.zero_le _, Nat.zero_le _⟩) hS (fun _ _ h => h.elim) (fun _ h => h.elim) (fun r u t H1 locs ht hvm hw hB hz8 hk8 hS => ?_)
      obtain rfl : s.heap = H1 := hB.symm.trans ht
      subst hw
      refine lv_iload_n hx hb dMa_turnedOrCut_38 rfl (lv_at hl 1 rfl) ?_
      refine va_calll (va_runS (As := [.long (f_Ma_x rf a0), .int (f_Fi_immediate a0)]) (rest := []) ⟨hx, hb, hml, hown, hT⟩ (c_Ar_turned l s.heap (f_Ma_x rf a0) (f_Fi_immediate a0)) (va_cwS 2 hT (gB_SV mw_531 mw_532 mw_19 mw_533) rfl rfl rfl (by decide +kernel) ⟨Nat.le_of_ble_eq_true rfl, Nat.le_of_ble_eq_true rfl⟩) ⟨fun _ _ _ _ q => q, fun U hU hW => ⟨rfl, hU⟩⟩ rfl rfl hl.1 rfl (lv_room (Nat.le_of_ble_eq_true rfl)) dMa_turnedOrCut_39 ⟨Nat.zero_le _, Nat.zero_le _⟩) hS (fun _ _ h => h.elim) (fun _ h => h.elim) (fun r u t H1 locs ht hvm hw hB hz8 hk8 hS => ?_)
      obtain rfl : s.heap = H1 := hB.symm.trans ht
      subst hw
      refine lv_goto (tgt := 54) hx hb dMa_turnedOrCut_42 (by decide) ?_
      exact W.lret (v := (f_Ar_turned (f_Ma_x rf a0) (f_Fi_immediate a0))) hx hb hr (fun t ht hW => ⟨⟨(f_Ar_turned (f_Ma_x rf a0) (f_Fi_immediate a0)), (), rfl, (by unfold f_Ma_turnedOrCut; rw [if_neg c1, if_pos c3]; try rfl), ht⟩, hS.F ht⟩) hS.2.2 dMa_turnedOrCut_54

def f_Ma_computed (rf : Nat → Int64) (a0 : Int64) : Int64 :=
  if (f_Fi_operation a0) = (13 : Int32) then
    (f_Ma_turnedOrCut rf a0)
  else
    if (f_Fi_kind a0) = (7 : Int32) then
      (f_Ar_wide (f_Fi_operation a0) (f_Fi_offset a0) (f_Ma_x rf a0) (f_Ma_operand rf a0))
    else
      (f_Ar_narrow (f_Fi_operation a0) (f_Fi_offset a0) ((f_Ma_x rf a0).toInt32) ((f_Ma_operand rf a0).toInt32))
set_option maxHeartbeats 4000000 in
set_option maxRecDepth 100000 in
theorem c_Ma_computed (l : Launch) (G : va_G) (cB cL : ClassId) (Hp : Heap) (h4 : Nat) (h5 : Nat) (h2 : Nat) (rf : Nat → Int64) (a0 : Int64) (hP : va_P G vwCl [(h4, .inr (2, [.ref h5, .ref h2])), (h5, .inl (cL, 16, .inr (.inl rf)))] Hp) : Met l yMa_computed wsMa_computed ({ frames := 5, cells := 0, slots := 0, locals := 123 }) (va_Pc [.ref h4, .long a0] (fun U => U.heap = Hp ∧ va_K G vwCl [(cB, .byte), (cL, .long)] U)) (va_Ql (fun (r : Int64) (_ : Unit) => r = (f_Ma_computed rf a0)) (fun _ t => t.heap = Hp) (fun _ => False)) 0 0 (fun _ => False) := by
  refine Met.ofW (cc := cMa_computed) (maxL := 4) (ret := (some .long)) (by decide) rfl ?_
  intro p e s m args below meth c s₁ B hml hv
  obtain ⟨rfl, rfl, hK⟩ := hv
  have hx := B.exec
  have hb := B.bytes
  have hr := B.returns
  have hT : ∀ w ∈ tB, w.before _ s = true := fun w h => atoms_spec (ws := wsMa_computed) B.pre w (List.mem_cons_of_mem _ h)
  have hown : s.vm.findClass "CompiledProgram$Machine" = some m.cls := findClass_of_methodNamed B.named
  have hlocks := B.notSynchronized
  have hA : ∀ q : Nat, (fun _ : Nat => False) q → False := fun _ h => h
  have hS : va_S (fun _ => False) s.heap s.heap [] := va_S.rf
  have hl := lv_entry ([.ref h4, .long a0]) (n := 4) (Nat.le_of_ble_eq_true rfl)
  rw [lg_entry_eq]
  generalize (lg_sl ([.ref h4, .long a0]) ++ List.replicate (4 - (lg_sl ([.ref h4, .long a0])).length) Slot.unset).toArray = ls at hl ⊢
  have hl : lv_has ls 4 [(0, .ref h4), (1, .long a0)] := hl
  refine lv_lload_n hx hb dMa_computed_0 rfl (lv_at hl 1 rfl) ?_
  refine va_calli (va_runS (As := [.long a0]) (rest := []) ⟨hx, hb, hml, hown, hT⟩ (c_Fi_operation l s.heap a0) (va_cwS 1 hT (gB_SV mw_517 mw_183 mw_16 mw_184) rfl rfl rfl (by decide +kernel) ⟨Nat.le_of_ble_eq_true rfl, Nat.le_of_ble_eq_true rfl⟩) ⟨fun _ _ _ _ q => q, fun U hU hW => ⟨rfl, hU⟩⟩ rfl rfl hl.1 rfl (lv_room (Nat.le_of_ble_eq_true rfl)) dMa_computed_1 ⟨Nat.zero_le _, Nat.zero_le _⟩) hS (fun _ _ h => h.elim) (fun _ h => h.elim) (fun r u t H1 locs ht hvm hw hB hz8 hk8 hS => ?_)
  obtain rfl : s.heap = H1 := hB.symm.trans ht
  subst hw
  refine lv_istore_n (lv' := [(3, .int (f_Fi_operation a0)), (0, .ref h4), (1, .long a0)]) hx hb dMa_computed_4 rfl hl (by decide) rfl (fun ls hl => ?_)
  refine lv_iload_n hx hb dMa_computed_5 rfl (lv_at hl 0 rfl) ?_
  refine lv_bipush (v := (13 : Int32)) hx hb dMa_computed_6 (by decide) ?_
  refine lv_icmp_ne (tgt := 17) hx hb dMa_computed_8 (by decide) (fun c1 => ?_) (fun c1 => ?_)
  · skip
    refine lv_lload_n hx hb dMa_computed_17 rfl (lv_at hl 2 rfl) ?_
    refine va_calli (va_runS (As := [.long a0]) (rest := []) ⟨hx, hb, hml, hown, hT⟩ (c_Fi_kind l s.heap a0) (va_cwS 1 hT (gB_SV mw_450 mw_132 mw_16 mw_133) rfl rfl rfl (by decide +kernel) ⟨Nat.le_of_ble_eq_true rfl, Nat.le_of_ble_eq_true rfl⟩) ⟨fun _ _ _ _ q => q, fun U hU hW => ⟨rfl, hU⟩⟩ rfl rfl hl.1 rfl (lv_room (Nat.le_of_ble_eq_true rfl)) dMa_computed_18 ⟨Nat.zero_le _, Nat.zero_le _⟩) hS (fun _ _ h => h.elim) (fun _ h => h.elim) (fun r u t H1 locs ht hvm hw hB hz8 hk8 hS => ?_)
    obtain rfl : s.heap = H1 := hB.symm.trans ht
    subst hw
    refine lv_bipush (v := (7 : Int32)) hx hb dMa_computed_21 (by decide) ?_
    refine lv_icmp_ne (tgt := 47) hx hb dMa_computed_23 (by decide) (fun c2 => ?_) (fun c2 => ?_)
    · skip
      refine lv_iload_n hx hb dMa_computed_47 rfl (lv_at hl 0 rfl) ?_
      refine lv_lload_n hx hb dMa_computed_48 rfl (lv_at hl 2 rfl) ?_
      refine va_calli (va_runS (As := [.long a0]) (rest := [.int (f_Fi_operation a0)]) ⟨hx, hb, hml, hown, hT⟩ (c_Fi_offset l s.heap a0) (va_cwS 1 hT (gB_SV mw_470 mw_150 mw_16 mw_151) rfl rfl rfl (by decide +kernel) ⟨Nat.le_of_ble_eq_true rfl, Nat.le_of_ble_eq_true rfl⟩) ⟨fun _ _ _ _ q => q, fun U hU hW => ⟨rfl, hU⟩⟩ rfl rfl hl.1 rfl (lv_room (Nat.le_of_ble_eq_true rfl)) dMa_computed_49 ⟨Nat.zero_le _, Nat.zero_le _⟩) hS (fun _ _ h => h.elim) (fun _ h => h.elim) (fun r u t H1 locs ht hvm hw hB hz8 hk8 hS => ?_)
      obtain rfl : s.heap = H1 := hB.symm.trans ht
      subst hw
      refine lv_aload_n hx hb dMa_computed_52 rfl (lv_at hl 1 rfl) ?_
      refine lv_lload_n hx hb dMa_computed_53 rfl (lv_at hl 2 rfl) ?_
      have hPc := hP.sub (ws' := [(h4, .inr (2, [.ref h5, .ref h2])), (h5, .inl (cL, 16, .inr (.inl rf)))]) [0, 1] rfl
      refine va_calll (va_runV (As := [.long a0]) (rest := [.int (f_Fi_offset a0), .int (f_Fi_operation a0)]) ⟨hx, hb, hml, hown, hT⟩ (c_Ma_x l G cB cL s.heap h4 h5 h2 rf a0 hPc ) (cwV 1 hT (gB_V mw_481 mw_482 mw_483 mw_4 mw_484) rfl rfl rfl (by decide +kernel) ⟨Nat.le_of_ble_eq_true rfl, Nat.le_of_ble_eq_true rfl⟩) ⟨fun a U g mk q => ⟨q.1, q.2.1, va_K.moved (u := U) (U := U.calling g mk a) (Vm.Alike.refl U.vm) q.2.2⟩, va_recv hK hPc (ci := 2) (q0 := 0) rfl rfl, fun U hU hW => ⟨rfl, hU, va_K.moved hW.alike hK⟩⟩ rfl rfl hl.1 rfl (lv_room (Nat.le_of_ble_eq_true rfl)) dMa_computed_54 ⟨Nat.zero_le _, Nat.zero_le _⟩) hS (fun _ _ h => h.elim) (fun _ h => h.elim) (fun r u t H1 locs ht hvm hw hB hz8 hk8 hS => ?_)
      obtain rfl : s.heap = H1 := hB.symm.trans ht
      subst hw
      refine lv_l2i hx hb dMa_computed_57 rfl ?_
      refine lv_aload_n hx hb dMa_computed_58 rfl (lv_at hl 1 rfl) ?_
      refine lv_lload_n hx hb dMa_computed_59 rfl (lv_at hl 2 rfl) ?_
      have hPc := hP.sub (ws' := [(h4, .inr (2, [.ref h5, .ref h2])), (h5, .inl (cL, 16, .inr (.inl rf)))]) [0, 1] rfl
      refine va_calll (va_runV (As := [.long a0]) (rest := [.int ((f_Ma_x rf a0).toInt32), .int (f_Fi_offset a0), .int (f_Fi_operation a0)]) ⟨hx, hb, hml, hown, hT⟩ (c_Ma_operand l G cB cL s.heap h4 h5 h2 rf a0 hPc ) (cwV 1 hT (gB_V mw_512 mw_513 mw_514 mw_4 mw_515) rfl rfl rfl (by decide +kernel) ⟨Nat.le_of_ble_eq_true rfl, Nat.le_of_ble_eq_true rfl⟩) ⟨fun a U g mk q => ⟨q.1, q.2.1, va_K.moved (u := U) (U := U.calling g mk a) (Vm.Alike.refl U.vm) q.2.2⟩, va_recv hK hPc (ci := 2) (q0 := 0) rfl rfl, fun U hU hW => ⟨rfl, hU, va_K.moved hW.alike hK⟩⟩ rfl rfl hl.1 rfl (lv_room (Nat.le_of_ble_eq_true rfl)) dMa_computed_60 ⟨Nat.zero_le _, Nat.zero_le _⟩) hS (fun _ _ h => h.elim) (fun _ h => h.elim) (fun r u t H1 locs ht hvm hw hB hz8 hk8 hS => ?_)
      obtain rfl : s.heap = H1 := hB.symm.trans ht
      subst hw
      refine lv_l2i hx hb dMa_computed_63 rfl ?_
      refine va_calll (va_runS (As := [.int (f_Fi_operation a0), .int (f_Fi_offset a0), .int ((f_Ma_x rf a0).toInt32), .int ((f_Ma_operand rf a0).toInt32)]) (rest := []) ⟨hx, hb, hml, hown, hT⟩ (c_Ar_narrow l s.heap (f_Fi_operation a0) (f_Fi_offset a0) ((f_Ma_x rf a0).toInt32) ((f_Ma_operand rf a0).toInt32)) (va_cwS 4 hT (gB_SV mw_553 mw_554 mw_19 mw_555) rfl rfl rfl (by decide +kernel) ⟨Nat.le_of_ble_eq_true rfl, Nat.le_of_ble_eq_true rfl⟩) ⟨fun _ _ _ _ q => q, fun U hU hW => ⟨rfl, hU⟩⟩ rfl rfl hl.1 rfl (lv_room (Nat.le_of_ble_eq_true rfl)) dMa_computed_64 ⟨Nat.zero_le _, Nat.zero_le _⟩) hS (fun _ _ h => h.elim) (fun _ h => h.elim) (fun r u t H1 locs ht hvm hw hB hz8 hk8 hS => ?_)
      obtain rfl : s.heap = H1 := hB.symm.trans ht
      subst hw
      exact W.lret (v := (f_Ar_narrow (f_Fi_operation a0) (f_Fi_offset a0) ((f_Ma_x rf a0).toInt32) ((f_Ma_operand rf a0).toInt32))) hx hb hr (fun t ht hW => ⟨⟨(f_Ar_narrow (f_Fi_operation a0) (f_Fi_offset a0) ((f_Ma_x rf a0).toInt32) ((f_Ma_operand rf a0).toInt32)), (), rfl, (by unfold f_Ma_computed; rw [if_neg c1, if_neg c2]; try rfl), ht⟩, hS.F ht⟩) hS.2.2 dMa_computed_67
    · skip
      refine lv_iload_n hx hb dMa_computed_26 rfl (lv_at hl 0 rfl) ?_
      refine lv_lload_n hx hb dMa_computed_27 rfl (lv_at hl 2 rfl) ?_
      refine va_calli (va_runS (As := [.long a0]) (rest := [.int (f_Fi_operation a0)]) ⟨hx, hb, hml, hown, hT⟩ (c_Fi_offset l s.heap a0) (va_cwS 1 hT (gB_SV mw_470 mw_150 mw_16 mw_151) rfl rfl rfl (by decide +kernel) ⟨Nat.le_of_ble_eq_true rfl, Nat.le_of_ble_eq_true rfl⟩) ⟨fun _ _ _ _ q => q, fun U hU hW => ⟨rfl, hU⟩⟩ rfl rfl hl.1 rfl (lv_room (Nat.le_of_ble_eq_true rfl)) dMa_computed_28 ⟨Nat.zero_le _, Nat.zero_le _⟩) hS (fun _ _ h => h.elim) (fun _ h => h.elim) (fun r u t H1 locs ht hvm hw hB hz8 hk8 hS => ?_)
      obtain rfl : s.heap = H1 := hB.symm.trans ht
      subst hw
      refine lv_aload_n hx hb dMa_computed_31 rfl (lv_at hl 1 rfl) ?_
      refine lv_lload_n hx hb dMa_computed_32 rfl (lv_at hl 2 rfl) ?_
      have hPc := hP.sub (ws' := [(h4, .inr (2, [.ref h5, .ref h2])), (h5, .inl (cL, 16, .inr (.inl rf)))]) [0, 1] rfl
      refine va_calll (va_runV (As := [.long a0]) (rest := [.int (f_Fi_offset a0), .int (f_Fi_operation a0)]) ⟨hx, hb, hml, hown, hT⟩ (c_Ma_x l G cB cL s.heap h4 h5 h2 rf a0 hPc ) (cwV 1 hT (gB_V mw_481 mw_482 mw_483 mw_4 mw_484) rfl rfl rfl (by decide +kernel) ⟨Nat.le_of_ble_eq_true rfl, Nat.le_of_ble_eq_true rfl⟩) ⟨fun a U g mk q => ⟨q.1, q.2.1, va_K.moved (u := U) (U := U.calling g mk a) (Vm.Alike.refl U.vm) q.2.2⟩, va_recv hK hPc (ci := 2) (q0 := 0) rfl rfl, fun U hU hW => ⟨rfl, hU, va_K.moved hW.alike hK⟩⟩ rfl rfl hl.1 rfl (lv_room (Nat.le_of_ble_eq_true rfl)) dMa_computed_33 ⟨Nat.zero_le _, Nat.zero_le _⟩) hS (fun _ _ h => h.elim) (fun _ h => h.elim) (fun r u t H1 locs ht hvm hw hB hz8 hk8 hS => ?_)
      obtain rfl : s.heap = H1 := hB.symm.trans ht
      subst hw
      refine lv_aload_n hx hb dMa_computed_36 rfl (lv_at hl 1 rfl) ?_
      refine lv_lload_n hx hb dMa_computed_37 rfl (lv_at hl 2 rfl) ?_
      have hPc := hP.sub (ws' := [(h4, .inr (2, [.ref h5, .ref h2])), (h5, .inl (cL, 16, .inr (.inl rf)))]) [0, 1] rfl
      refine va_calll (va_runV (As := [.long a0]) (rest := [.long (f_Ma_x rf a0), .int (f_Fi_offset a0), .int (f_Fi_operation a0)]) ⟨hx, hb, hml, hown, hT⟩ (c_Ma_operand l G cB cL s.heap h4 h5 h2 rf a0 hPc ) (cwV 1 hT (gB_V mw_512 mw_513 mw_514 mw_4 mw_515) rfl rfl rfl (by decide +kernel) ⟨Nat.le_of_ble_eq_true rfl, Nat.le_of_ble_eq_true rfl⟩) ⟨fun a U g mk q => ⟨q.1, q.2.1, va_K.moved (u := U) (U := U.calling g mk a) (Vm.Alike.refl U.vm) q.2.2⟩, va_recv hK hPc (ci := 2) (q0 := 0) rfl rfl, fun U hU hW => ⟨rfl, hU, va_K.moved hW.alike hK⟩⟩ rfl rfl hl.1 rfl (lv_room (Nat.le_of_ble_eq_true rfl)) dMa_computed_38 ⟨Nat.zero_le _, Nat.zero_le _⟩) hS (fun _ _ h => h.elim) (fun _ h => h.elim) (fun r u t H1 locs ht hvm hw hB hz8 hk8 hS => ?_)
      obtain rfl : s.heap = H1 := hB.symm.trans ht
      subst hw
      refine va_calll (va_runS (As := [.int (f_Fi_operation a0), .int (f_Fi_offset a0), .long (f_Ma_x rf a0), .long (f_Ma_operand rf a0)]) (rest := []) ⟨hx, hb, hml, hown, hT⟩ (c_Ar_wide l s.heap (f_Fi_operation a0) (f_Fi_offset a0) (f_Ma_x rf a0) (f_Ma_operand rf a0)) (va_cwS 4 hT (gB_SV mw_539 mw_540 mw_19 mw_541) rfl rfl rfl (by decide +kernel) ⟨Nat.le_of_ble_eq_true rfl, Nat.le_of_ble_eq_true rfl⟩) ⟨fun _ _ _ _ q => q, fun U hU hW => ⟨rfl, hU⟩⟩ rfl rfl hl.1 rfl (lv_room (Nat.le_of_ble_eq_true rfl)) dMa_computed_41 ⟨Nat.zero_le _, Nat.zero_le _⟩) hS (fun _ _ h => h.elim) (fun _ h => h.elim) (fun r u t H1 locs ht hvm hw hB hz8 hk8 hS => ?_)
      obtain rfl : s.heap = H1 := hB.symm.trans ht
      subst hw
      refine lv_goto (tgt := 67) hx hb dMa_computed_44 (by decide) ?_
      exact W.lret (v := (f_Ar_wide (f_Fi_operation a0) (f_Fi_offset a0) (f_Ma_x rf a0) (f_Ma_operand rf a0))) hx hb hr (fun t ht hW => ⟨⟨(f_Ar_wide (f_Fi_operation a0) (f_Fi_offset a0) (f_Ma_x rf a0) (f_Ma_operand rf a0)), (), rfl, (by unfold f_Ma_computed; rw [if_neg c1, if_pos c2]; try rfl), ht⟩, hS.F ht⟩) hS.2.2 dMa_computed_67
  · skip
    refine lv_aload_n hx hb dMa_computed_11 rfl (lv_at hl 1 rfl) ?_
    refine lv_lload_n hx hb dMa_computed_12 rfl (lv_at hl 2 rfl) ?_
    have hPc := hP.sub (ws' := [(h4, .inr (2, [.ref h5, .ref h2])), (h5, .inl (cL, 16, .inr (.inl rf)))]) [0, 1] rfl
    refine va_calll (va_runV (As := [.long a0]) (rest := []) ⟨hx, hb, hml, hown, hT⟩ (c_Ma_turnedOrCut l G cB cL s.heap h4 h5 h2 rf a0 hPc ) (cwV 1 hT (gB_V mw_527 mw_528 mw_529 mw_4 mw_530) rfl rfl rfl (by decide +kernel) ⟨Nat.le_of_ble_eq_true rfl, Nat.le_of_ble_eq_true rfl⟩) ⟨fun a U g mk q => ⟨q.1, q.2.1, va_K.moved (u := U) (U := U.calling g mk a) (Vm.Alike.refl U.vm) q.2.2⟩, va_recv hK hPc (ci := 2) (q0 := 0) rfl rfl, fun U hU hW => ⟨rfl, hU, va_K.moved hW.alike hK⟩⟩ rfl rfl hl.1 rfl (lv_room (Nat.le_of_ble_eq_true rfl)) dMa_computed_13 ⟨Nat.zero_le _, Nat.zero_le _⟩) hS (fun _ _ h => h.elim) (fun _ h => h.elim) (fun r u t H1 locs ht hvm hw hB hz8 hk8 hS => ?_)
    obtain rfl : s.heap = H1 := hB.symm.trans ht
    subst hw
    exact W.lret (v := (f_Ma_turnedOrCut rf a0)) hx hb hr (fun t ht hW => ⟨⟨(f_Ma_turnedOrCut rf a0), (), rfl, (by unfold f_Ma_computed; rw [if_pos c1]; try rfl), ht⟩, hS.F ht⟩) hS.2.2 dMa_computed_16
end
section
def f_Ma_takeTwoPlaces (rf : Nat → Int64) (a0 : Int64) (a1 : Int64) : (Nat → Int64) :=
  ((vp_updL rf (f_Fi_target a0).toNatClampNeg ((j_lshl ((f_Fi_immediate a1).toInt64) (32 : Int32)) ||| (f_Ar_lowest ((f_Fi_immediate a0).toInt64) (32 : Int32)))))
set_option maxHeartbeats 4000000 in
set_option maxRecDepth 100000 in
theorem c_Ma_takeTwoPlaces (l : Launch) (G : va_G) (cB cL : ClassId) (Hp : Heap) (h4 : Nat) (h5 : Nat) (h2 : Nat) (rf : Nat → Int64) (a0 : Int64) (a1 : Int64) (hP : va_P G vwCl [(h4, .inr (2, [.ref h5, .ref h2])), (h5, .inl (cL, 16, .inr (.inl rf)))] Hp) (hD : va_D (fun _ => True) [(h4, .inr (2, [.ref h5, .ref h2])), (h5, .inl (cL, 16, .inr (.inl rf)))]) : Met l yMa_takeTwoPlaces wsMa_takeTwoPlaces ({ frames := 1, cells := 0, slots := 0, locals := 22 }) (va_Pc [.ref h4, .long a0, .long a1] (fun U => U.heap = Hp ∧ va_K G vwCl [(cB, .byte), (cL, .long)] U)) (va_Qv (fun (u : (Nat → Int64)) => u = (f_Ma_takeTwoPlaces rf a0 a1)) (fun (u : (Nat → Int64)) t => va_P G vwCl [(h4, .inr (2, [.ref h5, .ref h2])), (h5, .inl (cL, 16, .inr (.inl (u))))] t.heap ∧ va_D (va_A [(h4, .inr (2, [.ref h5, .ref h2])), (h5, .inl (cL, 16, .inr (.inl rf)))] Hp.size) [(h4, .inr (2, [.ref h5, .ref h2])), (h5, .inl (cL, 16, .inr (.inl (u))))]) (va_A [(h4, .inr (2, [.ref h5, .ref h2])), (h5, .inl (cL, 16, .inr (.inl rf)))] Hp.size)) 0 0 (va_A [(h4, .inr (2, [.ref h5, .ref h2])), (h5, .inl (cL, 16, .inr (.inl rf)))] Hp.size) := by
  refine Met.ofW (cc := cMa_takeTwoPlaces) (maxL := 7) (ret := none) (by decide) rfl ?_
  intro p e s m args below meth c s₁ B hml hv
  obtain ⟨rfl, rfl, hK⟩ := hv
  have hx := B.exec
  have hb := B.bytes
  have hr := B.returns
  have hT : ∀ w ∈ tB, w.before _ s = true := fun w h => atoms_spec (ws := wsMa_takeTwoPlaces) B.pre w (List.mem_cons_of_mem _ h)
  have hown : s.vm.findClass "CompiledProgram$Machine" = some m.cls := findClass_of_methodNamed B.named
  have hlocks := B.notSynchronized
  have hD := hD.self (sz := s.heap.size)
  generalize hAe : va_A [(h4, .inr (2, [.ref h5, .ref h2])), (h5, .inl (cL, 16, .inr (.inl rf)))] s.heap.size = A at hD ⊢
  have hA : ∀ q : Nat, s.heap.size ≤ q → A q := fun q h => by rw [← hAe]; exact Or.inr h
  have hS : va_S A s.heap s.heap [] := va_S.rf
  have hl := lv_entry ([.ref h4, .long a0, .long a1]) (n := 7) (Nat.le_of_ble_eq_true rfl)
  rw [lg_entry_eq]
  generalize (lg_sl ([.ref h4, .long a0, .long a1]) ++ List.replicate (7 - (lg_sl ([.ref h4, .long a0, .long a1])).length) Slot.unset).toArray = ls at hl ⊢
  have hl : lv_has ls 7 [(0, .ref h4), (1, .long a0), (3, .long a1)] := hl
  refine lv_lload_n hx hb dMa_takeTwoPlaces_0 rfl (lv_at hl 2 rfl) ?_
  refine va_calli (va_runS (As := [.long a1]) (rest := []) ⟨hx, hb, hml, hown, hT⟩ (c_Fi_immediate l s.heap a1) (va_cwS 1 hT (gB_SV mw_455 mw_153 mw_16 mw_154) rfl rfl rfl (by decide +kernel) ⟨Nat.le_of_ble_eq_true rfl, Nat.le_of_ble_eq_true rfl⟩) ⟨fun _ _ _ _ q => q, fun U hU hW => ⟨rfl, hU⟩⟩ rfl rfl hl.1 rfl (lv_room (Nat.le_of_ble_eq_true rfl)) dMa_takeTwoPlaces_1 ⟨Nat.zero_le _, Nat.zero_le _⟩) hS (fun _ _ h => h.elim) (fun _ h => h.elim) (fun r u t H1 locs ht hvm hw hB hz8 hk8 hS => ?_)
  obtain rfl : s.heap = H1 := hB.symm.trans ht
  subst hw
  refine lv_i2l hx hb dMa_takeTwoPlaces_4 rfl ?_
  refine lv_lstore (lv' := [(5, .long ((f_Fi_immediate a1).toInt64)), (0, .ref h4), (1, .long a0), (3, .long a1)]) hx hb dMa_takeTwoPlaces_5 hl (by decide) rfl (fun ls hl => ?_)
  refine lv_aload_n hx hb dMa_takeTwoPlaces_7 rfl (lv_at hl 1 rfl) ?_
  refine va_get (D := G) (ci := 2) (v := .ref h5) (C := RMa) (T := TMa) (N := 2) hx hb hT inMa hown hK hP 0 rfl rfl 0 (by decide) (hT _ mw_77) (fun _ h9 => h9) rfl dMa_takeTwoPlaces_8 ?_
  refine lv_lload_n hx hb dMa_takeTwoPlaces_11 rfl (lv_at hl 2 rfl) ?_
  refine va_calli (va_runS (As := [.long a0]) (rest := [.ref h5]) ⟨hx, hb, hml, hown, hT⟩ (c_Fi_target l s.heap a0) (va_cwS 1 hT (gB_SV mw_456 mw_147 mw_16 mw_148) rfl rfl rfl (by decide +kernel) ⟨Nat.le_of_ble_eq_true rfl, Nat.le_of_ble_eq_true rfl⟩) ⟨fun _ _ _ _ q => q, fun U hU hW => ⟨rfl, hU⟩⟩ rfl rfl hl.1 rfl (lv_room (Nat.le_of_ble_eq_true rfl)) dMa_takeTwoPlaces_12 ⟨Nat.zero_le _, Nat.zero_le _⟩) hS (fun _ _ h => h.elim) (fun _ h => h.elim) (fun r u t H1 locs ht hvm hw hB hz8 hk8 hS => ?_)
  obtain rfl : s.heap = H1 := hB.symm.trans ht
  subst hw
  refine lv_lload hx hb dMa_takeTwoPlaces_15 (lv_at hl 0 rfl) ?_
  refine lv_bipush (v := (32 : Int32)) hx hb dMa_takeTwoPlaces_17 (by decide) ?_
  refine lv_lshl (v := (j_lshl ((f_Fi_immediate a1).toInt64) (32 : Int32))) hx hb dMa_takeTwoPlaces_19 rfl ?_
  refine lv_lload_n hx hb dMa_takeTwoPlaces_20 rfl (lv_at hl 2 rfl) ?_
  refine va_calli (va_runS (As := [.long a0]) (rest := [.long (j_lshl ((f_Fi_immediate a1).toInt64) (32 : Int32)), .int (f_Fi_target a0), .ref h5]) ⟨hx, hb, hml, hown, hT⟩ (c_Fi_immediate l s.heap a0) (va_cwS 1 hT (gB_SV mw_455 mw_153 mw_16 mw_154) rfl rfl rfl (by decide +kernel) ⟨Nat.le_of_ble_eq_true rfl, Nat.le_of_ble_eq_true rfl⟩) ⟨fun _ _ _ _ q => q, fun U hU hW => ⟨rfl, hU⟩⟩ rfl rfl hl.1 rfl (lv_room (Nat.le_of_ble_eq_true rfl)) dMa_takeTwoPlaces_21 ⟨Nat.zero_le _, Nat.zero_le _⟩) hS (fun _ _ h => h.elim) (fun _ h => h.elim) (fun r u t H1 locs ht hvm hw hB hz8 hk8 hS => ?_)
  obtain rfl : s.heap = H1 := hB.symm.trans ht
  subst hw
  refine lv_i2l hx hb dMa_takeTwoPlaces_24 rfl ?_
  refine lv_bipush (v := (32 : Int32)) hx hb dMa_takeTwoPlaces_25 (by decide) ?_
  refine va_calll (va_runS (As := [.long ((f_Fi_immediate a0).toInt64), .int (32 : Int32)]) (rest := [.long (j_lshl ((f_Fi_immediate a1).toInt64) (32 : Int32)), .int (f_Fi_target a0), .ref h5]) ⟨hx, hb, hml, hown, hT⟩ (c_Ar_lowest l s.heap ((f_Fi_immediate a0).toInt64) (32 : Int32)) (va_cwS 2 hT (gB_SV mw_457 mw_458 mw_19 mw_459) rfl rfl rfl (by decide +kernel) ⟨Nat.le_of_ble_eq_true rfl, Nat.le_of_ble_eq_true rfl⟩) ⟨fun _ _ _ _ q => q, fun U hU hW => ⟨rfl, hU⟩⟩ rfl rfl hl.1 rfl (lv_room (Nat.le_of_ble_eq_true rfl)) dMa_takeTwoPlaces_27 ⟨Nat.zero_le _, Nat.zero_le _⟩) hS (fun _ _ h => h.elim) (fun _ h => h.elim) (fun r u t H1 locs ht hvm hw hB hz8 hk8 hS => ?_)
  obtain rfl : s.heap = H1 := hB.symm.trans ht
  subst hw
  refine lv_lor hx hb dMa_takeTwoPlaces_30 ?_
  refine va_last hx hb hK hP hD hS 1 1 rfl rfl (in_Fi_target a0) dMa_takeTwoPlaces_31 (fun H locs hP hD hS => ?_)
  have hP : va_P G vwCl [(h4, .inr (2, [.ref h5, .ref h2])), (h5, .inl (cL, 16, .inr (.inl (vp_updL rf (f_Fi_target a0).toNatClampNeg ((j_lshl ((f_Fi_immediate a1).toInt64) (32 : Int32)) ||| (f_Ar_lowest ((f_Fi_immediate a0).toInt64) (32 : Int32)))))))] H := hP
  have hD : va_D A [(h4, .inr (2, [.ref h5, .ref h2])), (h5, .inl (cL, 16, .inr (.inl (vp_updL rf (f_Fi_target a0).toNatClampNeg ((j_lshl ((f_Fi_immediate a1).toInt64) (32 : Int32)) ||| (f_Ar_lowest ((f_Fi_immediate a0).toInt64) (32 : Int32)))))))] := hD
  have hP9 := hP.sub (ws' := [(h4, .inr (2, [.ref h5, .ref h2])), (h5, .inl (cL, 16, .inr (.inl (vp_updL rf (f_Fi_target a0).toNatClampNeg ((j_lshl ((f_Fi_immediate a1).toInt64) (32 : Int32)) ||| (f_Ar_lowest ((f_Fi_immediate a0).toInt64) (32 : Int32)))))))]) [0, 1] rfl
  have hD9 := hD.sub (ws' := [(h4, .inr (2, [.ref h5, .ref h2])), (h5, .inl (cL, 16, .inr (.inl (vp_updL rf (f_Fi_target a0).toNatClampNeg ((j_lshl ((f_Fi_immediate a1).toInt64) (32 : Int32)) ||| (f_Ar_lowest ((f_Fi_immediate a0).toInt64) (32 : Int32)))))))]) [0, 1] (by decide) rfl
  exact W.vret hx hb hr (fun t ht hW => ⟨⟨((vp_updL rf (f_Fi_target a0).toNatClampNeg ((j_lshl ((f_Fi_immediate a1).toInt64) (32 : Int32)) ||| (f_Ar_lowest ((f_Fi_immediate a0).toInt64) (32 : Int32))))), rfl, rfl, by rw [ht]; exact hP9, hD9⟩, hS.F ht⟩) hS.2.2 dMa_takeTwoPlaces_32

def l_Ma_answerCall_6 (rf : Nat → Int64) (a0 : Int32) : Nat → (Int32) → (Int64) → (Nat → Int64) → (Nat → Int64)
  | 0, _, _, _ => default
  | n + 1, r9, v, g =>
    if (5 : Int32) < r9 then
      ((vp_updL g (0 : Int32).toNatClampNeg v))
    else
      l_Ma_answerCall_6 rf a0 n (r9 + (1 : Int32)) (((31 : Int64) * v) + (g r9.toNatClampNeg)) (vp_updL g r9.toNatClampNeg (0 : Int64))
def f_Ma_answerCall (rf : Nat → Int64) (a0 : Int32) : (Nat → Int64) :=
  l_Ma_answerCall_6 rf a0 6 (1 : Int32) ((a0).toInt64) rf
set_option maxHeartbeats 4000000 in
set_option maxRecDepth 100000 in
theorem c_Ma_answerCall (l : Launch) (G : va_G) (cB cL : ClassId) (Hp : Heap) (h4 : Nat) (h5 : Nat) (h2 : Nat) (rf : Nat → Int64) (a0 : Int32) (hP : va_P G vwCl [(h4, .inr (2, [.ref h5, .ref h2])), (h5, .inl (cL, 16, .inr (.inl rf)))] Hp) (hD : va_D (fun _ => True) [(h4, .inr (2, [.ref h5, .ref h2])), (h5, .inl (cL, 16, .inr (.inl rf)))]) : Met l yMa_answerCall wsMa_answerCall ({ frames := 0, cells := 0, slots := 0, locals := 0 }) (va_Pc [.ref h4, .int a0] (fun U => U.heap = Hp ∧ va_K G vwCl [(cB, .byte), (cL, .long)] U)) (va_Qv (fun (u : (Nat → Int64)) => u = (f_Ma_answerCall rf a0)) (fun (u : (Nat → Int64)) t => va_P G vwCl [(h4, .inr (2, [.ref h5, .ref h2])), (h5, .inl (cL, 16, .inr (.inl (u))))] t.heap ∧ va_D (va_A [(h4, .inr (2, [.ref h5, .ref h2])), (h5, .inl (cL, 16, .inr (.inl rf)))] Hp.size) [(h4, .inr (2, [.ref h5, .ref h2])), (h5, .inl (cL, 16, .inr (.inl (u))))]) (va_A [(h4, .inr (2, [.ref h5, .ref h2])), (h5, .inl (cL, 16, .inr (.inl rf)))] Hp.size)) 0 0 (va_A [(h4, .inr (2, [.ref h5, .ref h2])), (h5, .inl (cL, 16, .inr (.inl rf)))] Hp.size) := by
  refine Met.ofW (cc := cMa_answerCall) (maxL := 5) (ret := none) (by decide) rfl ?_
  intro p e s m args below meth c s₁ B hml hv
  obtain ⟨rfl, rfl, hK⟩ := hv
  have hx := B.exec
  have hb := B.bytes
  have hr := B.returns
  have hT : ∀ w ∈ tB, w.before _ s = true := fun w h => atoms_spec (ws := wsMa_answerCall) B.pre w (List.mem_cons_of_mem _ h)
  have hown : s.vm.findClass "CompiledProgram$Machine" = some m.cls := findClass_of_methodNamed B.named
  have hlocks := B.notSynchronized
  have hD := hD.self (sz := s.heap.size)
  generalize hAe : va_A [(h4, .inr (2, [.ref h5, .ref h2])), (h5, .inl (cL, 16, .inr (.inl rf)))] s.heap.size = A at hD ⊢
  have hA : ∀ q : Nat, s.heap.size ≤ q → A q := fun q h => by rw [← hAe]; exact Or.inr h
  have hS : va_S A s.heap s.heap [] := va_S.rf
  have hl := lv_entry ([.ref h4, .int a0]) (n := 5) (Nat.le_of_ble_eq_true rfl)
  rw [lg_entry_eq]
  generalize (lg_sl ([.ref h4, .int a0]) ++ List.replicate (5 - (lg_sl ([.ref h4, .int a0])).length) Slot.unset).toArray = ls at hl ⊢
  have hl : lv_has ls 5 [(0, .ref h4), (1, .int a0)] := hl
  refine lv_iload_n hx hb dMa_answerCall_0 rfl (lv_at hl 1 rfl) ?_
  refine lv_i2l hx hb dMa_answerCall_1 rfl ?_
  refine lv_lstore_n (lv' := [(2, .long ((a0).toInt64)), (0, .ref h4), (1, .int a0)]) hx hb dMa_answerCall_2 rfl hl (by decide) rfl (fun ls hl => ?_)
  refine lv_iconst (v := (1 : Int32)) hx hb dMa_answerCall_3 (by decide) ?_
  refine lv_istore (lv' := [(4, .int (1 : Int32)), (2, .long ((a0).toInt64)), (0, .ref h4), (1, .int a0)]) hx hb dMa_answerCall_4 hl (by decide) rfl (fun ls hl => ?_)
  have loop : ∀ (n : Nat) (r9 : Int32) (v : Int64) (g : Nat → Int64), (1 ≤ r9.toInt) → (6 - r9.toInt).toNat < n → (f_Ma_answerCall rf a0) = l_Ma_answerCall_6 rf a0 n r9 v g → ∀ (H : Heap), va_P G vwCl [(h4, .inr (2, [.ref h5, .ref h2])), (h5, .inl (cL, 16, .inr (.inl g)))] H → va_D A [(h4, .inr (2, [.ref h5, .ref h2])), (h5, .inl (cL, 16, .inr (.inl g)))] → ∀ (locs : List Loc), va_S A s.heap H locs → ∀ (ls : Array Slot), lv_has ls 5 [(4, .int r9), (2, .long v), (0, .ref h4), (1, .int a0)] → W p l e (headSpec wsMa_answerCall ({ frames := 0, cells := 0, slots := 0, locals := 0 })).room s m ([.ref h4, .int a0] : List Value).toArray below meth c H locs 0 0 (MQ below (va_Qv (fun (u : (Nat → Int64)) => u = (f_Ma_answerCall rf a0)) (fun (u : (Nat → Int64)) t => va_P G vwCl [(h4, .inr (2, [.ref h5, .ref h2])), (h5, .inl (cL, 16, .inr (.inl (u))))] t.heap ∧ va_D (A) [(h4, .inr (2, [.ref h5, .ref h2])), (h5, .inl (cL, 16, .inr (.inl (u))))]) (A)) ([.ref h4, .int a0] : List Value).toArray s 0 0 A) (F0 m 6 ls []) := by
    intro n
    induction n with
    | zero =>
      intro r9 v g hr1 hM
      exact absurd hM (Nat.not_lt_zero _)
    | succ n ih =>
      intro r9 v g hr1 hM hE H hP hD locs hS ls hl
      refine lv_iload hx hb dMa_answerCall_6 (lv_at hl 0 rfl) ?_
      refine lv_iconst (v := (5 : Int32)) hx hb dMa_answerCall_8 (by decide) ?_
      refine lv_icmp_gt (tgt := 40) hx hb dMa_answerCall_9 (by decide) (fun c1 => ?_) (fun c1 => ?_)
      · skip
        refine lv_aload_n hx hb dMa_answerCall_40 rfl (lv_at hl 2 rfl) ?_
        refine va_get (D := G) (ci := 2) (v := .ref h5) (C := RMa) (T := TMa) (N := 2) hx hb hT inMa hown hK hP 0 rfl rfl 0 (by decide) (hT _ mw_77) (fun _ h9 => h9) rfl dMa_answerCall_41 ?_
        refine lv_iconst (v := (0 : Int32)) hx hb dMa_answerCall_44 (by decide) ?_
        refine lv_lload_n hx hb dMa_answerCall_45 rfl (lv_at hl 1 rfl) ?_
        refine va_last hx hb hK hP hD hS 1 1 rfl rfl (by unfold vp_in; decide) dMa_answerCall_46 (fun H locs hP hD hS => ?_)
        have hP : va_P G vwCl [(h4, .inr (2, [.ref h5, .ref h2])), (h5, .inl (cL, 16, .inr (.inl (vp_updL g (0 : Int32).toNatClampNeg v))))] H := hP
        have hD : va_D A [(h4, .inr (2, [.ref h5, .ref h2])), (h5, .inl (cL, 16, .inr (.inl (vp_updL g (0 : Int32).toNatClampNeg v))))] := hD
        have hP9 := hP.sub (ws' := [(h4, .inr (2, [.ref h5, .ref h2])), (h5, .inl (cL, 16, .inr (.inl (vp_updL g (0 : Int32).toNatClampNeg v))))]) [0, 1] rfl
        have hD9 := hD.sub (ws' := [(h4, .inr (2, [.ref h5, .ref h2])), (h5, .inl (cL, 16, .inr (.inl (vp_updL g (0 : Int32).toNatClampNeg v))))]) [0, 1] (by decide) rfl
        exact W.vret hx hb hr (fun t ht hW => ⟨⟨((vp_updL g (0 : Int32).toNatClampNeg v)), rfl, (by rw [hE, l_Ma_answerCall_6, if_pos c1]; try rfl), by rw [ht]; exact hP9, hD9⟩, hS.F ht⟩) hS.2.2 dMa_answerCall_47
      · skip
        refine lv_ldc2 (v := (31 : Int64)) hx hb hown (hT _ mw_506) dMa_answerCall_12 ?_
        refine lv_lload_n hx hb dMa_answerCall_15 rfl (lv_at hl 1 rfl) ?_
        refine lv_lmul hx hb dMa_answerCall_16 ?_
        refine lv_aload_n hx hb dMa_answerCall_17 rfl (lv_at hl 2 rfl) ?_
        refine va_get (D := G) (ci := 2) (v := .ref h5) (C := RMa) (T := TMa) (N := 2) hx hb hT inMa hown hK hP 0 rfl rfl 0 (by decide) (hT _ mw_77) (fun _ h9 => h9) rfl dMa_answerCall_18 ?_
        refine lv_iload hx hb dMa_answerCall_21 (lv_at hl 0 rfl) ?_
        refine va_lald hx hb hK hP 1 1 rfl rfl (an_in hr1 c1) dMa_answerCall_23 ?_
        refine lv_ladd hx hb dMa_answerCall_24 ?_
        refine lv_lstore_n (lv' := [(2, .long (((31 : Int64) * v) + (g r9.toNatClampNeg))), (4, .int r9), (0, .ref h4), (1, .int a0)]) hx hb dMa_answerCall_25 rfl hl (by decide) rfl (fun ls hl => ?_)
        refine lv_aload_n hx hb dMa_answerCall_26 rfl (lv_at hl 2 rfl) ?_
        refine va_get (D := G) (ci := 2) (v := .ref h5) (C := RMa) (T := TMa) (N := 2) hx hb hT inMa hown hK hP 0 rfl rfl 0 (by decide) (hT _ mw_77) (fun _ h9 => h9) rfl dMa_answerCall_27 ?_
        refine lv_iload hx hb dMa_answerCall_30 (lv_at hl 1 rfl) ?_
        refine lv_lconst (v := (0 : Int64)) hx hb dMa_answerCall_32 (by decide) ?_
        refine va_last hx hb hK hP hD hS 1 1 rfl rfl (an_in hr1 c1) dMa_answerCall_33 (fun H locs hP hD hS => ?_)
        have hP : va_P G vwCl [(h4, .inr (2, [.ref h5, .ref h2])), (h5, .inl (cL, 16, .inr (.inl (vp_updL g r9.toNatClampNeg (0 : Int64)))))] H := hP
        have hD : va_D A [(h4, .inr (2, [.ref h5, .ref h2])), (h5, .inl (cL, 16, .inr (.inl (vp_updL g r9.toNatClampNeg (0 : Int64)))))] := hD
        refine lv_iinc (v := (r9 + (1 : Int32))) (lv' := [(4, .int (r9 + (1 : Int32))), (2, .long (((31 : Int64) * v) + (g r9.toNatClampNeg))), (0, .ref h4), (1, .int a0)]) hx hb dMa_answerCall_34 hl (k := 1) rfl (by first | rfl | decide) (by decide) rfl (fun ls hl => ?_)
        refine lv_goto (tgt := 6) hx hb dMa_answerCall_37 (by decide) ?_
        exact ih (r9 + (1 : Int32)) (((31 : Int64) * v) + (g r9.toNatClampNeg)) (vp_updL g r9.toNatClampNeg (0 : Int64)) (an_b1 hr1 c1) (an_b2 hr1 c1 hM) (by rw [hE, l_Ma_answerCall_6, if_neg c1]) _ hP hD _ hS ls (lv_sub hl [0, 1, 2, 3] rfl)
  exact loop 6 (1 : Int32) ((a0).toInt64) rf (by decide) (by decide) rfl _ hP hD _ hS ls (lv_sub hl [0, 1, 2, 3] rfl)

def f_Ma_read (rf : Nat → Int64) (mf : Nat → Int32) (a0 : Int64) : Bool × (Nat → Int64) :=
  if (f_Me_holds ((f_Ma_y rf a0) + ((f_Fi_offset a0).toInt64)) (f_Fi_size a0)) = true then
    if (f_Fi_mode a0) = (4 : Int32) then
      (true, (vp_updL rf (f_Fi_target a0).toNatClampNeg (f_Ar_signed (f_Me_read mf ((f_Ma_y rf a0) + ((f_Fi_offset a0).toInt64)) (f_Fi_size a0)) ((8 : Int32) * (f_Fi_size a0)))))
    else
      (true, (vp_updL rf (f_Fi_target a0).toNatClampNeg (f_Me_read mf ((f_Ma_y rf a0) + ((f_Fi_offset a0).toInt64)) (f_Fi_size a0))))
  else
    (false, rf)
set_option maxHeartbeats 4000000 in
set_option maxRecDepth 100000 in
theorem c_Ma_read (l : Launch) (G : va_G) (cB cL : ClassId) (Hp : Heap) (h4 : Nat) (h5 : Nat) (rf : Nat → Int64) (h2 : Nat) (h3 : Nat) (mf : Nat → Int32) (a0 : Int64) (hP : va_P G vwCl [(h4, .inr (2, [.ref h5, .ref h2])), (h5, .inl (cL, 16, .inr (.inl rf))), (h2, .inr (1, [.ref h3])), (h3, .inl (cB, 4096, .inl mf))] Hp) (hD : va_D (fun _ => True) [(h4, .inr (2, [.ref h5, .ref h2])), (h5, .inl (cL, 16, .inr (.inl rf))), (h2, .inr (1, [.ref h3])), (h3, .inl (cB, 4096, .inl mf))]) : Met l yMa_read wsMa_read ({ frames := 2, cells := 0, slots := 0, locals := 52 }) (va_Pc [.ref h4, .long a0] (fun U => U.heap = Hp ∧ va_K G vwCl [(cB, .byte), (cL, .long)] U)) (va_Qi (fun (r : Int32) (u : (Nat → Int64)) => r = bI ((f_Ma_read rf mf a0)).1 ∧ u = ((f_Ma_read rf mf a0)).2) (fun (u : (Nat → Int64)) t => va_P G vwCl [(h4, .inr (2, [.ref h5, .ref h2])), (h5, .inl (cL, 16, .inr (.inl (u)))), (h2, .inr (1, [.ref h3])), (h3, .inl (cB, 4096, .inl mf))] t.heap ∧ va_D (va_A [(h4, .inr (2, [.ref h5, .ref h2])), (h5, .inl (cL, 16, .inr (.inl rf))), (h2, .inr (1, [.ref h3])), (h3, .inl (cB, 4096, .inl mf))] Hp.size) [(h4, .inr (2, [.ref h5, .ref h2])), (h5, .inl (cL, 16, .inr (.inl (u)))), (h2, .inr (1, [.ref h3])), (h3, .inl (cB, 4096, .inl mf))]) (va_A [(h4, .inr (2, [.ref h5, .ref h2])), (h5, .inl (cL, 16, .inr (.inl rf))), (h2, .inr (1, [.ref h3])), (h3, .inl (cB, 4096, .inl mf))] Hp.size)) 0 0 (va_A [(h4, .inr (2, [.ref h5, .ref h2])), (h5, .inl (cL, 16, .inr (.inl rf))), (h2, .inr (1, [.ref h3])), (h3, .inl (cB, 4096, .inl mf))] Hp.size) := by
  refine Met.ofW (cc := cMa_read) (maxL := 8) (ret := (some .boolean)) (by decide) rfl ?_
  intro p e s m args below meth c s₁ B hml hv
  obtain ⟨rfl, rfl, hK⟩ := hv
  have hx := B.exec
  have hb := B.bytes
  have hr := B.returns
  have hT : ∀ w ∈ tB, w.before _ s = true := fun w h => atoms_spec (ws := wsMa_read) B.pre w (List.mem_cons_of_mem _ h)
  have hown : s.vm.findClass "CompiledProgram$Machine" = some m.cls := findClass_of_methodNamed B.named
  have hlocks := B.notSynchronized
  have hD := hD.self (sz := s.heap.size)
  generalize hAe : va_A [(h4, .inr (2, [.ref h5, .ref h2])), (h5, .inl (cL, 16, .inr (.inl rf))), (h2, .inr (1, [.ref h3])), (h3, .inl (cB, 4096, .inl mf))] s.heap.size = A at hD ⊢
  have hA : ∀ q : Nat, s.heap.size ≤ q → A q := fun q h => by rw [← hAe]; exact Or.inr h
  have hS : va_S A s.heap s.heap [] := va_S.rf
  have hl := lv_entry ([.ref h4, .long a0]) (n := 8) (Nat.le_of_ble_eq_true rfl)
  rw [lg_entry_eq]
  generalize (lg_sl ([.ref h4, .long a0]) ++ List.replicate (8 - (lg_sl ([.ref h4, .long a0])).length) Slot.unset).toArray = ls at hl ⊢
  have hl : lv_has ls 8 [(0, .ref h4), (1, .long a0)] := hl
  refine lv_lload_n hx hb dMa_read_0 rfl (lv_at hl 1 rfl) ?_
  refine va_calli (va_runS (As := [.long a0]) (rest := []) ⟨hx, hb, hml, hown, hT⟩ (c_Fi_size l s.heap a0) (va_cwS 1 hT (gB_SV mw_464 mw_162 mw_16 mw_163) rfl rfl rfl (by decide +kernel) ⟨Nat.le_of_ble_eq_true rfl, Nat.le_of_ble_eq_true rfl⟩) ⟨fun _ _ _ _ q => q, fun U hU hW => ⟨rfl, hU⟩⟩ rfl rfl hl.1 rfl (lv_room (Nat.le_of_ble_eq_true rfl)) dMa_read_1 ⟨Nat.zero_le _, Nat.zero_le _⟩) hS (fun _ _ h => h.elim) (fun _ h => h.elim) (fun r u t H1 locs ht hvm hw hB hz8 hk8 hS => ?_)
  obtain rfl : s.heap = H1 := hB.symm.trans ht
  subst hw
  refine lv_istore_n (lv' := [(3, .int (f_Fi_size a0)), (0, .ref h4), (1, .long a0)]) hx hb dMa_read_4 rfl hl (by decide) rfl (fun ls hl => ?_)
  refine lv_aload_n hx hb dMa_read_5 rfl (lv_at hl 1 rfl) ?_
  refine lv_lload_n hx hb dMa_read_6 rfl (lv_at hl 2 rfl) ?_
  have hPc := hP.sub (ws' := [(h4, .inr (2, [.ref h5, .ref h2])), (h5, .inl (cL, 16, .inr (.inl rf)))]) [0, 1] rfl
  refine va_calll (va_runV (As := [.long a0]) (rest := []) ⟨hx, hb, hml, hown, hT⟩ (c_Ma_y l G cB cL s.heap h4 h5 h2 rf a0 hPc ) (cwV 1 hT (gB_V mw_465 mw_466 mw_467 mw_4 mw_468) rfl rfl rfl (by decide +kernel) ⟨Nat.le_of_ble_eq_true rfl, Nat.le_of_ble_eq_true rfl⟩) ⟨fun a U g mk q => ⟨q.1, q.2.1, va_K.moved (u := U) (U := U.calling g mk a) (Vm.Alike.refl U.vm) q.2.2⟩, va_recv hK hPc (ci := 2) (q0 := 0) rfl rfl, fun U hU hW => ⟨rfl, hU, va_K.moved hW.alike hK⟩⟩ rfl rfl hl.1 rfl (lv_room (Nat.le_of_ble_eq_true rfl)) dMa_read_7 ⟨Nat.zero_le _, Nat.zero_le _⟩) hS (fun _ _ h => h.elim) (fun _ h => h.elim) (fun r u t H1 locs ht hvm hw hB hz8 hk8 hS => ?_)
  obtain rfl : s.heap = H1 := hB.symm.trans ht
  subst hw
  refine lv_lload_n hx hb dMa_read_10 rfl (lv_at hl 2 rfl) ?_
  refine va_calli (va_runS (As := [.long a0]) (rest := [.long (f_Ma_y rf a0)]) ⟨hx, hb, hml, hown, hT⟩ (c_Fi_offset l s.heap a0) (va_cwS 1 hT (gB_SV mw_470 mw_150 mw_16 mw_151) rfl rfl rfl (by decide +kernel) ⟨Nat.le_of_ble_eq_true rfl, Nat.le_of_ble_eq_true rfl⟩) ⟨fun _ _ _ _ q => q, fun U hU hW => ⟨rfl, hU⟩⟩ rfl rfl hl.1 rfl (lv_room (Nat.le_of_ble_eq_true rfl)) dMa_read_11 ⟨Nat.zero_le _, Nat.zero_le _⟩) hS (fun _ _ h => h.elim) (fun _ h => h.elim) (fun r u t H1 locs ht hvm hw hB hz8 hk8 hS => ?_)
  obtain rfl : s.heap = H1 := hB.symm.trans ht
  subst hw
  refine lv_i2l hx hb dMa_read_14 rfl ?_
  refine lv_ladd hx hb dMa_read_15 ?_
  refine lv_lstore (lv' := [(4, .long ((f_Ma_y rf a0) + ((f_Fi_offset a0).toInt64))), (3, .int (f_Fi_size a0)), (0, .ref h4), (1, .long a0)]) hx hb dMa_read_16 hl (by decide) rfl (fun ls hl => ?_)
  refine lv_aload_n hx hb dMa_read_18 rfl (lv_at hl 2 rfl) ?_
  refine va_get (D := G) (ci := 2) (v := .ref h2) (C := RMa) (T := TMa) (N := 2) hx hb hT inMa hown hK hP 0 rfl rfl 1 (by decide) (hT _ mw_79) (fun _ h9 => h9) rfl dMa_read_19 ?_
  refine lv_lload hx hb dMa_read_22 (lv_at hl 0 rfl) ?_
  refine lv_iload_n hx hb dMa_read_24 rfl (lv_at hl 1 rfl) ?_
  have hPc := hP.sub (ws' := [(h2, .inr (1, [.ref h3])), (h3, .inl (cB, 4096, .inl mf))]) [2, 3] rfl
  refine va_calli (va_runV (As := [.long ((f_Ma_y rf a0) + ((f_Fi_offset a0).toInt64)), .int (f_Fi_size a0)]) (rest := []) ⟨hx, hb, hml, hown, hT⟩ (c_Me_holds l G cB cL s.heap h2 h3 mf ((f_Ma_y rf a0) + ((f_Fi_offset a0).toInt64)) (f_Fi_size a0) hPc ) (cwV 2 hT (gB_V mw_471 mw_414 mw_415 mw_5 mw_416) rfl rfl rfl (by decide +kernel) ⟨Nat.le_of_ble_eq_true rfl, Nat.le_of_ble_eq_true rfl⟩) ⟨fun a U g mk q => ⟨q.1, q.2.1, va_K.moved (u := U) (U := U.calling g mk a) (Vm.Alike.refl U.vm) q.2.2⟩, va_recv hK hPc (ci := 1) (q0 := 0) rfl rfl, fun U hU hW => ⟨rfl, hU, va_K.moved hW.alike hK⟩⟩ rfl rfl hl.1 rfl (lv_room (Nat.le_of_ble_eq_true rfl)) dMa_read_25 ⟨Nat.zero_le _, Nat.zero_le _⟩) hS (fun _ _ h => h.elim) (fun _ h => h.elim) (fun r u t H1 locs ht hvm hw hB hz8 hk8 hS => ?_)
  obtain rfl : s.heap = H1 := hB.symm.trans ht
  subst hw
  refine lv_if_ne (tgt := 33) hx hb dMa_read_28 (by decide) (fun c1 => ?_) (fun c1 => ?_)
  · have c1 := bI_n c1
    refine lv_aload_n hx hb dMa_read_33 rfl (lv_at hl 2 rfl) ?_
    refine va_get (D := G) (ci := 2) (v := .ref h2) (C := RMa) (T := TMa) (N := 2) hx hb hT inMa hown hK hP 0 rfl rfl 1 (by decide) (hT _ mw_79) (fun _ h9 => h9) rfl dMa_read_34 ?_
    refine lv_lload hx hb dMa_read_37 (lv_at hl 0 rfl) ?_
    refine lv_iload_n hx hb dMa_read_39 rfl (lv_at hl 1 rfl) ?_
    have hPc := hP.sub (ws' := [(h2, .inr (1, [.ref h3])), (h3, .inl (cB, 4096, .inl mf))]) [2, 3] rfl
    refine va_calll (va_runV (As := [.long ((f_Ma_y rf a0) + ((f_Fi_offset a0).toInt64)), .int (f_Fi_size a0)]) (rest := []) ⟨hx, hb, hml, hown, hT⟩ (c_Me_read l G cB cL s.heap h2 h3 mf ((f_Ma_y rf a0) + ((f_Fi_offset a0).toInt64)) (f_Fi_size a0) hPc (size_ok a0)) (cwV 2 hT (gB_V mw_472 mw_432 mw_433 mw_5 mw_434) rfl rfl rfl (by decide +kernel) ⟨Nat.le_of_ble_eq_true rfl, Nat.le_of_ble_eq_true rfl⟩) ⟨fun a U g mk q => ⟨q.1, q.2.1, va_K.moved (u := U) (U := U.calling g mk a) (Vm.Alike.refl U.vm) q.2.2⟩, va_recv hK hPc (ci := 1) (q0 := 0) rfl rfl, fun U hU hW => ⟨rfl, hU, va_K.moved hW.alike hK⟩⟩ rfl rfl hl.1 rfl (lv_room (Nat.le_of_ble_eq_true rfl)) dMa_read_40 ⟨Nat.zero_le _, Nat.zero_le _⟩) hS (fun _ _ h => h.elim) (fun _ h => h.elim) (fun r u t H1 locs ht hvm hw hB hz8 hk8 hS => ?_)
    obtain rfl : s.heap = H1 := hB.symm.trans ht
    subst hw
    refine lv_lstore (lv' := [(6, .long (f_Me_read mf ((f_Ma_y rf a0) + ((f_Fi_offset a0).toInt64)) (f_Fi_size a0))), (4, .long ((f_Ma_y rf a0) + ((f_Fi_offset a0).toInt64))), (3, .int (f_Fi_size a0)), (0, .ref h4), (1, .long a0)]) hx hb dMa_read_43 hl (by decide) rfl (fun ls hl => ?_)
    refine lv_aload_n hx hb dMa_read_45 rfl (lv_at hl 3 rfl) ?_
    refine va_get (D := G) (ci := 2) (v := .ref h5) (C := RMa) (T := TMa) (N := 2) hx hb hT inMa hown hK hP 0 rfl rfl 0 (by decide) (hT _ mw_77) (fun _ h9 => h9) rfl dMa_read_46 ?_
    refine lv_lload_n hx hb dMa_read_49 rfl (lv_at hl 4 rfl) ?_
    refine va_calli (va_runS (As := [.long a0]) (rest := [.ref h5]) ⟨hx, hb, hml, hown, hT⟩ (c_Fi_target l s.heap a0) (va_cwS 1 hT (gB_SV mw_456 mw_147 mw_16 mw_148) rfl rfl rfl (by decide +kernel) ⟨Nat.le_of_ble_eq_true rfl, Nat.le_of_ble_eq_true rfl⟩) ⟨fun _ _ _ _ q => q, fun U hU hW => ⟨rfl, hU⟩⟩ rfl rfl hl.1 rfl (lv_room (Nat.le_of_ble_eq_true rfl)) dMa_read_50 ⟨Nat.zero_le _, Nat.zero_le _⟩) hS (fun _ _ h => h.elim) (fun _ h => h.elim) (fun r u t H1 locs ht hvm hw hB hz8 hk8 hS => ?_)
    obtain rfl : s.heap = H1 := hB.symm.trans ht
    subst hw
    refine lv_lload_n hx hb dMa_read_53 rfl (lv_at hl 4 rfl) ?_
    refine va_calli (va_runS (As := [.long a0]) (rest := [.int (f_Fi_target a0), .ref h5]) ⟨hx, hb, hml, hown, hT⟩ (c_Fi_mode l s.heap a0) (va_cwS 1 hT (gB_SV mw_473 mw_159 mw_16 mw_160) rfl rfl rfl (by decide +kernel) ⟨Nat.le_of_ble_eq_true rfl, Nat.le_of_ble_eq_true rfl⟩) ⟨fun _ _ _ _ q => q, fun U hU hW => ⟨rfl, hU⟩⟩ rfl rfl hl.1 rfl (lv_room (Nat.le_of_ble_eq_true rfl)) dMa_read_54 ⟨Nat.zero_le _, Nat.zero_le _⟩) hS (fun _ _ h => h.elim) (fun _ h => h.elim) (fun r u t H1 locs ht hvm hw hB hz8 hk8 hS => ?_)
    obtain rfl : s.heap = H1 := hB.symm.trans ht
    subst hw
    refine lv_iconst (v := (4 : Int32)) hx hb dMa_read_57 (by decide) ?_
    refine lv_icmp_ne (tgt := 73) hx hb dMa_read_58 (by decide) (fun c2 => ?_) (fun c2 => ?_)
    · skip
      refine lv_lload hx hb dMa_read_73 (lv_at hl 0 rfl) ?_
      refine va_last hx hb hK hP hD hS 1 1 rfl rfl (in_Fi_target a0) dMa_read_75 (fun H locs hP hD hS => ?_)
      have hP : va_P G vwCl [(h4, .inr (2, [.ref h5, .ref h2])), (h5, .inl (cL, 16, .inr (.inl (vp_updL rf (f_Fi_target a0).toNatClampNeg (f_Me_read mf ((f_Ma_y rf a0) + ((f_Fi_offset a0).toInt64)) (f_Fi_size a0)))))), (h2, .inr (1, [.ref h3])), (h3, .inl (cB, 4096, .inl mf))] H := hP
      have hD : va_D A [(h4, .inr (2, [.ref h5, .ref h2])), (h5, .inl (cL, 16, .inr (.inl (vp_updL rf (f_Fi_target a0).toNatClampNeg (f_Me_read mf ((f_Ma_y rf a0) + ((f_Fi_offset a0).toInt64)) (f_Fi_size a0)))))), (h2, .inr (1, [.ref h3])), (h3, .inl (cB, 4096, .inl mf))] := hD
      refine lv_iconst (v := (1 : Int32)) hx hb dMa_read_76 (by decide) ?_
      have hP9 := hP.sub (ws' := [(h4, .inr (2, [.ref h5, .ref h2])), (h5, .inl (cL, 16, .inr (.inl (vp_updL rf (f_Fi_target a0).toNatClampNeg (f_Me_read mf ((f_Ma_y rf a0) + ((f_Fi_offset a0).toInt64)) (f_Fi_size a0)))))), (h2, .inr (1, [.ref h3])), (h3, .inl (cB, 4096, .inl mf))]) [0, 1, 2, 3] rfl
      have hD9 := hD.sub (ws' := [(h4, .inr (2, [.ref h5, .ref h2])), (h5, .inl (cL, 16, .inr (.inl (vp_updL rf (f_Fi_target a0).toNatClampNeg (f_Me_read mf ((f_Ma_y rf a0) + ((f_Fi_offset a0).toInt64)) (f_Fi_size a0)))))), (h2, .inr (1, [.ref h3])), (h3, .inl (cB, 4096, .inl mf))]) [0, 1, 2, 3] (by decide) rfl
      exact W.zret (v := (1 : Int32)) hx hb hr rfl (fun t ht hW => ⟨⟨(1 : Int32), ((vp_updL rf (f_Fi_target a0).toNatClampNeg (f_Me_read mf ((f_Ma_y rf a0) + ((f_Fi_offset a0).toInt64)) (f_Fi_size a0)))), rfl, ⟨(by unfold f_Ma_read; rw [if_pos c1, if_neg c2]; try rfl), (by unfold f_Ma_read; rw [if_pos c1, if_neg c2]; try rfl)⟩, by rw [ht]; exact hP9, hD9⟩, hS.F ht⟩) hS.2.2 dMa_read_77
    · skip
      refine lv_lload hx hb dMa_read_61 (lv_at hl 0 rfl) ?_
      refine lv_bipush (v := (8 : Int32)) hx hb dMa_read_63 (by decide) ?_
      refine lv_iload_n hx hb dMa_read_65 rfl (lv_at hl 2 rfl) ?_
      refine lv_imul hx hb dMa_read_66 ?_
      refine va_calll (va_runS (As := [.long (f_Me_read mf ((f_Ma_y rf a0) + ((f_Fi_offset a0).toInt64)) (f_Fi_size a0)), .int ((8 : Int32) * (f_Fi_size a0))]) (rest := [.int (f_Fi_target a0), .ref h5]) ⟨hx, hb, hml, hown, hT⟩ (c_Ar_signed l s.heap (f_Me_read mf ((f_Ma_y rf a0) + ((f_Fi_offset a0).toInt64)) (f_Fi_size a0)) ((8 : Int32) * (f_Fi_size a0))) (va_cwS 2 hT (gB_SV mw_474 mw_475 mw_19 mw_476) rfl rfl rfl (by decide +kernel) ⟨Nat.le_of_ble_eq_true rfl, Nat.le_of_ble_eq_true rfl⟩) ⟨fun _ _ _ _ q => q, fun U hU hW => ⟨rfl, hU⟩⟩ rfl rfl hl.1 rfl (lv_room (Nat.le_of_ble_eq_true rfl)) dMa_read_67 ⟨Nat.zero_le _, Nat.zero_le _⟩) hS (fun _ _ h => h.elim) (fun _ h => h.elim) (fun r u t H1 locs ht hvm hw hB hz8 hk8 hS => ?_)
      obtain rfl : s.heap = H1 := hB.symm.trans ht
      subst hw
      refine lv_goto (tgt := 75) hx hb dMa_read_70 (by decide) ?_
      refine va_last hx hb hK hP hD hS 1 1 rfl rfl (in_Fi_target a0) dMa_read_75 (fun H locs hP hD hS => ?_)
      have hP : va_P G vwCl [(h4, .inr (2, [.ref h5, .ref h2])), (h5, .inl (cL, 16, .inr (.inl (vp_updL rf (f_Fi_target a0).toNatClampNeg (f_Ar_signed (f_Me_read mf ((f_Ma_y rf a0) + ((f_Fi_offset a0).toInt64)) (f_Fi_size a0)) ((8 : Int32) * (f_Fi_size a0))))))), (h2, .inr (1, [.ref h3])), (h3, .inl (cB, 4096, .inl mf))] H := hP
      have hD : va_D A [(h4, .inr (2, [.ref h5, .ref h2])), (h5, .inl (cL, 16, .inr (.inl (vp_updL rf (f_Fi_target a0).toNatClampNeg (f_Ar_signed (f_Me_read mf ((f_Ma_y rf a0) + ((f_Fi_offset a0).toInt64)) (f_Fi_size a0)) ((8 : Int32) * (f_Fi_size a0))))))), (h2, .inr (1, [.ref h3])), (h3, .inl (cB, 4096, .inl mf))] := hD
      refine lv_iconst (v := (1 : Int32)) hx hb dMa_read_76 (by decide) ?_
      have hP9 := hP.sub (ws' := [(h4, .inr (2, [.ref h5, .ref h2])), (h5, .inl (cL, 16, .inr (.inl (vp_updL rf (f_Fi_target a0).toNatClampNeg (f_Ar_signed (f_Me_read mf ((f_Ma_y rf a0) + ((f_Fi_offset a0).toInt64)) (f_Fi_size a0)) ((8 : Int32) * (f_Fi_size a0))))))), (h2, .inr (1, [.ref h3])), (h3, .inl (cB, 4096, .inl mf))]) [0, 1, 2, 3] rfl
      have hD9 := hD.sub (ws' := [(h4, .inr (2, [.ref h5, .ref h2])), (h5, .inl (cL, 16, .inr (.inl (vp_updL rf (f_Fi_target a0).toNatClampNeg (f_Ar_signed (f_Me_read mf ((f_Ma_y rf a0) + ((f_Fi_offset a0).toInt64)) (f_Fi_size a0)) ((8 : Int32) * (f_Fi_size a0))))))), (h2, .inr (1, [.ref h3])), (h3, .inl (cB, 4096, .inl mf))]) [0, 1, 2, 3] (by decide) rfl
      exact W.zret (v := (1 : Int32)) hx hb hr rfl (fun t ht hW => ⟨⟨(1 : Int32), ((vp_updL rf (f_Fi_target a0).toNatClampNeg (f_Ar_signed (f_Me_read mf ((f_Ma_y rf a0) + ((f_Fi_offset a0).toInt64)) (f_Fi_size a0)) ((8 : Int32) * (f_Fi_size a0))))), rfl, ⟨(by unfold f_Ma_read; rw [if_pos c1, if_pos c2]; try rfl), (by unfold f_Ma_read; rw [if_pos c1, if_pos c2]; try rfl)⟩, by rw [ht]; exact hP9, hD9⟩, hS.F ht⟩) hS.2.2 dMa_read_77
  · have c1 := bI_z c1
    refine lv_iconst (v := (0 : Int32)) hx hb dMa_read_31 (by decide) ?_
    have hP9 := hP.sub (ws' := [(h4, .inr (2, [.ref h5, .ref h2])), (h5, .inl (cL, 16, .inr (.inl rf))), (h2, .inr (1, [.ref h3])), (h3, .inl (cB, 4096, .inl mf))]) [0, 1, 2, 3] rfl
    have hD9 := hD.sub (ws' := [(h4, .inr (2, [.ref h5, .ref h2])), (h5, .inl (cL, 16, .inr (.inl rf))), (h2, .inr (1, [.ref h3])), (h3, .inl (cB, 4096, .inl mf))]) [0, 1, 2, 3] (by decide) rfl
    exact W.zret (v := (0 : Int32)) hx hb hr rfl (fun t ht hW => ⟨⟨(0 : Int32), (rf), rfl, ⟨(by unfold f_Ma_read; rw [if_neg c1]; try rfl), (by unfold f_Ma_read; rw [if_neg c1]; try rfl)⟩, by rw [ht]; exact hP9, hD9⟩, hS.F ht⟩) hS.2.2 dMa_read_32

def f_Ma_write (rf : Nat → Int64) (mf : Nat → Int32) (a0 : Int64) (a1 : Int64) : Bool × (Nat → Int32) :=
  if (f_Me_holds ((f_Ma_x rf a0) + ((f_Fi_offset a0).toInt64)) (f_Fi_size a0)) = true then
    (true, ((f_Me_write mf ((f_Ma_x rf a0) + ((f_Fi_offset a0).toInt64)) (f_Fi_size a0) a1)))
  else
    (false, mf)
set_option maxHeartbeats 4000000 in
set_option maxRecDepth 100000 in
theorem c_Ma_write (l : Launch) (G : va_G) (cB cL : ClassId) (Hp : Heap) (h4 : Nat) (h5 : Nat) (rf : Nat → Int64) (h2 : Nat) (h3 : Nat) (mf : Nat → Int32) (a0 : Int64) (a1 : Int64) (hP : va_P G vwCl [(h4, .inr (2, [.ref h5, .ref h2])), (h5, .inl (cL, 16, .inr (.inl rf))), (h2, .inr (1, [.ref h3])), (h3, .inl (cB, 4096, .inl mf))] Hp) (hD : va_D (fun _ => True) [(h4, .inr (2, [.ref h5, .ref h2])), (h5, .inl (cL, 16, .inr (.inl rf))), (h2, .inr (1, [.ref h3])), (h3, .inl (cB, 4096, .inl mf))]) : Met l yMa_write wsMa_write ({ frames := 2, cells := 0, slots := 0, locals := 52 }) (va_Pc [.ref h4, .long a0, .long a1] (fun U => U.heap = Hp ∧ va_K G vwCl [(cB, .byte), (cL, .long)] U)) (va_Qi (fun (r : Int32) (u : (Nat → Int32)) => r = bI ((f_Ma_write rf mf a0 a1)).1 ∧ u = ((f_Ma_write rf mf a0 a1)).2) (fun (u : (Nat → Int32)) t => va_P G vwCl [(h4, .inr (2, [.ref h5, .ref h2])), (h5, .inl (cL, 16, .inr (.inl rf))), (h2, .inr (1, [.ref h3])), (h3, .inl (cB, 4096, .inl (u)))] t.heap ∧ va_D (va_A [(h4, .inr (2, [.ref h5, .ref h2])), (h5, .inl (cL, 16, .inr (.inl rf))), (h2, .inr (1, [.ref h3])), (h3, .inl (cB, 4096, .inl mf))] Hp.size) [(h4, .inr (2, [.ref h5, .ref h2])), (h5, .inl (cL, 16, .inr (.inl rf))), (h2, .inr (1, [.ref h3])), (h3, .inl (cB, 4096, .inl (u)))]) (va_A [(h4, .inr (2, [.ref h5, .ref h2])), (h5, .inl (cL, 16, .inr (.inl rf))), (h2, .inr (1, [.ref h3])), (h3, .inl (cB, 4096, .inl mf))] Hp.size)) 0 0 (va_A [(h4, .inr (2, [.ref h5, .ref h2])), (h5, .inl (cL, 16, .inr (.inl rf))), (h2, .inr (1, [.ref h3])), (h3, .inl (cB, 4096, .inl mf))] Hp.size) := by
  refine Met.ofW (cc := cMa_write) (maxL := 8) (ret := (some .boolean)) (by decide) rfl ?_
  intro p e s m args below meth c s₁ B hml hv
  obtain ⟨rfl, rfl, hK⟩ := hv
  have hx := B.exec
  have hb := B.bytes
  have hr := B.returns
  have hT : ∀ w ∈ tB, w.before _ s = true := fun w h => atoms_spec (ws := wsMa_write) B.pre w (List.mem_cons_of_mem _ h)
  have hown : s.vm.findClass "CompiledProgram$Machine" = some m.cls := findClass_of_methodNamed B.named
  have hlocks := B.notSynchronized
  have hD := hD.self (sz := s.heap.size)
  generalize hAe : va_A [(h4, .inr (2, [.ref h5, .ref h2])), (h5, .inl (cL, 16, .inr (.inl rf))), (h2, .inr (1, [.ref h3])), (h3, .inl (cB, 4096, .inl mf))] s.heap.size = A at hD ⊢
  have hA : ∀ q : Nat, s.heap.size ≤ q → A q := fun q h => by rw [← hAe]; exact Or.inr h
  have hS : va_S A s.heap s.heap [] := va_S.rf
  have hl := lv_entry ([.ref h4, .long a0, .long a1]) (n := 8) (Nat.le_of_ble_eq_true rfl)
  rw [lg_entry_eq]
  generalize (lg_sl ([.ref h4, .long a0, .long a1]) ++ List.replicate (8 - (lg_sl ([.ref h4, .long a0, .long a1])).length) Slot.unset).toArray = ls at hl ⊢
  have hl : lv_has ls 8 [(0, .ref h4), (1, .long a0), (3, .long a1)] := hl
  refine lv_lload_n hx hb dMa_write_0 rfl (lv_at hl 1 rfl) ?_
  refine va_calli (va_runS (As := [.long a0]) (rest := []) ⟨hx, hb, hml, hown, hT⟩ (c_Fi_size l s.heap a0) (va_cwS 1 hT (gB_SV mw_464 mw_162 mw_16 mw_163) rfl rfl rfl (by decide +kernel) ⟨Nat.le_of_ble_eq_true rfl, Nat.le_of_ble_eq_true rfl⟩) ⟨fun _ _ _ _ q => q, fun U hU hW => ⟨rfl, hU⟩⟩ rfl rfl hl.1 rfl (lv_room (Nat.le_of_ble_eq_true rfl)) dMa_write_1 ⟨Nat.zero_le _, Nat.zero_le _⟩) hS (fun _ _ h => h.elim) (fun _ h => h.elim) (fun r u t H1 locs ht hvm hw hB hz8 hk8 hS => ?_)
  obtain rfl : s.heap = H1 := hB.symm.trans ht
  subst hw
  refine lv_istore (lv' := [(5, .int (f_Fi_size a0)), (0, .ref h4), (1, .long a0), (3, .long a1)]) hx hb dMa_write_4 hl (by decide) rfl (fun ls hl => ?_)
  refine lv_aload_n hx hb dMa_write_6 rfl (lv_at hl 1 rfl) ?_
  refine lv_lload_n hx hb dMa_write_7 rfl (lv_at hl 2 rfl) ?_
  have hPc := hP.sub (ws' := [(h4, .inr (2, [.ref h5, .ref h2])), (h5, .inl (cL, 16, .inr (.inl rf)))]) [0, 1] rfl
  refine va_calll (va_runV (As := [.long a0]) (rest := []) ⟨hx, hb, hml, hown, hT⟩ (c_Ma_x l G cB cL s.heap h4 h5 h2 rf a0 hPc ) (cwV 1 hT (gB_V mw_481 mw_482 mw_483 mw_4 mw_484) rfl rfl rfl (by decide +kernel) ⟨Nat.le_of_ble_eq_true rfl, Nat.le_of_ble_eq_true rfl⟩) ⟨fun a U g mk q => ⟨q.1, q.2.1, va_K.moved (u := U) (U := U.calling g mk a) (Vm.Alike.refl U.vm) q.2.2⟩, va_recv hK hPc (ci := 2) (q0 := 0) rfl rfl, fun U hU hW => ⟨rfl, hU, va_K.moved hW.alike hK⟩⟩ rfl rfl hl.1 rfl (lv_room (Nat.le_of_ble_eq_true rfl)) dMa_write_8 ⟨Nat.zero_le _, Nat.zero_le _⟩) hS (fun _ _ h => h.elim) (fun _ h => h.elim) (fun r u t H1 locs ht hvm hw hB hz8 hk8 hS => ?_)
  obtain rfl : s.heap = H1 := hB.symm.trans ht
  subst hw
  refine lv_lload_n hx hb dMa_write_11 rfl (lv_at hl 2 rfl) ?_
  refine va_calli (va_runS (As := [.long a0]) (rest := [.long (f_Ma_x rf a0)]) ⟨hx, hb, hml, hown, hT⟩ (c_Fi_offset l s.heap a0) (va_cwS 1 hT (gB_SV mw_470 mw_150 mw_16 mw_151) rfl rfl rfl (by decide +kernel) ⟨Nat.le_of_ble_eq_true rfl, Nat.le_of_ble_eq_true rfl⟩) ⟨fun _ _ _ _ q => q, fun U hU hW => ⟨rfl, hU⟩⟩ rfl rfl hl.1 rfl (lv_room (Nat.le_of_ble_eq_true rfl)) dMa_write_12 ⟨Nat.zero_le _, Nat.zero_le _⟩) hS (fun _ _ h => h.elim) (fun _ h => h.elim) (fun r u t H1 locs ht hvm hw hB hz8 hk8 hS => ?_)
  obtain rfl : s.heap = H1 := hB.symm.trans ht
  subst hw
  refine lv_i2l hx hb dMa_write_15 rfl ?_
  refine lv_ladd hx hb dMa_write_16 ?_
  refine lv_lstore (lv' := [(6, .long ((f_Ma_x rf a0) + ((f_Fi_offset a0).toInt64))), (5, .int (f_Fi_size a0)), (0, .ref h4), (1, .long a0), (3, .long a1)]) hx hb dMa_write_17 hl (by decide) rfl (fun ls hl => ?_)
  refine lv_aload_n hx hb dMa_write_19 rfl (lv_at hl 2 rfl) ?_
  refine va_get (D := G) (ci := 2) (v := .ref h2) (C := RMa) (T := TMa) (N := 2) hx hb hT inMa hown hK hP 0 rfl rfl 1 (by decide) (hT _ mw_79) (fun _ h9 => h9) rfl dMa_write_20 ?_
  refine lv_lload hx hb dMa_write_23 (lv_at hl 0 rfl) ?_
  refine lv_iload hx hb dMa_write_25 (lv_at hl 1 rfl) ?_
  have hPc := hP.sub (ws' := [(h2, .inr (1, [.ref h3])), (h3, .inl (cB, 4096, .inl mf))]) [2, 3] rfl
  refine va_calli (va_runV (As := [.long ((f_Ma_x rf a0) + ((f_Fi_offset a0).toInt64)), .int (f_Fi_size a0)]) (rest := []) ⟨hx, hb, hml, hown, hT⟩ (c_Me_holds l G cB cL s.heap h2 h3 mf ((f_Ma_x rf a0) + ((f_Fi_offset a0).toInt64)) (f_Fi_size a0) hPc ) (cwV 2 hT (gB_V mw_471 mw_414 mw_415 mw_5 mw_416) rfl rfl rfl (by decide +kernel) ⟨Nat.le_of_ble_eq_true rfl, Nat.le_of_ble_eq_true rfl⟩) ⟨fun a U g mk q => ⟨q.1, q.2.1, va_K.moved (u := U) (U := U.calling g mk a) (Vm.Alike.refl U.vm) q.2.2⟩, va_recv hK hPc (ci := 1) (q0 := 0) rfl rfl, fun U hU hW => ⟨rfl, hU, va_K.moved hW.alike hK⟩⟩ rfl rfl hl.1 rfl (lv_room (Nat.le_of_ble_eq_true rfl)) dMa_write_27 ⟨Nat.zero_le _, Nat.zero_le _⟩) hS (fun _ _ h => h.elim) (fun _ h => h.elim) (fun r u t H1 locs ht hvm hw hB hz8 hk8 hS => ?_)
  obtain rfl : s.heap = H1 := hB.symm.trans ht
  subst hw
  refine lv_if_ne (tgt := 35) hx hb dMa_write_30 (by decide) (fun c1 => ?_) (fun c1 => ?_)
  · have c1 := bI_n c1
    refine lv_aload_n hx hb dMa_write_35 rfl (lv_at hl 2 rfl) ?_
    refine va_get (D := G) (ci := 2) (v := .ref h2) (C := RMa) (T := TMa) (N := 2) hx hb hT inMa hown hK hP 0 rfl rfl 1 (by decide) (hT _ mw_79) (fun _ h9 => h9) rfl dMa_write_36 ?_
    refine lv_lload hx hb dMa_write_39 (lv_at hl 0 rfl) ?_
    refine lv_iload hx hb dMa_write_41 (lv_at hl 1 rfl) ?_
    refine lv_lload_n hx hb dMa_write_43 rfl (lv_at hl 4 rfl) ?_
    have hPc := hP.sub (ws' := [(h2, .inr (1, [.ref h3])), (h3, .inl (cB, 4096, .inl mf))]) [2, 3] rfl
    have hDc := hD.sub (ws' := [(h2, .inr (1, [.ref h3])), (h3, .inl (cB, 4096, .inl mf))]) [2, 3] (by decide) rfl
    have hFc := va_free (wc := [(h2, .inr (1, [.ref h3])), (h3, .inl (cB, 4096, .inl mf))]) hD hS hA [2, 3] rfl
    refine va_callv (va_runV (As := [.long ((f_Ma_x rf a0) + ((f_Fi_offset a0).toInt64)), .int (f_Fi_size a0), .long a1]) (rest := []) ⟨hx, hb, hml, hown, hT⟩ (c_Me_write l G cB cL s.heap h2 h3 mf ((f_Ma_x rf a0) + ((f_Fi_offset a0).toInt64)) (f_Fi_size a0) a1 hPc (hDc.weaken (fun _ _ _ _ => trivial)) (size_ok a0)) (cwV 3 hT (gB_V mw_485 mw_420 mw_421 mw_5 mw_422) rfl rfl rfl (by decide +kernel) ⟨Nat.le_of_ble_eq_true rfl, Nat.le_of_ble_eq_true rfl⟩) ⟨fun a U g mk q => ⟨q.1, q.2.1, va_K.moved (u := U) (U := U.calling g mk a) (Vm.Alike.refl U.vm) q.2.2⟩, va_recv hK hPc (ci := 1) (q0 := 0) rfl rfl, fun U hU hW => ⟨rfl, hU, va_K.moved hW.alike hK⟩⟩ rfl rfl hl.1 rfl (lv_room (Nat.le_of_ble_eq_true rfl)) dMa_write_44 ⟨Nat.zero_le _, Nat.zero_le _⟩) hS (fun q _ h => hFc q h) hFc (fun u t H locs ht hvm hw hB hz8 hk8 hS => ?_)
    subst hw
    obtain ⟨hP1, hD1⟩ := hB
    rw [ht] at hP1
    obtain ⟨hP, hD⟩ := va_join (wr := [(h4, .inr (2, [.ref h5, .ref h2])), (h5, .inl (cL, 16, .inr (.inl rf)))]) (w1 := [(h2, .inr (1, [.ref h3])), (h3, .inl (cB, 4096, .inl ((f_Me_write mf ((f_Ma_x rf a0) + ((f_Fi_offset a0).toInt64)) (f_Fi_size a0) a1))))]) hP hD [2, 3] [0, 1] rfl rfl (by decide) (by decide) hk8 hFc hP1 hD1
    have hP : va_P G vwCl [(h4, .inr (2, [.ref h5, .ref h2])), (h5, .inl (cL, 16, .inr (.inl rf))), (h2, .inr (1, [.ref h3])), (h3, .inl (cB, 4096, .inl ((f_Me_write mf ((f_Ma_x rf a0) + ((f_Fi_offset a0).toInt64)) (f_Fi_size a0) a1))))] H := hP
    have hD : va_D A [(h4, .inr (2, [.ref h5, .ref h2])), (h5, .inl (cL, 16, .inr (.inl rf))), (h2, .inr (1, [.ref h3])), (h3, .inl (cB, 4096, .inl ((f_Me_write mf ((f_Ma_x rf a0) + ((f_Fi_offset a0).toInt64)) (f_Fi_size a0) a1))))] := hD
    refine lv_iconst (v := (1 : Int32)) hx hb dMa_write_47 (by decide) ?_
    have hP9 := hP.sub (ws' := [(h4, .inr (2, [.ref h5, .ref h2])), (h5, .inl (cL, 16, .inr (.inl rf))), (h2, .inr (1, [.ref h3])), (h3, .inl (cB, 4096, .inl ((f_Me_write mf ((f_Ma_x rf a0) + ((f_Fi_offset a0).toInt64)) (f_Fi_size a0) a1))))]) [0, 1, 2, 3] rfl
    have hD9 := hD.sub (ws' := [(h4, .inr (2, [.ref h5, .ref h2])), (h5, .inl (cL, 16, .inr (.inl rf))), (h2, .inr (1, [.ref h3])), (h3, .inl (cB, 4096, .inl ((f_Me_write mf ((f_Ma_x rf a0) + ((f_Fi_offset a0).toInt64)) (f_Fi_size a0) a1))))]) [0, 1, 2, 3] (by decide) rfl
    exact W.zret (v := (1 : Int32)) hx hb hr rfl (fun t ht hW => ⟨⟨(1 : Int32), (((f_Me_write mf ((f_Ma_x rf a0) + ((f_Fi_offset a0).toInt64)) (f_Fi_size a0) a1))), rfl, ⟨(by unfold f_Ma_write; rw [if_pos c1]; try rfl), (by unfold f_Ma_write; rw [if_pos c1]; try rfl)⟩, by rw [ht]; exact hP9, hD9⟩, hS.F ht⟩) hS.2.2 dMa_write_48
  · have c1 := bI_z c1
    refine lv_iconst (v := (0 : Int32)) hx hb dMa_write_33 (by decide) ?_
    have hP9 := hP.sub (ws' := [(h4, .inr (2, [.ref h5, .ref h2])), (h5, .inl (cL, 16, .inr (.inl rf))), (h2, .inr (1, [.ref h3])), (h3, .inl (cB, 4096, .inl mf))]) [0, 1, 2, 3] rfl
    have hD9 := hD.sub (ws' := [(h4, .inr (2, [.ref h5, .ref h2])), (h5, .inl (cL, 16, .inr (.inl rf))), (h2, .inr (1, [.ref h3])), (h3, .inl (cB, 4096, .inl mf))]) [0, 1, 2, 3] (by decide) rfl
    exact W.zret (v := (0 : Int32)) hx hb hr rfl (fun t ht hW => ⟨⟨(0 : Int32), (mf), rfl, ⟨(by unfold f_Ma_write; rw [if_neg c1]; try rfl), (by unfold f_Ma_write; rw [if_neg c1]; try rfl)⟩, by rw [ht]; exact hP9, hD9⟩, hS.F ht⟩) hS.2.2 dMa_write_34
end
section
def f_Ma_exchange (rf : Nat → Int64) (mf : Nat → Int32) (a0 : Int64) : Bool × (Nat → Int64) × (Nat → Int32) :=
  if (f_Me_holds ((f_Ma_x rf a0) + ((f_Fi_offset a0).toInt64)) (f_Fi_size a0)) = true then
    if (((f_Ma_x rf a0) + ((f_Fi_offset a0).toInt64)) &&& (((f_Fi_size a0) - (1 : Int32)).toInt64)) = (0 : Int64) then
      if (f_Me_read mf ((f_Ma_x rf a0) + ((f_Fi_offset a0).toInt64)) (f_Fi_size a0)) = (f_Ar_lowest (rf (0 : Int32).toNatClampNeg) ((8 : Int32) * (f_Fi_size a0))) then
        if (f_Fi_immediate a0) = (241 : Int32) then
          (true, (vp_updL rf (0 : Int32).toNatClampNeg (f_Me_read mf ((f_Ma_x rf a0) + ((f_Fi_offset a0).toInt64)) (f_Fi_size a0))), ((f_Me_write mf ((f_Ma_x rf a0) + ((f_Fi_offset a0).toInt64)) (f_Fi_size a0) (f_Ex_become (f_Fi_immediate a0) (f_Me_read mf ((f_Ma_x rf a0) + ((f_Fi_offset a0).toInt64)) (f_Fi_size a0)) (f_Ma_y rf a0) true))))
        else
          if (f_Ex_changesSource (f_Fi_immediate a0)) = true then
            (true, (vp_updL rf (f_Fi_source a0).toNatClampNeg (f_Me_read mf ((f_Ma_x rf a0) + ((f_Fi_offset a0).toInt64)) (f_Fi_size a0))), ((f_Me_write mf ((f_Ma_x rf a0) + ((f_Fi_offset a0).toInt64)) (f_Fi_size a0) (f_Ex_become (f_Fi_immediate a0) (f_Me_read mf ((f_Ma_x rf a0) + ((f_Fi_offset a0).toInt64)) (f_Fi_size a0)) (f_Ma_y rf a0) true))))
          else
            (true, rf, ((f_Me_write mf ((f_Ma_x rf a0) + ((f_Fi_offset a0).toInt64)) (f_Fi_size a0) (f_Ex_become (f_Fi_immediate a0) (f_Me_read mf ((f_Ma_x rf a0) + ((f_Fi_offset a0).toInt64)) (f_Fi_size a0)) (f_Ma_y rf a0) true))))
      else
        if (f_Fi_immediate a0) = (241 : Int32) then
          (true, (vp_updL rf (0 : Int32).toNatClampNeg (f_Me_read mf ((f_Ma_x rf a0) + ((f_Fi_offset a0).toInt64)) (f_Fi_size a0))), ((f_Me_write mf ((f_Ma_x rf a0) + ((f_Fi_offset a0).toInt64)) (f_Fi_size a0) (f_Ex_become (f_Fi_immediate a0) (f_Me_read mf ((f_Ma_x rf a0) + ((f_Fi_offset a0).toInt64)) (f_Fi_size a0)) (f_Ma_y rf a0) false))))
        else
          if (f_Ex_changesSource (f_Fi_immediate a0)) = true then
            (true, (vp_updL rf (f_Fi_source a0).toNatClampNeg (f_Me_read mf ((f_Ma_x rf a0) + ((f_Fi_offset a0).toInt64)) (f_Fi_size a0))), ((f_Me_write mf ((f_Ma_x rf a0) + ((f_Fi_offset a0).toInt64)) (f_Fi_size a0) (f_Ex_become (f_Fi_immediate a0) (f_Me_read mf ((f_Ma_x rf a0) + ((f_Fi_offset a0).toInt64)) (f_Fi_size a0)) (f_Ma_y rf a0) false))))
          else
            (true, rf, ((f_Me_write mf ((f_Ma_x rf a0) + ((f_Fi_offset a0).toInt64)) (f_Fi_size a0) (f_Ex_become (f_Fi_immediate a0) (f_Me_read mf ((f_Ma_x rf a0) + ((f_Fi_offset a0).toInt64)) (f_Fi_size a0)) (f_Ma_y rf a0) false))))
    else
      (false, rf, mf)
  else
    (false, rf, mf)
set_option maxHeartbeats 4000000 in
set_option maxRecDepth 100000 in
theorem c_Ma_exchange (l : Launch) (G : va_G) (cB cL : ClassId) (Hp : Heap) (h4 : Nat) (h5 : Nat) (rf : Nat → Int64) (h2 : Nat) (h3 : Nat) (mf : Nat → Int32) (a0 : Int64) (hP : va_P G vwCl [(h4, .inr (2, [.ref h5, .ref h2])), (h5, .inl (cL, 16, .inr (.inl rf))), (h2, .inr (1, [.ref h3])), (h3, .inl (cB, 4096, .inl mf))] Hp) (hD : va_D (fun _ => True) [(h4, .inr (2, [.ref h5, .ref h2])), (h5, .inl (cL, 16, .inr (.inl rf))), (h2, .inr (1, [.ref h3])), (h3, .inl (cB, 4096, .inl mf))]) : Met l yMa_exchange wsMa_exchange ({ frames := 2, cells := 0, slots := 0, locals := 52 }) (va_Pc [.ref h4, .long a0] (fun U => U.heap = Hp ∧ va_K G vwCl [(cB, .byte), (cL, .long)] U)) (va_Qi (fun (r : Int32) (u : (Nat → Int64) × (Nat → Int32)) => r = bI ((f_Ma_exchange rf mf a0)).1 ∧ u = ((f_Ma_exchange rf mf a0)).2) (fun (u : (Nat → Int64) × (Nat → Int32)) t => va_P G vwCl [(h4, .inr (2, [.ref h5, .ref h2])), (h5, .inl (cL, 16, .inr (.inl (u.1)))), (h2, .inr (1, [.ref h3])), (h3, .inl (cB, 4096, .inl (u.2)))] t.heap ∧ va_D (va_A [(h4, .inr (2, [.ref h5, .ref h2])), (h5, .inl (cL, 16, .inr (.inl rf))), (h2, .inr (1, [.ref h3])), (h3, .inl (cB, 4096, .inl mf))] Hp.size) [(h4, .inr (2, [.ref h5, .ref h2])), (h5, .inl (cL, 16, .inr (.inl (u.1)))), (h2, .inr (1, [.ref h3])), (h3, .inl (cB, 4096, .inl (u.2)))]) (va_A [(h4, .inr (2, [.ref h5, .ref h2])), (h5, .inl (cL, 16, .inr (.inl rf))), (h2, .inr (1, [.ref h3])), (h3, .inl (cB, 4096, .inl mf))] Hp.size)) 0 0 (va_A [(h4, .inr (2, [.ref h5, .ref h2])), (h5, .inl (cL, 16, .inr (.inl rf))), (h2, .inr (1, [.ref h3])), (h3, .inl (cB, 4096, .inl mf))] Hp.size) := by
  refine Met.ofW (cc := cMa_exchange) (maxL := 10) (ret := (some .boolean)) (by decide) rfl ?_
  intro p e s m args below meth c s₁ B hml hv
  obtain ⟨rfl, rfl, hK⟩ := hv
  have hx := B.exec
  have hb := B.bytes
  have hr := B.returns
  have hT : ∀ w ∈ tB, w.before _ s = true := fun w h => atoms_spec (ws := wsMa_exchange) B.pre w (List.mem_cons_of_mem _ h)
  have hown : s.vm.findClass "CompiledProgram$Machine" = some m.cls := findClass_of_methodNamed B.named
  have hlocks := B.notSynchronized
  have hD := hD.self (sz := s.heap.size)
  generalize hAe : va_A [(h4, .inr (2, [.ref h5, .ref h2])), (h5, .inl (cL, 16, .inr (.inl rf))), (h2, .inr (1, [.ref h3])), (h3, .inl (cB, 4096, .inl mf))] s.heap.size = A at hD ⊢
  have hA : ∀ q : Nat, s.heap.size ≤ q → A q := fun q h => by rw [← hAe]; exact Or.inr h
  have hS : va_S A s.heap s.heap [] := va_S.rf
  have hl := lv_entry ([.ref h4, .long a0]) (n := 10) (Nat.le_of_ble_eq_true rfl)
  rw [lg_entry_eq]
  generalize (lg_sl ([.ref h4, .long a0]) ++ List.replicate (10 - (lg_sl ([.ref h4, .long a0])).length) Slot.unset).toArray = ls at hl ⊢
  have hl : lv_has ls 10 [(0, .ref h4), (1, .long a0)] := hl
  refine lv_lload_n hx hb dMa_exchange_0 rfl (lv_at hl 1 rfl) ?_
  refine va_calli (va_runS (As := [.long a0]) (rest := []) ⟨hx, hb, hml, hown, hT⟩ (c_Fi_size l s.heap a0) (va_cwS 1 hT (gB_SV mw_464 mw_162 mw_16 mw_163) rfl rfl rfl (by decide +kernel) ⟨Nat.le_of_ble_eq_true rfl, Nat.le_of_ble_eq_true rfl⟩) ⟨fun _ _ _ _ q => q, fun U hU hW => ⟨rfl, hU⟩⟩ rfl rfl hl.1 rfl (lv_room (Nat.le_of_ble_eq_true rfl)) dMa_exchange_1 ⟨Nat.zero_le _, Nat.zero_le _⟩) hS (fun _ _ h => h.elim) (fun _ h => h.elim) (fun r u t H1 locs ht hvm hw hB hz8 hk8 hS => ?_)
  obtain rfl : s.heap = H1 := hB.symm.trans ht
  subst hw
  refine lv_istore_n (lv' := [(3, .int (f_Fi_size a0)), (0, .ref h4), (1, .long a0)]) hx hb dMa_exchange_4 rfl hl (by decide) rfl (fun ls hl => ?_)
  refine lv_lload_n hx hb dMa_exchange_5 rfl (lv_at hl 2 rfl) ?_
  refine va_calli (va_runS (As := [.long a0]) (rest := []) ⟨hx, hb, hml, hown, hT⟩ (c_Fi_immediate l s.heap a0) (va_cwS 1 hT (gB_SV mw_455 mw_153 mw_16 mw_154) rfl rfl rfl (by decide +kernel) ⟨Nat.le_of_ble_eq_true rfl, Nat.le_of_ble_eq_true rfl⟩) ⟨fun _ _ _ _ q => q, fun U hU hW => ⟨rfl, hU⟩⟩ rfl rfl hl.1 rfl (lv_room (Nat.le_of_ble_eq_true rfl)) dMa_exchange_6 ⟨Nat.zero_le _, Nat.zero_le _⟩) hS (fun _ _ h => h.elim) (fun _ h => h.elim) (fun r u t H1 locs ht hvm hw hB hz8 hk8 hS => ?_)
  obtain rfl : s.heap = H1 := hB.symm.trans ht
  subst hw
  refine lv_istore (lv' := [(4, .int (f_Fi_immediate a0)), (3, .int (f_Fi_size a0)), (0, .ref h4), (1, .long a0)]) hx hb dMa_exchange_9 hl (by decide) rfl (fun ls hl => ?_)
  refine lv_aload_n hx hb dMa_exchange_11 rfl (lv_at hl 2 rfl) ?_
  refine lv_lload_n hx hb dMa_exchange_12 rfl (lv_at hl 3 rfl) ?_
  have hPc := hP.sub (ws' := [(h4, .inr (2, [.ref h5, .ref h2])), (h5, .inl (cL, 16, .inr (.inl rf)))]) [0, 1] rfl
  refine va_calll (va_runV (As := [.long a0]) (rest := []) ⟨hx, hb, hml, hown, hT⟩ (c_Ma_x l G cB cL s.heap h4 h5 h2 rf a0 hPc ) (cwV 1 hT (gB_V mw_481 mw_482 mw_483 mw_4 mw_484) rfl rfl rfl (by decide +kernel) ⟨Nat.le_of_ble_eq_true rfl, Nat.le_of_ble_eq_true rfl⟩) ⟨fun a U g mk q => ⟨q.1, q.2.1, va_K.moved (u := U) (U := U.calling g mk a) (Vm.Alike.refl U.vm) q.2.2⟩, va_recv hK hPc (ci := 2) (q0 := 0) rfl rfl, fun U hU hW => ⟨rfl, hU, va_K.moved hW.alike hK⟩⟩ rfl rfl hl.1 rfl (lv_room (Nat.le_of_ble_eq_true rfl)) dMa_exchange_13 ⟨Nat.zero_le _, Nat.zero_le _⟩) hS (fun _ _ h => h.elim) (fun _ h => h.elim) (fun r u t H1 locs ht hvm hw hB hz8 hk8 hS => ?_)
  obtain rfl : s.heap = H1 := hB.symm.trans ht
  subst hw
  refine lv_lload_n hx hb dMa_exchange_16 rfl (lv_at hl 3 rfl) ?_
  refine va_calli (va_runS (As := [.long a0]) (rest := [.long (f_Ma_x rf a0)]) ⟨hx, hb, hml, hown, hT⟩ (c_Fi_offset l s.heap a0) (va_cwS 1 hT (gB_SV mw_470 mw_150 mw_16 mw_151) rfl rfl rfl (by decide +kernel) ⟨Nat.le_of_ble_eq_true rfl, Nat.le_of_ble_eq_true rfl⟩) ⟨fun _ _ _ _ q => q, fun U hU hW => ⟨rfl, hU⟩⟩ rfl rfl hl.1 rfl (lv_room (Nat.le_of_ble_eq_true rfl)) dMa_exchange_17 ⟨Nat.zero_le _, Nat.zero_le _⟩) hS (fun _ _ h => h.elim) (fun _ h => h.elim) (fun r u t H1 locs ht hvm hw hB hz8 hk8 hS => ?_)
  obtain rfl : s.heap = H1 := hB.symm.trans ht
  subst hw
  refine lv_i2l hx hb dMa_exchange_20 rfl ?_
  refine lv_ladd hx hb dMa_exchange_21 ?_
  refine lv_lstore (lv' := [(5, .long ((f_Ma_x rf a0) + ((f_Fi_offset a0).toInt64))), (4, .int (f_Fi_immediate a0)), (3, .int (f_Fi_size a0)), (0, .ref h4), (1, .long a0)]) hx hb dMa_exchange_22 hl (by decide) rfl (fun ls hl => ?_)
  refine lv_aload_n hx hb dMa_exchange_24 rfl (lv_at hl 3 rfl) ?_
  refine va_get (D := G) (ci := 2) (v := .ref h2) (C := RMa) (T := TMa) (N := 2) hx hb hT inMa hown hK hP 0 rfl rfl 1 (by decide) (hT _ mw_79) (fun _ h9 => h9) rfl dMa_exchange_25 ?_
  refine lv_lload hx hb dMa_exchange_28 (lv_at hl 0 rfl) ?_
  refine lv_iload_n hx hb dMa_exchange_30 rfl (lv_at hl 2 rfl) ?_
  have hPc := hP.sub (ws' := [(h2, .inr (1, [.ref h3])), (h3, .inl (cB, 4096, .inl mf))]) [2, 3] rfl
  refine va_calli (va_runV (As := [.long ((f_Ma_x rf a0) + ((f_Fi_offset a0).toInt64)), .int (f_Fi_size a0)]) (rest := []) ⟨hx, hb, hml, hown, hT⟩ (c_Me_holds l G cB cL s.heap h2 h3 mf ((f_Ma_x rf a0) + ((f_Fi_offset a0).toInt64)) (f_Fi_size a0) hPc ) (cwV 2 hT (gB_V mw_471 mw_414 mw_415 mw_5 mw_416) rfl rfl rfl (by decide +kernel) ⟨Nat.le_of_ble_eq_true rfl, Nat.le_of_ble_eq_true rfl⟩) ⟨fun a U g mk q => ⟨q.1, q.2.1, va_K.moved (u := U) (U := U.calling g mk a) (Vm.Alike.refl U.vm) q.2.2⟩, va_recv hK hPc (ci := 1) (q0 := 0) rfl rfl, fun U hU hW => ⟨rfl, hU, va_K.moved hW.alike hK⟩⟩ rfl rfl hl.1 rfl (lv_room (Nat.le_of_ble_eq_true rfl)) dMa_exchange_31 ⟨Nat.zero_le _, Nat.zero_le _⟩) hS (fun _ _ h => h.elim) (fun _ h => h.elim) (fun r u t H1 locs ht hvm hw hB hz8 hk8 hS => ?_)
  obtain rfl : s.heap = H1 := hB.symm.trans ht
  subst hw
  refine lv_if_eq (tgt := 49) hx hb dMa_exchange_34 (by decide) (fun c1 => ?_) (fun c1 => ?_)
  · have c1 := bI_z c1
    refine lv_iconst (v := (0 : Int32)) hx hb dMa_exchange_49 (by decide) ?_
    have hP9 := hP.sub (ws' := [(h4, .inr (2, [.ref h5, .ref h2])), (h5, .inl (cL, 16, .inr (.inl rf))), (h2, .inr (1, [.ref h3])), (h3, .inl (cB, 4096, .inl mf))]) [0, 1, 2, 3] rfl
    have hD9 := hD.sub (ws' := [(h4, .inr (2, [.ref h5, .ref h2])), (h5, .inl (cL, 16, .inr (.inl rf))), (h2, .inr (1, [.ref h3])), (h3, .inl (cB, 4096, .inl mf))]) [0, 1, 2, 3] (by decide) rfl
    exact W.zret (v := (0 : Int32)) hx hb hr rfl (fun t ht hW => ⟨⟨(0 : Int32), (rf, mf), rfl, ⟨(by unfold f_Ma_exchange; rw [if_neg c1]; try rfl), (by unfold f_Ma_exchange; rw [if_neg c1]; try rfl)⟩, by rw [ht]; exact hP9, hD9⟩, hS.F ht⟩) hS.2.2 dMa_exchange_50
  · have c1 := bI_n c1
    refine lv_lload hx hb dMa_exchange_37 (lv_at hl 0 rfl) ?_
    refine lv_iload_n hx hb dMa_exchange_39 rfl (lv_at hl 2 rfl) ?_
    refine lv_iconst (v := (1 : Int32)) hx hb dMa_exchange_40 (by decide) ?_
    refine lv_isub hx hb dMa_exchange_41 ?_
    refine lv_i2l hx hb dMa_exchange_42 rfl ?_
    refine lv_land hx hb dMa_exchange_43 ?_
    refine lv_lconst (v := (0 : Int64)) hx hb dMa_exchange_44 (by decide) ?_
    refine W.lcmp hx hb dMa_exchange_45 ?_
    refine lv_if_eq (tgt := 51) hx hb dMa_exchange_46 (by decide) (fun c2 => ?_) (fun c2 => ?_)
    · have c2 := (lg_cmp_eq _ _).mp c2
      refine lv_aload_n hx hb dMa_exchange_51 rfl (lv_at hl 3 rfl) ?_
      refine va_get (D := G) (ci := 2) (v := .ref h2) (C := RMa) (T := TMa) (N := 2) hx hb hT inMa hown hK hP 0 rfl rfl 1 (by decide) (hT _ mw_79) (fun _ h9 => h9) rfl dMa_exchange_52 ?_
      refine lv_lload hx hb dMa_exchange_55 (lv_at hl 0 rfl) ?_
      refine lv_iload_n hx hb dMa_exchange_57 rfl (lv_at hl 2 rfl) ?_
      have hPc := hP.sub (ws' := [(h2, .inr (1, [.ref h3])), (h3, .inl (cB, 4096, .inl mf))]) [2, 3] rfl
      refine va_calll (va_runV (As := [.long ((f_Ma_x rf a0) + ((f_Fi_offset a0).toInt64)), .int (f_Fi_size a0)]) (rest := []) ⟨hx, hb, hml, hown, hT⟩ (c_Me_read l G cB cL s.heap h2 h3 mf ((f_Ma_x rf a0) + ((f_Fi_offset a0).toInt64)) (f_Fi_size a0) hPc (size_ok a0)) (cwV 2 hT (gB_V mw_472 mw_432 mw_433 mw_5 mw_434) rfl rfl rfl (by decide +kernel) ⟨Nat.le_of_ble_eq_true rfl, Nat.le_of_ble_eq_true rfl⟩) ⟨fun a U g mk q => ⟨q.1, q.2.1, va_K.moved (u := U) (U := U.calling g mk a) (Vm.Alike.refl U.vm) q.2.2⟩, va_recv hK hPc (ci := 1) (q0 := 0) rfl rfl, fun U hU hW => ⟨rfl, hU, va_K.moved hW.alike hK⟩⟩ rfl rfl hl.1 rfl (lv_room (Nat.le_of_ble_eq_true rfl)) dMa_exchange_58 ⟨Nat.zero_le _, Nat.zero_le _⟩) hS (fun _ _ h => h.elim) (fun _ h => h.elim) (fun r u t H1 locs ht hvm hw hB hz8 hk8 hS => ?_)
      obtain rfl : s.heap = H1 := hB.symm.trans ht
      subst hw
      refine lv_lstore (lv' := [(7, .long (f_Me_read mf ((f_Ma_x rf a0) + ((f_Fi_offset a0).toInt64)) (f_Fi_size a0))), (5, .long ((f_Ma_x rf a0) + ((f_Fi_offset a0).toInt64))), (4, .int (f_Fi_immediate a0)), (3, .int (f_Fi_size a0)), (0, .ref h4), (1, .long a0)]) hx hb dMa_exchange_61 hl (by decide) rfl (fun ls hl => ?_)
      refine lv_lload hx hb dMa_exchange_63 (lv_at hl 0 rfl) ?_
      refine lv_aload_n hx hb dMa_exchange_65 rfl (lv_at hl 4 rfl) ?_
      refine va_get (D := G) (ci := 2) (v := .ref h5) (C := RMa) (T := TMa) (N := 2) hx hb hT inMa hown hK hP 0 rfl rfl 0 (by decide) (hT _ mw_77) (fun _ h9 => h9) rfl dMa_exchange_66 ?_
      refine lv_iconst (v := (0 : Int32)) hx hb dMa_exchange_69 (by decide) ?_
      refine va_lald hx hb hK hP 1 1 rfl rfl (by unfold vp_in; decide) dMa_exchange_70 ?_
      refine lv_bipush (v := (8 : Int32)) hx hb dMa_exchange_71 (by decide) ?_
      refine lv_iload_n hx hb dMa_exchange_73 rfl (lv_at hl 3 rfl) ?_
      refine lv_imul hx hb dMa_exchange_74 ?_
      refine va_calll (va_runS (As := [.long (rf (0 : Int32).toNatClampNeg), .int ((8 : Int32) * (f_Fi_size a0))]) (rest := [.long (f_Me_read mf ((f_Ma_x rf a0) + ((f_Fi_offset a0).toInt64)) (f_Fi_size a0))]) ⟨hx, hb, hml, hown, hT⟩ (c_Ar_lowest l s.heap (rf (0 : Int32).toNatClampNeg) ((8 : Int32) * (f_Fi_size a0))) (va_cwS 2 hT (gB_SV mw_457 mw_458 mw_19 mw_459) rfl rfl rfl (by decide +kernel) ⟨Nat.le_of_ble_eq_true rfl, Nat.le_of_ble_eq_true rfl⟩) ⟨fun _ _ _ _ q => q, fun U hU hW => ⟨rfl, hU⟩⟩ rfl rfl hl.1 rfl (lv_room (Nat.le_of_ble_eq_true rfl)) dMa_exchange_75 ⟨Nat.zero_le _, Nat.zero_le _⟩) hS (fun _ _ h => h.elim) (fun _ h => h.elim) (fun r u t H1 locs ht hvm hw hB hz8 hk8 hS => ?_)
      obtain rfl : s.heap = H1 := hB.symm.trans ht
      subst hw
      refine W.lcmp hx hb dMa_exchange_78 ?_
      refine lv_if_ne (tgt := 86) hx hb dMa_exchange_79 (by decide) (fun c3 => ?_) (fun c3 => ?_)
      · have c3 := mt (lg_cmp_eq _ _).mpr c3
        refine lv_iconst (v := (0 : Int32)) hx hb dMa_exchange_86 (by decide) ?_
        refine lv_istore (lv' := [(9, .int (0 : Int32)), (7, .long (f_Me_read mf ((f_Ma_x rf a0) + ((f_Fi_offset a0).toInt64)) (f_Fi_size a0))), (5, .long ((f_Ma_x rf a0) + ((f_Fi_offset a0).toInt64))), (4, .int (f_Fi_immediate a0)), (3, .int (f_Fi_size a0)), (0, .ref h4), (1, .long a0)]) hx hb dMa_exchange_87 hl (by decide) rfl (fun ls hl => ?_)
        refine lv_aload_n hx hb dMa_exchange_89 rfl (lv_at hl 5 rfl) ?_
        refine va_get (D := G) (ci := 2) (v := .ref h2) (C := RMa) (T := TMa) (N := 2) hx hb hT inMa hown hK hP 0 rfl rfl 1 (by decide) (hT _ mw_79) (fun _ h9 => h9) rfl dMa_exchange_90 ?_
        refine lv_lload hx hb dMa_exchange_93 (lv_at hl 2 rfl) ?_
        refine lv_iload_n hx hb dMa_exchange_95 rfl (lv_at hl 4 rfl) ?_
        refine lv_iload hx hb dMa_exchange_96 (lv_at hl 3 rfl) ?_
        refine lv_lload hx hb dMa_exchange_98 (lv_at hl 1 rfl) ?_
        refine lv_aload_n hx hb dMa_exchange_100 rfl (lv_at hl 5 rfl) ?_
        refine lv_lload_n hx hb dMa_exchange_101 rfl (lv_at hl 6 rfl) ?_
        have hPc := hP.sub (ws' := [(h4, .inr (2, [.ref h5, .ref h2])), (h5, .inl (cL, 16, .inr (.inl rf)))]) [0, 1] rfl
        refine va_calll (va_runV (As := [.long a0]) (rest := [.long (f_Me_read mf ((f_Ma_x rf a0) + ((f_Fi_offset a0).toInt64)) (f_Fi_size a0)), .int (f_Fi_immediate a0), .int (f_Fi_size a0), .long ((f_Ma_x rf a0) + ((f_Fi_offset a0).toInt64)), .ref h2]) ⟨hx, hb, hml, hown, hT⟩ (c_Ma_y l G cB cL s.heap h4 h5 h2 rf a0 hPc ) (cwV 1 hT (gB_V mw_465 mw_466 mw_467 mw_4 mw_468) rfl rfl rfl (by decide +kernel) ⟨Nat.le_of_ble_eq_true rfl, Nat.le_of_ble_eq_true rfl⟩) ⟨fun a U g mk q => ⟨q.1, q.2.1, va_K.moved (u := U) (U := U.calling g mk a) (Vm.Alike.refl U.vm) q.2.2⟩, va_recv hK hPc (ci := 2) (q0 := 0) rfl rfl, fun U hU hW => ⟨rfl, hU, va_K.moved hW.alike hK⟩⟩ rfl rfl hl.1 rfl (lv_room (Nat.le_of_ble_eq_true rfl)) dMa_exchange_102 ⟨Nat.zero_le _, Nat.zero_le _⟩) hS (fun _ _ h => h.elim) (fun _ h => h.elim) (fun r u t H1 locs ht hvm hw hB hz8 hk8 hS => ?_)
        obtain rfl : s.heap = H1 := hB.symm.trans ht
        subst hw
        refine lv_iload hx hb dMa_exchange_105 (lv_at hl 0 rfl) ?_
        refine va_calll (va_runS (As := [.int (f_Fi_immediate a0), .long (f_Me_read mf ((f_Ma_x rf a0) + ((f_Fi_offset a0).toInt64)) (f_Fi_size a0)), .long (f_Ma_y rf a0), .int (0 : Int32)]) (rest := [.int (f_Fi_size a0), .long ((f_Ma_x rf a0) + ((f_Fi_offset a0).toInt64)), .ref h2]) ⟨hx, hb, hml, hown, hT⟩ (c_Ex_become l s.heap (f_Fi_immediate a0) (f_Me_read mf ((f_Ma_x rf a0) + ((f_Fi_offset a0).toInt64)) (f_Fi_size a0)) (f_Ma_y rf a0) false) (va_cwS 4 hT (gB_SV mw_490 mw_491 mw_17 mw_492) rfl rfl rfl (by decide +kernel) ⟨Nat.le_of_ble_eq_true rfl, Nat.le_of_ble_eq_true rfl⟩) ⟨fun _ _ _ _ q => q, fun U hU hW => ⟨rfl, hU⟩⟩ rfl rfl hl.1 rfl (lv_room (Nat.le_of_ble_eq_true rfl)) dMa_exchange_107 ⟨Nat.zero_le _, Nat.zero_le _⟩) hS (fun _ _ h => h.elim) (fun _ h => h.elim) (fun r u t H1 locs ht hvm hw hB hz8 hk8 hS => ?_)
        obtain rfl : s.heap = H1 := hB.symm.trans ht
        subst hw
        have hPc := hP.sub (ws' := [(h2, .inr (1, [.ref h3])), (h3, .inl (cB, 4096, .inl mf))]) [2, 3] rfl
        have hDc := hD.sub (ws' := [(h2, .inr (1, [.ref h3])), (h3, .inl (cB, 4096, .inl mf))]) [2, 3] (by decide) rfl
        have hFc := va_free (wc := [(h2, .inr (1, [.ref h3])), (h3, .inl (cB, 4096, .inl mf))]) hD hS hA [2, 3] rfl
        refine va_callv (va_runV (As := [.long ((f_Ma_x rf a0) + ((f_Fi_offset a0).toInt64)), .int (f_Fi_size a0), .long (f_Ex_become (f_Fi_immediate a0) (f_Me_read mf ((f_Ma_x rf a0) + ((f_Fi_offset a0).toInt64)) (f_Fi_size a0)) (f_Ma_y rf a0) false)]) (rest := []) ⟨hx, hb, hml, hown, hT⟩ (c_Me_write l G cB cL s.heap h2 h3 mf ((f_Ma_x rf a0) + ((f_Fi_offset a0).toInt64)) (f_Fi_size a0) (f_Ex_become (f_Fi_immediate a0) (f_Me_read mf ((f_Ma_x rf a0) + ((f_Fi_offset a0).toInt64)) (f_Fi_size a0)) (f_Ma_y rf a0) false) hPc (hDc.weaken (fun _ _ _ _ => trivial)) (size_ok a0)) (cwV 3 hT (gB_V mw_485 mw_420 mw_421 mw_5 mw_422) rfl rfl rfl (by decide +kernel) ⟨Nat.le_of_ble_eq_true rfl, Nat.le_of_ble_eq_true rfl⟩) ⟨fun a U g mk q => ⟨q.1, q.2.1, va_K.moved (u := U) (U := U.calling g mk a) (Vm.Alike.refl U.vm) q.2.2⟩, va_recv hK hPc (ci := 1) (q0 := 0) rfl rfl, fun U hU hW => ⟨rfl, hU, va_K.moved hW.alike hK⟩⟩ rfl rfl hl.1 rfl (lv_room (Nat.le_of_ble_eq_true rfl)) dMa_exchange_110 ⟨Nat.zero_le _, Nat.zero_le _⟩) hS (fun q _ h => hFc q h) hFc (fun u t H locs ht hvm hw hB hz8 hk8 hS => ?_)
        subst hw
        obtain ⟨hP1, hD1⟩ := hB
        rw [ht] at hP1
        obtain ⟨hP, hD⟩ := va_join (wr := [(h4, .inr (2, [.ref h5, .ref h2])), (h5, .inl (cL, 16, .inr (.inl rf)))]) (w1 := [(h2, .inr (1, [.ref h3])), (h3, .inl (cB, 4096, .inl ((f_Me_write mf ((f_Ma_x rf a0) + ((f_Fi_offset a0).toInt64)) (f_Fi_size a0) (f_Ex_become (f_Fi_immediate a0) (f_Me_read mf ((f_Ma_x rf a0) + ((f_Fi_offset a0).toInt64)) (f_Fi_size a0)) (f_Ma_y rf a0) false)))))]) hP hD [2, 3] [0, 1] rfl rfl (by decide) (by decide) hk8 hFc hP1 hD1
        have hP : va_P G vwCl [(h4, .inr (2, [.ref h5, .ref h2])), (h5, .inl (cL, 16, .inr (.inl rf))), (h2, .inr (1, [.ref h3])), (h3, .inl (cB, 4096, .inl ((f_Me_write mf ((f_Ma_x rf a0) + ((f_Fi_offset a0).toInt64)) (f_Fi_size a0) (f_Ex_become (f_Fi_immediate a0) (f_Me_read mf ((f_Ma_x rf a0) + ((f_Fi_offset a0).toInt64)) (f_Fi_size a0)) (f_Ma_y rf a0) false)))))] H := hP
        have hD : va_D A [(h4, .inr (2, [.ref h5, .ref h2])), (h5, .inl (cL, 16, .inr (.inl rf))), (h2, .inr (1, [.ref h3])), (h3, .inl (cB, 4096, .inl ((f_Me_write mf ((f_Ma_x rf a0) + ((f_Fi_offset a0).toInt64)) (f_Fi_size a0) (f_Ex_become (f_Fi_immediate a0) (f_Me_read mf ((f_Ma_x rf a0) + ((f_Fi_offset a0).toInt64)) (f_Fi_size a0)) (f_Ma_y rf a0) false)))))] := hD
        refine lv_iload hx hb dMa_exchange_113 (lv_at hl 3 rfl) ?_
        refine lv_sipush (v := (241 : Int32)) hx hb dMa_exchange_115 (by decide) ?_
        refine lv_icmp_ne (tgt := 132) hx hb dMa_exchange_118 (by decide) (fun c4 => ?_) (fun c4 => ?_)
        · skip
          refine lv_iload hx hb dMa_exchange_132 (lv_at hl 3 rfl) ?_
          refine va_calli (va_runS (As := [.int (f_Fi_immediate a0)]) (rest := []) ⟨hx, hb, hml, hown, hT⟩ (c_Ex_changesSource l H (f_Fi_immediate a0)) (va_cwS 1 hT (gB_SV mw_493 mw_174 mw_17 mw_175) rfl rfl rfl (by decide +kernel) ⟨Nat.le_of_ble_eq_true rfl, Nat.le_of_ble_eq_true rfl⟩) ⟨fun _ _ _ _ q => q, fun U hU hW => ⟨rfl, hU⟩⟩ rfl rfl hl.1 rfl (lv_room (Nat.le_of_ble_eq_true rfl)) dMa_exchange_134 ⟨Nat.zero_le _, Nat.zero_le _⟩) hS (fun _ _ h => h.elim) (fun _ h => h.elim) (fun r u t H1 locs ht hvm hw hB hz8 hk8 hS => ?_)
          obtain rfl : H = H1 := hB.symm.trans ht
          subst hw
          refine lv_if_eq (tgt := 151) hx hb dMa_exchange_137 (by decide) (fun c5 => ?_) (fun c5 => ?_)
          · have c5 := bI_z c5
            refine lv_iconst (v := (1 : Int32)) hx hb dMa_exchange_151 (by decide) ?_
            have hP9 := hP.sub (ws' := [(h4, .inr (2, [.ref h5, .ref h2])), (h5, .inl (cL, 16, .inr (.inl rf))), (h2, .inr (1, [.ref h3])), (h3, .inl (cB, 4096, .inl ((f_Me_write mf ((f_Ma_x rf a0) + ((f_Fi_offset a0).toInt64)) (f_Fi_size a0) (f_Ex_become (f_Fi_immediate a0) (f_Me_read mf ((f_Ma_x rf a0) + ((f_Fi_offset a0).toInt64)) (f_Fi_size a0)) (f_Ma_y rf a0) false)))))]) [0, 1, 2, 3] rfl
            have hD9 := hD.sub (ws' := [(h4, .inr (2, [.ref h5, .ref h2])), (h5, .inl (cL, 16, .inr (.inl rf))), (h2, .inr (1, [.ref h3])), (h3, .inl (cB, 4096, .inl ((f_Me_write mf ((f_Ma_x rf a0) + ((f_Fi_offset a0).toInt64)) (f_Fi_size a0) (f_Ex_become (f_Fi_immediate a0) (f_Me_read mf ((f_Ma_x rf a0) + ((f_Fi_offset a0).toInt64)) (f_Fi_size a0)) (f_Ma_y rf a0) false)))))]) [0, 1, 2, 3] (by decide) rfl
            exact W.zret (v := (1 : Int32)) hx hb hr rfl (fun t ht hW => ⟨⟨(1 : Int32), (rf, ((f_Me_write mf ((f_Ma_x rf a0) + ((f_Fi_offset a0).toInt64)) (f_Fi_size a0) (f_Ex_become (f_Fi_immediate a0) (f_Me_read mf ((f_Ma_x rf a0) + ((f_Fi_offset a0).toInt64)) (f_Fi_size a0)) (f_Ma_y rf a0) false)))), rfl, ⟨(by unfold f_Ma_exchange; rw [if_pos c1, if_pos c2, if_neg c3, if_neg c4, if_neg c5]; try rfl), (by unfold f_Ma_exchange; rw [if_pos c1, if_pos c2, if_neg c3, if_neg c4, if_neg c5]; try rfl)⟩, by rw [ht]; exact hP9, hD9⟩, hS.F ht⟩) hS.2.2 dMa_exchange_152
          · have c5 := bI_n c5
            refine lv_aload_n hx hb dMa_exchange_140 rfl (lv_at hl 5 rfl) ?_
            refine va_get (D := G) (ci := 2) (v := .ref h5) (C := RMa) (T := TMa) (N := 2) hx hb hT inMa hown hK hP 0 rfl rfl 0 (by decide) (hT _ mw_77) (fun _ h9 => h9) rfl dMa_exchange_141 ?_
            refine lv_lload_n hx hb dMa_exchange_144 rfl (lv_at hl 6 rfl) ?_
            refine va_calli (va_runS (As := [.long a0]) (rest := [.ref h5]) ⟨hx, hb, hml, hown, hT⟩ (c_Fi_source l H a0) (va_cwS 1 hT (gB_SV mw_469 mw_138 mw_16 mw_139) rfl rfl rfl (by decide +kernel) ⟨Nat.le_of_ble_eq_true rfl, Nat.le_of_ble_eq_true rfl⟩) ⟨fun _ _ _ _ q => q, fun U hU hW => ⟨rfl, hU⟩⟩ rfl rfl hl.1 rfl (lv_room (Nat.le_of_ble_eq_true rfl)) dMa_exchange_145 ⟨Nat.zero_le _, Nat.zero_le _⟩) hS (fun _ _ h => h.elim) (fun _ h => h.elim) (fun r u t H1 locs ht hvm hw hB hz8 hk8 hS => ?_)
            obtain rfl : H = H1 := hB.symm.trans ht
            subst hw
            refine lv_lload hx hb dMa_exchange_148 (lv_at hl 1 rfl) ?_
            refine va_last hx hb hK hP hD hS 1 1 rfl rfl (in_Fi_source a0) dMa_exchange_150 (fun H locs hP hD hS => ?_)
            have hP : va_P G vwCl [(h4, .inr (2, [.ref h5, .ref h2])), (h5, .inl (cL, 16, .inr (.inl (vp_updL rf (f_Fi_source a0).toNatClampNeg (f_Me_read mf ((f_Ma_x rf a0) + ((f_Fi_offset a0).toInt64)) (f_Fi_size a0)))))), (h2, .inr (1, [.ref h3])), (h3, .inl (cB, 4096, .inl ((f_Me_write mf ((f_Ma_x rf a0) + ((f_Fi_offset a0).toInt64)) (f_Fi_size a0) (f_Ex_become (f_Fi_immediate a0) (f_Me_read mf ((f_Ma_x rf a0) + ((f_Fi_offset a0).toInt64)) (f_Fi_size a0)) (f_Ma_y rf a0) false)))))] H := hP
            have hD : va_D A [(h4, .inr (2, [.ref h5, .ref h2])), (h5, .inl (cL, 16, .inr (.inl (vp_updL rf (f_Fi_source a0).toNatClampNeg (f_Me_read mf ((f_Ma_x rf a0) + ((f_Fi_offset a0).toInt64)) (f_Fi_size a0)))))), (h2, .inr (1, [.ref h3])), (h3, .inl (cB, 4096, .inl ((f_Me_write mf ((f_Ma_x rf a0) + ((f_Fi_offset a0).toInt64)) (f_Fi_size a0) (f_Ex_become (f_Fi_immediate a0) (f_Me_read mf ((f_Ma_x rf a0) + ((f_Fi_offset a0).toInt64)) (f_Fi_size a0)) (f_Ma_y rf a0) false)))))] := hD
            refine lv_iconst (v := (1 : Int32)) hx hb dMa_exchange_151 (by decide) ?_
            have hP9 := hP.sub (ws' := [(h4, .inr (2, [.ref h5, .ref h2])), (h5, .inl (cL, 16, .inr (.inl (vp_updL rf (f_Fi_source a0).toNatClampNeg (f_Me_read mf ((f_Ma_x rf a0) + ((f_Fi_offset a0).toInt64)) (f_Fi_size a0)))))), (h2, .inr (1, [.ref h3])), (h3, .inl (cB, 4096, .inl ((f_Me_write mf ((f_Ma_x rf a0) + ((f_Fi_offset a0).toInt64)) (f_Fi_size a0) (f_Ex_become (f_Fi_immediate a0) (f_Me_read mf ((f_Ma_x rf a0) + ((f_Fi_offset a0).toInt64)) (f_Fi_size a0)) (f_Ma_y rf a0) false)))))]) [0, 1, 2, 3] rfl
            have hD9 := hD.sub (ws' := [(h4, .inr (2, [.ref h5, .ref h2])), (h5, .inl (cL, 16, .inr (.inl (vp_updL rf (f_Fi_source a0).toNatClampNeg (f_Me_read mf ((f_Ma_x rf a0) + ((f_Fi_offset a0).toInt64)) (f_Fi_size a0)))))), (h2, .inr (1, [.ref h3])), (h3, .inl (cB, 4096, .inl ((f_Me_write mf ((f_Ma_x rf a0) + ((f_Fi_offset a0).toInt64)) (f_Fi_size a0) (f_Ex_become (f_Fi_immediate a0) (f_Me_read mf ((f_Ma_x rf a0) + ((f_Fi_offset a0).toInt64)) (f_Fi_size a0)) (f_Ma_y rf a0) false)))))]) [0, 1, 2, 3] (by decide) rfl
            exact W.zret (v := (1 : Int32)) hx hb hr rfl (fun t ht hW => ⟨⟨(1 : Int32), ((vp_updL rf (f_Fi_source a0).toNatClampNeg (f_Me_read mf ((f_Ma_x rf a0) + ((f_Fi_offset a0).toInt64)) (f_Fi_size a0))), ((f_Me_write mf ((f_Ma_x rf a0) + ((f_Fi_offset a0).toInt64)) (f_Fi_size a0) (f_Ex_become (f_Fi_immediate a0) (f_Me_read mf ((f_Ma_x rf a0) + ((f_Fi_offset a0).toInt64)) (f_Fi_size a0)) (f_Ma_y rf a0) false)))), rfl, ⟨(by unfold f_Ma_exchange; rw [if_pos c1, if_pos c2, if_neg c3, if_neg c4, if_pos c5]; try rfl), (by unfold f_Ma_exchange; rw [if_pos c1, if_pos c2, if_neg c3, if_neg c4, if_pos c5]; try rfl)⟩, by rw [ht]; exact hP9, hD9⟩, hS.F ht⟩) hS.2.2 dMa_exchange_152
        · skip
          refine lv_aload_n hx hb dMa_exchange_121 rfl (lv_at hl 5 rfl) ?_
          refine va_get (D := G) (ci := 2) (v := .ref h5) (C := RMa) (T := TMa) (N := 2) hx hb hT inMa hown hK hP 0 rfl rfl 0 (by decide) (hT _ mw_77) (fun _ h9 => h9) rfl dMa_exchange_122 ?_
          refine lv_iconst (v := (0 : Int32)) hx hb dMa_exchange_125 (by decide) ?_
          refine lv_lload hx hb dMa_exchange_126 (lv_at hl 1 rfl) ?_
          refine va_last hx hb hK hP hD hS 1 1 rfl rfl (by unfold vp_in; decide) dMa_exchange_128 (fun H locs hP hD hS => ?_)
          have hP : va_P G vwCl [(h4, .inr (2, [.ref h5, .ref h2])), (h5, .inl (cL, 16, .inr (.inl (vp_updL rf (0 : Int32).toNatClampNeg (f_Me_read mf ((f_Ma_x rf a0) + ((f_Fi_offset a0).toInt64)) (f_Fi_size a0)))))), (h2, .inr (1, [.ref h3])), (h3, .inl (cB, 4096, .inl ((f_Me_write mf ((f_Ma_x rf a0) + ((f_Fi_offset a0).toInt64)) (f_Fi_size a0) (f_Ex_become (f_Fi_immediate a0) (f_Me_read mf ((f_Ma_x rf a0) + ((f_Fi_offset a0).toInt64)) (f_Fi_size a0)) (f_Ma_y rf a0) false)))))] H := hP
          have hD : va_D A [(h4, .inr (2, [.ref h5, .ref h2])), (h5, .inl (cL, 16, .inr (.inl (vp_updL rf (0 : Int32).toNatClampNeg (f_Me_read mf ((f_Ma_x rf a0) + ((f_Fi_offset a0).toInt64)) (f_Fi_size a0)))))), (h2, .inr (1, [.ref h3])), (h3, .inl (cB, 4096, .inl ((f_Me_write mf ((f_Ma_x rf a0) + ((f_Fi_offset a0).toInt64)) (f_Fi_size a0) (f_Ex_become (f_Fi_immediate a0) (f_Me_read mf ((f_Ma_x rf a0) + ((f_Fi_offset a0).toInt64)) (f_Fi_size a0)) (f_Ma_y rf a0) false)))))] := hD
          refine lv_goto (tgt := 151) hx hb dMa_exchange_129 (by decide) ?_
          refine lv_iconst (v := (1 : Int32)) hx hb dMa_exchange_151 (by decide) ?_
          have hP9 := hP.sub (ws' := [(h4, .inr (2, [.ref h5, .ref h2])), (h5, .inl (cL, 16, .inr (.inl (vp_updL rf (0 : Int32).toNatClampNeg (f_Me_read mf ((f_Ma_x rf a0) + ((f_Fi_offset a0).toInt64)) (f_Fi_size a0)))))), (h2, .inr (1, [.ref h3])), (h3, .inl (cB, 4096, .inl ((f_Me_write mf ((f_Ma_x rf a0) + ((f_Fi_offset a0).toInt64)) (f_Fi_size a0) (f_Ex_become (f_Fi_immediate a0) (f_Me_read mf ((f_Ma_x rf a0) + ((f_Fi_offset a0).toInt64)) (f_Fi_size a0)) (f_Ma_y rf a0) false)))))]) [0, 1, 2, 3] rfl
          have hD9 := hD.sub (ws' := [(h4, .inr (2, [.ref h5, .ref h2])), (h5, .inl (cL, 16, .inr (.inl (vp_updL rf (0 : Int32).toNatClampNeg (f_Me_read mf ((f_Ma_x rf a0) + ((f_Fi_offset a0).toInt64)) (f_Fi_size a0)))))), (h2, .inr (1, [.ref h3])), (h3, .inl (cB, 4096, .inl ((f_Me_write mf ((f_Ma_x rf a0) + ((f_Fi_offset a0).toInt64)) (f_Fi_size a0) (f_Ex_become (f_Fi_immediate a0) (f_Me_read mf ((f_Ma_x rf a0) + ((f_Fi_offset a0).toInt64)) (f_Fi_size a0)) (f_Ma_y rf a0) false)))))]) [0, 1, 2, 3] (by decide) rfl
          exact W.zret (v := (1 : Int32)) hx hb hr rfl (fun t ht hW => ⟨⟨(1 : Int32), ((vp_updL rf (0 : Int32).toNatClampNeg (f_Me_read mf ((f_Ma_x rf a0) + ((f_Fi_offset a0).toInt64)) (f_Fi_size a0))), ((f_Me_write mf ((f_Ma_x rf a0) + ((f_Fi_offset a0).toInt64)) (f_Fi_size a0) (f_Ex_become (f_Fi_immediate a0) (f_Me_read mf ((f_Ma_x rf a0) + ((f_Fi_offset a0).toInt64)) (f_Fi_size a0)) (f_Ma_y rf a0) false)))), rfl, ⟨(by unfold f_Ma_exchange; rw [if_pos c1, if_pos c2, if_neg c3, if_pos c4]; try rfl), (by unfold f_Ma_exchange; rw [if_pos c1, if_pos c2, if_neg c3, if_pos c4]; try rfl)⟩, by rw [ht]; exact hP9, hD9⟩, hS.F ht⟩) hS.2.2 dMa_exchange_152
      · have c3 := (lg_cmp_eq _ _).mp c3
        refine lv_iconst (v := (1 : Int32)) hx hb dMa_exchange_82 (by decide) ?_
        refine lv_goto (tgt := 87) hx hb dMa_exchange_83 (by decide) ?_
        refine lv_istore (lv' := [(9, .int (1 : Int32)), (7, .long (f_Me_read mf ((f_Ma_x rf a0) + ((f_Fi_offset a0).toInt64)) (f_Fi_size a0))), (5, .long ((f_Ma_x rf a0) + ((f_Fi_offset a0).toInt64))), (4, .int (f_Fi_immediate a0)), (3, .int (f_Fi_size a0)), (0, .ref h4), (1, .long a0)]) hx hb dMa_exchange_87 hl (by decide) rfl (fun ls hl => ?_)
        refine lv_aload_n hx hb dMa_exchange_89 rfl (lv_at hl 5 rfl) ?_
        refine va_get (D := G) (ci := 2) (v := .ref h2) (C := RMa) (T := TMa) (N := 2) hx hb hT inMa hown hK hP 0 rfl rfl 1 (by decide) (hT _ mw_79) (fun _ h9 => h9) rfl dMa_exchange_90 ?_
        refine lv_lload hx hb dMa_exchange_93 (lv_at hl 2 rfl) ?_
        refine lv_iload_n hx hb dMa_exchange_95 rfl (lv_at hl 4 rfl) ?_
        refine lv_iload hx hb dMa_exchange_96 (lv_at hl 3 rfl) ?_
        refine lv_lload hx hb dMa_exchange_98 (lv_at hl 1 rfl) ?_
        refine lv_aload_n hx hb dMa_exchange_100 rfl (lv_at hl 5 rfl) ?_
        refine lv_lload_n hx hb dMa_exchange_101 rfl (lv_at hl 6 rfl) ?_
        have hPc := hP.sub (ws' := [(h4, .inr (2, [.ref h5, .ref h2])), (h5, .inl (cL, 16, .inr (.inl rf)))]) [0, 1] rfl
        refine va_calll (va_runV (As := [.long a0]) (rest := [.long (f_Me_read mf ((f_Ma_x rf a0) + ((f_Fi_offset a0).toInt64)) (f_Fi_size a0)), .int (f_Fi_immediate a0), .int (f_Fi_size a0), .long ((f_Ma_x rf a0) + ((f_Fi_offset a0).toInt64)), .ref h2]) ⟨hx, hb, hml, hown, hT⟩ (c_Ma_y l G cB cL s.heap h4 h5 h2 rf a0 hPc ) (cwV 1 hT (gB_V mw_465 mw_466 mw_467 mw_4 mw_468) rfl rfl rfl (by decide +kernel) ⟨Nat.le_of_ble_eq_true rfl, Nat.le_of_ble_eq_true rfl⟩) ⟨fun a U g mk q => ⟨q.1, q.2.1, va_K.moved (u := U) (U := U.calling g mk a) (Vm.Alike.refl U.vm) q.2.2⟩, va_recv hK hPc (ci := 2) (q0 := 0) rfl rfl, fun U hU hW => ⟨rfl, hU, va_K.moved hW.alike hK⟩⟩ rfl rfl hl.1 rfl (lv_room (Nat.le_of_ble_eq_true rfl)) dMa_exchange_102 ⟨Nat.zero_le _, Nat.zero_le _⟩) hS (fun _ _ h => h.elim) (fun _ h => h.elim) (fun r u t H1 locs ht hvm hw hB hz8 hk8 hS => ?_)
        obtain rfl : s.heap = H1 := hB.symm.trans ht
        subst hw
        refine lv_iload hx hb dMa_exchange_105 (lv_at hl 0 rfl) ?_
        refine va_calll (va_runS (As := [.int (f_Fi_immediate a0), .long (f_Me_read mf ((f_Ma_x rf a0) + ((f_Fi_offset a0).toInt64)) (f_Fi_size a0)), .long (f_Ma_y rf a0), .int (1 : Int32)]) (rest := [.int (f_Fi_size a0), .long ((f_Ma_x rf a0) + ((f_Fi_offset a0).toInt64)), .ref h2]) ⟨hx, hb, hml, hown, hT⟩ (c_Ex_become l s.heap (f_Fi_immediate a0) (f_Me_read mf ((f_Ma_x rf a0) + ((f_Fi_offset a0).toInt64)) (f_Fi_size a0)) (f_Ma_y rf a0) true) (va_cwS 4 hT (gB_SV mw_490 mw_491 mw_17 mw_492) rfl rfl rfl (by decide +kernel) ⟨Nat.le_of_ble_eq_true rfl, Nat.le_of_ble_eq_true rfl⟩) ⟨fun _ _ _ _ q => q, fun U hU hW => ⟨rfl, hU⟩⟩ rfl rfl hl.1 rfl (lv_room (Nat.le_of_ble_eq_true rfl)) dMa_exchange_107 ⟨Nat.zero_le _, Nat.zero_le _⟩) hS (fun _ _ h => h.elim) (fun _ h => h.elim) (fun r u t H1 locs ht hvm hw hB hz8 hk8 hS => ?_)
        obtain rfl : s.heap = H1 := hB.symm.trans ht
        subst hw
        have hPc := hP.sub (ws' := [(h2, .inr (1, [.ref h3])), (h3, .inl (cB, 4096, .inl mf))]) [2, 3] rfl
        have hDc := hD.sub (ws' := [(h2, .inr (1, [.ref h3])), (h3, .inl (cB, 4096, .inl mf))]) [2, 3] (by decide) rfl
        have hFc := va_free (wc := [(h2, .inr (1, [.ref h3])), (h3, .inl (cB, 4096, .inl mf))]) hD hS hA [2, 3] rfl
        refine va_callv (va_runV (As := [.long ((f_Ma_x rf a0) + ((f_Fi_offset a0).toInt64)), .int (f_Fi_size a0), .long (f_Ex_become (f_Fi_immediate a0) (f_Me_read mf ((f_Ma_x rf a0) + ((f_Fi_offset a0).toInt64)) (f_Fi_size a0)) (f_Ma_y rf a0) true)]) (rest := []) ⟨hx, hb, hml, hown, hT⟩ (c_Me_write l G cB cL s.heap h2 h3 mf ((f_Ma_x rf a0) + ((f_Fi_offset a0).toInt64)) (f_Fi_size a0) (f_Ex_become (f_Fi_immediate a0) (f_Me_read mf ((f_Ma_x rf a0) + ((f_Fi_offset a0).toInt64)) (f_Fi_size a0)) (f_Ma_y rf a0) true) hPc (hDc.weaken (fun _ _ _ _ => trivial)) (size_ok a0)) (cwV 3 hT (gB_V mw_485 mw_420 mw_421 mw_5 mw_422) rfl rfl rfl (by decide +kernel) ⟨Nat.le_of_ble_eq_true rfl, Nat.le_of_ble_eq_true rfl⟩) ⟨fun a U g mk q => ⟨q.1, q.2.1, va_K.moved (u := U) (U := U.calling g mk a) (Vm.Alike.refl U.vm) q.2.2⟩, va_recv hK hPc (ci := 1) (q0 := 0) rfl rfl, fun U hU hW => ⟨rfl, hU, va_K.moved hW.alike hK⟩⟩ rfl rfl hl.1 rfl (lv_room (Nat.le_of_ble_eq_true rfl)) dMa_exchange_110 ⟨Nat.zero_le _, Nat.zero_le _⟩) hS (fun q _ h => hFc q h) hFc (fun u t H locs ht hvm hw hB hz8 hk8 hS => ?_)
        subst hw
        obtain ⟨hP1, hD1⟩ := hB
        rw [ht] at hP1
        obtain ⟨hP, hD⟩ := va_join (wr := [(h4, .inr (2, [.ref h5, .ref h2])), (h5, .inl (cL, 16, .inr (.inl rf)))]) (w1 := [(h2, .inr (1, [.ref h3])), (h3, .inl (cB, 4096, .inl ((f_Me_write mf ((f_Ma_x rf a0) + ((f_Fi_offset a0).toInt64)) (f_Fi_size a0) (f_Ex_become (f_Fi_immediate a0) (f_Me_read mf ((f_Ma_x rf a0) + ((f_Fi_offset a0).toInt64)) (f_Fi_size a0)) (f_Ma_y rf a0) true)))))]) hP hD [2, 3] [0, 1] rfl rfl (by decide) (by decide) hk8 hFc hP1 hD1
        have hP : va_P G vwCl [(h4, .inr (2, [.ref h5, .ref h2])), (h5, .inl (cL, 16, .inr (.inl rf))), (h2, .inr (1, [.ref h3])), (h3, .inl (cB, 4096, .inl ((f_Me_write mf ((f_Ma_x rf a0) + ((f_Fi_offset a0).toInt64)) (f_Fi_size a0) (f_Ex_become (f_Fi_immediate a0) (f_Me_read mf ((f_Ma_x rf a0) + ((f_Fi_offset a0).toInt64)) (f_Fi_size a0)) (f_Ma_y rf a0) true)))))] H := hP
        have hD : va_D A [(h4, .inr (2, [.ref h5, .ref h2])), (h5, .inl (cL, 16, .inr (.inl rf))), (h2, .inr (1, [.ref h3])), (h3, .inl (cB, 4096, .inl ((f_Me_write mf ((f_Ma_x rf a0) + ((f_Fi_offset a0).toInt64)) (f_Fi_size a0) (f_Ex_become (f_Fi_immediate a0) (f_Me_read mf ((f_Ma_x rf a0) + ((f_Fi_offset a0).toInt64)) (f_Fi_size a0)) (f_Ma_y rf a0) true)))))] := hD
        refine lv_iload hx hb dMa_exchange_113 (lv_at hl 3 rfl) ?_
        refine lv_sipush (v := (241 : Int32)) hx hb dMa_exchange_115 (by decide) ?_
        refine lv_icmp_ne (tgt := 132) hx hb dMa_exchange_118 (by decide) (fun c6 => ?_) (fun c6 => ?_)
        · skip
          refine lv_iload hx hb dMa_exchange_132 (lv_at hl 3 rfl) ?_
          refine va_calli (va_runS (As := [.int (f_Fi_immediate a0)]) (rest := []) ⟨hx, hb, hml, hown, hT⟩ (c_Ex_changesSource l H (f_Fi_immediate a0)) (va_cwS 1 hT (gB_SV mw_493 mw_174 mw_17 mw_175) rfl rfl rfl (by decide +kernel) ⟨Nat.le_of_ble_eq_true rfl, Nat.le_of_ble_eq_true rfl⟩) ⟨fun _ _ _ _ q => q, fun U hU hW => ⟨rfl, hU⟩⟩ rfl rfl hl.1 rfl (lv_room (Nat.le_of_ble_eq_true rfl)) dMa_exchange_134 ⟨Nat.zero_le _, Nat.zero_le _⟩) hS (fun _ _ h => h.elim) (fun _ h => h.elim) (fun r u t H1 locs ht hvm hw hB hz8 hk8 hS => ?_)
          obtain rfl : H = H1 := hB.symm.trans ht
          subst hw
          refine lv_if_eq (tgt := 151) hx hb dMa_exchange_137 (by decide) (fun c7 => ?_) (fun c7 => ?_)
          · have c7 := bI_z c7
            refine lv_iconst (v := (1 : Int32)) hx hb dMa_exchange_151 (by decide) ?_
            have hP9 := hP.sub (ws' := [(h4, .inr (2, [.ref h5, .ref h2])), (h5, .inl (cL, 16, .inr (.inl rf))), (h2, .inr (1, [.ref h3])), (h3, .inl (cB, 4096, .inl ((f_Me_write mf ((f_Ma_x rf a0) + ((f_Fi_offset a0).toInt64)) (f_Fi_size a0) (f_Ex_become (f_Fi_immediate a0) (f_Me_read mf ((f_Ma_x rf a0) + ((f_Fi_offset a0).toInt64)) (f_Fi_size a0)) (f_Ma_y rf a0) true)))))]) [0, 1, 2, 3] rfl
            have hD9 := hD.sub (ws' := [(h4, .inr (2, [.ref h5, .ref h2])), (h5, .inl (cL, 16, .inr (.inl rf))), (h2, .inr (1, [.ref h3])), (h3, .inl (cB, 4096, .inl ((f_Me_write mf ((f_Ma_x rf a0) + ((f_Fi_offset a0).toInt64)) (f_Fi_size a0) (f_Ex_become (f_Fi_immediate a0) (f_Me_read mf ((f_Ma_x rf a0) + ((f_Fi_offset a0).toInt64)) (f_Fi_size a0)) (f_Ma_y rf a0) true)))))]) [0, 1, 2, 3] (by decide) rfl
            exact W.zret (v := (1 : Int32)) hx hb hr rfl (fun t ht hW => ⟨⟨(1 : Int32), (rf, ((f_Me_write mf ((f_Ma_x rf a0) + ((f_Fi_offset a0).toInt64)) (f_Fi_size a0) (f_Ex_become (f_Fi_immediate a0) (f_Me_read mf ((f_Ma_x rf a0) + ((f_Fi_offset a0).toInt64)) (f_Fi_size a0)) (f_Ma_y rf a0) true)))), rfl, ⟨(by unfold f_Ma_exchange; rw [if_pos c1, if_pos c2, if_pos c3, if_neg c6, if_neg c7]; try rfl), (by unfold f_Ma_exchange; rw [if_pos c1, if_pos c2, if_pos c3, if_neg c6, if_neg c7]; try rfl)⟩, by rw [ht]; exact hP9, hD9⟩, hS.F ht⟩) hS.2.2 dMa_exchange_152
          · have c7 := bI_n c7
            refine lv_aload_n hx hb dMa_exchange_140 rfl (lv_at hl 5 rfl) ?_
            refine va_get (D := G) (ci := 2) (v := .ref h5) (C := RMa) (T := TMa) (N := 2) hx hb hT inMa hown hK hP 0 rfl rfl 0 (by decide) (hT _ mw_77) (fun _ h9 => h9) rfl dMa_exchange_141 ?_
            refine lv_lload_n hx hb dMa_exchange_144 rfl (lv_at hl 6 rfl) ?_
            refine va_calli (va_runS (As := [.long a0]) (rest := [.ref h5]) ⟨hx, hb, hml, hown, hT⟩ (c_Fi_source l H a0) (va_cwS 1 hT (gB_SV mw_469 mw_138 mw_16 mw_139) rfl rfl rfl (by decide +kernel) ⟨Nat.le_of_ble_eq_true rfl, Nat.le_of_ble_eq_true rfl⟩) ⟨fun _ _ _ _ q => q, fun U hU hW => ⟨rfl, hU⟩⟩ rfl rfl hl.1 rfl (lv_room (Nat.le_of_ble_eq_true rfl)) dMa_exchange_145 ⟨Nat.zero_le _, Nat.zero_le _⟩) hS (fun _ _ h => h.elim) (fun _ h => h.elim) (fun r u t H1 locs ht hvm hw hB hz8 hk8 hS => ?_)
            obtain rfl : H = H1 := hB.symm.trans ht
            subst hw
            refine lv_lload hx hb dMa_exchange_148 (lv_at hl 1 rfl) ?_
            refine va_last hx hb hK hP hD hS 1 1 rfl rfl (in_Fi_source a0) dMa_exchange_150 (fun H locs hP hD hS => ?_)
            have hP : va_P G vwCl [(h4, .inr (2, [.ref h5, .ref h2])), (h5, .inl (cL, 16, .inr (.inl (vp_updL rf (f_Fi_source a0).toNatClampNeg (f_Me_read mf ((f_Ma_x rf a0) + ((f_Fi_offset a0).toInt64)) (f_Fi_size a0)))))), (h2, .inr (1, [.ref h3])), (h3, .inl (cB, 4096, .inl ((f_Me_write mf ((f_Ma_x rf a0) + ((f_Fi_offset a0).toInt64)) (f_Fi_size a0) (f_Ex_become (f_Fi_immediate a0) (f_Me_read mf ((f_Ma_x rf a0) + ((f_Fi_offset a0).toInt64)) (f_Fi_size a0)) (f_Ma_y rf a0) true)))))] H := hP
            have hD : va_D A [(h4, .inr (2, [.ref h5, .ref h2])), (h5, .inl (cL, 16, .inr (.inl (vp_updL rf (f_Fi_source a0).toNatClampNeg (f_Me_read mf ((f_Ma_x rf a0) + ((f_Fi_offset a0).toInt64)) (f_Fi_size a0)))))), (h2, .inr (1, [.ref h3])), (h3, .inl (cB, 4096, .inl ((f_Me_write mf ((f_Ma_x rf a0) + ((f_Fi_offset a0).toInt64)) (f_Fi_size a0) (f_Ex_become (f_Fi_immediate a0) (f_Me_read mf ((f_Ma_x rf a0) + ((f_Fi_offset a0).toInt64)) (f_Fi_size a0)) (f_Ma_y rf a0) true)))))] := hD
            refine lv_iconst (v := (1 : Int32)) hx hb dMa_exchange_151 (by decide) ?_
            have hP9 := hP.sub (ws' := [(h4, .inr (2, [.ref h5, .ref h2])), (h5, .inl (cL, 16, .inr (.inl (vp_updL rf (f_Fi_source a0).toNatClampNeg (f_Me_read mf ((f_Ma_x rf a0) + ((f_Fi_offset a0).toInt64)) (f_Fi_size a0)))))), (h2, .inr (1, [.ref h3])), (h3, .inl (cB, 4096, .inl ((f_Me_write mf ((f_Ma_x rf a0) + ((f_Fi_offset a0).toInt64)) (f_Fi_size a0) (f_Ex_become (f_Fi_immediate a0) (f_Me_read mf ((f_Ma_x rf a0) + ((f_Fi_offset a0).toInt64)) (f_Fi_size a0)) (f_Ma_y rf a0) true)))))]) [0, 1, 2, 3] rfl
            have hD9 := hD.sub (ws' := [(h4, .inr (2, [.ref h5, .ref h2])), (h5, .inl (cL, 16, .inr (.inl (vp_updL rf (f_Fi_source a0).toNatClampNeg (f_Me_read mf ((f_Ma_x rf a0) + ((f_Fi_offset a0).toInt64)) (f_Fi_size a0)))))), (h2, .inr (1, [.ref h3])), (h3, .inl (cB, 4096, .inl ((f_Me_write mf ((f_Ma_x rf a0) + ((f_Fi_offset a0).toInt64)) (f_Fi_size a0) (f_Ex_become (f_Fi_immediate a0) (f_Me_read mf ((f_Ma_x rf a0) + ((f_Fi_offset a0).toInt64)) (f_Fi_size a0)) (f_Ma_y rf a0) true)))))]) [0, 1, 2, 3] (by decide) rfl
            exact W.zret (v := (1 : Int32)) hx hb hr rfl (fun t ht hW => ⟨⟨(1 : Int32), ((vp_updL rf (f_Fi_source a0).toNatClampNeg (f_Me_read mf ((f_Ma_x rf a0) + ((f_Fi_offset a0).toInt64)) (f_Fi_size a0))), ((f_Me_write mf ((f_Ma_x rf a0) + ((f_Fi_offset a0).toInt64)) (f_Fi_size a0) (f_Ex_become (f_Fi_immediate a0) (f_Me_read mf ((f_Ma_x rf a0) + ((f_Fi_offset a0).toInt64)) (f_Fi_size a0)) (f_Ma_y rf a0) true)))), rfl, ⟨(by unfold f_Ma_exchange; rw [if_pos c1, if_pos c2, if_pos c3, if_neg c6, if_pos c7]; try rfl), (by unfold f_Ma_exchange; rw [if_pos c1, if_pos c2, if_pos c3, if_neg c6, if_pos c7]; try rfl)⟩, by rw [ht]; exact hP9, hD9⟩, hS.F ht⟩) hS.2.2 dMa_exchange_152
        · skip
          refine lv_aload_n hx hb dMa_exchange_121 rfl (lv_at hl 5 rfl) ?_
          refine va_get (D := G) (ci := 2) (v := .ref h5) (C := RMa) (T := TMa) (N := 2) hx hb hT inMa hown hK hP 0 rfl rfl 0 (by decide) (hT _ mw_77) (fun _ h9 => h9) rfl dMa_exchange_122 ?_
          refine lv_iconst (v := (0 : Int32)) hx hb dMa_exchange_125 (by decide) ?_
          refine lv_lload hx hb dMa_exchange_126 (lv_at hl 1 rfl) ?_
          refine va_last hx hb hK hP hD hS 1 1 rfl rfl (by unfold vp_in; decide) dMa_exchange_128 (fun H locs hP hD hS => ?_)
          have hP : va_P G vwCl [(h4, .inr (2, [.ref h5, .ref h2])), (h5, .inl (cL, 16, .inr (.inl (vp_updL rf (0 : Int32).toNatClampNeg (f_Me_read mf ((f_Ma_x rf a0) + ((f_Fi_offset a0).toInt64)) (f_Fi_size a0)))))), (h2, .inr (1, [.ref h3])), (h3, .inl (cB, 4096, .inl ((f_Me_write mf ((f_Ma_x rf a0) + ((f_Fi_offset a0).toInt64)) (f_Fi_size a0) (f_Ex_become (f_Fi_immediate a0) (f_Me_read mf ((f_Ma_x rf a0) + ((f_Fi_offset a0).toInt64)) (f_Fi_size a0)) (f_Ma_y rf a0) true)))))] H := hP
          have hD : va_D A [(h4, .inr (2, [.ref h5, .ref h2])), (h5, .inl (cL, 16, .inr (.inl (vp_updL rf (0 : Int32).toNatClampNeg (f_Me_read mf ((f_Ma_x rf a0) + ((f_Fi_offset a0).toInt64)) (f_Fi_size a0)))))), (h2, .inr (1, [.ref h3])), (h3, .inl (cB, 4096, .inl ((f_Me_write mf ((f_Ma_x rf a0) + ((f_Fi_offset a0).toInt64)) (f_Fi_size a0) (f_Ex_become (f_Fi_immediate a0) (f_Me_read mf ((f_Ma_x rf a0) + ((f_Fi_offset a0).toInt64)) (f_Fi_size a0)) (f_Ma_y rf a0) true)))))] := hD
          refine lv_goto (tgt := 151) hx hb dMa_exchange_129 (by decide) ?_
          refine lv_iconst (v := (1 : Int32)) hx hb dMa_exchange_151 (by decide) ?_
          have hP9 := hP.sub (ws' := [(h4, .inr (2, [.ref h5, .ref h2])), (h5, .inl (cL, 16, .inr (.inl (vp_updL rf (0 : Int32).toNatClampNeg (f_Me_read mf ((f_Ma_x rf a0) + ((f_Fi_offset a0).toInt64)) (f_Fi_size a0)))))), (h2, .inr (1, [.ref h3])), (h3, .inl (cB, 4096, .inl ((f_Me_write mf ((f_Ma_x rf a0) + ((f_Fi_offset a0).toInt64)) (f_Fi_size a0) (f_Ex_become (f_Fi_immediate a0) (f_Me_read mf ((f_Ma_x rf a0) + ((f_Fi_offset a0).toInt64)) (f_Fi_size a0)) (f_Ma_y rf a0) true)))))]) [0, 1, 2, 3] rfl
          have hD9 := hD.sub (ws' := [(h4, .inr (2, [.ref h5, .ref h2])), (h5, .inl (cL, 16, .inr (.inl (vp_updL rf (0 : Int32).toNatClampNeg (f_Me_read mf ((f_Ma_x rf a0) + ((f_Fi_offset a0).toInt64)) (f_Fi_size a0)))))), (h2, .inr (1, [.ref h3])), (h3, .inl (cB, 4096, .inl ((f_Me_write mf ((f_Ma_x rf a0) + ((f_Fi_offset a0).toInt64)) (f_Fi_size a0) (f_Ex_become (f_Fi_immediate a0) (f_Me_read mf ((f_Ma_x rf a0) + ((f_Fi_offset a0).toInt64)) (f_Fi_size a0)) (f_Ma_y rf a0) true)))))]) [0, 1, 2, 3] (by decide) rfl
          exact W.zret (v := (1 : Int32)) hx hb hr rfl (fun t ht hW => ⟨⟨(1 : Int32), ((vp_updL rf (0 : Int32).toNatClampNeg (f_Me_read mf ((f_Ma_x rf a0) + ((f_Fi_offset a0).toInt64)) (f_Fi_size a0))), ((f_Me_write mf ((f_Ma_x rf a0) + ((f_Fi_offset a0).toInt64)) (f_Fi_size a0) (f_Ex_become (f_Fi_immediate a0) (f_Me_read mf ((f_Ma_x rf a0) + ((f_Fi_offset a0).toInt64)) (f_Fi_size a0)) (f_Ma_y rf a0) true)))), rfl, ⟨(by unfold f_Ma_exchange; rw [if_pos c1, if_pos c2, if_pos c3, if_pos c6]; try rfl), (by unfold f_Ma_exchange; rw [if_pos c1, if_pos c2, if_pos c3, if_pos c6]; try rfl)⟩, by rw [ht]; exact hP9, hD9⟩, hS.F ht⟩) hS.2.2 dMa_exchange_152
    · have c2 := mt (lg_cmp_eq _ _).mpr c2
      refine lv_iconst (v := (0 : Int32)) hx hb dMa_exchange_49 (by decide) ?_
      have hP9 := hP.sub (ws' := [(h4, .inr (2, [.ref h5, .ref h2])), (h5, .inl (cL, 16, .inr (.inl rf))), (h2, .inr (1, [.ref h3])), (h3, .inl (cB, 4096, .inl mf))]) [0, 1, 2, 3] rfl
      have hD9 := hD.sub (ws' := [(h4, .inr (2, [.ref h5, .ref h2])), (h5, .inl (cL, 16, .inr (.inl rf))), (h2, .inr (1, [.ref h3])), (h3, .inl (cB, 4096, .inl mf))]) [0, 1, 2, 3] (by decide) rfl
      exact W.zret (v := (0 : Int32)) hx hb hr rfl (fun t ht hW => ⟨⟨(0 : Int32), (rf, mf), rfl, ⟨(by unfold f_Ma_exchange; rw [if_pos c1, if_neg c2]; try rfl), (by unfold f_Ma_exchange; rw [if_pos c1, if_neg c2]; try rfl)⟩, by rw [ht]; exact hP9, hD9⟩, hS.F ht⟩) hS.2.2 dMa_exchange_50
end
section
def f_Ma_jump (rf : Nat → Int64) (a0 : Int32) (a1 : Int64) : Int32 × (Nat → Int64) :=
  if (f_Fi_isExit a1) = true then
    ((-1 : Int32), rf)
  else
    if (f_Fi_isCall a1) = true then
      ((a0 + (1 : Int32)), ((f_Ma_answerCall rf (f_Fi_immediate a1))))
    else
      if (f_Fi_jumpsAlways a1) = true then
        (((f_Fi_jumpFrom a0 a1).toInt32), rf)
      else
        if (f_Ma_takesJump rf a1) = true then
          (((f_Fi_jumpFrom a0 a1).toInt32), rf)
        else
          ((a0 + (1 : Int32)), rf)
set_option maxHeartbeats 4000000 in
set_option maxRecDepth 100000 in
theorem c_Ma_jump (l : Launch) (G : va_G) (cB cL : ClassId) (Hp : Heap) (h4 : Nat) (h5 : Nat) (h2 : Nat) (rf : Nat → Int64) (a0 : Int32) (a1 : Int64) (hP : va_P G vwCl [(h4, .inr (2, [.ref h5, .ref h2])), (h5, .inl (cL, 16, .inr (.inl rf)))] Hp) (hD : va_D (fun _ => True) [(h4, .inr (2, [.ref h5, .ref h2])), (h5, .inl (cL, 16, .inr (.inl rf)))]) : Met l yMa_jump wsMa_jump ({ frames := 4, cells := 0, slots := 0, locals := 91 }) (va_Pc [.ref h4, .int a0, .long a1] (fun U => U.heap = Hp ∧ va_K G vwCl [(cB, .byte), (cL, .long)] U)) (va_Qi (fun (r : Int32) (u : (Nat → Int64)) => (r, u) = (f_Ma_jump rf a0 a1)) (fun (u : (Nat → Int64)) t => va_P G vwCl [(h4, .inr (2, [.ref h5, .ref h2])), (h5, .inl (cL, 16, .inr (.inl (u))))] t.heap ∧ va_D (va_A [(h4, .inr (2, [.ref h5, .ref h2])), (h5, .inl (cL, 16, .inr (.inl rf)))] Hp.size) [(h4, .inr (2, [.ref h5, .ref h2])), (h5, .inl (cL, 16, .inr (.inl (u))))]) (va_A [(h4, .inr (2, [.ref h5, .ref h2])), (h5, .inl (cL, 16, .inr (.inl rf)))] Hp.size)) 0 0 (va_A [(h4, .inr (2, [.ref h5, .ref h2])), (h5, .inl (cL, 16, .inr (.inl rf)))] Hp.size) := by
  refine Met.ofW (cc := cMa_jump) (maxL := 4) (ret := (some .int)) (by decide) rfl ?_
  intro p e s m args below meth c s₁ B hml hv
  obtain ⟨rfl, rfl, hK⟩ := hv
  have hx := B.exec
  have hb := B.bytes
  have hr := B.returns
  have hT : ∀ w ∈ tB, w.before _ s = true := fun w h => atoms_spec (ws := wsMa_jump) B.pre w (List.mem_cons_of_mem _ h)
  have hown : s.vm.findClass "CompiledProgram$Machine" = some m.cls := findClass_of_methodNamed B.named
  have hlocks := B.notSynchronized
  have hD := hD.self (sz := s.heap.size)
  generalize hAe : va_A [(h4, .inr (2, [.ref h5, .ref h2])), (h5, .inl (cL, 16, .inr (.inl rf)))] s.heap.size = A at hD ⊢
  have hA : ∀ q : Nat, s.heap.size ≤ q → A q := fun q h => by rw [← hAe]; exact Or.inr h
  have hS : va_S A s.heap s.heap [] := va_S.rf
  have hl := lv_entry ([.ref h4, .int a0, .long a1]) (n := 4) (Nat.le_of_ble_eq_true rfl)
  rw [lg_entry_eq]
  generalize (lg_sl ([.ref h4, .int a0, .long a1]) ++ List.replicate (4 - (lg_sl ([.ref h4, .int a0, .long a1])).length) Slot.unset).toArray = ls at hl ⊢
  have hl : lv_has ls 4 [(0, .ref h4), (1, .int a0), (2, .long a1)] := hl
  refine lv_lload_n hx hb dMa_jump_0 rfl (lv_at hl 2 rfl) ?_
  refine va_calli (va_runS (As := [.long a1]) (rest := []) ⟨hx, hb, hml, hown, hT⟩ (c_Fi_isExit l s.heap a1) (va_cwS 1 hT (gB_SV mw_498 mw_221 mw_16 mw_222) rfl rfl rfl (by decide +kernel) ⟨Nat.le_of_ble_eq_true rfl, Nat.le_of_ble_eq_true rfl⟩) ⟨fun _ _ _ _ q => q, fun U hU hW => ⟨rfl, hU⟩⟩ rfl rfl hl.1 rfl (lv_room (Nat.le_of_ble_eq_true rfl)) dMa_jump_1 ⟨Nat.zero_le _, Nat.zero_le _⟩) hS (fun _ _ h => h.elim) (fun _ h => h.elim) (fun r u t H1 locs ht hvm hw hB hz8 hk8 hS => ?_)
  obtain rfl : s.heap = H1 := hB.symm.trans ht
  subst hw
  refine lv_if_eq (tgt := 9) hx hb dMa_jump_4 (by decide) (fun c1 => ?_) (fun c1 => ?_)
  · have c1 := bI_z c1
    refine lv_lload_n hx hb dMa_jump_9 rfl (lv_at hl 2 rfl) ?_
    refine va_calli (va_runS (As := [.long a1]) (rest := []) ⟨hx, hb, hml, hown, hT⟩ (c_Fi_isCall l s.heap a1) (va_cwS 1 hT (gB_SV mw_499 mw_500 mw_16 mw_501) rfl rfl rfl (by decide +kernel) ⟨Nat.le_of_ble_eq_true rfl, Nat.le_of_ble_eq_true rfl⟩) ⟨fun _ _ _ _ q => q, fun U hU hW => ⟨rfl, hU⟩⟩ rfl rfl hl.1 rfl (lv_room (Nat.le_of_ble_eq_true rfl)) dMa_jump_10 ⟨Nat.zero_le _, Nat.zero_le _⟩) hS (fun _ _ h => h.elim) (fun _ h => h.elim) (fun r u t H1 locs ht hvm hw hB hz8 hk8 hS => ?_)
    obtain rfl : s.heap = H1 := hB.symm.trans ht
    subst hw
    refine lv_if_eq (tgt := 28) hx hb dMa_jump_13 (by decide) (fun c2 => ?_) (fun c2 => ?_)
    · have c2 := bI_z c2
      refine lv_lload_n hx hb dMa_jump_28 rfl (lv_at hl 2 rfl) ?_
      refine va_calli (va_runS (As := [.long a1]) (rest := []) ⟨hx, hb, hml, hown, hT⟩ (c_Fi_jumpsAlways l s.heap a1) (va_cwS 1 hT (gB_SV mw_507 mw_224 mw_16 mw_225) rfl rfl rfl (by decide +kernel) ⟨Nat.le_of_ble_eq_true rfl, Nat.le_of_ble_eq_true rfl⟩) ⟨fun _ _ _ _ q => q, fun U hU hW => ⟨rfl, hU⟩⟩ rfl rfl hl.1 rfl (lv_room (Nat.le_of_ble_eq_true rfl)) dMa_jump_29 ⟨Nat.zero_le _, Nat.zero_le _⟩) hS (fun _ _ h => h.elim) (fun _ h => h.elim) (fun r u t H1 locs ht hvm hw hB hz8 hk8 hS => ?_)
      obtain rfl : s.heap = H1 := hB.symm.trans ht
      subst hw
      refine lv_if_ne (tgt := 43) hx hb dMa_jump_32 (by decide) (fun c3 => ?_) (fun c3 => ?_)
      · have c3 := bI_n c3
        refine lv_iload_n hx hb dMa_jump_43 rfl (lv_at hl 1 rfl) ?_
        refine lv_lload_n hx hb dMa_jump_44 rfl (lv_at hl 2 rfl) ?_
        refine va_calll (va_runS (As := [.int a0, .long a1]) (rest := []) ⟨hx, hb, hml, hown, hT⟩ (c_Fi_jumpFrom l s.heap a0 a1) (va_cwS 2 hT (gB_SV mw_522 mw_227 mw_16 mw_228) rfl rfl rfl (by decide +kernel) ⟨Nat.le_of_ble_eq_true rfl, Nat.le_of_ble_eq_true rfl⟩) ⟨fun _ _ _ _ q => q, fun U hU hW => ⟨rfl, hU⟩⟩ rfl rfl hl.1 rfl (lv_room (Nat.le_of_ble_eq_true rfl)) dMa_jump_45 ⟨Nat.zero_le _, Nat.zero_le _⟩) hS (fun _ _ h => h.elim) (fun _ h => h.elim) (fun r u t H1 locs ht hvm hw hB hz8 hk8 hS => ?_)
        obtain rfl : s.heap = H1 := hB.symm.trans ht
        subst hw
        refine lv_l2i hx hb dMa_jump_48 rfl ?_
        refine lv_goto (tgt := 55) hx hb dMa_jump_49 (by decide) ?_
        have hP9 := hP.sub (ws' := [(h4, .inr (2, [.ref h5, .ref h2])), (h5, .inl (cL, 16, .inr (.inl rf)))]) [0, 1] rfl
        have hD9 := hD.sub (ws' := [(h4, .inr (2, [.ref h5, .ref h2])), (h5, .inl (cL, 16, .inr (.inl rf)))]) [0, 1] (by decide) rfl
        exact W.iret (v := ((f_Fi_jumpFrom a0 a1).toInt32)) hx hb hr (fun t ht hW => ⟨⟨((f_Fi_jumpFrom a0 a1).toInt32), (rf), rfl, (by unfold f_Ma_jump; rw [if_neg c1, if_neg c2, if_pos c3]; try rfl), by rw [ht]; exact hP9, hD9⟩, hS.F ht⟩) hS.2.2 dMa_jump_55
      · have c3 := bI_z c3
        refine lv_aload_n hx hb dMa_jump_35 rfl (lv_at hl 0 rfl) ?_
        refine lv_lload_n hx hb dMa_jump_36 rfl (lv_at hl 2 rfl) ?_
        have hPc := hP.sub (ws' := [(h4, .inr (2, [.ref h5, .ref h2])), (h5, .inl (cL, 16, .inr (.inl rf)))]) [0, 1] rfl
        refine va_calli (va_runV (As := [.long a1]) (rest := []) ⟨hx, hb, hml, hown, hT⟩ (c_Ma_takesJump l G cB cL s.heap h4 h5 h2 rf a1 hPc ) (cwV 1 hT (gB_V mw_508 mw_509 mw_510 mw_4 mw_511) rfl rfl rfl (by decide +kernel) ⟨Nat.le_of_ble_eq_true rfl, Nat.le_of_ble_eq_true rfl⟩) ⟨fun a U g mk q => ⟨q.1, q.2.1, va_K.moved (u := U) (U := U.calling g mk a) (Vm.Alike.refl U.vm) q.2.2⟩, va_recv hK hPc (ci := 2) (q0 := 0) rfl rfl, fun U hU hW => ⟨rfl, hU, va_K.moved hW.alike hK⟩⟩ rfl rfl hl.1 rfl (lv_room (Nat.le_of_ble_eq_true rfl)) dMa_jump_37 ⟨Nat.zero_le _, Nat.zero_le _⟩) hS (fun _ _ h => h.elim) (fun _ h => h.elim) (fun r u t H1 locs ht hvm hw hB hz8 hk8 hS => ?_)
        obtain rfl : s.heap = H1 := hB.symm.trans ht
        subst hw
        refine lv_if_eq (tgt := 52) hx hb dMa_jump_40 (by decide) (fun c4 => ?_) (fun c4 => ?_)
        · have c4 := bI_z c4
          refine lv_iload_n hx hb dMa_jump_52 rfl (lv_at hl 1 rfl) ?_
          refine lv_iconst (v := (1 : Int32)) hx hb dMa_jump_53 (by decide) ?_
          refine lv_iadd hx hb dMa_jump_54 ?_
          have hP9 := hP.sub (ws' := [(h4, .inr (2, [.ref h5, .ref h2])), (h5, .inl (cL, 16, .inr (.inl rf)))]) [0, 1] rfl
          have hD9 := hD.sub (ws' := [(h4, .inr (2, [.ref h5, .ref h2])), (h5, .inl (cL, 16, .inr (.inl rf)))]) [0, 1] (by decide) rfl
          exact W.iret (v := (a0 + (1 : Int32))) hx hb hr (fun t ht hW => ⟨⟨(a0 + (1 : Int32)), (rf), rfl, (by unfold f_Ma_jump; rw [if_neg c1, if_neg c2, if_neg c3, if_neg c4]; try rfl), by rw [ht]; exact hP9, hD9⟩, hS.F ht⟩) hS.2.2 dMa_jump_55
        · have c4 := bI_n c4
          refine lv_iload_n hx hb dMa_jump_43 rfl (lv_at hl 1 rfl) ?_
          refine lv_lload_n hx hb dMa_jump_44 rfl (lv_at hl 2 rfl) ?_
          refine va_calll (va_runS (As := [.int a0, .long a1]) (rest := []) ⟨hx, hb, hml, hown, hT⟩ (c_Fi_jumpFrom l s.heap a0 a1) (va_cwS 2 hT (gB_SV mw_522 mw_227 mw_16 mw_228) rfl rfl rfl (by decide +kernel) ⟨Nat.le_of_ble_eq_true rfl, Nat.le_of_ble_eq_true rfl⟩) ⟨fun _ _ _ _ q => q, fun U hU hW => ⟨rfl, hU⟩⟩ rfl rfl hl.1 rfl (lv_room (Nat.le_of_ble_eq_true rfl)) dMa_jump_45 ⟨Nat.zero_le _, Nat.zero_le _⟩) hS (fun _ _ h => h.elim) (fun _ h => h.elim) (fun r u t H1 locs ht hvm hw hB hz8 hk8 hS => ?_)
          obtain rfl : s.heap = H1 := hB.symm.trans ht
          subst hw
          refine lv_l2i hx hb dMa_jump_48 rfl ?_
          refine lv_goto (tgt := 55) hx hb dMa_jump_49 (by decide) ?_
          have hP9 := hP.sub (ws' := [(h4, .inr (2, [.ref h5, .ref h2])), (h5, .inl (cL, 16, .inr (.inl rf)))]) [0, 1] rfl
          have hD9 := hD.sub (ws' := [(h4, .inr (2, [.ref h5, .ref h2])), (h5, .inl (cL, 16, .inr (.inl rf)))]) [0, 1] (by decide) rfl
          exact W.iret (v := ((f_Fi_jumpFrom a0 a1).toInt32)) hx hb hr (fun t ht hW => ⟨⟨((f_Fi_jumpFrom a0 a1).toInt32), (rf), rfl, (by unfold f_Ma_jump; rw [if_neg c1, if_neg c2, if_neg c3, if_pos c4]; try rfl), by rw [ht]; exact hP9, hD9⟩, hS.F ht⟩) hS.2.2 dMa_jump_55
    · have c2 := bI_n c2
      refine lv_aload_n hx hb dMa_jump_16 rfl (lv_at hl 0 rfl) ?_
      refine lv_lload_n hx hb dMa_jump_17 rfl (lv_at hl 2 rfl) ?_
      refine va_calli (va_runS (As := [.long a1]) (rest := [.ref h4]) ⟨hx, hb, hml, hown, hT⟩ (c_Fi_immediate l s.heap a1) (va_cwS 1 hT (gB_SV mw_455 mw_153 mw_16 mw_154) rfl rfl rfl (by decide +kernel) ⟨Nat.le_of_ble_eq_true rfl, Nat.le_of_ble_eq_true rfl⟩) ⟨fun _ _ _ _ q => q, fun U hU hW => ⟨rfl, hU⟩⟩ rfl rfl hl.1 rfl (lv_room (Nat.le_of_ble_eq_true rfl)) dMa_jump_18 ⟨Nat.zero_le _, Nat.zero_le _⟩) hS (fun _ _ h => h.elim) (fun _ h => h.elim) (fun r u t H1 locs ht hvm hw hB hz8 hk8 hS => ?_)
      obtain rfl : s.heap = H1 := hB.symm.trans ht
      subst hw
      have hPc := hP.sub (ws' := [(h4, .inr (2, [.ref h5, .ref h2])), (h5, .inl (cL, 16, .inr (.inl rf)))]) [0, 1] rfl
      have hDc := hD.sub (ws' := [(h4, .inr (2, [.ref h5, .ref h2])), (h5, .inl (cL, 16, .inr (.inl rf)))]) [0, 1] (by decide) rfl
      have hFc := va_free (wc := [(h4, .inr (2, [.ref h5, .ref h2])), (h5, .inl (cL, 16, .inr (.inl rf)))]) hD hS hA [0, 1] rfl
      refine va_callv (va_runV (As := [.int (f_Fi_immediate a1)]) (rest := []) ⟨hx, hb, hml, hown, hT⟩ (c_Ma_answerCall l G cB cL s.heap h4 h5 h2 rf (f_Fi_immediate a1) hPc (hDc.weaken (fun _ _ _ _ => trivial))) (cwV 1 hT (gB_V mw_502 mw_503 mw_504 mw_4 mw_505) rfl rfl rfl (by decide +kernel) ⟨Nat.le_of_ble_eq_true rfl, Nat.le_of_ble_eq_true rfl⟩) ⟨fun a U g mk q => ⟨q.1, q.2.1, va_K.moved (u := U) (U := U.calling g mk a) (Vm.Alike.refl U.vm) q.2.2⟩, va_recv hK hPc (ci := 2) (q0 := 0) rfl rfl, fun U hU hW => ⟨rfl, hU, va_K.moved hW.alike hK⟩⟩ rfl rfl hl.1 rfl (lv_room (Nat.le_of_ble_eq_true rfl)) dMa_jump_21 ⟨Nat.zero_le _, Nat.zero_le _⟩) hS (fun q _ h => hFc q h) hFc (fun u t H locs ht hvm hw hB hz8 hk8 hS => ?_)
      subst hw
      obtain ⟨hP1, hD1⟩ := hB
      rw [ht] at hP1
      obtain ⟨hP, hD⟩ := va_join (wr := []) (w1 := [(h4, .inr (2, [.ref h5, .ref h2])), (h5, .inl (cL, 16, .inr (.inl ((f_Ma_answerCall rf (f_Fi_immediate a1))))))]) hP hD [0, 1] [] rfl rfl (by decide) (by decide) hk8 hFc hP1 hD1
      have hP : va_P G vwCl [(h4, .inr (2, [.ref h5, .ref h2])), (h5, .inl (cL, 16, .inr (.inl ((f_Ma_answerCall rf (f_Fi_immediate a1))))))] H := hP
      have hD : va_D A [(h4, .inr (2, [.ref h5, .ref h2])), (h5, .inl (cL, 16, .inr (.inl ((f_Ma_answerCall rf (f_Fi_immediate a1))))))] := hD
      refine lv_iload_n hx hb dMa_jump_24 rfl (lv_at hl 1 rfl) ?_
      refine lv_iconst (v := (1 : Int32)) hx hb dMa_jump_25 (by decide) ?_
      refine lv_iadd hx hb dMa_jump_26 ?_
      have hP9 := hP.sub (ws' := [(h4, .inr (2, [.ref h5, .ref h2])), (h5, .inl (cL, 16, .inr (.inl ((f_Ma_answerCall rf (f_Fi_immediate a1))))))]) [0, 1] rfl
      have hD9 := hD.sub (ws' := [(h4, .inr (2, [.ref h5, .ref h2])), (h5, .inl (cL, 16, .inr (.inl ((f_Ma_answerCall rf (f_Fi_immediate a1))))))]) [0, 1] (by decide) rfl
      exact W.iret (v := (a0 + (1 : Int32))) hx hb hr (fun t ht hW => ⟨⟨(a0 + (1 : Int32)), (((f_Ma_answerCall rf (f_Fi_immediate a1)))), rfl, (by unfold f_Ma_jump; rw [if_neg c1, if_pos c2]; try rfl), by rw [ht]; exact hP9, hD9⟩, hS.F ht⟩) hS.2.2 dMa_jump_27
  · have c1 := bI_n c1
    refine lv_iconst (v := (-1 : Int32)) hx hb dMa_jump_7 (by decide) ?_
    have hP9 := hP.sub (ws' := [(h4, .inr (2, [.ref h5, .ref h2])), (h5, .inl (cL, 16, .inr (.inl rf)))]) [0, 1] rfl
    have hD9 := hD.sub (ws' := [(h4, .inr (2, [.ref h5, .ref h2])), (h5, .inl (cL, 16, .inr (.inl rf)))]) [0, 1] (by decide) rfl
    exact W.iret (v := (-1 : Int32)) hx hb hr (fun t ht hW => ⟨⟨(-1 : Int32), (rf), rfl, (by unfold f_Ma_jump; rw [if_pos c1]; try rfl), by rw [ht]; exact hP9, hD9⟩, hS.F ht⟩) hS.2.2 dMa_jump_8

def f_Ma_follow (rf : Nat → Int64) (mf : Nat → Int32) (pf : Nat → Int64) (cnt : Int32) (a1 : Int32) : Int32 × (Nat → Int64) × (Nat → Int32) :=
  if (f_Fi_kind (f_Pr_at pf cnt a1)) = (0 : Int32) then
    ((a1 + (2 : Int32)), ((f_Ma_takeTwoPlaces rf (f_Pr_at pf cnt a1) (f_Pr_at pf cnt (a1 + (1 : Int32))))), mf)
  else
    if (f_Fi_kind (f_Pr_at pf cnt a1)) = (1 : Int32) then
      if (f_Ma_read rf mf (f_Pr_at pf cnt a1)).1 = true then
        ((a1 + (1 : Int32)), ((f_Ma_read rf mf (f_Pr_at pf cnt a1)).2), mf)
      else
        ((-2 : Int32), ((f_Ma_read rf mf (f_Pr_at pf cnt a1)).2), mf)
    else
      if (f_Fi_kind (f_Pr_at pf cnt a1)) = (2 : Int32) then
        if (f_Ma_write rf mf (f_Pr_at pf cnt a1) ((f_Fi_immediate (f_Pr_at pf cnt a1)).toInt64)).1 = true then
          ((a1 + (1 : Int32)), rf, ((f_Ma_write rf mf (f_Pr_at pf cnt a1) ((f_Fi_immediate (f_Pr_at pf cnt a1)).toInt64)).2))
        else
          ((-2 : Int32), rf, ((f_Ma_write rf mf (f_Pr_at pf cnt a1) ((f_Fi_immediate (f_Pr_at pf cnt a1)).toInt64)).2))
      else
        if (f_Fi_kind (f_Pr_at pf cnt a1)) = (3 : Int32) then
          if (f_Fi_mode (f_Pr_at pf cnt a1)) = (6 : Int32) then
            if (f_Ma_exchange rf mf (f_Pr_at pf cnt a1)).1 = true then
              ((a1 + (1 : Int32)), ((f_Ma_exchange rf mf (f_Pr_at pf cnt a1)).2.1), ((f_Ma_exchange rf mf (f_Pr_at pf cnt a1)).2.2))
            else
              ((-2 : Int32), ((f_Ma_exchange rf mf (f_Pr_at pf cnt a1)).2.1), ((f_Ma_exchange rf mf (f_Pr_at pf cnt a1)).2.2))
          else
            if (f_Ma_write rf mf (f_Pr_at pf cnt a1) (f_Ma_y rf (f_Pr_at pf cnt a1))).1 = true then
              ((a1 + (1 : Int32)), rf, ((f_Ma_write rf mf (f_Pr_at pf cnt a1) (f_Ma_y rf (f_Pr_at pf cnt a1))).2))
            else
              ((-2 : Int32), rf, ((f_Ma_write rf mf (f_Pr_at pf cnt a1) (f_Ma_y rf (f_Pr_at pf cnt a1))).2))
        else
          if (f_Fi_kind (f_Pr_at pf cnt a1)) = (4 : Int32) then
            ((a1 + (1 : Int32)), (vp_updL rf (f_Fi_target (f_Pr_at pf cnt a1)).toNatClampNeg (f_Ma_computed rf (f_Pr_at pf cnt a1))), mf)
          else
            if (f_Fi_kind (f_Pr_at pf cnt a1)) = (5 : Int32) then
              ((f_Ma_jump rf a1 (f_Pr_at pf cnt a1)).1, ((f_Ma_jump rf a1 (f_Pr_at pf cnt a1)).2), mf)
            else
              if (f_Fi_kind (f_Pr_at pf cnt a1)) = (6 : Int32) then
                ((f_Ma_jump rf a1 (f_Pr_at pf cnt a1)).1, ((f_Ma_jump rf a1 (f_Pr_at pf cnt a1)).2), mf)
              else
                ((a1 + (1 : Int32)), (vp_updL rf (f_Fi_target (f_Pr_at pf cnt a1)).toNatClampNeg (f_Ma_computed rf (f_Pr_at pf cnt a1))), mf)
set_option maxHeartbeats 4000000 in
set_option maxRecDepth 100000 in
theorem c_Ma_follow (l : Launch) (G : va_G) (cB cL : ClassId) (Hp : Heap) (h4 : Nat) (h5 : Nat) (rf : Nat → Int64) (h2 : Nat) (h3 : Nat) (mf : Nat → Int32) (h0 : Nat) (h1 : Nat) (pn : Nat) (pf : Nat → Int64) (cnt : Int32) (a1 : Int32) (hP : va_P G vwCl [(h4, .inr (2, [.ref h5, .ref h2])), (h5, .inl (cL, 16, .inr (.inl rf))), (h2, .inr (1, [.ref h3])), (h3, .inl (cB, 4096, .inl mf)), (h0, .inr (0, [.ref h1, .int cnt])), (h1, .inl (cL, pn, .inr (.inl pf)))] Hp) (hD : va_D (fun _ => True) [(h4, .inr (2, [.ref h5, .ref h2])), (h5, .inl (cL, 16, .inr (.inl rf))), (h2, .inr (1, [.ref h3])), (h3, .inl (cB, 4096, .inl mf)), (h0, .inr (0, [.ref h1, .int cnt])), (h1, .inl (cL, pn, .inr (.inl pf)))]) (hc : cnt.toInt ≤ pn) : Met l yMa_follow wsMa_follow ({ frames := 6, cells := 0, slots := 0, locals := 146 }) (va_Pc [.ref h4, .ref h0, .int a1] (fun U => U.heap = Hp ∧ va_K G vwCl [(cB, .byte), (cL, .long)] U)) (va_Qi (fun (r : Int32) (u : (Nat → Int64) × (Nat → Int32)) => (r, u) = (f_Ma_follow rf mf pf cnt a1)) (fun (u : (Nat → Int64) × (Nat → Int32)) t => va_P G vwCl [(h4, .inr (2, [.ref h5, .ref h2])), (h5, .inl (cL, 16, .inr (.inl (u.1)))), (h2, .inr (1, [.ref h3])), (h3, .inl (cB, 4096, .inl (u.2))), (h0, .inr (0, [.ref h1, .int cnt])), (h1, .inl (cL, pn, .inr (.inl pf)))] t.heap ∧ va_D (va_A [(h4, .inr (2, [.ref h5, .ref h2])), (h5, .inl (cL, 16, .inr (.inl rf))), (h2, .inr (1, [.ref h3])), (h3, .inl (cB, 4096, .inl mf)), (h0, .inr (0, [.ref h1, .int cnt])), (h1, .inl (cL, pn, .inr (.inl pf)))] Hp.size) [(h4, .inr (2, [.ref h5, .ref h2])), (h5, .inl (cL, 16, .inr (.inl (u.1)))), (h2, .inr (1, [.ref h3])), (h3, .inl (cB, 4096, .inl (u.2))), (h0, .inr (0, [.ref h1, .int cnt])), (h1, .inl (cL, pn, .inr (.inl pf)))]) (va_A [(h4, .inr (2, [.ref h5, .ref h2])), (h5, .inl (cL, 16, .inr (.inl rf))), (h2, .inr (1, [.ref h3])), (h3, .inl (cB, 4096, .inl mf)), (h0, .inr (0, [.ref h1, .int cnt])), (h1, .inl (cL, pn, .inr (.inl pf)))] Hp.size)) 0 0 (va_A [(h4, .inr (2, [.ref h5, .ref h2])), (h5, .inl (cL, 16, .inr (.inl rf))), (h2, .inr (1, [.ref h3])), (h3, .inl (cB, 4096, .inl mf)), (h0, .inr (0, [.ref h1, .int cnt])), (h1, .inl (cL, pn, .inr (.inl pf)))] Hp.size) := by
  refine Met.ofW (cc := cMa_follow) (maxL := 5) (ret := (some .int)) (by decide) rfl ?_
  intro p e s m args below meth c s₁ B hml hv
  obtain ⟨rfl, rfl, hK⟩ := hv
  have hx := B.exec
  have hb := B.bytes
  have hr := B.returns
  have hT : ∀ w ∈ tB, w.before _ s = true := fun w h => atoms_spec (ws := wsMa_follow) B.pre w (List.mem_cons_of_mem _ h)
  have hown : s.vm.findClass "CompiledProgram$Machine" = some m.cls := findClass_of_methodNamed B.named
  have hlocks := B.notSynchronized
  have hD := hD.self (sz := s.heap.size)
  generalize hAe : va_A [(h4, .inr (2, [.ref h5, .ref h2])), (h5, .inl (cL, 16, .inr (.inl rf))), (h2, .inr (1, [.ref h3])), (h3, .inl (cB, 4096, .inl mf)), (h0, .inr (0, [.ref h1, .int cnt])), (h1, .inl (cL, pn, .inr (.inl pf)))] s.heap.size = A at hD ⊢
  have hA : ∀ q : Nat, s.heap.size ≤ q → A q := fun q h => by rw [← hAe]; exact Or.inr h
  have hS : va_S A s.heap s.heap [] := va_S.rf
  have hl := lv_entry ([.ref h4, .ref h0, .int a1]) (n := 5) (Nat.le_of_ble_eq_true rfl)
  rw [lg_entry_eq]
  generalize (lg_sl ([.ref h4, .ref h0, .int a1]) ++ List.replicate (5 - (lg_sl ([.ref h4, .ref h0, .int a1])).length) Slot.unset).toArray = ls at hl ⊢
  have hl : lv_has ls 5 [(0, .ref h4), (1, .ref h0), (2, .int a1)] := hl
  refine lv_aload_n hx hb dMa_follow_0 rfl (lv_at hl 1 rfl) ?_
  refine lv_iload_n hx hb dMa_follow_1 rfl (lv_at hl 2 rfl) ?_
  have hPc := hP.sub (ws' := [(h0, .inr (0, [.ref h1, .int cnt])), (h1, .inl (cL, pn, .inr (.inl pf)))]) [4, 5] rfl
  refine va_calll (va_runV (As := [.int a1]) (rest := []) ⟨hx, hb, hml, hown, hT⟩ (c_Pr_at l G cB cL s.heap h0 h1 pn pf cnt a1 hPc hc) (cwV 1 hT (gB_V mw_449 mw_121 mw_122 mw_3 mw_123) rfl rfl rfl (by decide +kernel) ⟨Nat.le_of_ble_eq_true rfl, Nat.le_of_ble_eq_true rfl⟩) ⟨fun a U g mk q => ⟨q.1, q.2.1, va_K.moved (u := U) (U := U.calling g mk a) (Vm.Alike.refl U.vm) q.2.2⟩, va_recv hK hPc (ci := 0) (q0 := 0) rfl rfl, fun U hU hW => ⟨rfl, hU, va_K.moved hW.alike hK⟩⟩ rfl rfl hl.1 rfl (lv_room (Nat.le_of_ble_eq_true rfl)) dMa_follow_2 ⟨Nat.zero_le _, Nat.zero_le _⟩) hS (fun _ _ h => h.elim) (fun _ h => h.elim) (fun r u t H1 locs ht hvm hw hB hz8 hk8 hS => ?_)
  obtain rfl : s.heap = H1 := hB.symm.trans ht
  subst hw
  refine lv_lstore_n (lv' := [(3, .long (f_Pr_at pf cnt a1)), (0, .ref h4), (1, .ref h0), (2, .int a1)]) hx hb dMa_follow_5 rfl hl (by decide) rfl (fun ls hl => ?_)
  refine lv_lload_n hx hb dMa_follow_6 rfl (lv_at hl 0 rfl) ?_
  refine va_calli (va_runS (As := [.long (f_Pr_at pf cnt a1)]) (rest := []) ⟨hx, hb, hml, hown, hT⟩ (c_Fi_kind l s.heap (f_Pr_at pf cnt a1)) (va_cwS 1 hT (gB_SV mw_450 mw_132 mw_16 mw_133) rfl rfl rfl (by decide +kernel) ⟨Nat.le_of_ble_eq_true rfl, Nat.le_of_ble_eq_true rfl⟩) ⟨fun _ _ _ _ q => q, fun U hU hW => ⟨rfl, hU⟩⟩ rfl rfl hl.1 rfl (lv_room (Nat.le_of_ble_eq_true rfl)) dMa_follow_7 ⟨Nat.zero_le _, Nat.zero_le _⟩) hS (fun _ _ h => h.elim) (fun _ h => h.elim) (fun r u t H1 locs ht hvm hw hB hz8 hk8 hS => ?_)
  obtain rfl : s.heap = H1 := hB.symm.trans ht
  subst hw
  by_cases c1 : (f_Fi_kind (f_Pr_at pf cnt a1)) = (0 : Int32)
  · skip
    refine lv_tableIn (tgt := 52) (off := 42) hx hb dMa_follow_10 (by rw [c1]; decide) (by rw [c1]; decide) (by rw [c1]; rfl) (by decide) ?_
    refine lv_aload_n hx hb dMa_follow_52 rfl (lv_at hl 1 rfl) ?_
    refine lv_lload_n hx hb dMa_follow_53 rfl (lv_at hl 0 rfl) ?_
    refine lv_aload_n hx hb dMa_follow_54 rfl (lv_at hl 2 rfl) ?_
    refine lv_iload_n hx hb dMa_follow_55 rfl (lv_at hl 3 rfl) ?_
    refine lv_iconst (v := (1 : Int32)) hx hb dMa_follow_56 (by decide) ?_
    refine lv_iadd hx hb dMa_follow_57 ?_
    have hPc := hP.sub (ws' := [(h0, .inr (0, [.ref h1, .int cnt])), (h1, .inl (cL, pn, .inr (.inl pf)))]) [4, 5] rfl
    refine va_calll (va_runV (As := [.int (a1 + (1 : Int32))]) (rest := [.long (f_Pr_at pf cnt a1), .ref h4]) ⟨hx, hb, hml, hown, hT⟩ (c_Pr_at l G cB cL s.heap h0 h1 pn pf cnt (a1 + (1 : Int32)) hPc hc) (cwV 1 hT (gB_V mw_449 mw_121 mw_122 mw_3 mw_123) rfl rfl rfl (by decide +kernel) ⟨Nat.le_of_ble_eq_true rfl, Nat.le_of_ble_eq_true rfl⟩) ⟨fun a U g mk q => ⟨q.1, q.2.1, va_K.moved (u := U) (U := U.calling g mk a) (Vm.Alike.refl U.vm) q.2.2⟩, va_recv hK hPc (ci := 0) (q0 := 0) rfl rfl, fun U hU hW => ⟨rfl, hU, va_K.moved hW.alike hK⟩⟩ rfl rfl hl.1 rfl (lv_room (Nat.le_of_ble_eq_true rfl)) dMa_follow_58 ⟨Nat.zero_le _, Nat.zero_le _⟩) hS (fun _ _ h => h.elim) (fun _ h => h.elim) (fun r u t H1 locs ht hvm hw hB hz8 hk8 hS => ?_)
    obtain rfl : s.heap = H1 := hB.symm.trans ht
    subst hw
    have hPc := hP.sub (ws' := [(h4, .inr (2, [.ref h5, .ref h2])), (h5, .inl (cL, 16, .inr (.inl rf)))]) [0, 1] rfl
    have hDc := hD.sub (ws' := [(h4, .inr (2, [.ref h5, .ref h2])), (h5, .inl (cL, 16, .inr (.inl rf)))]) [0, 1] (by decide) rfl
    have hFc := va_free (wc := [(h4, .inr (2, [.ref h5, .ref h2])), (h5, .inl (cL, 16, .inr (.inl rf)))]) hD hS hA [0, 1] rfl
    refine va_callv (va_runV (As := [.long (f_Pr_at pf cnt a1), .long (f_Pr_at pf cnt (a1 + (1 : Int32)))]) (rest := []) ⟨hx, hb, hml, hown, hT⟩ (c_Ma_takeTwoPlaces l G cB cL s.heap h4 h5 h2 rf (f_Pr_at pf cnt a1) (f_Pr_at pf cnt (a1 + (1 : Int32))) hPc (hDc.weaken (fun _ _ _ _ => trivial))) (cwV 2 hT (gB_V mw_451 mw_452 mw_453 mw_4 mw_454) rfl rfl rfl (by decide +kernel) ⟨Nat.le_of_ble_eq_true rfl, Nat.le_of_ble_eq_true rfl⟩) ⟨fun a U g mk q => ⟨q.1, q.2.1, va_K.moved (u := U) (U := U.calling g mk a) (Vm.Alike.refl U.vm) q.2.2⟩, va_recv hK hPc (ci := 2) (q0 := 0) rfl rfl, fun U hU hW => ⟨rfl, hU, va_K.moved hW.alike hK⟩⟩ rfl rfl hl.1 rfl (lv_room (Nat.le_of_ble_eq_true rfl)) dMa_follow_61 ⟨Nat.zero_le _, Nat.zero_le _⟩) hS (fun q _ h => hFc q h) hFc (fun u t H locs ht hvm hw hB hz8 hk8 hS => ?_)
    subst hw
    obtain ⟨hP1, hD1⟩ := hB
    rw [ht] at hP1
    obtain ⟨hP, hD⟩ := va_join (wr := [(h2, .inr (1, [.ref h3])), (h3, .inl (cB, 4096, .inl mf)), (h0, .inr (0, [.ref h1, .int cnt])), (h1, .inl (cL, pn, .inr (.inl pf)))]) (w1 := [(h4, .inr (2, [.ref h5, .ref h2])), (h5, .inl (cL, 16, .inr (.inl ((f_Ma_takeTwoPlaces rf (f_Pr_at pf cnt a1) (f_Pr_at pf cnt (a1 + (1 : Int32))))))))]) hP hD [0, 1] [2, 3, 4, 5] rfl rfl (by decide) (by decide) hk8 hFc hP1 hD1
    have hP : va_P G vwCl [(h2, .inr (1, [.ref h3])), (h3, .inl (cB, 4096, .inl mf)), (h0, .inr (0, [.ref h1, .int cnt])), (h1, .inl (cL, pn, .inr (.inl pf))), (h4, .inr (2, [.ref h5, .ref h2])), (h5, .inl (cL, 16, .inr (.inl ((f_Ma_takeTwoPlaces rf (f_Pr_at pf cnt a1) (f_Pr_at pf cnt (a1 + (1 : Int32))))))))] H := hP
    have hD : va_D A [(h2, .inr (1, [.ref h3])), (h3, .inl (cB, 4096, .inl mf)), (h0, .inr (0, [.ref h1, .int cnt])), (h1, .inl (cL, pn, .inr (.inl pf))), (h4, .inr (2, [.ref h5, .ref h2])), (h5, .inl (cL, 16, .inr (.inl ((f_Ma_takeTwoPlaces rf (f_Pr_at pf cnt a1) (f_Pr_at pf cnt (a1 + (1 : Int32))))))))] := hD
    refine lv_iload_n hx hb dMa_follow_64 rfl (lv_at hl 3 rfl) ?_
    refine lv_iconst (v := (2 : Int32)) hx hb dMa_follow_65 (by decide) ?_
    refine lv_iadd hx hb dMa_follow_66 ?_
    have hP9 := hP.sub (ws' := [(h4, .inr (2, [.ref h5, .ref h2])), (h5, .inl (cL, 16, .inr (.inl ((f_Ma_takeTwoPlaces rf (f_Pr_at pf cnt a1) (f_Pr_at pf cnt (a1 + (1 : Int32)))))))), (h2, .inr (1, [.ref h3])), (h3, .inl (cB, 4096, .inl mf)), (h0, .inr (0, [.ref h1, .int cnt])), (h1, .inl (cL, pn, .inr (.inl pf)))]) [4, 5, 0, 1, 2, 3] rfl
    have hD9 := hD.sub (ws' := [(h4, .inr (2, [.ref h5, .ref h2])), (h5, .inl (cL, 16, .inr (.inl ((f_Ma_takeTwoPlaces rf (f_Pr_at pf cnt a1) (f_Pr_at pf cnt (a1 + (1 : Int32)))))))), (h2, .inr (1, [.ref h3])), (h3, .inl (cB, 4096, .inl mf)), (h0, .inr (0, [.ref h1, .int cnt])), (h1, .inl (cL, pn, .inr (.inl pf)))]) [4, 5, 0, 1, 2, 3] (by decide) rfl
    exact W.iret (v := (a1 + (2 : Int32))) hx hb hr (fun t ht hW => ⟨⟨(a1 + (2 : Int32)), (((f_Ma_takeTwoPlaces rf (f_Pr_at pf cnt a1) (f_Pr_at pf cnt (a1 + (1 : Int32))))), mf), rfl, (by unfold f_Ma_follow; rw [if_pos c1]; try rfl), by rw [ht]; exact hP9, hD9⟩, hS.F ht⟩) hS.2.2 dMa_follow_67
  by_cases c2 : (f_Fi_kind (f_Pr_at pf cnt a1)) = (1 : Int32)
  · skip
    refine lv_tableIn (tgt := 68) (off := 58) hx hb dMa_follow_10 (by rw [c2]; decide) (by rw [c2]; decide) (by rw [c2]; rfl) (by decide) ?_
    refine lv_aload_n hx hb dMa_follow_68 rfl (lv_at hl 1 rfl) ?_
    refine lv_lload_n hx hb dMa_follow_69 rfl (lv_at hl 0 rfl) ?_
    have hPc := hP.sub (ws' := [(h4, .inr (2, [.ref h5, .ref h2])), (h5, .inl (cL, 16, .inr (.inl rf))), (h2, .inr (1, [.ref h3])), (h3, .inl (cB, 4096, .inl mf))]) [0, 1, 2, 3] rfl
    have hDc := hD.sub (ws' := [(h4, .inr (2, [.ref h5, .ref h2])), (h5, .inl (cL, 16, .inr (.inl rf))), (h2, .inr (1, [.ref h3])), (h3, .inl (cB, 4096, .inl mf))]) [0, 1, 2, 3] (by decide) rfl
    have hFc := va_free (wc := [(h4, .inr (2, [.ref h5, .ref h2])), (h5, .inl (cL, 16, .inr (.inl rf))), (h2, .inr (1, [.ref h3])), (h3, .inl (cB, 4096, .inl mf))]) hD hS hA [0, 1, 2, 3] rfl
    refine va_calli (va_runV (As := [.long (f_Pr_at pf cnt a1)]) (rest := []) ⟨hx, hb, hml, hown, hT⟩ (c_Ma_read l G cB cL s.heap h4 h5 rf h2 h3 mf (f_Pr_at pf cnt a1) hPc (hDc.weaken (fun _ _ _ _ => trivial))) (cwV 1 hT (gB_V mw_460 mw_461 mw_462 mw_4 mw_463) rfl rfl rfl (by decide +kernel) ⟨Nat.le_of_ble_eq_true rfl, Nat.le_of_ble_eq_true rfl⟩) ⟨fun a U g mk q => ⟨q.1, q.2.1, va_K.moved (u := U) (U := U.calling g mk a) (Vm.Alike.refl U.vm) q.2.2⟩, va_recv hK hPc (ci := 2) (q0 := 0) rfl rfl, fun U hU hW => ⟨rfl, hU, va_K.moved hW.alike hK⟩⟩ rfl rfl hl.1 rfl (lv_room (Nat.le_of_ble_eq_true rfl)) dMa_follow_70 ⟨Nat.zero_le _, Nat.zero_le _⟩) hS (fun q _ h => hFc q h) hFc (fun r u t H locs ht hvm hw hB hz8 hk8 hS => ?_)
    obtain ⟨rfl, rfl⟩ := hw
    obtain ⟨hP1, hD1⟩ := hB
    rw [ht] at hP1
    obtain ⟨hP, hD⟩ := va_join (wr := [(h0, .inr (0, [.ref h1, .int cnt])), (h1, .inl (cL, pn, .inr (.inl pf)))]) (w1 := [(h4, .inr (2, [.ref h5, .ref h2])), (h5, .inl (cL, 16, .inr (.inl ((f_Ma_read rf mf (f_Pr_at pf cnt a1)).2)))), (h2, .inr (1, [.ref h3])), (h3, .inl (cB, 4096, .inl mf))]) hP hD [0, 1, 2, 3] [4, 5] rfl rfl (by decide) (by decide) hk8 hFc hP1 hD1
    have hP : va_P G vwCl [(h0, .inr (0, [.ref h1, .int cnt])), (h1, .inl (cL, pn, .inr (.inl pf))), (h4, .inr (2, [.ref h5, .ref h2])), (h5, .inl (cL, 16, .inr (.inl ((f_Ma_read rf mf (f_Pr_at pf cnt a1)).2)))), (h2, .inr (1, [.ref h3])), (h3, .inl (cB, 4096, .inl mf))] H := hP
    have hD : va_D A [(h0, .inr (0, [.ref h1, .int cnt])), (h1, .inl (cL, pn, .inr (.inl pf))), (h4, .inr (2, [.ref h5, .ref h2])), (h5, .inl (cL, 16, .inr (.inl ((f_Ma_read rf mf (f_Pr_at pf cnt a1)).2)))), (h2, .inr (1, [.ref h3])), (h3, .inl (cB, 4096, .inl mf))] := hD
    refine lv_if_eq (tgt := 82) hx hb dMa_follow_73 (by decide) (fun c3 => ?_) (fun c3 => ?_)
    · have c3 := bI_z c3
      refine lv_bipush (v := (-2 : Int32)) hx hb dMa_follow_82 (by decide) ?_
      have hP9 := hP.sub (ws' := [(h4, .inr (2, [.ref h5, .ref h2])), (h5, .inl (cL, 16, .inr (.inl ((f_Ma_read rf mf (f_Pr_at pf cnt a1)).2)))), (h2, .inr (1, [.ref h3])), (h3, .inl (cB, 4096, .inl mf)), (h0, .inr (0, [.ref h1, .int cnt])), (h1, .inl (cL, pn, .inr (.inl pf)))]) [2, 3, 4, 5, 0, 1] rfl
      have hD9 := hD.sub (ws' := [(h4, .inr (2, [.ref h5, .ref h2])), (h5, .inl (cL, 16, .inr (.inl ((f_Ma_read rf mf (f_Pr_at pf cnt a1)).2)))), (h2, .inr (1, [.ref h3])), (h3, .inl (cB, 4096, .inl mf)), (h0, .inr (0, [.ref h1, .int cnt])), (h1, .inl (cL, pn, .inr (.inl pf)))]) [2, 3, 4, 5, 0, 1] (by decide) rfl
      exact W.iret (v := (-2 : Int32)) hx hb hr (fun t ht hW => ⟨⟨(-2 : Int32), (((f_Ma_read rf mf (f_Pr_at pf cnt a1)).2), mf), rfl, (by unfold f_Ma_follow; rw [if_neg c1, if_pos c2, if_neg c3]; try rfl), by rw [ht]; exact hP9, hD9⟩, hS.F ht⟩) hS.2.2 dMa_follow_84
    · have c3 := bI_n c3
      refine lv_iload_n hx hb dMa_follow_76 rfl (lv_at hl 3 rfl) ?_
      refine lv_iconst (v := (1 : Int32)) hx hb dMa_follow_77 (by decide) ?_
      refine lv_iadd hx hb dMa_follow_78 ?_
      refine lv_goto (tgt := 84) hx hb dMa_follow_79 (by decide) ?_
      have hP9 := hP.sub (ws' := [(h4, .inr (2, [.ref h5, .ref h2])), (h5, .inl (cL, 16, .inr (.inl ((f_Ma_read rf mf (f_Pr_at pf cnt a1)).2)))), (h2, .inr (1, [.ref h3])), (h3, .inl (cB, 4096, .inl mf)), (h0, .inr (0, [.ref h1, .int cnt])), (h1, .inl (cL, pn, .inr (.inl pf)))]) [2, 3, 4, 5, 0, 1] rfl
      have hD9 := hD.sub (ws' := [(h4, .inr (2, [.ref h5, .ref h2])), (h5, .inl (cL, 16, .inr (.inl ((f_Ma_read rf mf (f_Pr_at pf cnt a1)).2)))), (h2, .inr (1, [.ref h3])), (h3, .inl (cB, 4096, .inl mf)), (h0, .inr (0, [.ref h1, .int cnt])), (h1, .inl (cL, pn, .inr (.inl pf)))]) [2, 3, 4, 5, 0, 1] (by decide) rfl
      exact W.iret (v := (a1 + (1 : Int32))) hx hb hr (fun t ht hW => ⟨⟨(a1 + (1 : Int32)), (((f_Ma_read rf mf (f_Pr_at pf cnt a1)).2), mf), rfl, (by unfold f_Ma_follow; rw [if_neg c1, if_pos c2, if_pos c3]; try rfl), by rw [ht]; exact hP9, hD9⟩, hS.F ht⟩) hS.2.2 dMa_follow_84
  by_cases c4 : (f_Fi_kind (f_Pr_at pf cnt a1)) = (2 : Int32)
  · skip
    refine lv_tableIn (tgt := 85) (off := 75) hx hb dMa_follow_10 (by rw [c4]; decide) (by rw [c4]; decide) (by rw [c4]; rfl) (by decide) ?_
    refine lv_aload_n hx hb dMa_follow_85 rfl (lv_at hl 1 rfl) ?_
    refine lv_lload_n hx hb dMa_follow_86 rfl (lv_at hl 0 rfl) ?_
    refine lv_lload_n hx hb dMa_follow_87 rfl (lv_at hl 0 rfl) ?_
    refine va_calli (va_runS (As := [.long (f_Pr_at pf cnt a1)]) (rest := [.long (f_Pr_at pf cnt a1), .ref h4]) ⟨hx, hb, hml, hown, hT⟩ (c_Fi_immediate l s.heap (f_Pr_at pf cnt a1)) (va_cwS 1 hT (gB_SV mw_455 mw_153 mw_16 mw_154) rfl rfl rfl (by decide +kernel) ⟨Nat.le_of_ble_eq_true rfl, Nat.le_of_ble_eq_true rfl⟩) ⟨fun _ _ _ _ q => q, fun U hU hW => ⟨rfl, hU⟩⟩ rfl rfl hl.1 rfl (lv_room (Nat.le_of_ble_eq_true rfl)) dMa_follow_88 ⟨Nat.zero_le _, Nat.zero_le _⟩) hS (fun _ _ h => h.elim) (fun _ h => h.elim) (fun r u t H1 locs ht hvm hw hB hz8 hk8 hS => ?_)
    obtain rfl : s.heap = H1 := hB.symm.trans ht
    subst hw
    refine lv_i2l hx hb dMa_follow_91 rfl ?_
    have hPc := hP.sub (ws' := [(h4, .inr (2, [.ref h5, .ref h2])), (h5, .inl (cL, 16, .inr (.inl rf))), (h2, .inr (1, [.ref h3])), (h3, .inl (cB, 4096, .inl mf))]) [0, 1, 2, 3] rfl
    have hDc := hD.sub (ws' := [(h4, .inr (2, [.ref h5, .ref h2])), (h5, .inl (cL, 16, .inr (.inl rf))), (h2, .inr (1, [.ref h3])), (h3, .inl (cB, 4096, .inl mf))]) [0, 1, 2, 3] (by decide) rfl
    have hFc := va_free (wc := [(h4, .inr (2, [.ref h5, .ref h2])), (h5, .inl (cL, 16, .inr (.inl rf))), (h2, .inr (1, [.ref h3])), (h3, .inl (cB, 4096, .inl mf))]) hD hS hA [0, 1, 2, 3] rfl
    refine va_calli (va_runV (As := [.long (f_Pr_at pf cnt a1), .long ((f_Fi_immediate (f_Pr_at pf cnt a1)).toInt64)]) (rest := []) ⟨hx, hb, hml, hown, hT⟩ (c_Ma_write l G cB cL s.heap h4 h5 rf h2 h3 mf (f_Pr_at pf cnt a1) ((f_Fi_immediate (f_Pr_at pf cnt a1)).toInt64) hPc (hDc.weaken (fun _ _ _ _ => trivial))) (cwV 2 hT (gB_V mw_477 mw_478 mw_479 mw_4 mw_480) rfl rfl rfl (by decide +kernel) ⟨Nat.le_of_ble_eq_true rfl, Nat.le_of_ble_eq_true rfl⟩) ⟨fun a U g mk q => ⟨q.1, q.2.1, va_K.moved (u := U) (U := U.calling g mk a) (Vm.Alike.refl U.vm) q.2.2⟩, va_recv hK hPc (ci := 2) (q0 := 0) rfl rfl, fun U hU hW => ⟨rfl, hU, va_K.moved hW.alike hK⟩⟩ rfl rfl hl.1 rfl (lv_room (Nat.le_of_ble_eq_true rfl)) dMa_follow_92 ⟨Nat.zero_le _, Nat.zero_le _⟩) hS (fun q _ h => hFc q h) hFc (fun r u t H locs ht hvm hw hB hz8 hk8 hS => ?_)
    obtain ⟨rfl, rfl⟩ := hw
    obtain ⟨hP1, hD1⟩ := hB
    rw [ht] at hP1
    obtain ⟨hP, hD⟩ := va_join (wr := [(h0, .inr (0, [.ref h1, .int cnt])), (h1, .inl (cL, pn, .inr (.inl pf)))]) (w1 := [(h4, .inr (2, [.ref h5, .ref h2])), (h5, .inl (cL, 16, .inr (.inl rf))), (h2, .inr (1, [.ref h3])), (h3, .inl (cB, 4096, .inl ((f_Ma_write rf mf (f_Pr_at pf cnt a1) ((f_Fi_immediate (f_Pr_at pf cnt a1)).toInt64)).2)))]) hP hD [0, 1, 2, 3] [4, 5] rfl rfl (by decide) (by decide) hk8 hFc hP1 hD1
    have hP : va_P G vwCl [(h0, .inr (0, [.ref h1, .int cnt])), (h1, .inl (cL, pn, .inr (.inl pf))), (h4, .inr (2, [.ref h5, .ref h2])), (h5, .inl (cL, 16, .inr (.inl rf))), (h2, .inr (1, [.ref h3])), (h3, .inl (cB, 4096, .inl ((f_Ma_write rf mf (f_Pr_at pf cnt a1) ((f_Fi_immediate (f_Pr_at pf cnt a1)).toInt64)).2)))] H := hP
    have hD : va_D A [(h0, .inr (0, [.ref h1, .int cnt])), (h1, .inl (cL, pn, .inr (.inl pf))), (h4, .inr (2, [.ref h5, .ref h2])), (h5, .inl (cL, 16, .inr (.inl rf))), (h2, .inr (1, [.ref h3])), (h3, .inl (cB, 4096, .inl ((f_Ma_write rf mf (f_Pr_at pf cnt a1) ((f_Fi_immediate (f_Pr_at pf cnt a1)).toInt64)).2)))] := hD
    refine lv_if_eq (tgt := 104) hx hb dMa_follow_95 (by decide) (fun c5 => ?_) (fun c5 => ?_)
    · have c5 := bI_z c5
      refine lv_bipush (v := (-2 : Int32)) hx hb dMa_follow_104 (by decide) ?_
      have hP9 := hP.sub (ws' := [(h4, .inr (2, [.ref h5, .ref h2])), (h5, .inl (cL, 16, .inr (.inl rf))), (h2, .inr (1, [.ref h3])), (h3, .inl (cB, 4096, .inl ((f_Ma_write rf mf (f_Pr_at pf cnt a1) ((f_Fi_immediate (f_Pr_at pf cnt a1)).toInt64)).2))), (h0, .inr (0, [.ref h1, .int cnt])), (h1, .inl (cL, pn, .inr (.inl pf)))]) [2, 3, 4, 5, 0, 1] rfl
      have hD9 := hD.sub (ws' := [(h4, .inr (2, [.ref h5, .ref h2])), (h5, .inl (cL, 16, .inr (.inl rf))), (h2, .inr (1, [.ref h3])), (h3, .inl (cB, 4096, .inl ((f_Ma_write rf mf (f_Pr_at pf cnt a1) ((f_Fi_immediate (f_Pr_at pf cnt a1)).toInt64)).2))), (h0, .inr (0, [.ref h1, .int cnt])), (h1, .inl (cL, pn, .inr (.inl pf)))]) [2, 3, 4, 5, 0, 1] (by decide) rfl
      exact W.iret (v := (-2 : Int32)) hx hb hr (fun t ht hW => ⟨⟨(-2 : Int32), (rf, ((f_Ma_write rf mf (f_Pr_at pf cnt a1) ((f_Fi_immediate (f_Pr_at pf cnt a1)).toInt64)).2)), rfl, (by unfold f_Ma_follow; rw [if_neg c1, if_neg c2, if_pos c4, if_neg c5]; try rfl), by rw [ht]; exact hP9, hD9⟩, hS.F ht⟩) hS.2.2 dMa_follow_106
    · have c5 := bI_n c5
      refine lv_iload_n hx hb dMa_follow_98 rfl (lv_at hl 3 rfl) ?_
      refine lv_iconst (v := (1 : Int32)) hx hb dMa_follow_99 (by decide) ?_
      refine lv_iadd hx hb dMa_follow_100 ?_
      refine lv_goto (tgt := 106) hx hb dMa_follow_101 (by decide) ?_
      have hP9 := hP.sub (ws' := [(h4, .inr (2, [.ref h5, .ref h2])), (h5, .inl (cL, 16, .inr (.inl rf))), (h2, .inr (1, [.ref h3])), (h3, .inl (cB, 4096, .inl ((f_Ma_write rf mf (f_Pr_at pf cnt a1) ((f_Fi_immediate (f_Pr_at pf cnt a1)).toInt64)).2))), (h0, .inr (0, [.ref h1, .int cnt])), (h1, .inl (cL, pn, .inr (.inl pf)))]) [2, 3, 4, 5, 0, 1] rfl
      have hD9 := hD.sub (ws' := [(h4, .inr (2, [.ref h5, .ref h2])), (h5, .inl (cL, 16, .inr (.inl rf))), (h2, .inr (1, [.ref h3])), (h3, .inl (cB, 4096, .inl ((f_Ma_write rf mf (f_Pr_at pf cnt a1) ((f_Fi_immediate (f_Pr_at pf cnt a1)).toInt64)).2))), (h0, .inr (0, [.ref h1, .int cnt])), (h1, .inl (cL, pn, .inr (.inl pf)))]) [2, 3, 4, 5, 0, 1] (by decide) rfl
      exact W.iret (v := (a1 + (1 : Int32))) hx hb hr (fun t ht hW => ⟨⟨(a1 + (1 : Int32)), (rf, ((f_Ma_write rf mf (f_Pr_at pf cnt a1) ((f_Fi_immediate (f_Pr_at pf cnt a1)).toInt64)).2)), rfl, (by unfold f_Ma_follow; rw [if_neg c1, if_neg c2, if_pos c4, if_pos c5]; try rfl), by rw [ht]; exact hP9, hD9⟩, hS.F ht⟩) hS.2.2 dMa_follow_106
  by_cases c6 : (f_Fi_kind (f_Pr_at pf cnt a1)) = (3 : Int32)
  · skip
    refine lv_tableIn (tgt := 107) (off := 97) hx hb dMa_follow_10 (by rw [c6]; decide) (by rw [c6]; decide) (by rw [c6]; rfl) (by decide) ?_
    refine lv_lload_n hx hb dMa_follow_107 rfl (lv_at hl 0 rfl) ?_
    refine va_calli (va_runS (As := [.long (f_Pr_at pf cnt a1)]) (rest := []) ⟨hx, hb, hml, hown, hT⟩ (c_Fi_mode l s.heap (f_Pr_at pf cnt a1)) (va_cwS 1 hT (gB_SV mw_473 mw_159 mw_16 mw_160) rfl rfl rfl (by decide +kernel) ⟨Nat.le_of_ble_eq_true rfl, Nat.le_of_ble_eq_true rfl⟩) ⟨fun _ _ _ _ q => q, fun U hU hW => ⟨rfl, hU⟩⟩ rfl rfl hl.1 rfl (lv_room (Nat.le_of_ble_eq_true rfl)) dMa_follow_108 ⟨Nat.zero_le _, Nat.zero_le _⟩) hS (fun _ _ h => h.elim) (fun _ h => h.elim) (fun r u t H1 locs ht hvm hw hB hz8 hk8 hS => ?_)
    obtain rfl : s.heap = H1 := hB.symm.trans ht
    subst hw
    refine lv_bipush (v := (6 : Int32)) hx hb dMa_follow_111 (by decide) ?_
    refine lv_icmp_ne (tgt := 127) hx hb dMa_follow_113 (by decide) (fun c7 => ?_) (fun c7 => ?_)
    · skip
      refine lv_aload_n hx hb dMa_follow_127 rfl (lv_at hl 1 rfl) ?_
      refine lv_lload_n hx hb dMa_follow_128 rfl (lv_at hl 0 rfl) ?_
      refine lv_aload_n hx hb dMa_follow_129 rfl (lv_at hl 1 rfl) ?_
      refine lv_lload_n hx hb dMa_follow_130 rfl (lv_at hl 0 rfl) ?_
      have hPc := hP.sub (ws' := [(h4, .inr (2, [.ref h5, .ref h2])), (h5, .inl (cL, 16, .inr (.inl rf)))]) [0, 1] rfl
      refine va_calll (va_runV (As := [.long (f_Pr_at pf cnt a1)]) (rest := [.long (f_Pr_at pf cnt a1), .ref h4]) ⟨hx, hb, hml, hown, hT⟩ (c_Ma_y l G cB cL s.heap h4 h5 h2 rf (f_Pr_at pf cnt a1) hPc ) (cwV 1 hT (gB_V mw_465 mw_466 mw_467 mw_4 mw_468) rfl rfl rfl (by decide +kernel) ⟨Nat.le_of_ble_eq_true rfl, Nat.le_of_ble_eq_true rfl⟩) ⟨fun a U g mk q => ⟨q.1, q.2.1, va_K.moved (u := U) (U := U.calling g mk a) (Vm.Alike.refl U.vm) q.2.2⟩, va_recv hK hPc (ci := 2) (q0 := 0) rfl rfl, fun U hU hW => ⟨rfl, hU, va_K.moved hW.alike hK⟩⟩ rfl rfl hl.1 rfl (lv_room (Nat.le_of_ble_eq_true rfl)) dMa_follow_131 ⟨Nat.zero_le _, Nat.zero_le _⟩) hS (fun _ _ h => h.elim) (fun _ h => h.elim) (fun r u t H1 locs ht hvm hw hB hz8 hk8 hS => ?_)
      obtain rfl : s.heap = H1 := hB.symm.trans ht
      subst hw
      have hPc := hP.sub (ws' := [(h4, .inr (2, [.ref h5, .ref h2])), (h5, .inl (cL, 16, .inr (.inl rf))), (h2, .inr (1, [.ref h3])), (h3, .inl (cB, 4096, .inl mf))]) [0, 1, 2, 3] rfl
      have hDc := hD.sub (ws' := [(h4, .inr (2, [.ref h5, .ref h2])), (h5, .inl (cL, 16, .inr (.inl rf))), (h2, .inr (1, [.ref h3])), (h3, .inl (cB, 4096, .inl mf))]) [0, 1, 2, 3] (by decide) rfl
      have hFc := va_free (wc := [(h4, .inr (2, [.ref h5, .ref h2])), (h5, .inl (cL, 16, .inr (.inl rf))), (h2, .inr (1, [.ref h3])), (h3, .inl (cB, 4096, .inl mf))]) hD hS hA [0, 1, 2, 3] rfl
      refine va_calli (va_runV (As := [.long (f_Pr_at pf cnt a1), .long (f_Ma_y rf (f_Pr_at pf cnt a1))]) (rest := []) ⟨hx, hb, hml, hown, hT⟩ (c_Ma_write l G cB cL s.heap h4 h5 rf h2 h3 mf (f_Pr_at pf cnt a1) (f_Ma_y rf (f_Pr_at pf cnt a1)) hPc (hDc.weaken (fun _ _ _ _ => trivial))) (cwV 2 hT (gB_V mw_477 mw_478 mw_479 mw_4 mw_480) rfl rfl rfl (by decide +kernel) ⟨Nat.le_of_ble_eq_true rfl, Nat.le_of_ble_eq_true rfl⟩) ⟨fun a U g mk q => ⟨q.1, q.2.1, va_K.moved (u := U) (U := U.calling g mk a) (Vm.Alike.refl U.vm) q.2.2⟩, va_recv hK hPc (ci := 2) (q0 := 0) rfl rfl, fun U hU hW => ⟨rfl, hU, va_K.moved hW.alike hK⟩⟩ rfl rfl hl.1 rfl (lv_room (Nat.le_of_ble_eq_true rfl)) dMa_follow_134 ⟨Nat.zero_le _, Nat.zero_le _⟩) hS (fun q _ h => hFc q h) hFc (fun r u t H locs ht hvm hw hB hz8 hk8 hS => ?_)
      obtain ⟨rfl, rfl⟩ := hw
      obtain ⟨hP1, hD1⟩ := hB
      rw [ht] at hP1
      obtain ⟨hP, hD⟩ := va_join (wr := [(h0, .inr (0, [.ref h1, .int cnt])), (h1, .inl (cL, pn, .inr (.inl pf)))]) (w1 := [(h4, .inr (2, [.ref h5, .ref h2])), (h5, .inl (cL, 16, .inr (.inl rf))), (h2, .inr (1, [.ref h3])), (h3, .inl (cB, 4096, .inl ((f_Ma_write rf mf (f_Pr_at pf cnt a1) (f_Ma_y rf (f_Pr_at pf cnt a1))).2)))]) hP hD [0, 1, 2, 3] [4, 5] rfl rfl (by decide) (by decide) hk8 hFc hP1 hD1
      have hP : va_P G vwCl [(h0, .inr (0, [.ref h1, .int cnt])), (h1, .inl (cL, pn, .inr (.inl pf))), (h4, .inr (2, [.ref h5, .ref h2])), (h5, .inl (cL, 16, .inr (.inl rf))), (h2, .inr (1, [.ref h3])), (h3, .inl (cB, 4096, .inl ((f_Ma_write rf mf (f_Pr_at pf cnt a1) (f_Ma_y rf (f_Pr_at pf cnt a1))).2)))] H := hP
      have hD : va_D A [(h0, .inr (0, [.ref h1, .int cnt])), (h1, .inl (cL, pn, .inr (.inl pf))), (h4, .inr (2, [.ref h5, .ref h2])), (h5, .inl (cL, 16, .inr (.inl rf))), (h2, .inr (1, [.ref h3])), (h3, .inl (cB, 4096, .inl ((f_Ma_write rf mf (f_Pr_at pf cnt a1) (f_Ma_y rf (f_Pr_at pf cnt a1))).2)))] := hD
      refine lv_if_eq (tgt := 146) hx hb dMa_follow_137 (by decide) (fun c8 => ?_) (fun c8 => ?_)
      · have c8 := bI_z c8
        refine lv_bipush (v := (-2 : Int32)) hx hb dMa_follow_146 (by decide) ?_
        have hP9 := hP.sub (ws' := [(h4, .inr (2, [.ref h5, .ref h2])), (h5, .inl (cL, 16, .inr (.inl rf))), (h2, .inr (1, [.ref h3])), (h3, .inl (cB, 4096, .inl ((f_Ma_write rf mf (f_Pr_at pf cnt a1) (f_Ma_y rf (f_Pr_at pf cnt a1))).2))), (h0, .inr (0, [.ref h1, .int cnt])), (h1, .inl (cL, pn, .inr (.inl pf)))]) [2, 3, 4, 5, 0, 1] rfl
        have hD9 := hD.sub (ws' := [(h4, .inr (2, [.ref h5, .ref h2])), (h5, .inl (cL, 16, .inr (.inl rf))), (h2, .inr (1, [.ref h3])), (h3, .inl (cB, 4096, .inl ((f_Ma_write rf mf (f_Pr_at pf cnt a1) (f_Ma_y rf (f_Pr_at pf cnt a1))).2))), (h0, .inr (0, [.ref h1, .int cnt])), (h1, .inl (cL, pn, .inr (.inl pf)))]) [2, 3, 4, 5, 0, 1] (by decide) rfl
        exact W.iret (v := (-2 : Int32)) hx hb hr (fun t ht hW => ⟨⟨(-2 : Int32), (rf, ((f_Ma_write rf mf (f_Pr_at pf cnt a1) (f_Ma_y rf (f_Pr_at pf cnt a1))).2)), rfl, (by unfold f_Ma_follow; rw [if_neg c1, if_neg c2, if_neg c4, if_pos c6, if_neg c7, if_neg c8]; try rfl), by rw [ht]; exact hP9, hD9⟩, hS.F ht⟩) hS.2.2 dMa_follow_148
      · have c8 := bI_n c8
        refine lv_iload_n hx hb dMa_follow_140 rfl (lv_at hl 3 rfl) ?_
        refine lv_iconst (v := (1 : Int32)) hx hb dMa_follow_141 (by decide) ?_
        refine lv_iadd hx hb dMa_follow_142 ?_
        refine lv_goto (tgt := 148) hx hb dMa_follow_143 (by decide) ?_
        have hP9 := hP.sub (ws' := [(h4, .inr (2, [.ref h5, .ref h2])), (h5, .inl (cL, 16, .inr (.inl rf))), (h2, .inr (1, [.ref h3])), (h3, .inl (cB, 4096, .inl ((f_Ma_write rf mf (f_Pr_at pf cnt a1) (f_Ma_y rf (f_Pr_at pf cnt a1))).2))), (h0, .inr (0, [.ref h1, .int cnt])), (h1, .inl (cL, pn, .inr (.inl pf)))]) [2, 3, 4, 5, 0, 1] rfl
        have hD9 := hD.sub (ws' := [(h4, .inr (2, [.ref h5, .ref h2])), (h5, .inl (cL, 16, .inr (.inl rf))), (h2, .inr (1, [.ref h3])), (h3, .inl (cB, 4096, .inl ((f_Ma_write rf mf (f_Pr_at pf cnt a1) (f_Ma_y rf (f_Pr_at pf cnt a1))).2))), (h0, .inr (0, [.ref h1, .int cnt])), (h1, .inl (cL, pn, .inr (.inl pf)))]) [2, 3, 4, 5, 0, 1] (by decide) rfl
        exact W.iret (v := (a1 + (1 : Int32))) hx hb hr (fun t ht hW => ⟨⟨(a1 + (1 : Int32)), (rf, ((f_Ma_write rf mf (f_Pr_at pf cnt a1) (f_Ma_y rf (f_Pr_at pf cnt a1))).2)), rfl, (by unfold f_Ma_follow; rw [if_neg c1, if_neg c2, if_neg c4, if_pos c6, if_neg c7, if_pos c8]; try rfl), by rw [ht]; exact hP9, hD9⟩, hS.F ht⟩) hS.2.2 dMa_follow_148
    · skip
      refine lv_aload_n hx hb dMa_follow_116 rfl (lv_at hl 1 rfl) ?_
      refine lv_lload_n hx hb dMa_follow_117 rfl (lv_at hl 0 rfl) ?_
      have hPc := hP.sub (ws' := [(h4, .inr (2, [.ref h5, .ref h2])), (h5, .inl (cL, 16, .inr (.inl rf))), (h2, .inr (1, [.ref h3])), (h3, .inl (cB, 4096, .inl mf))]) [0, 1, 2, 3] rfl
      have hDc := hD.sub (ws' := [(h4, .inr (2, [.ref h5, .ref h2])), (h5, .inl (cL, 16, .inr (.inl rf))), (h2, .inr (1, [.ref h3])), (h3, .inl (cB, 4096, .inl mf))]) [0, 1, 2, 3] (by decide) rfl
      have hFc := va_free (wc := [(h4, .inr (2, [.ref h5, .ref h2])), (h5, .inl (cL, 16, .inr (.inl rf))), (h2, .inr (1, [.ref h3])), (h3, .inl (cB, 4096, .inl mf))]) hD hS hA [0, 1, 2, 3] rfl
      refine va_calli (va_runV (As := [.long (f_Pr_at pf cnt a1)]) (rest := []) ⟨hx, hb, hml, hown, hT⟩ (c_Ma_exchange l G cB cL s.heap h4 h5 rf h2 h3 mf (f_Pr_at pf cnt a1) hPc (hDc.weaken (fun _ _ _ _ => trivial))) (cwV 1 hT (gB_V mw_486 mw_487 mw_488 mw_4 mw_489) rfl rfl rfl (by decide +kernel) ⟨Nat.le_of_ble_eq_true rfl, Nat.le_of_ble_eq_true rfl⟩) ⟨fun a U g mk q => ⟨q.1, q.2.1, va_K.moved (u := U) (U := U.calling g mk a) (Vm.Alike.refl U.vm) q.2.2⟩, va_recv hK hPc (ci := 2) (q0 := 0) rfl rfl, fun U hU hW => ⟨rfl, hU, va_K.moved hW.alike hK⟩⟩ rfl rfl hl.1 rfl (lv_room (Nat.le_of_ble_eq_true rfl)) dMa_follow_118 ⟨Nat.zero_le _, Nat.zero_le _⟩) hS (fun q _ h => hFc q h) hFc (fun r u t H locs ht hvm hw hB hz8 hk8 hS => ?_)
      obtain ⟨rfl, rfl⟩ := hw
      obtain ⟨hP1, hD1⟩ := hB
      rw [ht] at hP1
      obtain ⟨hP, hD⟩ := va_join (wr := [(h0, .inr (0, [.ref h1, .int cnt])), (h1, .inl (cL, pn, .inr (.inl pf)))]) (w1 := [(h4, .inr (2, [.ref h5, .ref h2])), (h5, .inl (cL, 16, .inr (.inl ((f_Ma_exchange rf mf (f_Pr_at pf cnt a1)).2.1)))), (h2, .inr (1, [.ref h3])), (h3, .inl (cB, 4096, .inl ((f_Ma_exchange rf mf (f_Pr_at pf cnt a1)).2.2)))]) hP hD [0, 1, 2, 3] [4, 5] rfl rfl (by decide) (by decide) hk8 hFc hP1 hD1
      have hP : va_P G vwCl [(h0, .inr (0, [.ref h1, .int cnt])), (h1, .inl (cL, pn, .inr (.inl pf))), (h4, .inr (2, [.ref h5, .ref h2])), (h5, .inl (cL, 16, .inr (.inl ((f_Ma_exchange rf mf (f_Pr_at pf cnt a1)).2.1)))), (h2, .inr (1, [.ref h3])), (h3, .inl (cB, 4096, .inl ((f_Ma_exchange rf mf (f_Pr_at pf cnt a1)).2.2)))] H := hP
      have hD : va_D A [(h0, .inr (0, [.ref h1, .int cnt])), (h1, .inl (cL, pn, .inr (.inl pf))), (h4, .inr (2, [.ref h5, .ref h2])), (h5, .inl (cL, 16, .inr (.inl ((f_Ma_exchange rf mf (f_Pr_at pf cnt a1)).2.1)))), (h2, .inr (1, [.ref h3])), (h3, .inl (cB, 4096, .inl ((f_Ma_exchange rf mf (f_Pr_at pf cnt a1)).2.2)))] := hD
      refine lv_if_eq (tgt := 146) hx hb dMa_follow_121 (by decide) (fun c9 => ?_) (fun c9 => ?_)
      · have c9 := bI_z c9
        refine lv_bipush (v := (-2 : Int32)) hx hb dMa_follow_146 (by decide) ?_
        have hP9 := hP.sub (ws' := [(h4, .inr (2, [.ref h5, .ref h2])), (h5, .inl (cL, 16, .inr (.inl ((f_Ma_exchange rf mf (f_Pr_at pf cnt a1)).2.1)))), (h2, .inr (1, [.ref h3])), (h3, .inl (cB, 4096, .inl ((f_Ma_exchange rf mf (f_Pr_at pf cnt a1)).2.2))), (h0, .inr (0, [.ref h1, .int cnt])), (h1, .inl (cL, pn, .inr (.inl pf)))]) [2, 3, 4, 5, 0, 1] rfl
        have hD9 := hD.sub (ws' := [(h4, .inr (2, [.ref h5, .ref h2])), (h5, .inl (cL, 16, .inr (.inl ((f_Ma_exchange rf mf (f_Pr_at pf cnt a1)).2.1)))), (h2, .inr (1, [.ref h3])), (h3, .inl (cB, 4096, .inl ((f_Ma_exchange rf mf (f_Pr_at pf cnt a1)).2.2))), (h0, .inr (0, [.ref h1, .int cnt])), (h1, .inl (cL, pn, .inr (.inl pf)))]) [2, 3, 4, 5, 0, 1] (by decide) rfl
        exact W.iret (v := (-2 : Int32)) hx hb hr (fun t ht hW => ⟨⟨(-2 : Int32), (((f_Ma_exchange rf mf (f_Pr_at pf cnt a1)).2.1), ((f_Ma_exchange rf mf (f_Pr_at pf cnt a1)).2.2)), rfl, (by unfold f_Ma_follow; rw [if_neg c1, if_neg c2, if_neg c4, if_pos c6, if_pos c7, if_neg c9]; try rfl), by rw [ht]; exact hP9, hD9⟩, hS.F ht⟩) hS.2.2 dMa_follow_148
      · have c9 := bI_n c9
        refine lv_goto (tgt := 140) hx hb dMa_follow_124 (by decide) ?_
        refine lv_iload_n hx hb dMa_follow_140 rfl (lv_at hl 3 rfl) ?_
        refine lv_iconst (v := (1 : Int32)) hx hb dMa_follow_141 (by decide) ?_
        refine lv_iadd hx hb dMa_follow_142 ?_
        refine lv_goto (tgt := 148) hx hb dMa_follow_143 (by decide) ?_
        have hP9 := hP.sub (ws' := [(h4, .inr (2, [.ref h5, .ref h2])), (h5, .inl (cL, 16, .inr (.inl ((f_Ma_exchange rf mf (f_Pr_at pf cnt a1)).2.1)))), (h2, .inr (1, [.ref h3])), (h3, .inl (cB, 4096, .inl ((f_Ma_exchange rf mf (f_Pr_at pf cnt a1)).2.2))), (h0, .inr (0, [.ref h1, .int cnt])), (h1, .inl (cL, pn, .inr (.inl pf)))]) [2, 3, 4, 5, 0, 1] rfl
        have hD9 := hD.sub (ws' := [(h4, .inr (2, [.ref h5, .ref h2])), (h5, .inl (cL, 16, .inr (.inl ((f_Ma_exchange rf mf (f_Pr_at pf cnt a1)).2.1)))), (h2, .inr (1, [.ref h3])), (h3, .inl (cB, 4096, .inl ((f_Ma_exchange rf mf (f_Pr_at pf cnt a1)).2.2))), (h0, .inr (0, [.ref h1, .int cnt])), (h1, .inl (cL, pn, .inr (.inl pf)))]) [2, 3, 4, 5, 0, 1] (by decide) rfl
        exact W.iret (v := (a1 + (1 : Int32))) hx hb hr (fun t ht hW => ⟨⟨(a1 + (1 : Int32)), (((f_Ma_exchange rf mf (f_Pr_at pf cnt a1)).2.1), ((f_Ma_exchange rf mf (f_Pr_at pf cnt a1)).2.2)), rfl, (by unfold f_Ma_follow; rw [if_neg c1, if_neg c2, if_neg c4, if_pos c6, if_pos c7, if_pos c9]; try rfl), by rw [ht]; exact hP9, hD9⟩, hS.F ht⟩) hS.2.2 dMa_follow_148
  by_cases c10 : (f_Fi_kind (f_Pr_at pf cnt a1)) = (4 : Int32)
  · skip
    refine lv_tableIn (tgt := 156) (off := 146) hx hb dMa_follow_10 (by rw [c10]; decide) (by rw [c10]; decide) (by rw [c10]; rfl) (by decide) ?_
    refine lv_aload_n hx hb dMa_follow_156 rfl (lv_at hl 1 rfl) ?_
    refine va_get (D := G) (ci := 2) (v := .ref h5) (C := RMa) (T := TMa) (N := 2) hx hb hT inMa hown hK hP 0 rfl rfl 0 (by decide) (hT _ mw_77) (fun _ h9 => h9) rfl dMa_follow_157 ?_
    refine lv_lload_n hx hb dMa_follow_160 rfl (lv_at hl 0 rfl) ?_
    refine va_calli (va_runS (As := [.long (f_Pr_at pf cnt a1)]) (rest := [.ref h5]) ⟨hx, hb, hml, hown, hT⟩ (c_Fi_target l s.heap (f_Pr_at pf cnt a1)) (va_cwS 1 hT (gB_SV mw_456 mw_147 mw_16 mw_148) rfl rfl rfl (by decide +kernel) ⟨Nat.le_of_ble_eq_true rfl, Nat.le_of_ble_eq_true rfl⟩) ⟨fun _ _ _ _ q => q, fun U hU hW => ⟨rfl, hU⟩⟩ rfl rfl hl.1 rfl (lv_room (Nat.le_of_ble_eq_true rfl)) dMa_follow_161 ⟨Nat.zero_le _, Nat.zero_le _⟩) hS (fun _ _ h => h.elim) (fun _ h => h.elim) (fun r u t H1 locs ht hvm hw hB hz8 hk8 hS => ?_)
    obtain rfl : s.heap = H1 := hB.symm.trans ht
    subst hw
    refine lv_aload_n hx hb dMa_follow_164 rfl (lv_at hl 1 rfl) ?_
    refine lv_lload_n hx hb dMa_follow_165 rfl (lv_at hl 0 rfl) ?_
    have hPc := hP.sub (ws' := [(h4, .inr (2, [.ref h5, .ref h2])), (h5, .inl (cL, 16, .inr (.inl rf)))]) [0, 1] rfl
    refine va_calll (va_runV (As := [.long (f_Pr_at pf cnt a1)]) (rest := [.int (f_Fi_target (f_Pr_at pf cnt a1)), .ref h5]) ⟨hx, hb, hml, hown, hT⟩ (c_Ma_computed l G cB cL s.heap h4 h5 h2 rf (f_Pr_at pf cnt a1) hPc ) (cwV 1 hT (gB_V mw_523 mw_524 mw_525 mw_4 mw_526) rfl rfl rfl (by decide +kernel) ⟨Nat.le_of_ble_eq_true rfl, Nat.le_of_ble_eq_true rfl⟩) ⟨fun a U g mk q => ⟨q.1, q.2.1, va_K.moved (u := U) (U := U.calling g mk a) (Vm.Alike.refl U.vm) q.2.2⟩, va_recv hK hPc (ci := 2) (q0 := 0) rfl rfl, fun U hU hW => ⟨rfl, hU, va_K.moved hW.alike hK⟩⟩ rfl rfl hl.1 rfl (lv_room (Nat.le_of_ble_eq_true rfl)) dMa_follow_166 ⟨Nat.zero_le _, Nat.zero_le _⟩) hS (fun _ _ h => h.elim) (fun _ h => h.elim) (fun r u t H1 locs ht hvm hw hB hz8 hk8 hS => ?_)
    obtain rfl : s.heap = H1 := hB.symm.trans ht
    subst hw
    refine va_last hx hb hK hP hD hS 1 1 rfl rfl (in_Fi_target (f_Pr_at pf cnt a1)) dMa_follow_169 (fun H locs hP hD hS => ?_)
    have hP : va_P G vwCl [(h4, .inr (2, [.ref h5, .ref h2])), (h5, .inl (cL, 16, .inr (.inl (vp_updL rf (f_Fi_target (f_Pr_at pf cnt a1)).toNatClampNeg (f_Ma_computed rf (f_Pr_at pf cnt a1)))))), (h2, .inr (1, [.ref h3])), (h3, .inl (cB, 4096, .inl mf)), (h0, .inr (0, [.ref h1, .int cnt])), (h1, .inl (cL, pn, .inr (.inl pf)))] H := hP
    have hD : va_D A [(h4, .inr (2, [.ref h5, .ref h2])), (h5, .inl (cL, 16, .inr (.inl (vp_updL rf (f_Fi_target (f_Pr_at pf cnt a1)).toNatClampNeg (f_Ma_computed rf (f_Pr_at pf cnt a1)))))), (h2, .inr (1, [.ref h3])), (h3, .inl (cB, 4096, .inl mf)), (h0, .inr (0, [.ref h1, .int cnt])), (h1, .inl (cL, pn, .inr (.inl pf)))] := hD
    refine lv_iload_n hx hb dMa_follow_170 rfl (lv_at hl 3 rfl) ?_
    refine lv_iconst (v := (1 : Int32)) hx hb dMa_follow_171 (by decide) ?_
    refine lv_iadd hx hb dMa_follow_172 ?_
    have hP9 := hP.sub (ws' := [(h4, .inr (2, [.ref h5, .ref h2])), (h5, .inl (cL, 16, .inr (.inl (vp_updL rf (f_Fi_target (f_Pr_at pf cnt a1)).toNatClampNeg (f_Ma_computed rf (f_Pr_at pf cnt a1)))))), (h2, .inr (1, [.ref h3])), (h3, .inl (cB, 4096, .inl mf)), (h0, .inr (0, [.ref h1, .int cnt])), (h1, .inl (cL, pn, .inr (.inl pf)))]) [0, 1, 2, 3, 4, 5] rfl
    have hD9 := hD.sub (ws' := [(h4, .inr (2, [.ref h5, .ref h2])), (h5, .inl (cL, 16, .inr (.inl (vp_updL rf (f_Fi_target (f_Pr_at pf cnt a1)).toNatClampNeg (f_Ma_computed rf (f_Pr_at pf cnt a1)))))), (h2, .inr (1, [.ref h3])), (h3, .inl (cB, 4096, .inl mf)), (h0, .inr (0, [.ref h1, .int cnt])), (h1, .inl (cL, pn, .inr (.inl pf)))]) [0, 1, 2, 3, 4, 5] (by decide) rfl
    exact W.iret (v := (a1 + (1 : Int32))) hx hb hr (fun t ht hW => ⟨⟨(a1 + (1 : Int32)), ((vp_updL rf (f_Fi_target (f_Pr_at pf cnt a1)).toNatClampNeg (f_Ma_computed rf (f_Pr_at pf cnt a1))), mf), rfl, (by unfold f_Ma_follow; rw [if_neg c1, if_neg c2, if_neg c4, if_neg c6, if_pos c10]; try rfl), by rw [ht]; exact hP9, hD9⟩, hS.F ht⟩) hS.2.2 dMa_follow_173
  by_cases c11 : (f_Fi_kind (f_Pr_at pf cnt a1)) = (5 : Int32)
  · skip
    refine lv_tableIn (tgt := 149) (off := 139) hx hb dMa_follow_10 (by rw [c11]; decide) (by rw [c11]; decide) (by rw [c11]; rfl) (by decide) ?_
    refine lv_aload_n hx hb dMa_follow_149 rfl (lv_at hl 1 rfl) ?_
    refine lv_iload_n hx hb dMa_follow_150 rfl (lv_at hl 3 rfl) ?_
    refine lv_lload_n hx hb dMa_follow_151 rfl (lv_at hl 0 rfl) ?_
    have hPc := hP.sub (ws' := [(h4, .inr (2, [.ref h5, .ref h2])), (h5, .inl (cL, 16, .inr (.inl rf)))]) [0, 1] rfl
    have hDc := hD.sub (ws' := [(h4, .inr (2, [.ref h5, .ref h2])), (h5, .inl (cL, 16, .inr (.inl rf)))]) [0, 1] (by decide) rfl
    have hFc := va_free (wc := [(h4, .inr (2, [.ref h5, .ref h2])), (h5, .inl (cL, 16, .inr (.inl rf)))]) hD hS hA [0, 1] rfl
    refine va_calli (va_runV (As := [.int a1, .long (f_Pr_at pf cnt a1)]) (rest := []) ⟨hx, hb, hml, hown, hT⟩ (c_Ma_jump l G cB cL s.heap h4 h5 h2 rf a1 (f_Pr_at pf cnt a1) hPc (hDc.weaken (fun _ _ _ _ => trivial))) (cwV 2 hT (gB_V mw_494 mw_495 mw_496 mw_4 mw_497) rfl rfl rfl (by decide +kernel) ⟨Nat.le_of_ble_eq_true rfl, Nat.le_of_ble_eq_true rfl⟩) ⟨fun a U g mk q => ⟨q.1, q.2.1, va_K.moved (u := U) (U := U.calling g mk a) (Vm.Alike.refl U.vm) q.2.2⟩, va_recv hK hPc (ci := 2) (q0 := 0) rfl rfl, fun U hU hW => ⟨rfl, hU, va_K.moved hW.alike hK⟩⟩ rfl rfl hl.1 rfl (lv_room (Nat.le_of_ble_eq_true rfl)) dMa_follow_152 ⟨Nat.zero_le _, Nat.zero_le _⟩) hS (fun q _ h => hFc q h) hFc (fun r u t H locs ht hvm hw hB hz8 hk8 hS => ?_)
    obtain ⟨rfl, rfl⟩ : r = (f_Ma_jump rf a1 (f_Pr_at pf cnt a1)).1 ∧ u = (f_Ma_jump rf a1 (f_Pr_at pf cnt a1)).2 := by rw [← hw]; exact ⟨rfl, rfl⟩
    obtain ⟨hP1, hD1⟩ := hB
    rw [ht] at hP1
    obtain ⟨hP, hD⟩ := va_join (wr := [(h2, .inr (1, [.ref h3])), (h3, .inl (cB, 4096, .inl mf)), (h0, .inr (0, [.ref h1, .int cnt])), (h1, .inl (cL, pn, .inr (.inl pf)))]) (w1 := [(h4, .inr (2, [.ref h5, .ref h2])), (h5, .inl (cL, 16, .inr (.inl ((f_Ma_jump rf a1 (f_Pr_at pf cnt a1)).2))))]) hP hD [0, 1] [2, 3, 4, 5] rfl rfl (by decide) (by decide) hk8 hFc hP1 hD1
    have hP : va_P G vwCl [(h2, .inr (1, [.ref h3])), (h3, .inl (cB, 4096, .inl mf)), (h0, .inr (0, [.ref h1, .int cnt])), (h1, .inl (cL, pn, .inr (.inl pf))), (h4, .inr (2, [.ref h5, .ref h2])), (h5, .inl (cL, 16, .inr (.inl ((f_Ma_jump rf a1 (f_Pr_at pf cnt a1)).2))))] H := hP
    have hD : va_D A [(h2, .inr (1, [.ref h3])), (h3, .inl (cB, 4096, .inl mf)), (h0, .inr (0, [.ref h1, .int cnt])), (h1, .inl (cL, pn, .inr (.inl pf))), (h4, .inr (2, [.ref h5, .ref h2])), (h5, .inl (cL, 16, .inr (.inl ((f_Ma_jump rf a1 (f_Pr_at pf cnt a1)).2))))] := hD
    have hP9 := hP.sub (ws' := [(h4, .inr (2, [.ref h5, .ref h2])), (h5, .inl (cL, 16, .inr (.inl ((f_Ma_jump rf a1 (f_Pr_at pf cnt a1)).2)))), (h2, .inr (1, [.ref h3])), (h3, .inl (cB, 4096, .inl mf)), (h0, .inr (0, [.ref h1, .int cnt])), (h1, .inl (cL, pn, .inr (.inl pf)))]) [4, 5, 0, 1, 2, 3] rfl
    have hD9 := hD.sub (ws' := [(h4, .inr (2, [.ref h5, .ref h2])), (h5, .inl (cL, 16, .inr (.inl ((f_Ma_jump rf a1 (f_Pr_at pf cnt a1)).2)))), (h2, .inr (1, [.ref h3])), (h3, .inl (cB, 4096, .inl mf)), (h0, .inr (0, [.ref h1, .int cnt])), (h1, .inl (cL, pn, .inr (.inl pf)))]) [4, 5, 0, 1, 2, 3] (by decide) rfl
    exact W.iret (v := (f_Ma_jump rf a1 (f_Pr_at pf cnt a1)).1) hx hb hr (fun t ht hW => ⟨⟨(f_Ma_jump rf a1 (f_Pr_at pf cnt a1)).1, (((f_Ma_jump rf a1 (f_Pr_at pf cnt a1)).2), mf), rfl, (by unfold f_Ma_follow; rw [if_neg c1, if_neg c2, if_neg c4, if_neg c6, if_neg c10, if_pos c11]; try rfl), by rw [ht]; exact hP9, hD9⟩, hS.F ht⟩) hS.2.2 dMa_follow_155
  by_cases c12 : (f_Fi_kind (f_Pr_at pf cnt a1)) = (6 : Int32)
  · skip
    refine lv_tableIn (tgt := 149) (off := 139) hx hb dMa_follow_10 (by rw [c12]; decide) (by rw [c12]; decide) (by rw [c12]; rfl) (by decide) ?_
    refine lv_aload_n hx hb dMa_follow_149 rfl (lv_at hl 1 rfl) ?_
    refine lv_iload_n hx hb dMa_follow_150 rfl (lv_at hl 3 rfl) ?_
    refine lv_lload_n hx hb dMa_follow_151 rfl (lv_at hl 0 rfl) ?_
    have hPc := hP.sub (ws' := [(h4, .inr (2, [.ref h5, .ref h2])), (h5, .inl (cL, 16, .inr (.inl rf)))]) [0, 1] rfl
    have hDc := hD.sub (ws' := [(h4, .inr (2, [.ref h5, .ref h2])), (h5, .inl (cL, 16, .inr (.inl rf)))]) [0, 1] (by decide) rfl
    have hFc := va_free (wc := [(h4, .inr (2, [.ref h5, .ref h2])), (h5, .inl (cL, 16, .inr (.inl rf)))]) hD hS hA [0, 1] rfl
    refine va_calli (va_runV (As := [.int a1, .long (f_Pr_at pf cnt a1)]) (rest := []) ⟨hx, hb, hml, hown, hT⟩ (c_Ma_jump l G cB cL s.heap h4 h5 h2 rf a1 (f_Pr_at pf cnt a1) hPc (hDc.weaken (fun _ _ _ _ => trivial))) (cwV 2 hT (gB_V mw_494 mw_495 mw_496 mw_4 mw_497) rfl rfl rfl (by decide +kernel) ⟨Nat.le_of_ble_eq_true rfl, Nat.le_of_ble_eq_true rfl⟩) ⟨fun a U g mk q => ⟨q.1, q.2.1, va_K.moved (u := U) (U := U.calling g mk a) (Vm.Alike.refl U.vm) q.2.2⟩, va_recv hK hPc (ci := 2) (q0 := 0) rfl rfl, fun U hU hW => ⟨rfl, hU, va_K.moved hW.alike hK⟩⟩ rfl rfl hl.1 rfl (lv_room (Nat.le_of_ble_eq_true rfl)) dMa_follow_152 ⟨Nat.zero_le _, Nat.zero_le _⟩) hS (fun q _ h => hFc q h) hFc (fun r u t H locs ht hvm hw hB hz8 hk8 hS => ?_)
    obtain ⟨rfl, rfl⟩ : r = (f_Ma_jump rf a1 (f_Pr_at pf cnt a1)).1 ∧ u = (f_Ma_jump rf a1 (f_Pr_at pf cnt a1)).2 := by rw [← hw]; exact ⟨rfl, rfl⟩
    obtain ⟨hP1, hD1⟩ := hB
    rw [ht] at hP1
    obtain ⟨hP, hD⟩ := va_join (wr := [(h2, .inr (1, [.ref h3])), (h3, .inl (cB, 4096, .inl mf)), (h0, .inr (0, [.ref h1, .int cnt])), (h1, .inl (cL, pn, .inr (.inl pf)))]) (w1 := [(h4, .inr (2, [.ref h5, .ref h2])), (h5, .inl (cL, 16, .inr (.inl ((f_Ma_jump rf a1 (f_Pr_at pf cnt a1)).2))))]) hP hD [0, 1] [2, 3, 4, 5] rfl rfl (by decide) (by decide) hk8 hFc hP1 hD1
    have hP : va_P G vwCl [(h2, .inr (1, [.ref h3])), (h3, .inl (cB, 4096, .inl mf)), (h0, .inr (0, [.ref h1, .int cnt])), (h1, .inl (cL, pn, .inr (.inl pf))), (h4, .inr (2, [.ref h5, .ref h2])), (h5, .inl (cL, 16, .inr (.inl ((f_Ma_jump rf a1 (f_Pr_at pf cnt a1)).2))))] H := hP
    have hD : va_D A [(h2, .inr (1, [.ref h3])), (h3, .inl (cB, 4096, .inl mf)), (h0, .inr (0, [.ref h1, .int cnt])), (h1, .inl (cL, pn, .inr (.inl pf))), (h4, .inr (2, [.ref h5, .ref h2])), (h5, .inl (cL, 16, .inr (.inl ((f_Ma_jump rf a1 (f_Pr_at pf cnt a1)).2))))] := hD
    have hP9 := hP.sub (ws' := [(h4, .inr (2, [.ref h5, .ref h2])), (h5, .inl (cL, 16, .inr (.inl ((f_Ma_jump rf a1 (f_Pr_at pf cnt a1)).2)))), (h2, .inr (1, [.ref h3])), (h3, .inl (cB, 4096, .inl mf)), (h0, .inr (0, [.ref h1, .int cnt])), (h1, .inl (cL, pn, .inr (.inl pf)))]) [4, 5, 0, 1, 2, 3] rfl
    have hD9 := hD.sub (ws' := [(h4, .inr (2, [.ref h5, .ref h2])), (h5, .inl (cL, 16, .inr (.inl ((f_Ma_jump rf a1 (f_Pr_at pf cnt a1)).2)))), (h2, .inr (1, [.ref h3])), (h3, .inl (cB, 4096, .inl mf)), (h0, .inr (0, [.ref h1, .int cnt])), (h1, .inl (cL, pn, .inr (.inl pf)))]) [4, 5, 0, 1, 2, 3] (by decide) rfl
    exact W.iret (v := (f_Ma_jump rf a1 (f_Pr_at pf cnt a1)).1) hx hb hr (fun t ht hW => ⟨⟨(f_Ma_jump rf a1 (f_Pr_at pf cnt a1)).1, (((f_Ma_jump rf a1 (f_Pr_at pf cnt a1)).2), mf), rfl, (by unfold f_Ma_follow; rw [if_neg c1, if_neg c2, if_neg c4, if_neg c6, if_neg c10, if_neg c11, if_pos c12]; try rfl), by rw [ht]; exact hP9, hD9⟩, hS.F ht⟩) hS.2.2 dMa_follow_155
  refine lv_tableOut (tgt := 156) hx hb dMa_follow_10 (by have h0 := lv_neT c1 (a := 0) (by decide); have h1 := lv_neT c2 (a := 1) (by decide); have h2 := lv_neT c4 (a := 2) (by decide); have h3 := lv_neT c6 (a := 3) (by decide); have h4 := lv_neT c10 (a := 4) (by decide); have h5 := lv_neT c11 (a := 5) (by decide); have h6 := lv_neT c12 (a := 6) (by decide); omega) (by decide) ?_
  refine lv_aload_n hx hb dMa_follow_156 rfl (lv_at hl 1 rfl) ?_
  refine va_get (D := G) (ci := 2) (v := .ref h5) (C := RMa) (T := TMa) (N := 2) hx hb hT inMa hown hK hP 0 rfl rfl 0 (by decide) (hT _ mw_77) (fun _ h9 => h9) rfl dMa_follow_157 ?_
  refine lv_lload_n hx hb dMa_follow_160 rfl (lv_at hl 0 rfl) ?_
  refine va_calli (va_runS (As := [.long (f_Pr_at pf cnt a1)]) (rest := [.ref h5]) ⟨hx, hb, hml, hown, hT⟩ (c_Fi_target l s.heap (f_Pr_at pf cnt a1)) (va_cwS 1 hT (gB_SV mw_456 mw_147 mw_16 mw_148) rfl rfl rfl (by decide +kernel) ⟨Nat.le_of_ble_eq_true rfl, Nat.le_of_ble_eq_true rfl⟩) ⟨fun _ _ _ _ q => q, fun U hU hW => ⟨rfl, hU⟩⟩ rfl rfl hl.1 rfl (lv_room (Nat.le_of_ble_eq_true rfl)) dMa_follow_161 ⟨Nat.zero_le _, Nat.zero_le _⟩) hS (fun _ _ h => h.elim) (fun _ h => h.elim) (fun r u t H1 locs ht hvm hw hB hz8 hk8 hS => ?_)
  obtain rfl : s.heap = H1 := hB.symm.trans ht
  subst hw
  refine lv_aload_n hx hb dMa_follow_164 rfl (lv_at hl 1 rfl) ?_
  refine lv_lload_n hx hb dMa_follow_165 rfl (lv_at hl 0 rfl) ?_
  have hPc := hP.sub (ws' := [(h4, .inr (2, [.ref h5, .ref h2])), (h5, .inl (cL, 16, .inr (.inl rf)))]) [0, 1] rfl
  refine va_calll (va_runV (As := [.long (f_Pr_at pf cnt a1)]) (rest := [.int (f_Fi_target (f_Pr_at pf cnt a1)), .ref h5]) ⟨hx, hb, hml, hown, hT⟩ (c_Ma_computed l G cB cL s.heap h4 h5 h2 rf (f_Pr_at pf cnt a1) hPc ) (cwV 1 hT (gB_V mw_523 mw_524 mw_525 mw_4 mw_526) rfl rfl rfl (by decide +kernel) ⟨Nat.le_of_ble_eq_true rfl, Nat.le_of_ble_eq_true rfl⟩) ⟨fun a U g mk q => ⟨q.1, q.2.1, va_K.moved (u := U) (U := U.calling g mk a) (Vm.Alike.refl U.vm) q.2.2⟩, va_recv hK hPc (ci := 2) (q0 := 0) rfl rfl, fun U hU hW => ⟨rfl, hU, va_K.moved hW.alike hK⟩⟩ rfl rfl hl.1 rfl (lv_room (Nat.le_of_ble_eq_true rfl)) dMa_follow_166 ⟨Nat.zero_le _, Nat.zero_le _⟩) hS (fun _ _ h => h.elim) (fun _ h => h.elim) (fun r u t H1 locs ht hvm hw hB hz8 hk8 hS => ?_)
  obtain rfl : s.heap = H1 := hB.symm.trans ht
  subst hw
  refine va_last hx hb hK hP hD hS 1 1 rfl rfl (in_Fi_target (f_Pr_at pf cnt a1)) dMa_follow_169 (fun H locs hP hD hS => ?_)
  have hP : va_P G vwCl [(h4, .inr (2, [.ref h5, .ref h2])), (h5, .inl (cL, 16, .inr (.inl (vp_updL rf (f_Fi_target (f_Pr_at pf cnt a1)).toNatClampNeg (f_Ma_computed rf (f_Pr_at pf cnt a1)))))), (h2, .inr (1, [.ref h3])), (h3, .inl (cB, 4096, .inl mf)), (h0, .inr (0, [.ref h1, .int cnt])), (h1, .inl (cL, pn, .inr (.inl pf)))] H := hP
  have hD : va_D A [(h4, .inr (2, [.ref h5, .ref h2])), (h5, .inl (cL, 16, .inr (.inl (vp_updL rf (f_Fi_target (f_Pr_at pf cnt a1)).toNatClampNeg (f_Ma_computed rf (f_Pr_at pf cnt a1)))))), (h2, .inr (1, [.ref h3])), (h3, .inl (cB, 4096, .inl mf)), (h0, .inr (0, [.ref h1, .int cnt])), (h1, .inl (cL, pn, .inr (.inl pf)))] := hD
  refine lv_iload_n hx hb dMa_follow_170 rfl (lv_at hl 3 rfl) ?_
  refine lv_iconst (v := (1 : Int32)) hx hb dMa_follow_171 (by decide) ?_
  refine lv_iadd hx hb dMa_follow_172 ?_
  have hP9 := hP.sub (ws' := [(h4, .inr (2, [.ref h5, .ref h2])), (h5, .inl (cL, 16, .inr (.inl (vp_updL rf (f_Fi_target (f_Pr_at pf cnt a1)).toNatClampNeg (f_Ma_computed rf (f_Pr_at pf cnt a1)))))), (h2, .inr (1, [.ref h3])), (h3, .inl (cB, 4096, .inl mf)), (h0, .inr (0, [.ref h1, .int cnt])), (h1, .inl (cL, pn, .inr (.inl pf)))]) [0, 1, 2, 3, 4, 5] rfl
  have hD9 := hD.sub (ws' := [(h4, .inr (2, [.ref h5, .ref h2])), (h5, .inl (cL, 16, .inr (.inl (vp_updL rf (f_Fi_target (f_Pr_at pf cnt a1)).toNatClampNeg (f_Ma_computed rf (f_Pr_at pf cnt a1)))))), (h2, .inr (1, [.ref h3])), (h3, .inl (cB, 4096, .inl mf)), (h0, .inr (0, [.ref h1, .int cnt])), (h1, .inl (cL, pn, .inr (.inl pf)))]) [0, 1, 2, 3, 4, 5] (by decide) rfl
  exact W.iret (v := (a1 + (1 : Int32))) hx hb hr (fun t ht hW => ⟨⟨(a1 + (1 : Int32)), ((vp_updL rf (f_Fi_target (f_Pr_at pf cnt a1)).toNatClampNeg (f_Ma_computed rf (f_Pr_at pf cnt a1))), mf), rfl, (by unfold f_Ma_follow; rw [if_neg c1, if_neg c2, if_neg c4, if_neg c6, if_neg c10, if_neg c11, if_neg c12]; try rfl), by rw [ht]; exact hP9, hD9⟩, hS.F ht⟩) hS.2.2 dMa_follow_173
end
section
def f_Ta_hasRoom (tl : Int32) : Bool :=
  if (32768 : Int32) < (tl + (20 : Int32)) then
    false
  else
    true
set_option maxHeartbeats 4000000 in
set_option maxRecDepth 100000 in
theorem c_Ta_hasRoom (l : Launch) (G : va_G) (cB cL : ClassId) (Hp : Heap) (h6 : Nat) (h7 : Nat) (tn : Nat) (tf : Nat → Int32) (tl : Int32) (hP : va_P G vwCl [(h6, .inr (3, [.ref h7, .int tl])), (h7, .inl (cB, tn, .inl tf))] Hp) : Met l yTa_hasRoom wsTa_hasRoom ({ frames := 0, cells := 0, slots := 0, locals := 0 }) (va_Pc [.ref h6] (fun U => U.heap = Hp ∧ va_K G vwCl [(cB, .byte), (cL, .long)] U)) (va_Qi (fun (r : Int32) (_ : Unit) => r = bI (f_Ta_hasRoom tl)) (fun _ t => t.heap = Hp) (fun _ => False)) 0 0 (fun _ => False) := by
  refine Met.ofW (cc := cTa_hasRoom) (maxL := 1) (ret := (some .boolean)) (by decide) rfl ?_
  intro p e s m args below meth c s₁ B hml hv
  obtain ⟨rfl, rfl, hK⟩ := hv
  have hx := B.exec
  have hb := B.bytes
  have hr := B.returns
  have hT : ∀ w ∈ tB, w.before _ s = true := fun w h => atoms_spec (ws := wsTa_hasRoom) B.pre w (List.mem_cons_of_mem _ h)
  have hown : s.vm.findClass "CompiledProgram$Tape" = some m.cls := findClass_of_methodNamed B.named
  have hlocks := B.notSynchronized
  have hA : ∀ q : Nat, (fun _ : Nat => False) q → False := fun _ h => h
  have hS : va_S (fun _ => False) s.heap s.heap [] := va_S.rf
  have hl := lv_entry ([.ref h6]) (n := 1) (Nat.le_of_ble_eq_true rfl)
  rw [lg_entry_eq]
  generalize (lg_sl ([.ref h6]) ++ List.replicate (1 - (lg_sl ([.ref h6])).length) Slot.unset).toArray = ls at hl ⊢
  have hl : lv_has ls 1 [(0, .ref h6)] := hl
  refine lv_aload_n hx hb dTa_hasRoom_0 rfl (lv_at hl 0 rfl) ?_
  refine va_get (D := G) (ci := 3) (v := .int tl) (C := RTa) (T := TTa) (N := 2) hx hb hT inTa hown hK hP 0 rfl rfl 1 (by decide) (hT _ mw_36) (fun _ h9 => h9) rfl dTa_hasRoom_1 ?_
  refine lv_bipush (v := (20 : Int32)) hx hb dTa_hasRoom_4 (by decide) ?_
  refine lv_iadd hx hb dTa_hasRoom_6 ?_
  refine lv_ldc (v := (32768 : Int32)) hx hb hown (hT _ mw_258) dTa_hasRoom_7 ?_
  refine lv_icmp_gt (tgt := 16) hx hb dTa_hasRoom_9 (by decide) (fun c1 => ?_) (fun c1 => ?_)
  · skip
    refine lv_iconst (v := (0 : Int32)) hx hb dTa_hasRoom_16 (by decide) ?_
    exact W.zret (v := (0 : Int32)) hx hb hr rfl (fun t ht hW => ⟨⟨(0 : Int32), (), rfl, (by unfold f_Ta_hasRoom; rw [if_pos c1]; try rfl), ht⟩, hS.F ht⟩) hS.2.2 dTa_hasRoom_17
  · skip
    refine lv_iconst (v := (1 : Int32)) hx hb dTa_hasRoom_12 (by decide) ?_
    refine lv_goto (tgt := 17) hx hb dTa_hasRoom_13 (by decide) ?_
    exact W.zret (v := (1 : Int32)) hx hb hr rfl (fun t ht hW => ⟨⟨(1 : Int32), (), rfl, (by unfold f_Ta_hasRoom; rw [if_neg c1]; try rfl), ht⟩, hS.F ht⟩) hS.2.2 dTa_hasRoom_17

theorem ty_in {tl : Int32} {tn : Nat} (h0 : 0 ≤ tl.toInt) (h1 : tl.toInt ≤ tn) (hn : tn < 1073741824) (c : (tl + (4 : Int32)) ≤ (nI tn)) : vp_in tl tn ∧ vp_in (tl + (1 : Int32)) tn ∧ vp_in (tl + (2 : Int32)) tn ∧ vp_in (tl + (3 : Int32)) tn := by
  rw [Int32.le_iff_toInt_le, nI_toInt (by omega)] at c
  have e1 : (1 : Int32).toInt = 1 := by decide
  have e2 : (2 : Int32).toInt = 2 := by decide
  have e3 : (3 : Int32).toInt = 3 := by decide
  have e4 : (4 : Int32).toInt = 4 := by decide
  rw [i_add (by rw [e4]; omega) (by rw [e4]; omega), e4] at c
  refine ⟨?_, ?_, ?_, ?_⟩
  · rw [vp_in_iff]; omega
  · rw [vp_in_iff, i_add (by rw [e1]; omega) (by rw [e1]; omega), e1]; omega
  · rw [vp_in_iff, i_add (by rw [e2]; omega) (by rw [e2]; omega), e2]; omega
  · rw [vp_in_iff, i_add (by rw [e3]; omega) (by rw [e3]; omega), e3]; omega
theorem pl_b2 {k : Int32} (c : ¬ k < 0) (h : k.toInt < 8) : (k + (-1 : Int32)).toInt < 8 := by
  rw [i_dec c]; omega
theorem pl_at {a0 k : Int32} (ha : a0.toInt < 8192) (h0 : ¬ a0 < 0) (hk0 : 0 ≤ k.toInt) (hk : k.toInt < 8) : ((a0 * (8 : Int32)) + k).toInt = 8 * a0.toInt + k.toInt ∧ (a0 * (8 : Int32)).toInt = 8 * a0.toInt := by
  have h0 := i_nlt0 h0
  have e8 : (8 : Int32).toInt = 8 := by decide
  have em : (a0 * (8 : Int32)).toInt = 8 * a0.toInt := by
    rw [Int32.toInt_mul, e8, bm32 (by omega) (by omega)]; omega
  refine ⟨?_, em⟩
  rw [i_add (by rw [em]; omega) (by rw [em]; omega), em]
theorem pl_in {a0 k tl : Int32} {tn : Nat} (ha : a0.toInt < 8192) (htl : tl.toInt ≤ tn) (h0 : ¬ a0 < 0) (hb : ((a0 * (8 : Int32)) + (8 : Int32)) ≤ tl) (hk : k.toInt < 8) (c : ¬ k < 0) : vp_in ((a0 * (8 : Int32)) + k) tn := by
  have h1 := i_nlt0 h0
  have h2 := i_nlt0 c
  obtain ⟨p1, p2⟩ := pl_at ha h0 h2 hk
  have e8 : (8 : Int32).toInt = 8 := by decide
  rw [Int32.le_iff_toInt_le, i_add (by rw [p2, e8]; omega) (by rw [p2, e8]; omega), p2, e8] at hb
  rw [vp_in_iff, p1]; omega
def f_Ta_type (tn : Nat) (tf : Nat → Int32) (tl : Int32) (a0 : Int32) : (Nat → Int32) × (Int32) :=
  if (tl + (4 : Int32)) ≤ (nI tn) then
    ((upd (upd (upd (upd tf tl.toNatClampNeg (vp_nar .byte (j_i2b (a0 >>> ((24 : Int32) &&& 31))))) (tl + (1 : Int32)).toNatClampNeg (vp_nar .byte (j_i2b (a0 >>> ((16 : Int32) &&& 31))))) (tl + (2 : Int32)).toNatClampNeg (vp_nar .byte (j_i2b (a0 >>> ((8 : Int32) &&& 31))))) (tl + (3 : Int32)).toNatClampNeg (vp_nar .byte (j_i2b a0))), (tl + (4 : Int32)))
  else
    (tf, tl)
set_option maxHeartbeats 4000000 in
set_option maxRecDepth 100000 in
theorem c_Ta_type (l : Launch) (G : va_G) (cB cL : ClassId) (Hp : Heap) (h6 : Nat) (h7 : Nat) (tn : Nat) (tf : Nat → Int32) (tl : Int32) (a0 : Int32) (hP : va_P G vwCl [(h6, .inr (3, [.ref h7, .int tl])), (h7, .inl (cB, tn, .inl tf))] Hp) (hD : va_D (fun _ => True) [(h6, .inr (3, [.ref h7, .int tl])), (h7, .inl (cB, tn, .inl tf))]) (ht0 : 0 ≤ tl.toInt) (ht1 : tl.toInt ≤ tn) (htn : tn < 1073741824) : Met l yTa_type wsTa_type ({ frames := 0, cells := 0, slots := 0, locals := 0 }) (va_Pc [.ref h6, .int a0] (fun U => U.heap = Hp ∧ va_K G vwCl [(cB, .byte), (cL, .long)] U)) (va_Qv (fun (u : (Nat → Int32) × (Int32)) => u = (f_Ta_type tn tf tl a0)) (fun (u : (Nat → Int32) × (Int32)) t => va_P G vwCl [(h6, .inr (3, [.ref h7, .int (u.2)])), (h7, .inl (cB, tn, .inl (u.1)))] t.heap ∧ va_D (va_A [(h6, .inr (3, [.ref h7, .int tl])), (h7, .inl (cB, tn, .inl tf))] Hp.size) [(h6, .inr (3, [.ref h7, .int (u.2)])), (h7, .inl (cB, tn, .inl (u.1)))]) (va_A [(h6, .inr (3, [.ref h7, .int tl])), (h7, .inl (cB, tn, .inl tf))] Hp.size)) 0 0 (va_A [(h6, .inr (3, [.ref h7, .int tl])), (h7, .inl (cB, tn, .inl tf))] Hp.size) := by
  refine Met.ofW (cc := cTa_type) (maxL := 2) (ret := none) (by decide) rfl ?_
  intro p e s m args below meth c s₁ B hml hv
  obtain ⟨rfl, rfl, hK⟩ := hv
  have hx := B.exec
  have hb := B.bytes
  have hr := B.returns
  have hT : ∀ w ∈ tB, w.before _ s = true := fun w h => atoms_spec (ws := wsTa_type) B.pre w (List.mem_cons_of_mem _ h)
  have hown : s.vm.findClass "CompiledProgram$Tape" = some m.cls := findClass_of_methodNamed B.named
  have hlocks := B.notSynchronized
  have hD := hD.self (sz := s.heap.size)
  generalize hAe : va_A [(h6, .inr (3, [.ref h7, .int tl])), (h7, .inl (cB, tn, .inl tf))] s.heap.size = A at hD ⊢
  have hA : ∀ q : Nat, s.heap.size ≤ q → A q := fun q h => by rw [← hAe]; exact Or.inr h
  have hS : va_S A s.heap s.heap [] := va_S.rf
  have hl := lv_entry ([.ref h6, .int a0]) (n := 2) (Nat.le_of_ble_eq_true rfl)
  rw [lg_entry_eq]
  generalize (lg_sl ([.ref h6, .int a0]) ++ List.replicate (2 - (lg_sl ([.ref h6, .int a0])).length) Slot.unset).toArray = ls at hl ⊢
  have hl : lv_has ls 2 [(0, .ref h6), (1, .int a0)] := hl
  refine lv_aload_n hx hb dTa_type_0 rfl (lv_at hl 0 rfl) ?_
  refine va_get (D := G) (ci := 3) (v := .int tl) (C := RTa) (T := TTa) (N := 2) hx hb hT inTa hown hK hP 0 rfl rfl 1 (by decide) (hT _ mw_36) (fun _ h9 => h9) rfl dTa_type_1 ?_
  refine lv_iconst (v := (4 : Int32)) hx hb dTa_type_4 (by decide) ?_
  refine lv_iadd hx hb dTa_type_5 ?_
  refine lv_aload_n hx hb dTa_type_6 rfl (lv_at hl 0 rfl) ?_
  refine va_get (D := G) (ci := 3) (v := .ref h7) (C := RTa) (T := TTa) (N := 2) hx hb hT inTa hown hK hP 0 rfl rfl 0 (by decide) (hT _ mw_35) (fun _ h9 => h9) rfl dTa_type_7 ?_
  refine va_alen (v := (nI tn)) hx hb hK hP 1 0 rfl rfl rfl dTa_type_10 ?_
  refine lv_icmp_le (tgt := 15) hx hb dTa_type_11 (by decide) (fun c1 => ?_) (fun c1 => ?_)
  · skip
    refine lv_aload_n hx hb dTa_type_15 rfl (lv_at hl 0 rfl) ?_
    refine va_get (D := G) (ci := 3) (v := .ref h7) (C := RTa) (T := TTa) (N := 2) hx hb hT inTa hown hK hP 0 rfl rfl 0 (by decide) (hT _ mw_35) (fun _ h9 => h9) rfl dTa_type_16 ?_
    refine lv_aload_n hx hb dTa_type_19 rfl (lv_at hl 0 rfl) ?_
    refine va_get (D := G) (ci := 3) (v := .int tl) (C := RTa) (T := TTa) (N := 2) hx hb hT inTa hown hK hP 0 rfl rfl 1 (by decide) (hT _ mw_36) (fun _ h9 => h9) rfl dTa_type_20 ?_
    refine lv_iload_n hx hb dTa_type_23 rfl (lv_at hl 1 rfl) ?_
    refine lv_bipush (v := (24 : Int32)) hx hb dTa_type_24 (by decide) ?_
    refine lv_ishr hx hb dTa_type_26 ?_
    refine lv_i2b (v := (j_i2b (a0 >>> ((24 : Int32) &&& 31)))) hx hb dTa_type_27 rfl ?_
    refine va_bast hx hb hK hP hD hS 1 0 rfl rfl (ty_in ht0 ht1 htn c1).1 dTa_type_28 (fun H locs hP hD hS => ?_)
    have hP : va_P G vwCl [(h6, .inr (3, [.ref h7, .int tl])), (h7, .inl (cB, tn, .inl (upd tf tl.toNatClampNeg (vp_nar .byte (j_i2b (a0 >>> ((24 : Int32) &&& 31)))))))] H := hP
    have hD : va_D A [(h6, .inr (3, [.ref h7, .int tl])), (h7, .inl (cB, tn, .inl (upd tf tl.toNatClampNeg (vp_nar .byte (j_i2b (a0 >>> ((24 : Int32) &&& 31)))))))] := hD
    refine lv_aload_n hx hb dTa_type_29 rfl (lv_at hl 0 rfl) ?_
    refine va_get (D := G) (ci := 3) (v := .ref h7) (C := RTa) (T := TTa) (N := 2) hx hb hT inTa hown hK hP 0 rfl rfl 0 (by decide) (hT _ mw_35) (fun _ h9 => h9) rfl dTa_type_30 ?_
    refine lv_aload_n hx hb dTa_type_33 rfl (lv_at hl 0 rfl) ?_
    refine va_get (D := G) (ci := 3) (v := .int tl) (C := RTa) (T := TTa) (N := 2) hx hb hT inTa hown hK hP 0 rfl rfl 1 (by decide) (hT _ mw_36) (fun _ h9 => h9) rfl dTa_type_34 ?_
    refine lv_iconst (v := (1 : Int32)) hx hb dTa_type_37 (by decide) ?_
    refine lv_iadd hx hb dTa_type_38 ?_
    refine lv_iload_n hx hb dTa_type_39 rfl (lv_at hl 1 rfl) ?_
    refine lv_bipush (v := (16 : Int32)) hx hb dTa_type_40 (by decide) ?_
    refine lv_ishr hx hb dTa_type_42 ?_
    refine lv_i2b (v := (j_i2b (a0 >>> ((16 : Int32) &&& 31)))) hx hb dTa_type_43 rfl ?_
    refine va_bast hx hb hK hP hD hS 1 0 rfl rfl (ty_in ht0 ht1 htn c1).2.1 dTa_type_44 (fun H locs hP hD hS => ?_)
    have hP : va_P G vwCl [(h6, .inr (3, [.ref h7, .int tl])), (h7, .inl (cB, tn, .inl (upd (upd tf tl.toNatClampNeg (vp_nar .byte (j_i2b (a0 >>> ((24 : Int32) &&& 31))))) (tl + (1 : Int32)).toNatClampNeg (vp_nar .byte (j_i2b (a0 >>> ((16 : Int32) &&& 31)))))))] H := hP
    have hD : va_D A [(h6, .inr (3, [.ref h7, .int tl])), (h7, .inl (cB, tn, .inl (upd (upd tf tl.toNatClampNeg (vp_nar .byte (j_i2b (a0 >>> ((24 : Int32) &&& 31))))) (tl + (1 : Int32)).toNatClampNeg (vp_nar .byte (j_i2b (a0 >>> ((16 : Int32) &&& 31)))))))] := hD
    refine lv_aload_n hx hb dTa_type_45 rfl (lv_at hl 0 rfl) ?_
    refine va_get (D := G) (ci := 3) (v := .ref h7) (C := RTa) (T := TTa) (N := 2) hx hb hT inTa hown hK hP 0 rfl rfl 0 (by decide) (hT _ mw_35) (fun _ h9 => h9) rfl dTa_type_46 ?_
    refine lv_aload_n hx hb dTa_type_49 rfl (lv_at hl 0 rfl) ?_
    refine va_get (D := G) (ci := 3) (v := .int tl) (C := RTa) (T := TTa) (N := 2) hx hb hT inTa hown hK hP 0 rfl rfl 1 (by decide) (hT _ mw_36) (fun _ h9 => h9) rfl dTa_type_50 ?_
    refine lv_iconst (v := (2 : Int32)) hx hb dTa_type_53 (by decide) ?_
    refine lv_iadd hx hb dTa_type_54 ?_
    refine lv_iload_n hx hb dTa_type_55 rfl (lv_at hl 1 rfl) ?_
    refine lv_bipush (v := (8 : Int32)) hx hb dTa_type_56 (by decide) ?_
    refine lv_ishr hx hb dTa_type_58 ?_
    refine lv_i2b (v := (j_i2b (a0 >>> ((8 : Int32) &&& 31)))) hx hb dTa_type_59 rfl ?_
    refine va_bast hx hb hK hP hD hS 1 0 rfl rfl (ty_in ht0 ht1 htn c1).2.2.1 dTa_type_60 (fun H locs hP hD hS => ?_)
    have hP : va_P G vwCl [(h6, .inr (3, [.ref h7, .int tl])), (h7, .inl (cB, tn, .inl (upd (upd (upd tf tl.toNatClampNeg (vp_nar .byte (j_i2b (a0 >>> ((24 : Int32) &&& 31))))) (tl + (1 : Int32)).toNatClampNeg (vp_nar .byte (j_i2b (a0 >>> ((16 : Int32) &&& 31))))) (tl + (2 : Int32)).toNatClampNeg (vp_nar .byte (j_i2b (a0 >>> ((8 : Int32) &&& 31)))))))] H := hP
    have hD : va_D A [(h6, .inr (3, [.ref h7, .int tl])), (h7, .inl (cB, tn, .inl (upd (upd (upd tf tl.toNatClampNeg (vp_nar .byte (j_i2b (a0 >>> ((24 : Int32) &&& 31))))) (tl + (1 : Int32)).toNatClampNeg (vp_nar .byte (j_i2b (a0 >>> ((16 : Int32) &&& 31))))) (tl + (2 : Int32)).toNatClampNeg (vp_nar .byte (j_i2b (a0 >>> ((8 : Int32) &&& 31)))))))] := hD
    refine lv_aload_n hx hb dTa_type_61 rfl (lv_at hl 0 rfl) ?_
    refine va_get (D := G) (ci := 3) (v := .ref h7) (C := RTa) (T := TTa) (N := 2) hx hb hT inTa hown hK hP 0 rfl rfl 0 (by decide) (hT _ mw_35) (fun _ h9 => h9) rfl dTa_type_62 ?_
    refine lv_aload_n hx hb dTa_type_65 rfl (lv_at hl 0 rfl) ?_
    refine va_get (D := G) (ci := 3) (v := .int tl) (C := RTa) (T := TTa) (N := 2) hx hb hT inTa hown hK hP 0 rfl rfl 1 (by decide) (hT _ mw_36) (fun _ h9 => h9) rfl dTa_type_66 ?_
    refine lv_iconst (v := (3 : Int32)) hx hb dTa_type_69 (by decide) ?_
    refine lv_iadd hx hb dTa_type_70 ?_
    refine lv_iload_n hx hb dTa_type_71 rfl (lv_at hl 1 rfl) ?_
    refine lv_i2b (v := (j_i2b a0)) hx hb dTa_type_72 rfl ?_
    refine va_bast hx hb hK hP hD hS 1 0 rfl rfl (ty_in ht0 ht1 htn c1).2.2.2 dTa_type_73 (fun H locs hP hD hS => ?_)
    have hP : va_P G vwCl [(h6, .inr (3, [.ref h7, .int tl])), (h7, .inl (cB, tn, .inl (upd (upd (upd (upd tf tl.toNatClampNeg (vp_nar .byte (j_i2b (a0 >>> ((24 : Int32) &&& 31))))) (tl + (1 : Int32)).toNatClampNeg (vp_nar .byte (j_i2b (a0 >>> ((16 : Int32) &&& 31))))) (tl + (2 : Int32)).toNatClampNeg (vp_nar .byte (j_i2b (a0 >>> ((8 : Int32) &&& 31))))) (tl + (3 : Int32)).toNatClampNeg (vp_nar .byte (j_i2b a0)))))] H := hP
    have hD : va_D A [(h6, .inr (3, [.ref h7, .int tl])), (h7, .inl (cB, tn, .inl (upd (upd (upd (upd tf tl.toNatClampNeg (vp_nar .byte (j_i2b (a0 >>> ((24 : Int32) &&& 31))))) (tl + (1 : Int32)).toNatClampNeg (vp_nar .byte (j_i2b (a0 >>> ((16 : Int32) &&& 31))))) (tl + (2 : Int32)).toNatClampNeg (vp_nar .byte (j_i2b (a0 >>> ((8 : Int32) &&& 31))))) (tl + (3 : Int32)).toNatClampNeg (vp_nar .byte (j_i2b a0)))))] := hD
    refine lv_aload_n hx hb dTa_type_74 rfl (lv_at hl 0 rfl) ?_
    refine lv_dup hx hb dTa_type_75 rfl ?_
    refine va_get (D := G) (ci := 3) (v := .int tl) (C := RTa) (T := TTa) (N := 2) hx hb hT inTa hown hK hP 0 rfl rfl 1 (by decide) (hT _ mw_36) (fun _ h9 => h9) rfl dTa_type_76 ?_
    refine lv_iconst (v := (4 : Int32)) hx hb dTa_type_79 (by decide) ?_
    refine lv_iadd hx hb dTa_type_80 ?_
    refine va_put (D := G) (ci := 3) (v := .int (tl + (4 : Int32))) (ty := .int) (C := RTa) (T := TTa) (N := 2) hx hb hT inTa tyTa tyTa_ok nmTa hown hK hP hD hS 0 rfl rfl 1 (by decide) (hT _ mw_36) (fun _ h9 => h9) rfl (by decide +kernel) rfl rfl (Nat.le_of_ble_eq_true rfl) dTa_type_81 (fun H locs hP hD hS => ?_)
    have hP : va_P G vwCl [(h6, .inr (3, [.ref h7, .int (tl + (4 : Int32))])), (h7, .inl (cB, tn, .inl (upd (upd (upd (upd tf tl.toNatClampNeg (vp_nar .byte (j_i2b (a0 >>> ((24 : Int32) &&& 31))))) (tl + (1 : Int32)).toNatClampNeg (vp_nar .byte (j_i2b (a0 >>> ((16 : Int32) &&& 31))))) (tl + (2 : Int32)).toNatClampNeg (vp_nar .byte (j_i2b (a0 >>> ((8 : Int32) &&& 31))))) (tl + (3 : Int32)).toNatClampNeg (vp_nar .byte (j_i2b a0)))))] H := hP
    have hD : va_D A [(h6, .inr (3, [.ref h7, .int (tl + (4 : Int32))])), (h7, .inl (cB, tn, .inl (upd (upd (upd (upd tf tl.toNatClampNeg (vp_nar .byte (j_i2b (a0 >>> ((24 : Int32) &&& 31))))) (tl + (1 : Int32)).toNatClampNeg (vp_nar .byte (j_i2b (a0 >>> ((16 : Int32) &&& 31))))) (tl + (2 : Int32)).toNatClampNeg (vp_nar .byte (j_i2b (a0 >>> ((8 : Int32) &&& 31))))) (tl + (3 : Int32)).toNatClampNeg (vp_nar .byte (j_i2b a0)))))] := hD
    have hP9 := hP.sub (ws' := [(h6, .inr (3, [.ref h7, .int (tl + (4 : Int32))])), (h7, .inl (cB, tn, .inl (upd (upd (upd (upd tf tl.toNatClampNeg (vp_nar .byte (j_i2b (a0 >>> ((24 : Int32) &&& 31))))) (tl + (1 : Int32)).toNatClampNeg (vp_nar .byte (j_i2b (a0 >>> ((16 : Int32) &&& 31))))) (tl + (2 : Int32)).toNatClampNeg (vp_nar .byte (j_i2b (a0 >>> ((8 : Int32) &&& 31))))) (tl + (3 : Int32)).toNatClampNeg (vp_nar .byte (j_i2b a0)))))]) [0, 1] rfl
    have hD9 := hD.sub (ws' := [(h6, .inr (3, [.ref h7, .int (tl + (4 : Int32))])), (h7, .inl (cB, tn, .inl (upd (upd (upd (upd tf tl.toNatClampNeg (vp_nar .byte (j_i2b (a0 >>> ((24 : Int32) &&& 31))))) (tl + (1 : Int32)).toNatClampNeg (vp_nar .byte (j_i2b (a0 >>> ((16 : Int32) &&& 31))))) (tl + (2 : Int32)).toNatClampNeg (vp_nar .byte (j_i2b (a0 >>> ((8 : Int32) &&& 31))))) (tl + (3 : Int32)).toNatClampNeg (vp_nar .byte (j_i2b a0)))))]) [0, 1] (by decide) rfl
    exact W.vret hx hb hr (fun t ht hW => ⟨⟨((upd (upd (upd (upd tf tl.toNatClampNeg (vp_nar .byte (j_i2b (a0 >>> ((24 : Int32) &&& 31))))) (tl + (1 : Int32)).toNatClampNeg (vp_nar .byte (j_i2b (a0 >>> ((16 : Int32) &&& 31))))) (tl + (2 : Int32)).toNatClampNeg (vp_nar .byte (j_i2b (a0 >>> ((8 : Int32) &&& 31))))) (tl + (3 : Int32)).toNatClampNeg (vp_nar .byte (j_i2b a0))), (tl + (4 : Int32))), rfl, (by unfold f_Ta_type; rw [if_pos c1]; try rfl), by rw [ht]; exact hP9, hD9⟩, hS.F ht⟩) hS.2.2 dTa_type_84
  · skip
    have hP9 := hP.sub (ws' := [(h6, .inr (3, [.ref h7, .int tl])), (h7, .inl (cB, tn, .inl tf))]) [0, 1] rfl
    have hD9 := hD.sub (ws' := [(h6, .inr (3, [.ref h7, .int tl])), (h7, .inl (cB, tn, .inl tf))]) [0, 1] (by decide) rfl
    exact W.vret hx hb hr (fun t ht hW => ⟨⟨(tf, tl), rfl, (by unfold f_Ta_type; rw [if_neg c1]; try rfl), by rw [ht]; exact hP9, hD9⟩, hS.F ht⟩) hS.2.2 dTa_type_14

def l_Ta_placeAt_28 (tf : Nat → Int32) (tl : Int32) (a0 : Int32) : Nat → (Int32) → (Int64) → Int64
  | 0, _, _ => default
  | n + 1, k, v =>
    if k < 0 then
      v
    else
      l_Ta_placeAt_28 tf tl a0 n (k + (-1 : Int32)) ((j_lshl v (8 : Int32)) ||| (((tf ((a0 * (8 : Int32)) + k).toNatClampNeg) &&& (255 : Int32)).toInt64))
def f_Ta_placeAt (tf : Nat → Int32) (tl : Int32) (a0 : Int32) : Int64 :=
  if a0 < 0 then
    (0 : Int64)
  else
    if ((a0 * (8 : Int32)) + (8 : Int32)) ≤ tl then
      l_Ta_placeAt_28 tf tl a0 9 (7 : Int32) (0 : Int64)
    else
      (0 : Int64)
set_option maxHeartbeats 4000000 in
set_option maxRecDepth 100000 in
theorem c_Ta_placeAt (l : Launch) (G : va_G) (cB cL : ClassId) (Hp : Heap) (h6 : Nat) (h7 : Nat) (tn : Nat) (tf : Nat → Int32) (tl : Int32) (a0 : Int32) (hP : va_P G vwCl [(h6, .inr (3, [.ref h7, .int tl])), (h7, .inl (cB, tn, .inl tf))] Hp) (ha : a0.toInt < 8192) (htl : tl.toInt ≤ tn) (htn : tn < 1073741824) : Met l yTa_placeAt wsTa_placeAt ({ frames := 0, cells := 0, slots := 0, locals := 0 }) (va_Pc [.ref h6, .int a0] (fun U => U.heap = Hp ∧ va_K G vwCl [(cB, .byte), (cL, .long)] U)) (va_Ql (fun (r : Int64) (_ : Unit) => r = (f_Ta_placeAt tf tl a0)) (fun _ t => t.heap = Hp) (fun _ => False)) 0 0 (fun _ => False) := by
  refine Met.ofW (cc := cTa_placeAt) (maxL := 6) (ret := (some .long)) (by decide) rfl ?_
  intro p e s m args below meth c s₁ B hml hv
  obtain ⟨rfl, rfl, hK⟩ := hv
  have hx := B.exec
  have hb := B.bytes
  have hr := B.returns
  have hT : ∀ w ∈ tB, w.before _ s = true := fun w h => atoms_spec (ws := wsTa_placeAt) B.pre w (List.mem_cons_of_mem _ h)
  have hown : s.vm.findClass "CompiledProgram$Tape" = some m.cls := findClass_of_methodNamed B.named
  have hlocks := B.notSynchronized
  have hA : ∀ q : Nat, (fun _ : Nat => False) q → False := fun _ h => h
  have hS : va_S (fun _ => False) s.heap s.heap [] := va_S.rf
  have hl := lv_entry ([.ref h6, .int a0]) (n := 6) (Nat.le_of_ble_eq_true rfl)
  rw [lg_entry_eq]
  generalize (lg_sl ([.ref h6, .int a0]) ++ List.replicate (6 - (lg_sl ([.ref h6, .int a0])).length) Slot.unset).toArray = ls at hl ⊢
  have hl : lv_has ls 6 [(0, .ref h6), (1, .int a0)] := hl
  refine lv_iload_n hx hb dTa_placeAt_0 rfl (lv_at hl 1 rfl) ?_
  refine lv_bipush (v := (8 : Int32)) hx hb dTa_placeAt_1 (by decide) ?_
  refine lv_imul hx hb dTa_placeAt_3 ?_
  refine lv_istore_n (lv' := [(2, .int (a0 * (8 : Int32))), (0, .ref h6), (1, .int a0)]) hx hb dTa_placeAt_4 rfl hl (by decide) rfl (fun ls hl => ?_)
  refine lv_iload_n hx hb dTa_placeAt_5 rfl (lv_at hl 2 rfl) ?_
  refine lv_if_lt (tgt := 20) hx hb dTa_placeAt_6 (by decide) (fun c1 => ?_) (fun c1 => ?_)
  · skip
    refine lv_lconst (v := (0 : Int64)) hx hb dTa_placeAt_20 (by decide) ?_
    exact W.lret (v := (0 : Int64)) hx hb hr (fun t ht hW => ⟨⟨(0 : Int64), (), rfl, (by unfold f_Ta_placeAt; rw [if_pos c1]; try rfl), ht⟩, hS.F ht⟩) hS.2.2 dTa_placeAt_21
  · skip
    refine lv_iload_n hx hb dTa_placeAt_9 rfl (lv_at hl 0 rfl) ?_
    refine lv_bipush (v := (8 : Int32)) hx hb dTa_placeAt_10 (by decide) ?_
    refine lv_iadd hx hb dTa_placeAt_12 ?_
    refine lv_aload_n hx hb dTa_placeAt_13 rfl (lv_at hl 1 rfl) ?_
    refine va_get (D := G) (ci := 3) (v := .int tl) (C := RTa) (T := TTa) (N := 2) hx hb hT inTa hown hK hP 0 rfl rfl 1 (by decide) (hT _ mw_36) (fun _ h9 => h9) rfl dTa_placeAt_14 ?_
    refine lv_icmp_le (tgt := 22) hx hb dTa_placeAt_17 (by decide) (fun c2 => ?_) (fun c2 => ?_)
    · skip
      refine lv_lconst (v := (0 : Int64)) hx hb dTa_placeAt_22 (by decide) ?_
      refine lv_lstore_n (lv' := [(3, .long (0 : Int64)), (2, .int (a0 * (8 : Int32))), (0, .ref h6), (1, .int a0)]) hx hb dTa_placeAt_23 rfl hl (by decide) rfl (fun ls hl => ?_)
      refine lv_bipush (v := (7 : Int32)) hx hb dTa_placeAt_24 (by decide) ?_
      refine lv_istore (lv' := [(5, .int (7 : Int32)), (3, .long (0 : Int64)), (2, .int (a0 * (8 : Int32))), (0, .ref h6), (1, .int a0)]) hx hb dTa_placeAt_26 hl (by decide) rfl (fun ls hl => ?_)
      have loop : ∀ (n : Nat) (k : Int32) (v : Int64), (¬ a0 < 0) → (((a0 * (8 : Int32)) + (8 : Int32)) ≤ tl) → (-1 ≤ k.toInt) → (k.toInt < 8) → (k.toInt + 1).toNat < n → (f_Ta_placeAt tf tl a0) = l_Ta_placeAt_28 tf tl a0 n k v → ∀ (locs : List Loc), va_S (fun _ => False) s.heap s.heap locs → ∀ (ls : Array Slot), lv_has ls 6 [(5, .int k), (3, .long v), (2, .int (a0 * (8 : Int32))), (0, .ref h6), (1, .int a0)] → W p l e (headSpec wsTa_placeAt ({ frames := 0, cells := 0, slots := 0, locals := 0 })).room s m ([.ref h6, .int a0] : List Value).toArray below meth c s.heap locs 0 0 (MQ below (va_Ql (fun (r : Int64) (_ : Unit) => r = (f_Ta_placeAt tf tl a0)) (fun _ t => t.heap = s.heap) (fun _ => False)) ([.ref h6, .int a0] : List Value).toArray s 0 0 (fun _ => False)) (F0 m 28 ls []) := by
        intro n
        induction n with
        | zero =>
          intro k v hA0 hB0 hk1 hk2 hM
          exact absurd hM (Nat.not_lt_zero _)
        | succ n ih =>
          intro k v hA0 hB0 hk1 hk2 hM hE locs hS ls hl
          refine lv_iload hx hb dTa_placeAt_28 (lv_at hl 0 rfl) ?_
          refine lv_if_lt (tgt := 59) hx hb dTa_placeAt_30 (by decide) (fun c3 => ?_) (fun c3 => ?_)
          · skip
            refine lv_lload_n hx hb dTa_placeAt_59 rfl (lv_at hl 1 rfl) ?_
            exact W.lret (v := v) hx hb hr (fun t ht hW => ⟨⟨v, (), rfl, (by rw [hE, l_Ta_placeAt_28, if_pos c3]; try rfl), ht⟩, hS.F ht⟩) hS.2.2 dTa_placeAt_60
          · skip
            refine lv_lload_n hx hb dTa_placeAt_33 rfl (lv_at hl 1 rfl) ?_
            refine lv_bipush (v := (8 : Int32)) hx hb dTa_placeAt_34 (by decide) ?_
            refine lv_lshl (v := (j_lshl v (8 : Int32))) hx hb dTa_placeAt_36 rfl ?_
            refine lv_aload_n hx hb dTa_placeAt_37 rfl (lv_at hl 3 rfl) ?_
            refine va_get (D := G) (ci := 3) (v := .ref h7) (C := RTa) (T := TTa) (N := 2) hx hb hT inTa hown hK hP 0 rfl rfl 0 (by decide) (hT _ mw_35) (fun _ h9 => h9) rfl dTa_placeAt_38 ?_
            refine lv_iload_n hx hb dTa_placeAt_41 rfl (lv_at hl 2 rfl) ?_
            refine lv_iload hx hb dTa_placeAt_42 (lv_at hl 0 rfl) ?_
            refine lv_iadd hx hb dTa_placeAt_44 ?_
            refine va_bald hx hb hK hP 1 0 rfl rfl (pl_in ha htl hA0 hB0 hk2 c3) dTa_placeAt_45 ?_
            refine lv_sipush (v := (255 : Int32)) hx hb dTa_placeAt_46 (by decide) ?_
            refine lv_iand hx hb dTa_placeAt_49 ?_
            refine lv_i2l hx hb dTa_placeAt_50 rfl ?_
            refine lv_lor hx hb dTa_placeAt_51 ?_
            refine lv_lstore_n (lv' := [(3, .long ((j_lshl v (8 : Int32)) ||| (((tf ((a0 * (8 : Int32)) + k).toNatClampNeg) &&& (255 : Int32)).toInt64))), (5, .int k), (2, .int (a0 * (8 : Int32))), (0, .ref h6), (1, .int a0)]) hx hb dTa_placeAt_52 rfl hl (by decide) rfl (fun ls hl => ?_)
            refine lv_iinc (v := (k + (-1 : Int32))) (lv' := [(5, .int (k + (-1 : Int32))), (3, .long ((j_lshl v (8 : Int32)) ||| (((tf ((a0 * (8 : Int32)) + k).toNatClampNeg) &&& (255 : Int32)).toInt64))), (2, .int (a0 * (8 : Int32))), (0, .ref h6), (1, .int a0)]) hx hb dTa_placeAt_53 hl (k := 1) rfl (by first | rfl | decide) (by decide) rfl (fun ls hl => ?_)
            refine lv_goto (tgt := 28) hx hb dTa_placeAt_56 (by decide) ?_
            exact ih (k + (-1 : Int32)) ((j_lshl v (8 : Int32)) ||| (((tf ((a0 * (8 : Int32)) + k).toNatClampNeg) &&& (255 : Int32)).toInt64)) hA0 hB0 (rd_b1 c3) (pl_b2 c3 hk2) (rd_b3 c3 hM) (by rw [hE, l_Ta_placeAt_28, if_neg c3]) _ hS ls (lv_sub hl [0, 1, 2, 3, 4] rfl)
      exact loop 9 (7 : Int32) (0 : Int64) c1 c2 (by decide) (by decide) (by decide) (by unfold f_Ta_placeAt; rw [if_neg c1, if_pos c2]) _ hS ls (lv_sub hl [0, 1, 2, 3, 4] rfl)
    · skip
      refine lv_lconst (v := (0 : Int64)) hx hb dTa_placeAt_20 (by decide) ?_
      exact W.lret (v := (0 : Int64)) hx hb hr (fun t ht hW => ⟨⟨(0 : Int64), (), rfl, (by unfold f_Ta_placeAt; rw [if_neg c1, if_neg c2]; try rfl), ht⟩, hS.F ht⟩) hS.2.2 dTa_placeAt_21
end
