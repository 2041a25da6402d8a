section
-- ===== PART A: goes FIRST, ahead of the names: the tables' words, and 'selects' of the private methods out of them =====
/-- a private method of a class that the tables say can be made, by its rows of tables_1 -/
def lw_okq (q : MethodName × Nat) : Prop := (q.1.cls ≠ "java/lang/invoke/MethodHandle" ∧ q.1.cls ≠ "java/lang/invoke/VarHandle") ∧ Cond.instantiable q.1.cls q.2 ∈ tables_1 ∧ Cond.privateMethod q.1 ∈ tables_1 ∧ Cond.instanceMethod q.1 ∈ tables_1
theorem lw_p0 : lw_okq (⟨"java/lang/Throwable", "fillInStackTrace", "(I)Ljava/lang/Throwable;"⟩, 6) := ⟨⟨by decide +kernel, by decide +kernel⟩, List.mem_of_getElem? (i := 298) (by decide +kernel), List.mem_of_getElem? (i := 296) (by decide +kernel), List.mem_of_getElem? (i := 297) (by decide +kernel)⟩
theorem lw_p1 : lw_okq (⟨"CompiledProgramModel", "wrongPlace", "(I)I"⟩, 15) := ⟨⟨by decide +kernel, by decide +kernel⟩, List.mem_of_getElem? (i := 559) (by decide +kernel), List.mem_of_getElem? (i := 629) (by decide +kernel), List.mem_of_getElem? (i := 630) (by decide +kernel)⟩
theorem lw_p2 : lw_okq (⟨"CompiledProgramModel", "isInstruction", "([III)Z"⟩, 15) := ⟨⟨by decide +kernel, by decide +kernel⟩, List.mem_of_getElem? (i := 559) (by decide +kernel), List.mem_of_getElem? (i := 633) (by decide +kernel), List.mem_of_getElem? (i := 634) (by decide +kernel)⟩
theorem lw_p3 : lw_okq (⟨"CompiledProgramModel", "take", "([II)V"⟩, 15) := ⟨⟨by decide +kernel, by decide +kernel⟩, List.mem_of_getElem? (i := 559) (by decide +kernel), List.mem_of_getElem? (i := 637) (by decide +kernel), List.mem_of_getElem? (i := 638) (by decide +kernel)⟩
theorem lw_p4 : lw_okq (⟨"CompiledProgramModel", "kind", "()I"⟩, 15) := ⟨⟨by decide +kernel, by decide +kernel⟩, List.mem_of_getElem? (i := 559) (by decide +kernel), List.mem_of_getElem? (i := 644) (by decide +kernel), List.mem_of_getElem? (i := 645) (by decide +kernel)⟩
theorem lw_p5 : lw_okq (⟨"CompiledProgramModel", "isArithmetic", "()Z"⟩, 15) := ⟨⟨by decide +kernel, by decide +kernel⟩, List.mem_of_getElem? (i := 559) (by decide +kernel), List.mem_of_getElem? (i := 648) (by decide +kernel), List.mem_of_getElem? (i := 649) (by decide +kernel)⟩
theorem lw_p6 : lw_okq (⟨"CompiledProgramModel", "n", "()I"⟩, 15) := ⟨⟨by decide +kernel, by decide +kernel⟩, List.mem_of_getElem? (i := 559) (by decide +kernel), List.mem_of_getElem? (i := 652) (by decide +kernel), List.mem_of_getElem? (i := 653) (by decide +kernel)⟩
theorem lw_p7 : lw_okq (⟨"CompiledProgramModel", "bit3", "()Z"⟩, 15) := ⟨⟨by decide +kernel, by decide +kernel⟩, List.mem_of_getElem? (i := 559) (by decide +kernel), List.mem_of_getElem? (i := 656) (by decide +kernel), List.mem_of_getElem? (i := 657) (by decide +kernel)⟩
theorem lw_p8 : lw_okq (⟨"CompiledProgramModel", "hasSource", "()Z"⟩, 15) := ⟨⟨by decide +kernel, by decide +kernel⟩, List.mem_of_getElem? (i := 559) (by decide +kernel), List.mem_of_getElem? (i := 660) (by decide +kernel), List.mem_of_getElem? (i := 661) (by decide +kernel)⟩
theorem lw_p9 : lw_okq (⟨"CompiledProgramModel", "isJump", "()Z"⟩, 15) := ⟨⟨by decide +kernel, by decide +kernel⟩, List.mem_of_getElem? (i := 559) (by decide +kernel), List.mem_of_getElem? (i := 664) (by decide +kernel), List.mem_of_getElem? (i := 665) (by decide +kernel)⟩
theorem lw_p10 : lw_okq (⟨"CompiledProgramModel", "mode", "()I"⟩, 15) := ⟨⟨by decide +kernel, by decide +kernel⟩, List.mem_of_getElem? (i := 559) (by decide +kernel), List.mem_of_getElem? (i := 668) (by decide +kernel), List.mem_of_getElem? (i := 669) (by decide +kernel)⟩
theorem lw_p11 : lw_okq (⟨"CompiledProgramModel", "size", "()I"⟩, 15) := ⟨⟨by decide +kernel, by decide +kernel⟩, List.mem_of_getElem? (i := 559) (by decide +kernel), List.mem_of_getElem? (i := 672) (by decide +kernel), List.mem_of_getElem? (i := 673) (by decide +kernel)⟩
theorem lw_p12 : lw_okq (⟨"CompiledProgramModel", "isAtomic", "()Z"⟩, 15) := ⟨⟨by decide +kernel, by decide +kernel⟩, List.mem_of_getElem? (i := 559) (by decide +kernel), List.mem_of_getElem? (i := 676) (by decide +kernel), List.mem_of_getElem? (i := 677) (by decide +kernel)⟩
theorem lw_p13 : lw_okq (⟨"CompiledProgramModel", "isWide", "()Z"⟩, 15) := ⟨⟨by decide +kernel, by decide +kernel⟩, List.mem_of_getElem? (i := 559) (by decide +kernel), List.mem_of_getElem? (i := 680) (by decide +kernel), List.mem_of_getElem? (i := 681) (by decide +kernel)⟩
theorem lw_p14 : lw_okq (⟨"CompiledProgramModel", "wrongWay", "(I)I"⟩, 15) := ⟨⟨by decide +kernel, by decide +kernel⟩, List.mem_of_getElem? (i := 559) (by decide +kernel), List.mem_of_getElem? (i := 684) (by decide +kernel), List.mem_of_getElem? (i := 685) (by decide +kernel)⟩
theorem lw_p15 : lw_okq (⟨"CompiledProgramModel", "isGoal", "(JI)Z"⟩, 15) := ⟨⟨by decide +kernel, by decide +kernel⟩, List.mem_of_getElem? (i := 559) (by decide +kernel), List.mem_of_getElem? (i := 688) (by decide +kernel), List.mem_of_getElem? (i := 689) (by decide +kernel)⟩
def lw_privs_1 : List (MethodName × Nat) := [(⟨"java/lang/Throwable", "fillInStackTrace", "(I)Ljava/lang/Throwable;"⟩, 6), (⟨"CompiledProgramModel", "wrongPlace", "(I)I"⟩, 15), (⟨"CompiledProgramModel", "isInstruction", "([III)Z"⟩, 15), (⟨"CompiledProgramModel", "take", "([II)V"⟩, 15), (⟨"CompiledProgramModel", "kind", "()I"⟩, 15), (⟨"CompiledProgramModel", "isArithmetic", "()Z"⟩, 15), (⟨"CompiledProgramModel", "n", "()I"⟩, 15), (⟨"CompiledProgramModel", "bit3", "()Z"⟩, 15), (⟨"CompiledProgramModel", "hasSource", "()Z"⟩, 15), (⟨"CompiledProgramModel", "isJump", "()Z"⟩, 15), (⟨"CompiledProgramModel", "mode", "()I"⟩, 15), (⟨"CompiledProgramModel", "size", "()I"⟩, 15), (⟨"CompiledProgramModel", "isAtomic", "()Z"⟩, 15), (⟨"CompiledProgramModel", "isWide", "()Z"⟩, 15), (⟨"CompiledProgramModel", "wrongWay", "(I)I"⟩, 15), (⟨"CompiledProgramModel", "isGoal", "(JI)Z"⟩, 15)]
theorem lw_r1 : ∀ q ∈ lw_privs_1, lw_okq q := List.forall_mem_cons.mpr ⟨lw_p0, List.forall_mem_cons.mpr ⟨lw_p1, List.forall_mem_cons.mpr ⟨lw_p2, List.forall_mem_cons.mpr ⟨lw_p3, List.forall_mem_cons.mpr ⟨lw_p4, List.forall_mem_cons.mpr ⟨lw_p5, List.forall_mem_cons.mpr ⟨lw_p6, List.forall_mem_cons.mpr ⟨lw_p7, List.forall_mem_cons.mpr ⟨lw_p8, List.forall_mem_cons.mpr ⟨lw_p9, List.forall_mem_cons.mpr ⟨lw_p10, List.forall_mem_cons.mpr ⟨lw_p11, List.forall_mem_cons.mpr ⟨lw_p12, List.forall_mem_cons.mpr ⟨lw_p13, List.forall_mem_cons.mpr ⟨lw_p14, List.forall_mem_cons.mpr ⟨lw_p15, fun _ h => absurd h List.not_mem_nil⟩⟩⟩⟩⟩⟩⟩⟩⟩⟩⟩⟩⟩⟩⟩⟩
theorem lw_p16 : lw_okq (⟨"CompiledProgramModel", "store", "(JIJ)V"⟩, 15) := ⟨⟨by decide +kernel, by decide +kernel⟩, List.mem_of_getElem? (i := 559) (by decide +kernel), List.mem_of_getElem? (i := 713) (by decide +kernel), List.mem_of_getElem? (i := 714) (by decide +kernel)⟩
theorem lw_p17 : lw_okq (⟨"CompiledProgramModel", "load", "(JI)J"⟩, 15) := ⟨⟨by decide +kernel, by decide +kernel⟩, List.mem_of_getElem? (i := 559) (by decide +kernel), List.mem_of_getElem? (i := 721) (by decide +kernel), List.mem_of_getElem? (i := 722) (by decide +kernel)⟩
theorem lw_p18 : lw_okq (⟨"CompiledProgramModel", "does", "(I)Z"⟩, 15) := ⟨⟨by decide +kernel, by decide +kernel⟩, List.mem_of_getElem? (i := 559) (by decide +kernel), List.mem_of_getElem? (i := 731) (by decide +kernel), List.mem_of_getElem? (i := 732) (by decide +kernel)⟩
theorem lw_p19 : lw_okq (⟨"CompiledProgramModel", "arithmetic", "()V"⟩, 15) := ⟨⟨by decide +kernel, by decide +kernel⟩, List.mem_of_getElem? (i := 559) (by decide +kernel), List.mem_of_getElem? (i := 735) (by decide +kernel), List.mem_of_getElem? (i := 736) (by decide +kernel)⟩
theorem lw_p20 : lw_okq (⟨"CompiledProgramModel", "reckoned", "(JJI)J"⟩, 15) := ⟨⟨by decide +kernel, by decide +kernel⟩, List.mem_of_getElem? (i := 559) (by decide +kernel), List.mem_of_getElem? (i := 746) (by decide +kernel), List.mem_of_getElem? (i := 747) (by decide +kernel)⟩
theorem lw_p21 : lw_okq (⟨"CompiledProgramModel", "jump", "(I)V"⟩, 15) := ⟨⟨by decide +kernel, by decide +kernel⟩, List.mem_of_getElem? (i := 559) (by decide +kernel), List.mem_of_getElem? (i := 763) (by decide +kernel), List.mem_of_getElem? (i := 764) (by decide +kernel)⟩
theorem lw_p22 : lw_okq (⟨"CompiledProgramModel", "call", "()V"⟩, 15) := ⟨⟨by decide +kernel, by decide +kernel⟩, List.mem_of_getElem? (i := 559) (by decide +kernel), List.mem_of_getElem? (i := 767) (by decide +kernel), List.mem_of_getElem? (i := 768) (by decide +kernel)⟩
theorem lw_p23 : lw_okq (⟨"CompiledProgramModel", "isSo", "(JJ)Z"⟩, 15) := ⟨⟨by decide +kernel, by decide +kernel⟩, List.mem_of_getElem? (i := 559) (by decide +kernel), List.mem_of_getElem? (i := 772) (by decide +kernel), List.mem_of_getElem? (i := 773) (by decide +kernel)⟩
theorem lw_p24 : lw_okq (⟨"CompiledProgramModel", "access", "()Z"⟩, 15) := ⟨⟨by decide +kernel, by decide +kernel⟩, List.mem_of_getElem? (i := 559) (by decide +kernel), List.mem_of_getElem? (i := 777) (by decide +kernel), List.mem_of_getElem? (i := 778) (by decide +kernel)⟩
theorem lw_p25 : lw_okq (⟨"CompiledProgramModel", "atomic", "(JI)Z"⟩, 15) := ⟨⟨by decide +kernel, by decide +kernel⟩, List.mem_of_getElem? (i := 559) (by decide +kernel), List.mem_of_getElem? (i := 781) (by decide +kernel), List.mem_of_getElem? (i := 782) (by decide +kernel)⟩
def lw_privs_2 : List (MethodName × Nat) := [(⟨"CompiledProgramModel", "store", "(JIJ)V"⟩, 15), (⟨"CompiledProgramModel", "load", "(JI)J"⟩, 15), (⟨"CompiledProgramModel", "does", "(I)Z"⟩, 15), (⟨"CompiledProgramModel", "arithmetic", "()V"⟩, 15), (⟨"CompiledProgramModel", "reckoned", "(JJI)J"⟩, 15), (⟨"CompiledProgramModel", "jump", "(I)V"⟩, 15), (⟨"CompiledProgramModel", "call", "()V"⟩, 15), (⟨"CompiledProgramModel", "isSo", "(JJ)Z"⟩, 15), (⟨"CompiledProgramModel", "access", "()Z"⟩, 15), (⟨"CompiledProgramModel", "atomic", "(JI)Z"⟩, 15)]
theorem lw_r2 : ∀ q ∈ lw_privs_2, lw_okq q := List.forall_mem_cons.mpr ⟨lw_p16, List.forall_mem_cons.mpr ⟨lw_p17, List.forall_mem_cons.mpr ⟨lw_p18, List.forall_mem_cons.mpr ⟨lw_p19, List.forall_mem_cons.mpr ⟨lw_p20, List.forall_mem_cons.mpr ⟨lw_p21, List.forall_mem_cons.mpr ⟨lw_p22, List.forall_mem_cons.mpr ⟨lw_p23, List.forall_mem_cons.mpr ⟨lw_p24, List.forall_mem_cons.mpr ⟨lw_p25, fun _ h => absurd h List.not_mem_nil⟩⟩⟩⟩⟩⟩⟩⟩⟩⟩
def lw_privs : List (MethodName × Nat) := lw_privs_1 ++ (lw_privs_2)
def lw_tbl : List Cond := k2_sels lw_privs ++ tables_1
theorem lw_privs_ok : ∀ q ∈ lw_privs, lw_okq q := by
  show ∀ q ∈ lw_privs_1 ++ (lw_privs_2), lw_okq q
  exact List.forall_mem_append.mpr ⟨lw_r1, lw_r2⟩
end
section
def tB : List Cond := lw_tbl.filter goodWord
theorem tB_of {w : Cond} (h : w ∈ lw_tbl) (g : goodWord w = true) : w ∈ tB := List.mem_filter.mpr ⟨h, g⟩
theorem tB_tbl {w : Cond} (h : w ∈ tB) : w ∈ lw_tbl := (List.mem_filter.mp h).1
theorem tb_all {w : Cond} (h : w ∈ tB) : (w.onTables && w.keeps) = true ∨ ∃ ty, w = .arrayClass ty := good_of_word (List.mem_filter.mp h).2
theorem tb_in {ws : List Cond} (h : ∀ w ∈ ws, w ∈ tB) : GoodIn tB ws := fun w hw => ⟨h w hw, tb_all (h w hw)⟩
theorem gB_S {own : String} {idx : Nat} {y : MethodName} {c : Cond} (h1 : Cond.methodLink own idx y ∈ tB) (h2 : Cond.static y ∈ tB) (h3 : Cond.initialized own ∈ tB) (h4 : c ∈ tB) : GoodIn tB (wsS own idx y (c :: tB)) := tb_in (by
  intro w hw
  simp only [wsS, List.cons_append, List.nil_append, List.mem_cons] at hw
  rcases hw with rfl | rfl | rfl | rfl | h <;> assumption)
theorem gB_SV {own : String} {idx : Nat} {y : MethodName} {c : Cond} (h1 : Cond.methodLink own idx y ∈ tB) (h2 : Cond.static y ∈ tB) (h3 : Cond.initialized y.cls ∈ tB) (h4 : c ∈ tB) : GoodIn tB (va_wsS own idx y (c :: tB)) := tb_in (by
  intro w hw
  simp only [va_wsS, List.cons_append, List.nil_append, List.mem_cons] at hw
  rcases hw with rfl | rfl | rfl | rfl | h <;> assumption)
theorem gB_V {own C : String} {idx : Nat} {y : MethodName} {c : Cond} (h1 : Cond.methodLink own idx y ∈ tB) (h2 : Cond.instanceMethod y ∈ tB) (h3 : Cond.selects C y y ∈ tB) (h5 : Cond.initialized C ∈ tB) (h4 : c ∈ tB) : GoodIn tB (wsV own idx C y (c :: tB)) := tb_in (by
  intro w hw
  simp only [wsV, List.cons_append, List.nil_append, List.mem_cons] at hw
  rcases hw with rfl | rfl | rfl | rfl | rfl | h <;> assumption)
theorem gB_I {c : Cond} (h4 : c ∈ tB) : GoodIn tB (c :: tB) := tb_in (by
  intro w hw
  simp only [List.mem_cons] at hw
  rcases hw with rfl | h <;> assumption)
def bI (b : Bool) : Int32 := if b = true then 1 else 0
theorem bI_z {b : Bool} (h : bI b = 0) : ¬ b = true := by
  intro q; subst q; exact absurd h (by decide)
theorem bI_n {b : Bool} (h : ¬ bI b = 0) : b = true := by
  cases b
  · exact absurd rfl h
  · rfl
theorem bI_nar (b : Bool) : narrow .boolean (.int (bI b)) = .int (bI b) := by cases b <;> rfl
def j_iushr (x y : Int32) : Int32 := (x.toUInt32 >>> (y.toUInt32 &&& Int32.toUInt32 31)).toInt32
def j_lushr (x : Int64) (y : Int32) : Int64 := (x.toUInt64 >>> (y.toInt64.toUInt64 &&& Int64.toUInt64 63)).toInt64
def j_lshl (x : Int64) (y : Int32) : Int64 := x <<< (y.toInt64 &&& 63)
def j_lshr (x : Int64) (y : Int32) : Int64 := x >>> (y.toInt64 &&& 63)
def j_i2b (x : Int32) : Int32 := x.toInt8.toInt32
def j_i2s (x : Int32) : Int32 := x.toInt16.toInt32
-- whole numbers of ints
theorem bm32 {x : Int} (h1 : -2147483648 ≤ x) (h2 : x < 2147483648) : x.bmod (2 ^ 32) = x := by
  exact Int.bmod_eq_of_le_mul_two (by omega) (by omega)
theorem i_add {x y : Int32} (h1 : -2147483648 ≤ x.toInt + y.toInt) (h2 : x.toInt + y.toInt < 2147483648) : (x + y).toInt = x.toInt + y.toInt := by
  rw [Int32.toInt_add]; exact bm32 h1 h2
theorem i_sub {x y : Int32} (h1 : -2147483648 ≤ x.toInt - y.toInt) (h2 : x.toInt - y.toInt < 2147483648) : (x - y).toInt = x.toInt - y.toInt := by
  rw [Int32.toInt_sub]; exact bm32 h1 h2
theorem i_lim (x : Int32) : -2147483648 ≤ x.toInt ∧ x.toInt < 2147483648 := ⟨x.le_toInt, x.toInt_lt⟩
theorem i_m1 : (-1 : Int32).toInt = -1 := by decide
theorem i_0 : (0 : Int32).toInt = 0 := by decide
theorem i_1 : (1 : Int32).toInt = 1 := by decide
theorem i_dec {k : Int32} (h : ¬ k < 0) : (k + (-1 : Int32)).toInt = k.toInt - 1 := by
  rw [Int32.lt_iff_toInt_lt, i_0] at h
  have := i_lim k
  rw [i_add (by rw [i_m1]; omega) (by rw [i_m1]; omega), i_m1]; omega
theorem i_nlt0 {k : Int32} (h : ¬ k < 0) : 0 ≤ k.toInt := by
  rw [Int32.lt_iff_toInt_lt, i_0] at h; omega
theorem i_nle {a b : Int32} (h : ¬ a ≤ b) : b.toInt < a.toInt := by
  rw [Int32.le_iff_toInt_le] at h; omega
theorem i_nlt {a b : Int32} (h : ¬ a < b) : b.toInt ≤ a.toInt := by
  rw [Int32.lt_iff_toInt_lt] at h; omega
theorem l_0 : (0 : Int64).toInt = 0 := by decide
theorem l_nlt {a b : Int64} (h : ¬ a < b) : b.toInt ≤ a.toInt := by
  rw [Int64.lt_iff_toInt_lt] at h; omega
theorem l_nle {a b : Int64} (h : ¬ a ≤ b) : b.toInt < a.toInt := by
  rw [Int64.le_iff_toInt_le] at h; omega
theorem l_pne {a : Int64} (h : (0 : Int64) < a) : ¬ a = 0 := by
  intro q; subst q; exact absurd h (by decide)
end
section
abbrev RPr : String := "CompiledProgram$Program"
def TPr : u_T := fun k => match k with
  | 0 => ("CompiledProgram$Program", "row", "[J", false)
  | _ => ("CompiledProgram$Program", "count", "I", false)
def tyPr : Nat → FieldType := fun k => match k with
  | 0 => .array .long
  | _ => .int
theorem nmPr : ∀ a, a < 2 → ∀ b, b < 2 → a ≠ b → (TPr a).2.1 ≠ (TPr b).2.1 := by decide +kernel
theorem tyPr_ok : ∀ k, k < 2 → parseFieldDescriptor (TPr k).2.2.1 = some (tyPr k) := by decide +kernel
theorem inPr : ∀ w ∈ u_ws RPr TPr 2, w ∈ tB := by decide +kernel
abbrev RMe : String := "CompiledProgram$Memory"
def TMe : u_T := fun k => match k with
  | _ => ("CompiledProgram$Memory", "bytes", "[B", true)
def tyMe : Nat → FieldType := fun k => match k with
  | _ => .array .byte
theorem nmMe : ∀ a, a < 1 → ∀ b, b < 1 → a ≠ b → (TMe a).2.1 ≠ (TMe b).2.1 := by decide +kernel
theorem tyMe_ok : ∀ k, k < 1 → parseFieldDescriptor (TMe k).2.2.1 = some (tyMe k) := by decide +kernel
theorem inMe : ∀ w ∈ u_ws RMe TMe 1, w ∈ tB := by decide +kernel
abbrev RMa : String := "CompiledProgram$Machine"
def TMa : u_T := fun k => match k with
  | 0 => ("CompiledProgram$Machine", "registers", "[J", true)
  | _ => ("CompiledProgram$Machine", "memory", "LCompiledProgram$Memory;", true)
def tyMa : Nat → FieldType := fun k => match k with
  | 0 => .array .long
  | _ => .object "CompiledProgram$Memory"
theorem nmMa : ∀ a, a < 2 → ∀ b, b < 2 → a ≠ b → (TMa a).2.1 ≠ (TMa b).2.1 := by decide +kernel
theorem tyMa_ok : ∀ k, k < 2 → parseFieldDescriptor (TMa k).2.2.1 = some (tyMa k) := by decide +kernel
theorem inMa : ∀ w ∈ u_ws RMa TMa 2, w ∈ tB := by decide +kernel
abbrev RTa : String := "CompiledProgram$Tape"
def TTa : u_T := fun k => match k with
  | 0 => ("CompiledProgram$Tape", "bytes", "[B", false)
  | _ => ("CompiledProgram$Tape", "length", "I", false)
def tyTa : Nat → FieldType := fun k => match k with
  | 0 => .array .byte
  | _ => .int
theorem nmTa : ∀ a, a < 2 → ∀ b, b < 2 → a ≠ b → (TTa a).2.1 ≠ (TTa b).2.1 := by decide +kernel
theorem tyTa_ok : ∀ k, k < 2 → parseFieldDescriptor (TTa k).2.2.1 = some (tyTa k) := by decide +kernel
theorem inTa : ∀ w ∈ u_ws RTa TTa 2, w ∈ tB := by decide +kernel
abbrev RCp : String := "CompiledProgram"
def TCp : u_T := fun k => match k with
  | 0 => ("CompiledProgram", "tape", "LCompiledProgram$Tape;", true)
  | 1 => ("CompiledProgram", "program", "LCompiledProgram$Program;", true)
  | 2 => ("CompiledProgram", "machine", "LCompiledProgram$Machine;", true)
  | 3 => ("CompiledProgram", "latestPlace", "I", false)
  | _ => ("CompiledProgram", "latestSteps", "I", false)
def tyCp : Nat → FieldType := fun k => match k with
  | 0 => .object "CompiledProgram$Tape"
  | 1 => .object "CompiledProgram$Program"
  | 2 => .object "CompiledProgram$Machine"
  | 3 => .int
  | _ => .int
theorem nmCp : ∀ a, a < 5 → ∀ b, b < 5 → a ≠ b → (TCp a).2.1 ≠ (TCp b).2.1 := by decide +kernel
theorem tyCp_ok : ∀ k, k < 5 → parseFieldDescriptor (TCp k).2.2.1 = some (tyCp k) := by decide +kernel
theorem inCp : ∀ w ∈ u_ws RCp TCp 5, w ∈ tB := by decide +kernel
abbrev RMo : String := "CompiledProgramModel"
def TMo : u_T := fun k => match k with
  | 0 => ("CompiledProgramModel", "thrown", "I", false)
  | 1 => ("CompiledProgramModel", "tape", "[I", true)
  | 2 => ("CompiledProgramModel", "taped", "I", false)
  | 3 => ("CompiledProgramModel", "program", "[I", true)
  | 4 => ("CompiledProgramModel", "places", "I", false)
  | 5 => ("CompiledProgramModel", "registers", "[J", true)
  | 6 => ("CompiledProgramModel", "memory", "[I", true)
  | 7 => ("CompiledProgramModel", "place", "I", false)
  | 8 => ("CompiledProgramModel", "steps", "I", false)
  | 9 => ("CompiledProgramModel", "code", "I", false)
  | 10 => ("CompiledProgramModel", "d", "I", false)
  | 11 => ("CompiledProgramModel", "s", "I", false)
  | 12 => ("CompiledProgramModel", "o", "I", false)
  | 13 => ("CompiledProgramModel", "i", "I", false)
  | _ => ("CompiledProgramModel", "next", "I", false)
def tyMo : Nat → FieldType := fun k => match k with
  | 0 => .int
  | 1 => .array .int
  | 2 => .int
  | 3 => .array .int
  | 4 => .int
  | 5 => .array .long
  | 6 => .array .int
  | 7 => .int
  | 8 => .int
  | 9 => .int
  | 10 => .int
  | 11 => .int
  | 12 => .int
  | 13 => .int
  | _ => .int
theorem nmMo : ∀ a, a < 15 → ∀ b, b < 15 → a ≠ b → (TMo a).2.1 ≠ (TMo b).2.1 := by decide +kernel
theorem tyMo_ok : ∀ k, k < 15 → parseFieldDescriptor (TMo k).2.2.1 = some (tyMo k) := by decide +kernel
theorem inMo : ∀ w ∈ u_ws RMo TMo 15, w ∈ tB := by decide +kernel
abbrev vwCl : List vw_C := [(RPr, TPr, 2), (RMe, TMe, 1), (RMa, TMa, 2), (RTa, TTa, 2), (RCp, TCp, 5), (RMo, TMo, 15)]
abbrev cJl_reverseBytes : ByteArray := prog_17_method_58_code
abbrev yJl_reverseBytes : MethodName := ⟨"java/lang/Long", "reverseBytes", "(J)J"⟩
abbrev wsJl_reverseBytes : List Cond := .code yJl_reverseBytes cJl_reverseBytes 2 (some .long) :: tB
abbrev cCp_init : ByteArray := prog_1_method_1_code
abbrev yCp_init : MethodName := ⟨"CompiledProgram", "<init>", "()V"⟩
abbrev wsCp_init : List Cond := .code yCp_init cCp_init 1 none :: tB
abbrev cCp_feed : ByteArray := prog_1_method_2_code
abbrev yCp_feed : MethodName := ⟨"CompiledProgram", "feed", "(IIIII)I"⟩
abbrev wsCp_feed : List Cond := .code yCp_feed cCp_feed 6 (some .int) :: tB
abbrev cCp_end : ByteArray := prog_1_method_3_code
abbrev yCp_end : MethodName := ⟨"CompiledProgram", "end", "(I)V"⟩
abbrev wsCp_end : List Cond := .code yCp_end cCp_end 2 none :: tB
abbrev cCp_load : ByteArray := prog_1_method_4_code
abbrev yCp_load : MethodName := ⟨"CompiledProgram", "load", "()I"⟩
abbrev wsCp_load : List Cond := .code yCp_load cCp_load 3 (some .int) :: tB
abbrev cCp_places : ByteArray := prog_1_method_5_code
abbrev yCp_places : MethodName := ⟨"CompiledProgram", "places", "()I"⟩
abbrev wsCp_places : List Cond := .code yCp_places cCp_places 1 (some .int) :: tB
abbrev cCp_set : ByteArray := prog_1_method_6_code
abbrev yCp_set : MethodName := ⟨"CompiledProgram", "set", "(IJ)V"⟩
abbrev wsCp_set : List Cond := .code yCp_set cCp_set 4 none :: tB
abbrev cCp_get : ByteArray := prog_1_method_7_code
abbrev yCp_get : MethodName := ⟨"CompiledProgram", "get", "(I)J"⟩
abbrev wsCp_get : List Cond := .code yCp_get cCp_get 2 (some .long) :: tB
abbrev cCp_put : ByteArray := prog_1_method_8_code
abbrev yCp_put : MethodName := ⟨"CompiledProgram", "put", "(JJ)V"⟩
abbrev wsCp_put : List Cond := .code yCp_put cCp_put 5 none :: tB
abbrev cCp_word : ByteArray := prog_1_method_9_code
abbrev yCp_word : MethodName := ⟨"CompiledProgram", "word", "(J)J"⟩
abbrev wsCp_word : List Cond := .code yCp_word cCp_word 3 (some .long) :: tB
abbrev cCp_run : ByteArray := prog_1_method_10_code
abbrev yCp_run : MethodName := ⟨"CompiledProgram", "run", "(I)I"⟩
abbrev wsCp_run : List Cond := .code yCp_run cCp_run 4 (some .int) :: tB
abbrev cCp_place : ByteArray := prog_1_method_11_code
abbrev yCp_place : MethodName := ⟨"CompiledProgram", "place", "()I"⟩
abbrev wsCp_place : List Cond := .code yCp_place cCp_place 1 (some .int) :: tB
abbrev cCp_steps : ByteArray := prog_1_method_12_code
abbrev yCp_steps : MethodName := ⟨"CompiledProgram", "steps", "()I"⟩
abbrev wsCp_steps : List Cond := .code yCp_steps cCp_steps 1 (some .int) :: tB
abbrev cMo_init : ByteArray := prog_11_method_1_code
abbrev yMo_init : MethodName := ⟨"CompiledProgramModel", "<init>", "()V"⟩
abbrev wsMo_init : List Cond := .code yMo_init cMo_init 1 none :: tB
abbrev cMo_thrown : ByteArray := prog_11_method_2_code
abbrev yMo_thrown : MethodName := ⟨"CompiledProgramModel", "thrown", "()I"⟩
abbrev wsMo_thrown : List Cond := .code yMo_thrown cMo_thrown 1 (some .int) :: tB
abbrev cMo_feed : ByteArray := prog_11_method_3_code
abbrev yMo_feed : MethodName := ⟨"CompiledProgramModel", "feed", "(IIIII)I"⟩
abbrev wsMo_feed : List Cond := .code yMo_feed cMo_feed 8 (some .int) :: tB
abbrev cMo_end : ByteArray := prog_11_method_4_code
abbrev yMo_end : MethodName := ⟨"CompiledProgramModel", "end", "(I)V"⟩
abbrev wsMo_end : List Cond := .code yMo_end cMo_end 2 none :: tB
abbrev cMo_number : ByteArray := prog_11_method_5_code
abbrev yMo_number : MethodName := ⟨"CompiledProgramModel", "number", "([III)I"⟩
abbrev wsMo_number : List Cond := .code yMo_number cMo_number 5 (some .int) :: tB
abbrev cMo_take : ByteArray := prog_11_method_6_code
abbrev yMo_take : MethodName := ⟨"CompiledProgramModel", "take", "([II)V"⟩
abbrev wsMo_take : List Cond := .code yMo_take cMo_take 3 none :: tB
abbrev cMo_kind : ByteArray := prog_11_method_7_code
abbrev yMo_kind : MethodName := ⟨"CompiledProgramModel", "kind", "()I"⟩
abbrev wsMo_kind : List Cond := .code yMo_kind cMo_kind 1 (some .int) :: tB
abbrev cMo_n : ByteArray := prog_11_method_8_code
abbrev yMo_n : MethodName := ⟨"CompiledProgramModel", "n", "()I"⟩
abbrev wsMo_n : List Cond := .code yMo_n cMo_n 1 (some .int) :: tB
abbrev cMo_bit3 : ByteArray := prog_11_method_9_code
abbrev yMo_bit3 : MethodName := ⟨"CompiledProgramModel", "bit3", "()Z"⟩
abbrev wsMo_bit3 : List Cond := .code yMo_bit3 cMo_bit3 1 (some .boolean) :: tB
abbrev cMo_size : ByteArray := prog_11_method_10_code
abbrev yMo_size : MethodName := ⟨"CompiledProgramModel", "size", "()I"⟩
abbrev wsMo_size : List Cond := .code yMo_size cMo_size 2 (some .int) :: tB
abbrev cMo_mode : ByteArray := prog_11_method_11_code
abbrev yMo_mode : MethodName := ⟨"CompiledProgramModel", "mode", "()I"⟩
abbrev wsMo_mode : List Cond := .code yMo_mode cMo_mode 1 (some .int) :: tB
abbrev cMo_isWide : ByteArray := prog_11_method_12_code
abbrev yMo_isWide : MethodName := ⟨"CompiledProgramModel", "isWide", "()Z"⟩
abbrev wsMo_isWide : List Cond := .code yMo_isWide cMo_isWide 1 (some .boolean) :: tB
abbrev cMo_hasSource : ByteArray := prog_11_method_13_code
abbrev yMo_hasSource : MethodName := ⟨"CompiledProgramModel", "hasSource", "()Z"⟩
abbrev wsMo_hasSource : List Cond := .code yMo_hasSource cMo_hasSource 1 (some .boolean) :: tB
abbrev cMo_isArithmetic : ByteArray := prog_11_method_14_code
abbrev yMo_isArithmetic : MethodName := ⟨"CompiledProgramModel", "isArithmetic", "()Z"⟩
abbrev wsMo_isArithmetic : List Cond := .code yMo_isArithmetic cMo_isArithmetic 3 (some .boolean) :: tB
abbrev cMo_isJump : ByteArray := prog_11_method_15_code
abbrev yMo_isJump : MethodName := ⟨"CompiledProgramModel", "isJump", "()Z"⟩
abbrev wsMo_isJump : List Cond := .code yMo_isJump cMo_isJump 2 (some .boolean) :: tB
abbrev cMo_isAtomic : ByteArray := prog_11_method_16_code
abbrev yMo_isAtomic : MethodName := ⟨"CompiledProgramModel", "isAtomic", "()Z"⟩
abbrev wsMo_isAtomic : List Cond := .code yMo_isAtomic cMo_isAtomic 3 (some .boolean) :: tB
abbrev cMo_isInstruction : ByteArray := prog_11_method_17_code
abbrev yMo_isInstruction : MethodName := ⟨"CompiledProgramModel", "isInstruction", "([III)Z"⟩
abbrev wsMo_isInstruction : List Cond := .code yMo_isInstruction cMo_isInstruction 6 (some .boolean) :: tB
abbrev cMo_wrongPlace : ByteArray := prog_11_method_18_code
abbrev yMo_wrongPlace : MethodName := ⟨"CompiledProgramModel", "wrongPlace", "(I)I"⟩
abbrev wsMo_wrongPlace : List Cond := .code yMo_wrongPlace cMo_wrongPlace 3 (some .int) :: tB
abbrev cMo_isGoal : ByteArray := prog_11_method_19_code
abbrev yMo_isGoal : MethodName := ⟨"CompiledProgramModel", "isGoal", "(JI)Z"⟩
abbrev wsMo_isGoal : List Cond := .code yMo_isGoal cMo_isGoal 5 (some .boolean) :: tB
abbrev cMo_wrongWay : ByteArray := prog_11_method_20_code
abbrev yMo_wrongWay : MethodName := ⟨"CompiledProgramModel", "wrongWay", "(I)I"⟩
abbrev wsMo_wrongWay : List Cond := .code yMo_wrongWay cMo_wrongWay 8 (some .int) :: tB
abbrev cMo_load : ByteArray := prog_11_method_21_code
abbrev yMo_load : MethodName := ⟨"CompiledProgramModel", "load", "()I"⟩
abbrev wsMo_load : List Cond := .code yMo_load cMo_load 4 (some .int) :: tB
abbrev cMo_places : ByteArray := prog_11_method_22_code
abbrev yMo_places : MethodName := ⟨"CompiledProgramModel", "places", "()I"⟩
abbrev wsMo_places : List Cond := .code yMo_places cMo_places 1 (some .int) :: tB
abbrev cMo_set : ByteArray := prog_11_method_23_code
abbrev yMo_set : MethodName := ⟨"CompiledProgramModel", "set", "(IJ)V"⟩
abbrev wsMo_set : List Cond := .code yMo_set cMo_set 4 none :: tB
abbrev cMo_get : ByteArray := prog_11_method_24_code
abbrev yMo_get : MethodName := ⟨"CompiledProgramModel", "get", "(I)J"⟩
abbrev wsMo_get : List Cond := .code yMo_get cMo_get 2 (some .long) :: tB
abbrev cMo_isThere : ByteArray := prog_11_method_25_code
abbrev yMo_isThere : MethodName := ⟨"CompiledProgramModel", "isThere", "(JI)Z"⟩
abbrev wsMo_isThere : List Cond := .code yMo_isThere cMo_isThere 3 (some .boolean) :: tB
abbrev cMo_loadJ : ByteArray := prog_11_method_26_code
abbrev yMo_loadJ : MethodName := ⟨"CompiledProgramModel", "load", "(JI)J"⟩
abbrev wsMo_loadJ : List Cond := .code yMo_loadJ cMo_loadJ 7 (some .long) :: tB
abbrev cMo_store : ByteArray := prog_11_method_27_code
abbrev yMo_store : MethodName := ⟨"CompiledProgramModel", "store", "(JIJ)V"⟩
abbrev wsMo_store : List Cond := .code yMo_store cMo_store 7 none :: tB
abbrev cMo_put : ByteArray := prog_11_method_28_code
abbrev yMo_put : MethodName := ⟨"CompiledProgramModel", "put", "(JJ)V"⟩
abbrev wsMo_put : List Cond := .code yMo_put cMo_put 5 none :: tB
abbrev cMo_word : ByteArray := prog_11_method_29_code
abbrev yMo_word : MethodName := ⟨"CompiledProgramModel", "word", "(J)J"⟩
abbrev wsMo_word : List Cond := .code yMo_word cMo_word 3 (some .long) :: tB
abbrev cMo_isLess : ByteArray := prog_11_method_30_code
abbrev yMo_isLess : MethodName := ⟨"CompiledProgramModel", "isLess", "(JJ)Z"⟩
abbrev wsMo_isLess : List Cond := .code yMo_isLess cMo_isLess 4 (some .boolean) :: tB
abbrev cMo_divided : ByteArray := prog_11_method_31_code
abbrev yMo_divided : MethodName := ⟨"CompiledProgramModel", "divided", "(JJ)J"⟩
abbrev wsMo_divided : List Cond := .code yMo_divided cMo_divided 10 (some .long) :: tB
abbrev cMo_quotient : ByteArray := prog_11_method_32_code
abbrev yMo_quotient : MethodName := ⟨"CompiledProgramModel", "quotient", "(JJZ)J"⟩
abbrev wsMo_quotient : List Cond := .code yMo_quotient cMo_quotient 9 (some .long) :: tB
abbrev cMo_turned : ByteArray := prog_11_method_33_code
abbrev yMo_turned : MethodName := ⟨"CompiledProgramModel", "turned", "(JI)J"⟩
abbrev wsMo_turned : List Cond := .code yMo_turned cMo_turned 6 (some .long) :: tB
abbrev cMo_signed : ByteArray := prog_11_method_34_code
abbrev yMo_signed : MethodName := ⟨"CompiledProgramModel", "signed", "(JI)J"⟩
abbrev wsMo_signed : List Cond := .code yMo_signed cMo_signed 7 (some .long) :: tB
abbrev cMo_lowest : ByteArray := prog_11_method_35_code
abbrev yMo_lowest : MethodName := ⟨"CompiledProgramModel", "lowest", "(JI)J"⟩
abbrev wsMo_lowest : List Cond := .code yMo_lowest cMo_lowest 3 (some .long) :: tB
abbrev cMo_reckoned : ByteArray := prog_11_method_36_code
abbrev yMo_reckoned : MethodName := ⟨"CompiledProgramModel", "reckoned", "(JJI)J"⟩
abbrev wsMo_reckoned : List Cond := .code yMo_reckoned cMo_reckoned 12 (some .long) :: tB
abbrev cMo_arithmetic : ByteArray := prog_11_method_37_code
abbrev yMo_arithmetic : MethodName := ⟨"CompiledProgramModel", "arithmetic", "()V"⟩
abbrev wsMo_arithmetic : List Cond := .code yMo_arithmetic cMo_arithmetic 6 none :: tB
abbrev cMo_isSo : ByteArray := prog_11_method_38_code
abbrev yMo_isSo : MethodName := ⟨"CompiledProgramModel", "isSo", "(JJ)Z"⟩
abbrev wsMo_isSo : List Cond := .code yMo_isSo cMo_isSo 5 (some .boolean) :: tB
abbrev cMo_call : ByteArray := prog_11_method_39_code
abbrev yMo_call : MethodName := ⟨"CompiledProgramModel", "call", "()V"⟩
abbrev wsMo_call : List Cond := .code yMo_call cMo_call 4 none :: tB
abbrev cMo_jump : ByteArray := prog_11_method_40_code
abbrev yMo_jump : MethodName := ⟨"CompiledProgramModel", "jump", "(I)V"⟩
abbrev wsMo_jump : List Cond := .code yMo_jump cMo_jump 7 none :: tB
abbrev cMo_atomic : ByteArray := prog_11_method_41_code
abbrev yMo_atomic : MethodName := ⟨"CompiledProgramModel", "atomic", "(JI)Z"⟩
abbrev wsMo_atomic : List Cond := .code yMo_atomic cMo_atomic 11 (some .boolean) :: tB
abbrev cMo_access : ByteArray := prog_11_method_42_code
abbrev yMo_access : MethodName := ⟨"CompiledProgramModel", "access", "()Z"⟩
abbrev wsMo_access : List Cond := .code yMo_access cMo_access 4 (some .boolean) :: tB
abbrev cMo_does : ByteArray := prog_11_method_43_code
abbrev yMo_does : MethodName := ⟨"CompiledProgramModel", "does", "(I)Z"⟩
abbrev wsMo_does : List Cond := .code yMo_does cMo_does 4 (some .boolean) :: tB
abbrev cMo_run : ByteArray := prog_11_method_44_code
abbrev yMo_run : MethodName := ⟨"CompiledProgramModel", "run", "(I)I"⟩
abbrev wsMo_run : List Cond := .code yMo_run cMo_run 4 (some .int) :: tB
abbrev cMo_place : ByteArray := prog_11_method_45_code
abbrev yMo_place : MethodName := ⟨"CompiledProgramModel", "place", "()I"⟩
abbrev wsMo_place : List Cond := .code yMo_place cMo_place 1 (some .int) :: tB
abbrev cMo_steps : ByteArray := prog_11_method_46_code
abbrev yMo_steps : MethodName := ⟨"CompiledProgramModel", "steps", "()I"⟩
abbrev wsMo_steps : List Cond := .code yMo_steps cMo_steps 1 (some .int) :: tB
abbrev cAr_wide : ByteArray := prog_2_method_2_code
abbrev yAr_wide : MethodName := ⟨"CompiledProgram$Arithmetic", "wide", "(IIJJ)J"⟩
abbrev wsAr_wide : List Cond := .code yAr_wide cAr_wide 6 (some .long) :: tB
abbrev cAr_narrow : ByteArray := prog_2_method_3_code
abbrev yAr_narrow : MethodName := ⟨"CompiledProgram$Arithmetic", "narrow", "(IIII)J"⟩
abbrev wsAr_narrow : List Cond := .code yAr_narrow cAr_narrow 4 (some .long) :: tB
abbrev cAr_quotient : ByteArray := prog_2_method_4_code
abbrev yAr_quotient : MethodName := ⟨"CompiledProgram$Arithmetic", "quotient", "(ZJJ)J"⟩
abbrev wsAr_quotient : List Cond := .code yAr_quotient cAr_quotient 5 (some .long) :: tB
abbrev cAr_unsignedQuotient : ByteArray := prog_2_method_5_code
abbrev yAr_unsignedQuotient : MethodName := ⟨"CompiledProgram$Arithmetic", "unsignedQuotient", "(JJ)J"⟩
abbrev wsAr_unsignedQuotient : List Cond := .code yAr_unsignedQuotient cAr_unsignedQuotient 8 (some .long) :: tB
abbrev cAr_rest : ByteArray := prog_2_method_6_code
abbrev yAr_rest : MethodName := ⟨"CompiledProgram$Arithmetic", "rest", "(ZJJ)J"⟩
abbrev wsAr_rest : List Cond := .code yAr_rest cAr_rest 5 (some .long) :: tB
abbrev cAr_lowest : ByteArray := prog_2_method_7_code
abbrev yAr_lowest : MethodName := ⟨"CompiledProgram$Arithmetic", "lowest", "(JI)J"⟩
abbrev wsAr_lowest : List Cond := .code yAr_lowest cAr_lowest 3 (some .long) :: tB
abbrev cAr_signed : ByteArray := prog_2_method_8_code
abbrev yAr_signed : MethodName := ⟨"CompiledProgram$Arithmetic", "signed", "(JI)J"⟩
abbrev wsAr_signed : List Cond := .code yAr_signed cAr_signed 3 (some .long) :: tB
abbrev cAr_turned : ByteArray := prog_2_method_9_code
abbrev yAr_turned : MethodName := ⟨"CompiledProgram$Arithmetic", "turned", "(JI)J"⟩
abbrev wsAr_turned : List Cond := .code yAr_turned cAr_turned 3 (some .long) :: tB
abbrev cAr_isTaken : ByteArray := prog_2_method_10_code
abbrev yAr_isTaken : MethodName := ⟨"CompiledProgram$Arithmetic", "isTaken", "(IJJ)Z"⟩
abbrev wsAr_isTaken : List Cond := .code yAr_isTaken cAr_isTaken 9 (some .boolean) :: tB
abbrev cEx_isKnown : ByteArray := prog_3_method_2_code
abbrev yEx_isKnown : MethodName := ⟨"CompiledProgram$Exchange", "isKnown", "(I)Z"⟩
abbrev wsEx_isKnown : List Cond := .code yEx_isKnown cEx_isKnown 1 (some .boolean) :: tB
abbrev cEx_changesSource : ByteArray := prog_3_method_3_code
abbrev yEx_changesSource : MethodName := ⟨"CompiledProgram$Exchange", "changesSource", "(I)Z"⟩
abbrev wsEx_changesSource : List Cond := .code yEx_changesSource cEx_changesSource 1 (some .boolean) :: tB
abbrev cEx_become : ByteArray := prog_3_method_4_code
abbrev yEx_become : MethodName := ⟨"CompiledProgram$Exchange", "become", "(IJJZ)J"⟩
abbrev wsEx_become : List Cond := .code yEx_become cEx_become 6 (some .long) :: tB
abbrev cFi_code : ByteArray := prog_4_method_2_code
abbrev yFi_code : MethodName := ⟨"CompiledProgram$Fields", "code", "(J)I"⟩
abbrev wsFi_code : List Cond := .code yFi_code cFi_code 2 (some .int) :: tB
abbrev cFi_kind : ByteArray := prog_4_method_3_code
abbrev yFi_kind : MethodName := ⟨"CompiledProgram$Fields", "kind", "(J)I"⟩
abbrev wsFi_kind : List Cond := .code yFi_kind cFi_kind 2 (some .int) :: tB
abbrev cFi_operation : ByteArray := prog_4_method_4_code
abbrev yFi_operation : MethodName := ⟨"CompiledProgram$Fields", "operation", "(J)I"⟩
abbrev wsFi_operation : List Cond := .code yFi_operation cFi_operation 2 (some .int) :: tB
abbrev cFi_usesSource : ByteArray := prog_4_method_5_code
abbrev yFi_usesSource : MethodName := ⟨"CompiledProgram$Fields", "usesSource", "(J)Z"⟩
abbrev wsFi_usesSource : List Cond := .code yFi_usesSource cFi_usesSource 2 (some .boolean) :: tB
abbrev cFi_mode : ByteArray := prog_4_method_6_code
abbrev yFi_mode : MethodName := ⟨"CompiledProgram$Fields", "mode", "(J)I"⟩
abbrev wsFi_mode : List Cond := .code yFi_mode cFi_mode 2 (some .int) :: tB
abbrev cFi_size : ByteArray := prog_4_method_7_code
abbrev yFi_size : MethodName := ⟨"CompiledProgram$Fields", "size", "(J)I"⟩
abbrev wsFi_size : List Cond := .code yFi_size cFi_size 2 (some .int) :: tB
abbrev cFi_target : ByteArray := prog_4_method_8_code
abbrev yFi_target : MethodName := ⟨"CompiledProgram$Fields", "target", "(J)I"⟩
abbrev wsFi_target : List Cond := .code yFi_target cFi_target 2 (some .int) :: tB
abbrev cFi_source : ByteArray := prog_4_method_9_code
abbrev yFi_source : MethodName := ⟨"CompiledProgram$Fields", "source", "(J)I"⟩
abbrev wsFi_source : List Cond := .code yFi_source cFi_source 2 (some .int) :: tB
abbrev cFi_offset : ByteArray := prog_4_method_10_code
abbrev yFi_offset : MethodName := ⟨"CompiledProgram$Fields", "offset", "(J)I"⟩
abbrev wsFi_offset : List Cond := .code yFi_offset cFi_offset 2 (some .int) :: tB
abbrev cFi_immediate : ByteArray := prog_4_method_11_code
abbrev yFi_immediate : MethodName := ⟨"CompiledProgram$Fields", "immediate", "(J)I"⟩
abbrev wsFi_immediate : List Cond := .code yFi_immediate cFi_immediate 2 (some .int) :: tB
abbrev cFi_isTwoPlaces : ByteArray := prog_4_method_12_code
abbrev yFi_isTwoPlaces : MethodName := ⟨"CompiledProgram$Fields", "isTwoPlaces", "(J)Z"⟩
abbrev wsFi_isTwoPlaces : List Cond := .code yFi_isTwoPlaces cFi_isTwoPlaces 2 (some .boolean) :: tB
abbrev cFi_isExit : ByteArray := prog_4_method_13_code
abbrev yFi_isExit : MethodName := ⟨"CompiledProgram$Fields", "isExit", "(J)Z"⟩
abbrev wsFi_isExit : List Cond := .code yFi_isExit cFi_isExit 2 (some .boolean) :: tB
abbrev cFi_isCall : ByteArray := prog_4_method_14_code
abbrev yFi_isCall : MethodName := ⟨"CompiledProgram$Fields", "isCall", "(J)Z"⟩
abbrev wsFi_isCall : List Cond := .code yFi_isCall cFi_isCall 2 (some .boolean) :: tB
abbrev cFi_jumpsAlways : ByteArray := prog_4_method_15_code
abbrev yFi_jumpsAlways : MethodName := ⟨"CompiledProgram$Fields", "jumpsAlways", "(J)Z"⟩
abbrev wsFi_jumpsAlways : List Cond := .code yFi_jumpsAlways cFi_jumpsAlways 2 (some .boolean) :: tB
abbrev cFi_jumpsPerhaps : ByteArray := prog_4_method_16_code
abbrev yFi_jumpsPerhaps : MethodName := ⟨"CompiledProgram$Fields", "jumpsPerhaps", "(J)Z"⟩
abbrev wsFi_jumpsPerhaps : List Cond := .code yFi_jumpsPerhaps cFi_jumpsPerhaps 4 (some .boolean) :: tB
abbrev cFi_jumpFrom : ByteArray := prog_4_method_17_code
abbrev yFi_jumpFrom : MethodName := ⟨"CompiledProgram$Fields", "jumpFrom", "(IJ)J"⟩
abbrev wsFi_jumpFrom : List Cond := .code yFi_jumpFrom cFi_jumpFrom 3 (some .long) :: tB
abbrev cFo_firstWrongForItself : ByteArray := prog_5_method_2_code
abbrev yFo_firstWrongForItself : MethodName := ⟨"CompiledProgram$Form", "firstWrongForItself", "(LCompiledProgram$Program;Z)I"⟩
abbrev wsFo_firstWrongForItself : List Cond := .code yFo_firstWrongForItself cFo_firstWrongForItself 5 (some .int) :: tB
abbrev cFo_firstGoingWrong : ByteArray := prog_5_method_3_code
abbrev yFo_firstGoingWrong : MethodName := ⟨"CompiledProgram$Form", "firstGoingWrong", "(LCompiledProgram$Program;)I"⟩
abbrev wsFo_firstGoingWrong : List Cond := .code yFo_firstGoingWrong cFo_firstGoingWrong 4 (some .int) :: tB
abbrev cFo_goesOnRightly : ByteArray := prog_5_method_4_code
abbrev yFo_goesOnRightly : MethodName := ⟨"CompiledProgram$Form", "goesOnRightly", "(LCompiledProgram$Program;IJ)Z"⟩
abbrev wsFo_goesOnRightly : List Cond := .code yFo_goesOnRightly cFo_goesOnRightly 4 (some .boolean) :: tB
abbrev cFo_isStart : ByteArray := prog_5_method_5_code
abbrev yFo_isStart : MethodName := ⟨"CompiledProgram$Form", "isStart", "(LCompiledProgram$Program;J)Z"⟩
abbrev wsFo_isStart : List Cond := .code yFo_isStart cFo_isStart 3 (some .boolean) :: tB
abbrev cFo_isInstruction : ByteArray := prog_5_method_6_code
abbrev yFo_isInstruction : MethodName := ⟨"CompiledProgram$Form", "isInstruction", "(J)Z"⟩
abbrev wsFo_isInstruction : List Cond := .code yFo_isInstruction cFo_isInstruction 2 (some .boolean) :: tB
abbrev cFo_isFirstOfTwo : ByteArray := prog_5_method_7_code
abbrev yFo_isFirstOfTwo : MethodName := ⟨"CompiledProgram$Form", "isFirstOfTwo", "(J)Z"⟩
abbrev wsFo_isFirstOfTwo : List Cond := .code yFo_isFirstOfTwo cFo_isFirstOfTwo 3 (some .boolean) :: tB
abbrev cFo_isSecondOf : ByteArray := prog_5_method_8_code
abbrev yFo_isSecondOf : MethodName := ⟨"CompiledProgram$Form", "isSecondOf", "(JJ)Z"⟩
abbrev wsFo_isSecondOf : List Cond := .code yFo_isSecondOf cFo_isSecondOf 5 (some .boolean) :: tB
abbrev cFo_isRead : ByteArray := prog_5_method_9_code
abbrev yFo_isRead : MethodName := ⟨"CompiledProgram$Form", "isRead", "(J)Z"⟩
abbrev wsFo_isRead : List Cond := .code yFo_isRead cFo_isRead 3 (some .boolean) :: tB
abbrev cFo_isWriteOfNumber : ByteArray := prog_5_method_10_code
abbrev yFo_isWriteOfNumber : MethodName := ⟨"CompiledProgram$Form", "isWriteOfNumber", "(J)Z"⟩
abbrev wsFo_isWriteOfNumber : List Cond := .code yFo_isWriteOfNumber cFo_isWriteOfNumber 2 (some .boolean) :: tB
abbrev cFo_isWriteOfRegister : ByteArray := prog_5_method_11_code
abbrev yFo_isWriteOfRegister : MethodName := ⟨"CompiledProgram$Form", "isWriteOfRegister", "(J)Z"⟩
abbrev wsFo_isWriteOfRegister : List Cond := .code yFo_isWriteOfRegister cFo_isWriteOfRegister 2 (some .boolean) :: tB
abbrev cFo_isExchange : ByteArray := prog_5_method_12_code
abbrev yFo_isExchange : MethodName := ⟨"CompiledProgram$Form", "isExchange", "(J)Z"⟩
abbrev wsFo_isExchange : List Cond := .code yFo_isExchange cFo_isExchange 2 (some .boolean) :: tB
abbrev cFo_isPerhapsJump : ByteArray := prog_5_method_13_code
abbrev yFo_isPerhapsJump : MethodName := ⟨"CompiledProgram$Form", "isPerhapsJump", "(J)Z"⟩
abbrev wsFo_isPerhapsJump : List Cond := .code yFo_isPerhapsJump cFo_isPerhapsJump 2 (some .boolean) :: tB
abbrev cFo_isCallOrExitOrJump : ByteArray := prog_5_method_14_code
abbrev yFo_isCallOrExitOrJump : MethodName := ⟨"CompiledProgram$Form", "isCallOrExitOrJump", "(J)Z"⟩
abbrev wsFo_isCallOrExitOrJump : List Cond := .code yFo_isCallOrExitOrJump cFo_isCallOrExitOrJump 2 (some .boolean) :: tB
abbrev cFo_hasOperand : ByteArray := prog_5_method_15_code
abbrev yFo_hasOperand : MethodName := ⟨"CompiledProgram$Form", "hasOperand", "(J)Z"⟩
abbrev wsFo_hasOperand : List Cond := .code yFo_hasOperand cFo_hasOperand 2 (some .boolean) :: tB
abbrev cFo_isArithmetic : ByteArray := prog_5_method_16_code
abbrev yFo_isArithmetic : MethodName := ⟨"CompiledProgram$Form", "isArithmetic", "(J)Z"⟩
abbrev wsFo_isArithmetic : List Cond := .code yFo_isArithmetic cFo_isArithmetic 2 (some .boolean) :: tB
abbrev cFo_isMoveOffset : ByteArray := prog_5_method_17_code
abbrev yFo_isMoveOffset : MethodName := ⟨"CompiledProgram$Form", "isMoveOffset", "(J)Z"⟩
abbrev wsFo_isMoveOffset : List Cond := .code yFo_isMoveOffset cFo_isMoveOffset 2 (some .boolean) :: tB
abbrev cFo_isTurning : ByteArray := prog_5_method_18_code
abbrev yFo_isTurning : MethodName := ⟨"CompiledProgram$Form", "isTurning", "(J)Z"⟩
abbrev wsFo_isTurning : List Cond := .code yFo_isTurning cFo_isTurning 3 (some .boolean) :: tB
abbrev cMa_init : ByteArray := prog_6_method_1_code
abbrev yMa_init : MethodName := ⟨"CompiledProgram$Machine", "<init>", "()V"⟩
abbrev wsMa_init : List Cond := .code yMa_init cMa_init 1 none :: tB
abbrev cMa_follow : ByteArray := prog_6_method_2_code
abbrev yMa_follow : MethodName := ⟨"CompiledProgram$Machine", "follow", "(LCompiledProgram$Program;I)I"⟩
abbrev wsMa_follow : List Cond := .code yMa_follow cMa_follow 5 (some .int) :: tB
abbrev cMa_x : ByteArray := prog_6_method_3_code
abbrev yMa_x : MethodName := ⟨"CompiledProgram$Machine", "x", "(J)J"⟩
abbrev wsMa_x : List Cond := .code yMa_x cMa_x 3 (some .long) :: tB
abbrev cMa_y : ByteArray := prog_6_method_4_code
abbrev yMa_y : MethodName := ⟨"CompiledProgram$Machine", "y", "(J)J"⟩
abbrev wsMa_y : List Cond := .code yMa_y cMa_y 3 (some .long) :: tB
abbrev cMa_operand : ByteArray := prog_6_method_5_code
abbrev yMa_operand : MethodName := ⟨"CompiledProgram$Machine", "operand", "(J)J"⟩
abbrev wsMa_operand : List Cond := .code yMa_operand cMa_operand 3 (some .long) :: tB
abbrev cMa_takeTwoPlaces : ByteArray := prog_6_method_6_code
abbrev yMa_takeTwoPlaces : MethodName := ⟨"CompiledProgram$Machine", "takeTwoPlaces", "(JJ)V"⟩
abbrev wsMa_takeTwoPlaces : List Cond := .code yMa_takeTwoPlaces cMa_takeTwoPlaces 7 none :: tB
abbrev cMa_read : ByteArray := prog_6_method_7_code
abbrev yMa_read : MethodName := ⟨"CompiledProgram$Machine", "read", "(J)Z"⟩
abbrev wsMa_read : List Cond := .code yMa_read cMa_read 8 (some .boolean) :: tB
abbrev cMa_write : ByteArray := prog_6_method_8_code
abbrev yMa_write : MethodName := ⟨"CompiledProgram$Machine", "write", "(JJ)Z"⟩
abbrev wsMa_write : List Cond := .code yMa_write cMa_write 8 (some .boolean) :: tB
abbrev cMa_exchange : ByteArray := prog_6_method_9_code
abbrev yMa_exchange : MethodName := ⟨"CompiledProgram$Machine", "exchange", "(J)Z"⟩
abbrev wsMa_exchange : List Cond := .code yMa_exchange cMa_exchange 10 (some .boolean) :: tB
abbrev cMa_jump : ByteArray := prog_6_method_10_code
abbrev yMa_jump : MethodName := ⟨"CompiledProgram$Machine", "jump", "(IJ)I"⟩
abbrev wsMa_jump : List Cond := .code yMa_jump cMa_jump 4 (some .int) :: tB
abbrev cMa_takesJump : ByteArray := prog_6_method_11_code
abbrev yMa_takesJump : MethodName := ⟨"CompiledProgram$Machine", "takesJump", "(J)Z"⟩
abbrev wsMa_takesJump : List Cond := .code yMa_takesJump cMa_takesJump 7 (some .boolean) :: tB
abbrev cMa_answerCall : ByteArray := prog_6_method_12_code
abbrev yMa_answerCall : MethodName := ⟨"CompiledProgram$Machine", "answerCall", "(I)V"⟩
abbrev wsMa_answerCall : List Cond := .code yMa_answerCall cMa_answerCall 5 none :: tB
abbrev cMa_computed : ByteArray := prog_6_method_13_code
abbrev yMa_computed : MethodName := ⟨"CompiledProgram$Machine", "computed", "(J)J"⟩
abbrev wsMa_computed : List Cond := .code yMa_computed cMa_computed 4 (some .long) :: tB
abbrev cMa_turnedOrCut : ByteArray := prog_6_method_14_code
abbrev yMa_turnedOrCut : MethodName := ⟨"CompiledProgram$Machine", "turnedOrCut", "(J)J"⟩
abbrev wsMa_turnedOrCut : List Cond := .code yMa_turnedOrCut cMa_turnedOrCut 5 (some .long) :: tB
abbrev cMe_init : ByteArray := prog_7_method_1_code
abbrev yMe_init : MethodName := ⟨"CompiledProgram$Memory", "<init>", "()V"⟩
abbrev wsMe_init : List Cond := .code yMe_init cMe_init 1 none :: tB
abbrev cMe_holds : ByteArray := prog_7_method_2_code
abbrev yMe_holds : MethodName := ⟨"CompiledProgram$Memory", "holds", "(JI)Z"⟩
abbrev wsMe_holds : List Cond := .code yMe_holds cMe_holds 6 (some .boolean) :: tB
abbrev cMe_read : ByteArray := prog_7_method_3_code
abbrev yMe_read : MethodName := ⟨"CompiledProgram$Memory", "read", "(JI)J"⟩
abbrev wsMe_read : List Cond := .code yMe_read cMe_read 8 (some .long) :: tB
abbrev cMe_write : ByteArray := prog_7_method_4_code
abbrev yMe_write : MethodName := ⟨"CompiledProgram$Memory", "write", "(JIJ)V"⟩
abbrev wsMe_write : List Cond := .code yMe_write cMe_write 8 none :: tB
abbrev cPr_init : ByteArray := prog_8_method_1_code
abbrev yPr_init : MethodName := ⟨"CompiledProgram$Program", "<init>", "()V"⟩
abbrev wsPr_init : List Cond := .code yPr_init cPr_init 1 none :: tB
abbrev cPr_takeFrom : ByteArray := prog_8_method_2_code
abbrev yPr_takeFrom : MethodName := ⟨"CompiledProgram$Program", "takeFrom", "(LCompiledProgram$Tape;)V"⟩
abbrev wsPr_takeFrom : List Cond := .code yPr_takeFrom cPr_takeFrom 3 none :: tB
abbrev cPr_has : ByteArray := prog_8_method_3_code
abbrev yPr_has : MethodName := ⟨"CompiledProgram$Program", "has", "(J)Z"⟩
abbrev wsPr_has : List Cond := .code yPr_has cPr_has 3 (some .boolean) :: tB
abbrev cPr_at : ByteArray := prog_8_method_4_code
abbrev yPr_at : MethodName := ⟨"CompiledProgram$Program", "at", "(I)J"⟩
abbrev wsPr_at : List Cond := .code yPr_at cPr_at 2 (some .long) :: tB
abbrev cTa_init : ByteArray := prog_9_method_1_code
abbrev yTa_init : MethodName := ⟨"CompiledProgram$Tape", "<init>", "()V"⟩
abbrev wsTa_init : List Cond := .code yTa_init cTa_init 1 none :: tB
abbrev cTa_hasRoom : ByteArray := prog_9_method_2_code
abbrev yTa_hasRoom : MethodName := ⟨"CompiledProgram$Tape", "hasRoom", "()Z"⟩
abbrev wsTa_hasRoom : List Cond := .code yTa_hasRoom cTa_hasRoom 1 (some .boolean) :: tB
abbrev cTa_makeRoom : ByteArray := prog_9_method_3_code
abbrev yTa_makeRoom : MethodName := ⟨"CompiledProgram$Tape", "makeRoom", "()V"⟩
abbrev wsTa_makeRoom : List Cond := .code yTa_makeRoom cTa_makeRoom 1 none :: tB
abbrev cTa_type : ByteArray := prog_9_method_4_code
abbrev yTa_type : MethodName := ⟨"CompiledProgram$Tape", "type", "(I)V"⟩
abbrev wsTa_type : List Cond := .code yTa_type cTa_type 2 none :: tB
abbrev cTa_placeAt : ByteArray := prog_9_method_5_code
abbrev yTa_placeAt : MethodName := ⟨"CompiledProgram$Tape", "placeAt", "(I)J"⟩
abbrev wsTa_placeAt : List Cond := .code yTa_placeAt cTa_placeAt 6 (some .long) :: tB
abbrev cLa_feed : ByteArray := method_3_code
abbrev yLa_feed : MethodName := ⟨"CompiledProgramLaw", "feed", "(LCompiledProgram;IIIII[J)I"⟩
abbrev wsLa_feed : List Cond := .code yLa_feed cLa_feed 8 (some .int) :: tB
abbrev cLa_end : ByteArray := method_4_code
abbrev yLa_end : MethodName := ⟨"CompiledProgramLaw", "end", "(LCompiledProgram;I)I"⟩
abbrev wsLa_end : List Cond := .code yLa_end cLa_end 3 (some .int) :: tB
abbrev cLa_set : ByteArray := method_5_code
abbrev yLa_set : MethodName := ⟨"CompiledProgramLaw", "set", "(LCompiledProgram;IJ)I"⟩
abbrev wsLa_set : List Cond := .code yLa_set cLa_set 5 (some .int) :: tB
abbrev cLa_get : ByteArray := method_6_code
abbrev yLa_get : MethodName := ⟨"CompiledProgramLaw", "get", "(LCompiledProgram;I[J)I"⟩
abbrev wsLa_get : List Cond := .code yLa_get cLa_get 4 (some .int) :: tB
abbrev cLa_put : ByteArray := method_7_code
abbrev yLa_put : MethodName := ⟨"CompiledProgramLaw", "put", "(LCompiledProgram;JJ)I"⟩
abbrev wsLa_put : List Cond := .code yLa_put cLa_put 6 (some .int) :: tB
abbrev cLa_word : ByteArray := method_8_code
abbrev yLa_word : MethodName := ⟨"CompiledProgramLaw", "word", "(LCompiledProgram;J[J)I"⟩
abbrev wsLa_word : List Cond := .code yLa_word cLa_word 5 (some .int) :: tB
abbrev cLa_run : ByteArray := method_9_code
abbrev yLa_run : MethodName := ⟨"CompiledProgramLaw", "run", "(LCompiledProgram;I[J)I"⟩
abbrev wsLa_run : List Cond := .code yLa_run cLa_run 4 (some .int) :: tB
abbrev cJo_init : ByteArray := object_method_1_code
abbrev yJo_init : MethodName := ⟨"java/lang/Object", "<init>", "()V"⟩
abbrev wsJo_init : List Cond := .code yJo_init cJo_init 1 none :: tB
abbrev cJm_max : ByteArray := prog_18_method_65_code
abbrev yJm_max : MethodName := ⟨"java/lang/Math", "max", "(II)I"⟩
abbrev wsJm_max : List Cond := .code yJm_max cJm_max 2 (some .int) :: tB
abbrev cJm_min : ByteArray := prog_18_method_69_code
abbrev yJm_min : MethodName := ⟨"java/lang/Math", "min", "(II)I"⟩
abbrev wsJm_min : List Cond := .code yJm_min cJm_min 2 (some .int) :: tB
abbrev cJa_copyOf : ByteArray := prog_23_method_121_code
abbrev yJa_copyOf : MethodName := ⟨"java/util/Arrays", "copyOf", "([BI)[B"⟩
abbrev wsJa_copyOf : List Cond := .code yJa_copyOf cJa_copyOf 3 (some (.array .byte)) :: tB
end
section
theorem ms_0 : (.selects "java/lang/Throwable" ⟨"java/lang/Throwable", "fillInStackTrace", "(I)Ljava/lang/Throwable;"⟩ ⟨"java/lang/Throwable", "fillInStackTrace", "(I)Ljava/lang/Throwable;"⟩ : Cond) ∈ tB := tB_of (List.mem_append_left _ (List.mem_of_getElem? (i := 0) (by decide +kernel))) rfl
theorem ms_1 : (.selects "CompiledProgramModel" ⟨"CompiledProgramModel", "wrongPlace", "(I)I"⟩ ⟨"CompiledProgramModel", "wrongPlace", "(I)I"⟩ : Cond) ∈ tB := tB_of (List.mem_append_left _ (List.mem_of_getElem? (i := 1) (by decide +kernel))) rfl
theorem ms_2 : (.selects "CompiledProgramModel" ⟨"CompiledProgramModel", "isInstruction", "([III)Z"⟩ ⟨"CompiledProgramModel", "isInstruction", "([III)Z"⟩ : Cond) ∈ tB := tB_of (List.mem_append_left _ (List.mem_of_getElem? (i := 2) (by decide +kernel))) rfl
theorem ms_3 : (.selects "CompiledProgramModel" ⟨"CompiledProgramModel", "take", "([II)V"⟩ ⟨"CompiledProgramModel", "take", "([II)V"⟩ : Cond) ∈ tB := tB_of (List.mem_append_left _ (List.mem_of_getElem? (i := 3) (by decide +kernel))) rfl
theorem ms_4 : (.selects "CompiledProgramModel" ⟨"CompiledProgramModel", "kind", "()I"⟩ ⟨"CompiledProgramModel", "kind", "()I"⟩ : Cond) ∈ tB := tB_of (List.mem_append_left _ (List.mem_of_getElem? (i := 4) (by decide +kernel))) rfl
theorem ms_5 : (.selects "CompiledProgramModel" ⟨"CompiledProgramModel", "isArithmetic", "()Z"⟩ ⟨"CompiledProgramModel", "isArithmetic", "()Z"⟩ : Cond) ∈ tB := tB_of (List.mem_append_left _ (List.mem_of_getElem? (i := 5) (by decide +kernel))) rfl
theorem ms_6 : (.selects "CompiledProgramModel" ⟨"CompiledProgramModel", "n", "()I"⟩ ⟨"CompiledProgramModel", "n", "()I"⟩ : Cond) ∈ tB := tB_of (List.mem_append_left _ (List.mem_of_getElem? (i := 6) (by decide +kernel))) rfl
theorem ms_7 : (.selects "CompiledProgramModel" ⟨"CompiledProgramModel", "bit3", "()Z"⟩ ⟨"CompiledProgramModel", "bit3", "()Z"⟩ : Cond) ∈ tB := tB_of (List.mem_append_left _ (List.mem_of_getElem? (i := 7) (by decide +kernel))) rfl
theorem ms_8 : (.selects "CompiledProgramModel" ⟨"CompiledProgramModel", "hasSource", "()Z"⟩ ⟨"CompiledProgramModel", "hasSource", "()Z"⟩ : Cond) ∈ tB := tB_of (List.mem_append_left _ (List.mem_of_getElem? (i := 8) (by decide +kernel))) rfl
theorem ms_9 : (.selects "CompiledProgramModel" ⟨"CompiledProgramModel", "isJump", "()Z"⟩ ⟨"CompiledProgramModel", "isJump", "()Z"⟩ : Cond) ∈ tB := tB_of (List.mem_append_left _ (List.mem_of_getElem? (i := 9) (by decide +kernel))) rfl
theorem ms_10 : (.selects "CompiledProgramModel" ⟨"CompiledProgramModel", "mode", "()I"⟩ ⟨"CompiledProgramModel", "mode", "()I"⟩ : Cond) ∈ tB := tB_of (List.mem_append_left _ (List.mem_of_getElem? (i := 10) (by decide +kernel))) rfl
theorem ms_11 : (.selects "CompiledProgramModel" ⟨"CompiledProgramModel", "size", "()I"⟩ ⟨"CompiledProgramModel", "size", "()I"⟩ : Cond) ∈ tB := tB_of (List.mem_append_left _ (List.mem_of_getElem? (i := 11) (by decide +kernel))) rfl
theorem ms_12 : (.selects "CompiledProgramModel" ⟨"CompiledProgramModel", "isAtomic", "()Z"⟩ ⟨"CompiledProgramModel", "isAtomic", "()Z"⟩ : Cond) ∈ tB := tB_of (List.mem_append_left _ (List.mem_of_getElem? (i := 12) (by decide +kernel))) rfl
theorem ms_13 : (.selects "CompiledProgramModel" ⟨"CompiledProgramModel", "isWide", "()Z"⟩ ⟨"CompiledProgramModel", "isWide", "()Z"⟩ : Cond) ∈ tB := tB_of (List.mem_append_left _ (List.mem_of_getElem? (i := 13) (by decide +kernel))) rfl
theorem ms_14 : (.selects "CompiledProgramModel" ⟨"CompiledProgramModel", "wrongWay", "(I)I"⟩ ⟨"CompiledProgramModel", "wrongWay", "(I)I"⟩ : Cond) ∈ tB := tB_of (List.mem_append_left _ (List.mem_of_getElem? (i := 14) (by decide +kernel))) rfl
theorem ms_15 : (.selects "CompiledProgramModel" ⟨"CompiledProgramModel", "isGoal", "(JI)Z"⟩ ⟨"CompiledProgramModel", "isGoal", "(JI)Z"⟩ : Cond) ∈ tB := tB_of (List.mem_append_left _ (List.mem_of_getElem? (i := 15) (by decide +kernel))) rfl
theorem ms_16 : (.selects "CompiledProgramModel" ⟨"CompiledProgramModel", "store", "(JIJ)V"⟩ ⟨"CompiledProgramModel", "store", "(JIJ)V"⟩ : Cond) ∈ tB := tB_of (List.mem_append_left _ (List.mem_of_getElem? (i := 16) (by decide +kernel))) rfl
theorem ms_17 : (.selects "CompiledProgramModel" ⟨"CompiledProgramModel", "load", "(JI)J"⟩ ⟨"CompiledProgramModel", "load", "(JI)J"⟩ : Cond) ∈ tB := tB_of (List.mem_append_left _ (List.mem_of_getElem? (i := 17) (by decide +kernel))) rfl
theorem ms_18 : (.selects "CompiledProgramModel" ⟨"CompiledProgramModel", "does", "(I)Z"⟩ ⟨"CompiledProgramModel", "does", "(I)Z"⟩ : Cond) ∈ tB := tB_of (List.mem_append_left _ (List.mem_of_getElem? (i := 18) (by decide +kernel))) rfl
theorem ms_19 : (.selects "CompiledProgramModel" ⟨"CompiledProgramModel", "arithmetic", "()V"⟩ ⟨"CompiledProgramModel", "arithmetic", "()V"⟩ : Cond) ∈ tB := tB_of (List.mem_append_left _ (List.mem_of_getElem? (i := 19) (by decide +kernel))) rfl
theorem ms_20 : (.selects "CompiledProgramModel" ⟨"CompiledProgramModel", "reckoned", "(JJI)J"⟩ ⟨"CompiledProgramModel", "reckoned", "(JJI)J"⟩ : Cond) ∈ tB := tB_of (List.mem_append_left _ (List.mem_of_getElem? (i := 20) (by decide +kernel))) rfl
theorem ms_21 : (.selects "CompiledProgramModel" ⟨"CompiledProgramModel", "jump", "(I)V"⟩ ⟨"CompiledProgramModel", "jump", "(I)V"⟩ : Cond) ∈ tB := tB_of (List.mem_append_left _ (List.mem_of_getElem? (i := 21) (by decide +kernel))) rfl
theorem ms_22 : (.selects "CompiledProgramModel" ⟨"CompiledProgramModel", "call", "()V"⟩ ⟨"CompiledProgramModel", "call", "()V"⟩ : Cond) ∈ tB := tB_of (List.mem_append_left _ (List.mem_of_getElem? (i := 22) (by decide +kernel))) rfl
theorem ms_23 : (.selects "CompiledProgramModel" ⟨"CompiledProgramModel", "isSo", "(JJ)Z"⟩ ⟨"CompiledProgramModel", "isSo", "(JJ)Z"⟩ : Cond) ∈ tB := tB_of (List.mem_append_left _ (List.mem_of_getElem? (i := 23) (by decide +kernel))) rfl
theorem ms_24 : (.selects "CompiledProgramModel" ⟨"CompiledProgramModel", "access", "()Z"⟩ ⟨"CompiledProgramModel", "access", "()Z"⟩ : Cond) ∈ tB := tB_of (List.mem_append_left _ (List.mem_of_getElem? (i := 24) (by decide +kernel))) rfl
theorem ms_25 : (.selects "CompiledProgramModel" ⟨"CompiledProgramModel", "atomic", "(JI)Z"⟩ ⟨"CompiledProgramModel", "atomic", "(JI)Z"⟩ : Cond) ∈ tB := tB_of (List.mem_append_left _ (List.mem_of_getElem? (i := 25) (by decide +kernel))) rfl
theorem mw_0 : (.initialized "CompiledProgramLaw" : Cond) ∈ tB := tB_of (List.mem_append_right _ (List.mem_of_getElem? (i := 0) (by decide +kernel))) rfl
theorem mw_1 : (.initialized "CompiledProgram" : Cond) ∈ tB := tB_of (List.mem_append_right _ (List.mem_of_getElem? (i := 1) (by decide +kernel))) rfl
theorem mw_2 : (.initialized "CompiledProgram$Tape" : Cond) ∈ tB := tB_of (List.mem_append_right _ (List.mem_of_getElem? (i := 2) (by decide +kernel))) rfl
theorem mw_3 : (.initialized "CompiledProgram$Program" : Cond) ∈ tB := tB_of (List.mem_append_right _ (List.mem_of_getElem? (i := 3) (by decide +kernel))) rfl
theorem mw_4 : (.initialized "CompiledProgram$Machine" : Cond) ∈ tB := tB_of (List.mem_append_right _ (List.mem_of_getElem? (i := 4) (by decide +kernel))) rfl
theorem mw_5 : (.initialized "CompiledProgram$Memory" : Cond) ∈ tB := tB_of (List.mem_append_right _ (List.mem_of_getElem? (i := 5) (by decide +kernel))) rfl
theorem mw_6 : (.initialized "CompiledProgramModel" : Cond) ∈ tB := tB_of (List.mem_append_right _ (List.mem_of_getElem? (i := 6) (by decide +kernel))) rfl
theorem mw_7 : (.initialized "java/lang/Throwable" : Cond) ∈ tB := tB_of (List.mem_append_right _ (List.mem_of_getElem? (i := 7) (by decide +kernel))) rfl
theorem mw_8 : (.initialized "java/lang/Exception" : Cond) ∈ tB := tB_of (List.mem_append_right _ (List.mem_of_getElem? (i := 8) (by decide +kernel))) rfl
theorem mw_9 : (.initialized "java/lang/RuntimeException" : Cond) ∈ tB := tB_of (List.mem_append_right _ (List.mem_of_getElem? (i := 9) (by decide +kernel))) rfl
theorem mw_10 : (.initialized "java/lang/IllegalStateException" : Cond) ∈ tB := tB_of (List.mem_append_right _ (List.mem_of_getElem? (i := 10) (by decide +kernel))) rfl
theorem mw_11 : (.initialized "java/lang/Math" : Cond) ∈ tB := tB_of (List.mem_append_right _ (List.mem_of_getElem? (i := 11) (by decide +kernel))) rfl
theorem mw_12 : (.initialized "java/util/Arrays" : Cond) ∈ tB := tB_of (List.mem_append_right _ (List.mem_of_getElem? (i := 12) (by decide +kernel))) rfl
theorem mw_13 : (.initialized "java/lang/System" : Cond) ∈ tB := tB_of (List.mem_append_right _ (List.mem_of_getElem? (i := 13) (by decide +kernel))) rfl
theorem mw_14 : (.initialized "java/lang/IllegalArgumentException" : Cond) ∈ tB := tB_of (List.mem_append_right _ (List.mem_of_getElem? (i := 14) (by decide +kernel))) rfl
theorem mw_15 : (.initialized "CompiledProgram$Form" : Cond) ∈ tB := tB_of (List.mem_append_right _ (List.mem_of_getElem? (i := 15) (by decide +kernel))) rfl
theorem mw_16 : (.initialized "CompiledProgram$Fields" : Cond) ∈ tB := tB_of (List.mem_append_right _ (List.mem_of_getElem? (i := 16) (by decide +kernel))) rfl
theorem mw_17 : (.initialized "CompiledProgram$Exchange" : Cond) ∈ tB := tB_of (List.mem_append_right _ (List.mem_of_getElem? (i := 17) (by decide +kernel))) rfl
theorem mw_18 : (.initialized "java/lang/IndexOutOfBoundsException" : Cond) ∈ tB := tB_of (List.mem_append_right _ (List.mem_of_getElem? (i := 18) (by decide +kernel))) rfl
theorem mw_19 : (.initialized "CompiledProgram$Arithmetic" : Cond) ∈ tB := tB_of (List.mem_append_right _ (List.mem_of_getElem? (i := 19) (by decide +kernel))) rfl
theorem mw_20 : (.initialized "java/lang/Long" : Cond) ∈ tB := tB_of (List.mem_append_right _ (List.mem_of_getElem? (i := 20) (by decide +kernel))) rfl
theorem mw_21 : (.classLink "CompiledProgramLaw" 8 "CompiledProgram" : Cond) ∈ tB := tB_of (List.mem_append_right _ (List.mem_of_getElem? (i := 21) (by decide +kernel))) rfl
theorem mw_22 : (.instantiable "CompiledProgram" 5 : Cond) ∈ tB := tB_of (List.mem_append_right _ (List.mem_of_getElem? (i := 22) (by decide +kernel))) rfl
theorem mw_23 : (.methodLink "CompiledProgramLaw" 43 ⟨"CompiledProgram", "<init>", "()V"⟩ : Cond) ∈ tB := tB_of (List.mem_append_right _ (List.mem_of_getElem? (i := 23) (by decide +kernel))) rfl
theorem mw_24 : (.instanceMethod ⟨"CompiledProgram", "<init>", "()V"⟩ : Cond) ∈ tB := tB_of (List.mem_append_right _ (List.mem_of_getElem? (i := 24) (by decide +kernel))) rfl
set_option maxRecDepth 100000 in
theorem mw_25 : (.code ⟨"CompiledProgram", "<init>", "()V"⟩ prog_1_method_1_code 1 (none : Option FieldType) : Cond) ∈ tB := tB_of (List.mem_append_right _ (List.mem_of_getElem? (i := 25) rfl)) rfl
theorem mw_26 : (.methodLink "CompiledProgram" 1 ⟨"java/lang/Object", "<init>", "()V"⟩ : Cond) ∈ tB := tB_of (List.mem_append_right _ (List.mem_of_getElem? (i := 26) (by decide +kernel))) rfl
theorem mw_27 : (.instanceMethod ⟨"java/lang/Object", "<init>", "()V"⟩ : Cond) ∈ tB := tB_of (List.mem_append_right _ (List.mem_of_getElem? (i := 27) (by decide +kernel))) rfl
set_option maxRecDepth 100000 in
theorem mw_28 : (.code ⟨"java/lang/Object", "<init>", "()V"⟩ object_method_1_code 1 (none : Option FieldType) : Cond) ∈ tB := tB_of (List.mem_append_right _ (List.mem_of_getElem? (i := 28) rfl)) rfl
theorem mw_29 : (.classLink "CompiledProgram" 7 "CompiledProgram$Tape" : Cond) ∈ tB := tB_of (List.mem_append_right _ (List.mem_of_getElem? (i := 29) (by decide +kernel))) rfl
theorem mw_30 : (.instantiable "CompiledProgram$Tape" 2 : Cond) ∈ tB := tB_of (List.mem_append_right _ (List.mem_of_getElem? (i := 30) (by decide +kernel))) rfl
theorem mw_32 : (.instanceMethod ⟨"CompiledProgram$Tape", "<init>", "()V"⟩ : Cond) ∈ tB := tB_of (List.mem_append_right _ (List.mem_of_getElem? (i := 32) (by decide +kernel))) rfl
set_option maxRecDepth 100000 in
theorem mw_33 : (.code ⟨"CompiledProgram$Tape", "<init>", "()V"⟩ prog_9_method_1_code 1 (none : Option FieldType) : Cond) ∈ tB := tB_of (List.mem_append_right _ (List.mem_of_getElem? (i := 33) rfl)) rfl
theorem mw_34 : (.methodLink "CompiledProgram$Tape" 1 ⟨"java/lang/Object", "<init>", "()V"⟩ : Cond) ∈ tB := tB_of (List.mem_append_right _ (List.mem_of_getElem? (i := 34) (by decide +kernel))) rfl
theorem mw_35 : (.fieldLink "CompiledProgram$Tape" 7 "CompiledProgram$Tape" "bytes" "[B" : Cond) ∈ tB := tB_of (List.mem_append_right _ (List.mem_of_getElem? (i := 35) (by decide +kernel))) rfl
theorem mw_36 : (.fieldLink "CompiledProgram$Tape" 13 "CompiledProgram$Tape" "length" "I" : Cond) ∈ tB := tB_of (List.mem_append_right _ (List.mem_of_getElem? (i := 36) (by decide +kernel))) rfl
theorem mw_37 : (.fieldLink "CompiledProgram$Program" 17 "CompiledProgram$Tape" "length" "I" : Cond) ∈ tB := tB_of (List.mem_append_right _ (List.mem_of_getElem? (i := 37) (by decide +kernel))) rfl
theorem mw_38 : (.fieldLink "CompiledProgram" 55 "CompiledProgram$Tape" "length" "I" : Cond) ∈ tB := tB_of (List.mem_append_right _ (List.mem_of_getElem? (i := 38) (by decide +kernel))) rfl
theorem mw_39 : (.lays "CompiledProgram$Tape" "CompiledProgram$Tape" "bytes" "[B" : Cond) ∈ tB := tB_of (List.mem_append_right _ (List.mem_of_getElem? (i := 39) (by decide +kernel))) rfl
theorem mw_40 : (.soleField "CompiledProgram$Tape" "bytes" : Cond) ∈ tB := tB_of (List.mem_append_right _ (List.mem_of_getElem? (i := 40) (by decide +kernel))) rfl
theorem mw_41 : (.lays "CompiledProgram$Tape" "CompiledProgram$Tape" "length" "I" : Cond) ∈ tB := tB_of (List.mem_append_right _ (List.mem_of_getElem? (i := 41) (by decide +kernel))) rfl
theorem mw_42 : (.soleField "CompiledProgram$Tape" "length" : Cond) ∈ tB := tB_of (List.mem_append_right _ (List.mem_of_getElem? (i := 42) (by decide +kernel))) rfl
theorem mw_43 : (.superclass "CompiledProgram$Tape" "java/lang/Object" : Cond) ∈ tB := tB_of (List.mem_append_right _ (List.mem_of_getElem? (i := 43) (by decide +kernel))) rfl
theorem mw_44 : (.arrayClass FieldType.byte : Cond) ∈ tB := tB_of (List.mem_append_right _ (List.mem_of_getElem? (i := 44) (by decide +kernel))) rfl
theorem mw_45 : (.classLink "CompiledProgram" 16 "CompiledProgram$Program" : Cond) ∈ tB := tB_of (List.mem_append_right _ (List.mem_of_getElem? (i := 45) (by decide +kernel))) rfl
theorem mw_46 : (.instantiable "CompiledProgram$Program" 2 : Cond) ∈ tB := tB_of (List.mem_append_right _ (List.mem_of_getElem? (i := 46) (by decide +kernel))) rfl
theorem mw_48 : (.instanceMethod ⟨"CompiledProgram$Program", "<init>", "()V"⟩ : Cond) ∈ tB := tB_of (List.mem_append_right _ (List.mem_of_getElem? (i := 48) (by decide +kernel))) rfl
set_option maxRecDepth 100000 in
theorem mw_49 : (.code ⟨"CompiledProgram$Program", "<init>", "()V"⟩ prog_8_method_1_code 1 (none : Option FieldType) : Cond) ∈ tB := tB_of (List.mem_append_right _ (List.mem_of_getElem? (i := 49) rfl)) rfl
theorem mw_50 : (.methodLink "CompiledProgram$Program" 1 ⟨"java/lang/Object", "<init>", "()V"⟩ : Cond) ∈ tB := tB_of (List.mem_append_right _ (List.mem_of_getElem? (i := 50) (by decide +kernel))) rfl
theorem mw_51 : (.fieldLink "CompiledProgram$Program" 7 "CompiledProgram$Program" "row" "[J" : Cond) ∈ tB := tB_of (List.mem_append_right _ (List.mem_of_getElem? (i := 51) (by decide +kernel))) rfl
theorem mw_52 : (.fieldLink "CompiledProgram$Program" 13 "CompiledProgram$Program" "count" "I" : Cond) ∈ tB := tB_of (List.mem_append_right _ (List.mem_of_getElem? (i := 52) (by decide +kernel))) rfl
theorem mw_53 : (.fieldLink "CompiledProgram$Form" 9 "CompiledProgram$Program" "count" "I" : Cond) ∈ tB := tB_of (List.mem_append_right _ (List.mem_of_getElem? (i := 53) (by decide +kernel))) rfl
theorem mw_54 : (.fieldLink "CompiledProgram" 77 "CompiledProgram$Program" "count" "I" : Cond) ∈ tB := tB_of (List.mem_append_right _ (List.mem_of_getElem? (i := 54) (by decide +kernel))) rfl
theorem mw_55 : (.lays "CompiledProgram$Program" "CompiledProgram$Program" "row" "[J" : Cond) ∈ tB := tB_of (List.mem_append_right _ (List.mem_of_getElem? (i := 55) (by decide +kernel))) rfl
theorem mw_56 : (.soleField "CompiledProgram$Program" "row" : Cond) ∈ tB := tB_of (List.mem_append_right _ (List.mem_of_getElem? (i := 56) (by decide +kernel))) rfl
theorem mw_57 : (.lays "CompiledProgram$Program" "CompiledProgram$Program" "count" "I" : Cond) ∈ tB := tB_of (List.mem_append_right _ (List.mem_of_getElem? (i := 57) (by decide +kernel))) rfl
theorem mw_58 : (.soleField "CompiledProgram$Program" "count" : Cond) ∈ tB := tB_of (List.mem_append_right _ (List.mem_of_getElem? (i := 58) (by decide +kernel))) rfl
theorem mw_59 : (.superclass "CompiledProgram$Program" "java/lang/Object" : Cond) ∈ tB := tB_of (List.mem_append_right _ (List.mem_of_getElem? (i := 59) (by decide +kernel))) rfl
theorem mw_60 : (.arrayClass FieldType.long : Cond) ∈ tB := tB_of (List.mem_append_right _ (List.mem_of_getElem? (i := 60) (by decide +kernel))) rfl
theorem mw_61 : (.classLink "CompiledProgram" 23 "CompiledProgram$Machine" : Cond) ∈ tB := tB_of (List.mem_append_right _ (List.mem_of_getElem? (i := 61) (by decide +kernel))) rfl
theorem mw_62 : (.instantiable "CompiledProgram$Machine" 2 : Cond) ∈ tB := tB_of (List.mem_append_right _ (List.mem_of_getElem? (i := 62) (by decide +kernel))) rfl
theorem mw_64 : (.instanceMethod ⟨"CompiledProgram$Machine", "<init>", "()V"⟩ : Cond) ∈ tB := tB_of (List.mem_append_right _ (List.mem_of_getElem? (i := 64) (by decide +kernel))) rfl
set_option maxRecDepth 100000 in
theorem mw_65 : (.code ⟨"CompiledProgram$Machine", "<init>", "()V"⟩ prog_6_method_1_code 1 (none : Option FieldType) : Cond) ∈ tB := tB_of (List.mem_append_right _ (List.mem_of_getElem? (i := 65) rfl)) rfl
theorem mw_66 : (.methodLink "CompiledProgram$Machine" 1 ⟨"java/lang/Object", "<init>", "()V"⟩ : Cond) ∈ tB := tB_of (List.mem_append_right _ (List.mem_of_getElem? (i := 66) (by decide +kernel))) rfl
theorem mw_67 : (.classLink "CompiledProgram$Machine" 13 "CompiledProgram$Memory" : Cond) ∈ tB := tB_of (List.mem_append_right _ (List.mem_of_getElem? (i := 67) (by decide +kernel))) rfl
theorem mw_68 : (.instantiable "CompiledProgram$Memory" 1 : Cond) ∈ tB := tB_of (List.mem_append_right _ (List.mem_of_getElem? (i := 68) (by decide +kernel))) rfl
theorem mw_70 : (.instanceMethod ⟨"CompiledProgram$Memory", "<init>", "()V"⟩ : Cond) ∈ tB := tB_of (List.mem_append_right _ (List.mem_of_getElem? (i := 70) (by decide +kernel))) rfl
set_option maxRecDepth 100000 in
theorem mw_71 : (.code ⟨"CompiledProgram$Memory", "<init>", "()V"⟩ prog_7_method_1_code 1 (none : Option FieldType) : Cond) ∈ tB := tB_of (List.mem_append_right _ (List.mem_of_getElem? (i := 71) rfl)) rfl
theorem mw_72 : (.methodLink "CompiledProgram$Memory" 1 ⟨"java/lang/Object", "<init>", "()V"⟩ : Cond) ∈ tB := tB_of (List.mem_append_right _ (List.mem_of_getElem? (i := 72) (by decide +kernel))) rfl
theorem mw_73 : (.fieldLink "CompiledProgram$Memory" 9 "CompiledProgram$Memory" "bytes" "[B" : Cond) ∈ tB := tB_of (List.mem_append_right _ (List.mem_of_getElem? (i := 73) (by decide +kernel))) rfl
theorem mw_74 : (.laysFinal "CompiledProgram$Memory" "CompiledProgram$Memory" "bytes" "[B" : Cond) ∈ tB := tB_of (List.mem_append_right _ (List.mem_of_getElem? (i := 74) (by decide +kernel))) rfl
theorem mw_75 : (.soleField "CompiledProgram$Memory" "bytes" : Cond) ∈ tB := tB_of (List.mem_append_right _ (List.mem_of_getElem? (i := 75) (by decide +kernel))) rfl
theorem mw_76 : (.superclass "CompiledProgram$Memory" "java/lang/Object" : Cond) ∈ tB := tB_of (List.mem_append_right _ (List.mem_of_getElem? (i := 76) (by decide +kernel))) rfl
theorem mw_77 : (.fieldLink "CompiledProgram$Machine" 7 "CompiledProgram$Machine" "registers" "[J" : Cond) ∈ tB := tB_of (List.mem_append_right _ (List.mem_of_getElem? (i := 77) (by decide +kernel))) rfl
theorem mw_78 : (.fieldLink "CompiledProgram" 85 "CompiledProgram$Machine" "registers" "[J" : Cond) ∈ tB := tB_of (List.mem_append_right _ (List.mem_of_getElem? (i := 78) (by decide +kernel))) rfl
theorem mw_79 : (.fieldLink "CompiledProgram$Machine" 16 "CompiledProgram$Machine" "memory" "LCompiledProgram$Memory;" : Cond) ∈ tB := tB_of (List.mem_append_right _ (List.mem_of_getElem? (i := 79) (by decide +kernel))) rfl
theorem mw_80 : (.fieldLink "CompiledProgram" 89 "CompiledProgram$Machine" "memory" "LCompiledProgram$Memory;" : Cond) ∈ tB := tB_of (List.mem_append_right _ (List.mem_of_getElem? (i := 80) (by decide +kernel))) rfl
theorem mw_81 : (.laysFinal "CompiledProgram$Machine" "CompiledProgram$Machine" "registers" "[J" : Cond) ∈ tB := tB_of (List.mem_append_right _ (List.mem_of_getElem? (i := 81) (by decide +kernel))) rfl
theorem mw_82 : (.soleField "CompiledProgram$Machine" "registers" : Cond) ∈ tB := tB_of (List.mem_append_right _ (List.mem_of_getElem? (i := 82) (by decide +kernel))) rfl
theorem mw_83 : (.laysFinal "CompiledProgram$Machine" "CompiledProgram$Machine" "memory" "LCompiledProgram$Memory;" : Cond) ∈ tB := tB_of (List.mem_append_right _ (List.mem_of_getElem? (i := 83) (by decide +kernel))) rfl
theorem mw_84 : (.soleField "CompiledProgram$Machine" "memory" : Cond) ∈ tB := tB_of (List.mem_append_right _ (List.mem_of_getElem? (i := 84) (by decide +kernel))) rfl
theorem mw_85 : (.superclass "CompiledProgram$Machine" "java/lang/Object" : Cond) ∈ tB := tB_of (List.mem_append_right _ (List.mem_of_getElem? (i := 85) (by decide +kernel))) rfl
theorem mw_86 : (.fieldLink "CompiledProgram" 10 "CompiledProgram" "tape" "LCompiledProgram$Tape;" : Cond) ∈ tB := tB_of (List.mem_append_right _ (List.mem_of_getElem? (i := 86) (by decide +kernel))) rfl
theorem mw_87 : (.fieldLink "CompiledProgram" 19 "CompiledProgram" "program" "LCompiledProgram$Program;" : Cond) ∈ tB := tB_of (List.mem_append_right _ (List.mem_of_getElem? (i := 87) (by decide +kernel))) rfl
theorem mw_88 : (.fieldLink "CompiledProgram" 26 "CompiledProgram" "machine" "LCompiledProgram$Machine;" : Cond) ∈ tB := tB_of (List.mem_append_right _ (List.mem_of_getElem? (i := 88) (by decide +kernel))) rfl
theorem mw_89 : (.fieldLink "CompiledProgram" 30 "CompiledProgram" "latestPlace" "I" : Cond) ∈ tB := tB_of (List.mem_append_right _ (List.mem_of_getElem? (i := 89) (by decide +kernel))) rfl
theorem mw_90 : (.fieldLink "CompiledProgram" 34 "CompiledProgram" "latestSteps" "I" : Cond) ∈ tB := tB_of (List.mem_append_right _ (List.mem_of_getElem? (i := 90) (by decide +kernel))) rfl
theorem mw_91 : (.laysFinal "CompiledProgram" "CompiledProgram" "tape" "LCompiledProgram$Tape;" : Cond) ∈ tB := tB_of (List.mem_append_right _ (List.mem_of_getElem? (i := 91) (by decide +kernel))) rfl
theorem mw_92 : (.soleField "CompiledProgram" "tape" : Cond) ∈ tB := tB_of (List.mem_append_right _ (List.mem_of_getElem? (i := 92) (by decide +kernel))) rfl
theorem mw_93 : (.laysFinal "CompiledProgram" "CompiledProgram" "program" "LCompiledProgram$Program;" : Cond) ∈ tB := tB_of (List.mem_append_right _ (List.mem_of_getElem? (i := 93) (by decide +kernel))) rfl
theorem mw_94 : (.soleField "CompiledProgram" "program" : Cond) ∈ tB := tB_of (List.mem_append_right _ (List.mem_of_getElem? (i := 94) (by decide +kernel))) rfl
theorem mw_95 : (.laysFinal "CompiledProgram" "CompiledProgram" "machine" "LCompiledProgram$Machine;" : Cond) ∈ tB := tB_of (List.mem_append_right _ (List.mem_of_getElem? (i := 95) (by decide +kernel))) rfl
theorem mw_96 : (.soleField "CompiledProgram" "machine" : Cond) ∈ tB := tB_of (List.mem_append_right _ (List.mem_of_getElem? (i := 96) (by decide +kernel))) rfl
theorem mw_97 : (.lays "CompiledProgram" "CompiledProgram" "latestPlace" "I" : Cond) ∈ tB := tB_of (List.mem_append_right _ (List.mem_of_getElem? (i := 97) (by decide +kernel))) rfl
theorem mw_98 : (.soleField "CompiledProgram" "latestPlace" : Cond) ∈ tB := tB_of (List.mem_append_right _ (List.mem_of_getElem? (i := 98) (by decide +kernel))) rfl
theorem mw_99 : (.lays "CompiledProgram" "CompiledProgram" "latestSteps" "I" : Cond) ∈ tB := tB_of (List.mem_append_right _ (List.mem_of_getElem? (i := 99) (by decide +kernel))) rfl
theorem mw_100 : (.soleField "CompiledProgram" "latestSteps" : Cond) ∈ tB := tB_of (List.mem_append_right _ (List.mem_of_getElem? (i := 100) (by decide +kernel))) rfl
theorem mw_101 : (.superclass "CompiledProgram" "java/lang/Object" : Cond) ∈ tB := tB_of (List.mem_append_right _ (List.mem_of_getElem? (i := 101) (by decide +kernel))) rfl
theorem mw_102 : (.methodLink "CompiledProgramLaw" 61 ⟨"CompiledProgram", "load", "()I"⟩ : Cond) ∈ tB := tB_of (List.mem_append_right _ (List.mem_of_getElem? (i := 102) (by decide +kernel))) rfl
theorem mw_103 : (.instanceMethod ⟨"CompiledProgram", "load", "()I"⟩ : Cond) ∈ tB := tB_of (List.mem_append_right _ (List.mem_of_getElem? (i := 103) (by decide +kernel))) rfl
theorem mw_104 : (.selects "CompiledProgram" ⟨"CompiledProgram", "load", "()I"⟩ ⟨"CompiledProgram", "load", "()I"⟩ : Cond) ∈ tB := tB_of (List.mem_append_right _ (List.mem_of_getElem? (i := 104) (by decide +kernel))) rfl
set_option maxRecDepth 100000 in
theorem mw_105 : (.code ⟨"CompiledProgram", "load", "()I"⟩ prog_1_method_4_code 3 (some FieldType.int) : Cond) ∈ tB := tB_of (List.mem_append_right _ (List.mem_of_getElem? (i := 105) rfl)) rfl
theorem mw_106 : (.methodLink "CompiledProgram" 63 ⟨"CompiledProgram$Program", "takeFrom", "(LCompiledProgram$Tape;)V"⟩ : Cond) ∈ tB := tB_of (List.mem_append_right _ (List.mem_of_getElem? (i := 106) (by decide +kernel))) rfl
theorem mw_107 : (.instanceMethod ⟨"CompiledProgram$Program", "takeFrom", "(LCompiledProgram$Tape;)V"⟩ : Cond) ∈ tB := tB_of (List.mem_append_right _ (List.mem_of_getElem? (i := 107) (by decide +kernel))) rfl
theorem mw_108 : (.selects "CompiledProgram$Program" ⟨"CompiledProgram$Program", "takeFrom", "(LCompiledProgram$Tape;)V"⟩ ⟨"CompiledProgram$Program", "takeFrom", "(LCompiledProgram$Tape;)V"⟩ : Cond) ∈ tB := tB_of (List.mem_append_right _ (List.mem_of_getElem? (i := 108) (by decide +kernel))) rfl
set_option maxRecDepth 100000 in
theorem mw_109 : (.code ⟨"CompiledProgram$Program", "takeFrom", "(LCompiledProgram$Tape;)V"⟩ prog_8_method_2_code 3 (none : Option FieldType) : Cond) ∈ tB := tB_of (List.mem_append_right _ (List.mem_of_getElem? (i := 109) rfl)) rfl
theorem mw_110 : (.methodLink "CompiledProgram$Program" 22 ⟨"java/lang/Math", "max", "(II)I"⟩ : Cond) ∈ tB := tB_of (List.mem_append_right _ (List.mem_of_getElem? (i := 110) (by decide +kernel))) rfl
theorem mw_111 : (.static ⟨"java/lang/Math", "max", "(II)I"⟩ : Cond) ∈ tB := tB_of (List.mem_append_right _ (List.mem_of_getElem? (i := 111) (by decide +kernel))) rfl
set_option maxRecDepth 100000 in
theorem mw_112 : (.code ⟨"java/lang/Math", "max", "(II)I"⟩ prog_18_method_65_code 2 (some FieldType.int) : Cond) ∈ tB := tB_of (List.mem_append_right _ (List.mem_of_getElem? (i := 112) rfl)) rfl
theorem mw_113 : (.methodLink "CompiledProgram$Program" 28 ⟨"CompiledProgram$Tape", "placeAt", "(I)J"⟩ : Cond) ∈ tB := tB_of (List.mem_append_right _ (List.mem_of_getElem? (i := 113) (by decide +kernel))) rfl
theorem mw_114 : (.instanceMethod ⟨"CompiledProgram$Tape", "placeAt", "(I)J"⟩ : Cond) ∈ tB := tB_of (List.mem_append_right _ (List.mem_of_getElem? (i := 114) (by decide +kernel))) rfl
theorem mw_115 : (.selects "CompiledProgram$Tape" ⟨"CompiledProgram$Tape", "placeAt", "(I)J"⟩ ⟨"CompiledProgram$Tape", "placeAt", "(I)J"⟩ : Cond) ∈ tB := tB_of (List.mem_append_right _ (List.mem_of_getElem? (i := 115) (by decide +kernel))) rfl
set_option maxRecDepth 100000 in
theorem mw_116 : (.code ⟨"CompiledProgram$Tape", "placeAt", "(I)J"⟩ prog_9_method_5_code 6 (some FieldType.long) : Cond) ∈ tB := tB_of (List.mem_append_right _ (List.mem_of_getElem? (i := 116) rfl)) rfl
theorem mw_117 : (.methodLink "CompiledProgram" 67 ⟨"CompiledProgram$Form", "firstWrongForItself", "(LCompiledProgram$Program;Z)I"⟩ : Cond) ∈ tB := tB_of (List.mem_append_right _ (List.mem_of_getElem? (i := 117) (by decide +kernel))) rfl
theorem mw_118 : (.static ⟨"CompiledProgram$Form", "firstWrongForItself", "(LCompiledProgram$Program;Z)I"⟩ : Cond) ∈ tB := tB_of (List.mem_append_right _ (List.mem_of_getElem? (i := 118) (by decide +kernel))) rfl
set_option maxRecDepth 100000 in
theorem mw_119 : (.code ⟨"CompiledProgram$Form", "firstWrongForItself", "(LCompiledProgram$Program;Z)I"⟩ prog_5_method_2_code 5 (some FieldType.int) : Cond) ∈ tB := tB_of (List.mem_append_right _ (List.mem_of_getElem? (i := 119) rfl)) rfl
theorem mw_120 : (.methodLink "CompiledProgram$Form" 15 ⟨"CompiledProgram$Program", "at", "(I)J"⟩ : Cond) ∈ tB := tB_of (List.mem_append_right _ (List.mem_of_getElem? (i := 120) (by decide +kernel))) rfl
theorem mw_121 : (.instanceMethod ⟨"CompiledProgram$Program", "at", "(I)J"⟩ : Cond) ∈ tB := tB_of (List.mem_append_right _ (List.mem_of_getElem? (i := 121) (by decide +kernel))) rfl
theorem mw_122 : (.selects "CompiledProgram$Program" ⟨"CompiledProgram$Program", "at", "(I)J"⟩ ⟨"CompiledProgram$Program", "at", "(I)J"⟩ : Cond) ∈ tB := tB_of (List.mem_append_right _ (List.mem_of_getElem? (i := 122) (by decide +kernel))) rfl
set_option maxRecDepth 100000 in
theorem mw_123 : (.code ⟨"CompiledProgram$Program", "at", "(I)J"⟩ prog_8_method_4_code 2 (some FieldType.long) : Cond) ∈ tB := tB_of (List.mem_append_right _ (List.mem_of_getElem? (i := 123) rfl)) rfl
theorem mw_124 : (.methodLink "CompiledProgram$Program" 32 ⟨"CompiledProgram$Program", "has", "(J)Z"⟩ : Cond) ∈ tB := tB_of (List.mem_append_right _ (List.mem_of_getElem? (i := 124) (by decide +kernel))) rfl
theorem mw_125 : (.instanceMethod ⟨"CompiledProgram$Program", "has", "(J)Z"⟩ : Cond) ∈ tB := tB_of (List.mem_append_right _ (List.mem_of_getElem? (i := 125) (by decide +kernel))) rfl
theorem mw_126 : (.selects "CompiledProgram$Program" ⟨"CompiledProgram$Program", "has", "(J)Z"⟩ ⟨"CompiledProgram$Program", "has", "(J)Z"⟩ : Cond) ∈ tB := tB_of (List.mem_append_right _ (List.mem_of_getElem? (i := 126) (by decide +kernel))) rfl
set_option maxRecDepth 100000 in
theorem mw_127 : (.code ⟨"CompiledProgram$Program", "has", "(J)Z"⟩ prog_8_method_3_code 3 (some FieldType.boolean) : Cond) ∈ tB := tB_of (List.mem_append_right _ (List.mem_of_getElem? (i := 127) rfl)) rfl
theorem mw_128 : (.methodLink "CompiledProgram$Form" 19 ⟨"CompiledProgram$Form", "isInstruction", "(J)Z"⟩ : Cond) ∈ tB := tB_of (List.mem_append_right _ (List.mem_of_getElem? (i := 128) (by decide +kernel))) rfl
theorem mw_129 : (.static ⟨"CompiledProgram$Form", "isInstruction", "(J)Z"⟩ : Cond) ∈ tB := tB_of (List.mem_append_right _ (List.mem_of_getElem? (i := 129) (by decide +kernel))) rfl
set_option maxRecDepth 100000 in
theorem mw_130 : (.code ⟨"CompiledProgram$Form", "isInstruction", "(J)Z"⟩ prog_5_method_6_code 2 (some FieldType.boolean) : Cond) ∈ tB := tB_of (List.mem_append_right _ (List.mem_of_getElem? (i := 130) rfl)) rfl
theorem mw_131 : (.methodLink "CompiledProgram$Form" 62 ⟨"CompiledProgram$Fields", "kind", "(J)I"⟩ : Cond) ∈ tB := tB_of (List.mem_append_right _ (List.mem_of_getElem? (i := 131) (by decide +kernel))) rfl
theorem mw_132 : (.static ⟨"CompiledProgram$Fields", "kind", "(J)I"⟩ : Cond) ∈ tB := tB_of (List.mem_append_right _ (List.mem_of_getElem? (i := 132) (by decide +kernel))) rfl
set_option maxRecDepth 100000 in
theorem mw_133 : (.code ⟨"CompiledProgram$Fields", "kind", "(J)I"⟩ prog_4_method_3_code 2 (some FieldType.int) : Cond) ∈ tB := tB_of (List.mem_append_right _ (List.mem_of_getElem? (i := 133) rfl)) rfl
theorem mw_134 : (.methodLink "CompiledProgram$Form" 65 ⟨"CompiledProgram$Form", "isFirstOfTwo", "(J)Z"⟩ : Cond) ∈ tB := tB_of (List.mem_append_right _ (List.mem_of_getElem? (i := 134) (by decide +kernel))) rfl
theorem mw_135 : (.static ⟨"CompiledProgram$Form", "isFirstOfTwo", "(J)Z"⟩ : Cond) ∈ tB := tB_of (List.mem_append_right _ (List.mem_of_getElem? (i := 135) (by decide +kernel))) rfl
set_option maxRecDepth 100000 in
theorem mw_136 : (.code ⟨"CompiledProgram$Form", "isFirstOfTwo", "(J)Z"⟩ prog_5_method_7_code 3 (some FieldType.boolean) : Cond) ∈ tB := tB_of (List.mem_append_right _ (List.mem_of_getElem? (i := 136) rfl)) rfl
theorem mw_137 : (.methodLink "CompiledProgram$Form" 92 ⟨"CompiledProgram$Fields", "source", "(J)I"⟩ : Cond) ∈ tB := tB_of (List.mem_append_right _ (List.mem_of_getElem? (i := 137) (by decide +kernel))) rfl
theorem mw_138 : (.static ⟨"CompiledProgram$Fields", "source", "(J)I"⟩ : Cond) ∈ tB := tB_of (List.mem_append_right _ (List.mem_of_getElem? (i := 138) (by decide +kernel))) rfl
set_option maxRecDepth 100000 in
theorem mw_139 : (.code ⟨"CompiledProgram$Fields", "source", "(J)I"⟩ prog_4_method_9_code 2 (some FieldType.int) : Cond) ∈ tB := tB_of (List.mem_append_right _ (List.mem_of_getElem? (i := 139) rfl)) rfl
theorem mw_140 : (.methodLink "CompiledProgram$Form" 25 ⟨"CompiledProgram$Fields", "isTwoPlaces", "(J)Z"⟩ : Cond) ∈ tB := tB_of (List.mem_append_right _ (List.mem_of_getElem? (i := 140) (by decide +kernel))) rfl
theorem mw_141 : (.static ⟨"CompiledProgram$Fields", "isTwoPlaces", "(J)Z"⟩ : Cond) ∈ tB := tB_of (List.mem_append_right _ (List.mem_of_getElem? (i := 141) (by decide +kernel))) rfl
set_option maxRecDepth 100000 in
theorem mw_142 : (.code ⟨"CompiledProgram$Fields", "isTwoPlaces", "(J)Z"⟩ prog_4_method_12_code 2 (some FieldType.boolean) : Cond) ∈ tB := tB_of (List.mem_append_right _ (List.mem_of_getElem? (i := 142) rfl)) rfl
theorem mw_143 : (.methodLink "CompiledProgram$Fields" 9 ⟨"CompiledProgram$Fields", "code", "(J)I"⟩ : Cond) ∈ tB := tB_of (List.mem_append_right _ (List.mem_of_getElem? (i := 143) (by decide +kernel))) rfl
theorem mw_144 : (.static ⟨"CompiledProgram$Fields", "code", "(J)I"⟩ : Cond) ∈ tB := tB_of (List.mem_append_right _ (List.mem_of_getElem? (i := 144) (by decide +kernel))) rfl
set_option maxRecDepth 100000 in
theorem mw_145 : (.code ⟨"CompiledProgram$Fields", "code", "(J)I"⟩ prog_4_method_2_code 2 (some FieldType.int) : Cond) ∈ tB := tB_of (List.mem_append_right _ (List.mem_of_getElem? (i := 145) rfl)) rfl
theorem mw_146 : (.methodLink "CompiledProgram$Form" 95 ⟨"CompiledProgram$Fields", "target", "(J)I"⟩ : Cond) ∈ tB := tB_of (List.mem_append_right _ (List.mem_of_getElem? (i := 146) (by decide +kernel))) rfl
theorem mw_147 : (.static ⟨"CompiledProgram$Fields", "target", "(J)I"⟩ : Cond) ∈ tB := tB_of (List.mem_append_right _ (List.mem_of_getElem? (i := 147) (by decide +kernel))) rfl
set_option maxRecDepth 100000 in
theorem mw_148 : (.code ⟨"CompiledProgram$Fields", "target", "(J)I"⟩ prog_4_method_8_code 2 (some FieldType.int) : Cond) ∈ tB := tB_of (List.mem_append_right _ (List.mem_of_getElem? (i := 148) rfl)) rfl
theorem mw_149 : (.methodLink "CompiledProgram$Form" 98 ⟨"CompiledProgram$Fields", "offset", "(J)I"⟩ : Cond) ∈ tB := tB_of (List.mem_append_right _ (List.mem_of_getElem? (i := 149) (by decide +kernel))) rfl
theorem mw_150 : (.static ⟨"CompiledProgram$Fields", "offset", "(J)I"⟩ : Cond) ∈ tB := tB_of (List.mem_append_right _ (List.mem_of_getElem? (i := 150) (by decide +kernel))) rfl
set_option maxRecDepth 100000 in
theorem mw_151 : (.code ⟨"CompiledProgram$Fields", "offset", "(J)I"⟩ prog_4_method_10_code 2 (some FieldType.int) : Cond) ∈ tB := tB_of (List.mem_append_right _ (List.mem_of_getElem? (i := 151) rfl)) rfl
theorem mw_152 : (.methodLink "CompiledProgram$Form" 101 ⟨"CompiledProgram$Fields", "immediate", "(J)I"⟩ : Cond) ∈ tB := tB_of (List.mem_append_right _ (List.mem_of_getElem? (i := 152) (by decide +kernel))) rfl
theorem mw_153 : (.static ⟨"CompiledProgram$Fields", "immediate", "(J)I"⟩ : Cond) ∈ tB := tB_of (List.mem_append_right _ (List.mem_of_getElem? (i := 153) (by decide +kernel))) rfl
set_option maxRecDepth 100000 in
theorem mw_154 : (.code ⟨"CompiledProgram$Fields", "immediate", "(J)I"⟩ prog_4_method_11_code 2 (some FieldType.int) : Cond) ∈ tB := tB_of (List.mem_append_right _ (List.mem_of_getElem? (i := 154) rfl)) rfl
theorem mw_155 : (.methodLink "CompiledProgram$Form" 68 ⟨"CompiledProgram$Form", "isRead", "(J)Z"⟩ : Cond) ∈ tB := tB_of (List.mem_append_right _ (List.mem_of_getElem? (i := 155) (by decide +kernel))) rfl
theorem mw_156 : (.static ⟨"CompiledProgram$Form", "isRead", "(J)Z"⟩ : Cond) ∈ tB := tB_of (List.mem_append_right _ (List.mem_of_getElem? (i := 156) (by decide +kernel))) rfl
set_option maxRecDepth 100000 in
theorem mw_157 : (.code ⟨"CompiledProgram$Form", "isRead", "(J)Z"⟩ prog_5_method_9_code 3 (some FieldType.boolean) : Cond) ∈ tB := tB_of (List.mem_append_right _ (List.mem_of_getElem? (i := 157) rfl)) rfl
theorem mw_158 : (.methodLink "CompiledProgram$Form" 74 ⟨"CompiledProgram$Fields", "mode", "(J)I"⟩ : Cond) ∈ tB := tB_of (List.mem_append_right _ (List.mem_of_getElem? (i := 158) (by decide +kernel))) rfl
theorem mw_159 : (.static ⟨"CompiledProgram$Fields", "mode", "(J)I"⟩ : Cond) ∈ tB := tB_of (List.mem_append_right _ (List.mem_of_getElem? (i := 159) (by decide +kernel))) rfl
set_option maxRecDepth 100000 in
theorem mw_160 : (.code ⟨"CompiledProgram$Fields", "mode", "(J)I"⟩ prog_4_method_6_code 2 (some FieldType.int) : Cond) ∈ tB := tB_of (List.mem_append_right _ (List.mem_of_getElem? (i := 160) rfl)) rfl
theorem mw_161 : (.methodLink "CompiledProgram$Form" 104 ⟨"CompiledProgram$Fields", "size", "(J)I"⟩ : Cond) ∈ tB := tB_of (List.mem_append_right _ (List.mem_of_getElem? (i := 161) (by decide +kernel))) rfl
theorem mw_162 : (.static ⟨"CompiledProgram$Fields", "size", "(J)I"⟩ : Cond) ∈ tB := tB_of (List.mem_append_right _ (List.mem_of_getElem? (i := 162) (by decide +kernel))) rfl
set_option maxRecDepth 100000 in
theorem mw_163 : (.code ⟨"CompiledProgram$Fields", "size", "(J)I"⟩ prog_4_method_7_code 2 (some FieldType.int) : Cond) ∈ tB := tB_of (List.mem_append_right _ (List.mem_of_getElem? (i := 163) rfl)) rfl
theorem mw_164 : (.methodLink "CompiledProgram$Form" 71 ⟨"CompiledProgram$Form", "isWriteOfNumber", "(J)Z"⟩ : Cond) ∈ tB := tB_of (List.mem_append_right _ (List.mem_of_getElem? (i := 164) (by decide +kernel))) rfl
theorem mw_165 : (.static ⟨"CompiledProgram$Form", "isWriteOfNumber", "(J)Z"⟩ : Cond) ∈ tB := tB_of (List.mem_append_right _ (List.mem_of_getElem? (i := 165) (by decide +kernel))) rfl
set_option maxRecDepth 100000 in
theorem mw_166 : (.code ⟨"CompiledProgram$Form", "isWriteOfNumber", "(J)Z"⟩ prog_5_method_10_code 2 (some FieldType.boolean) : Cond) ∈ tB := tB_of (List.mem_append_right _ (List.mem_of_getElem? (i := 166) rfl)) rfl
theorem mw_167 : (.methodLink "CompiledProgram$Form" 77 ⟨"CompiledProgram$Form", "isExchange", "(J)Z"⟩ : Cond) ∈ tB := tB_of (List.mem_append_right _ (List.mem_of_getElem? (i := 167) (by decide +kernel))) rfl
theorem mw_168 : (.static ⟨"CompiledProgram$Form", "isExchange", "(J)Z"⟩ : Cond) ∈ tB := tB_of (List.mem_append_right _ (List.mem_of_getElem? (i := 168) (by decide +kernel))) rfl
set_option maxRecDepth 100000 in
theorem mw_169 : (.code ⟨"CompiledProgram$Form", "isExchange", "(J)Z"⟩ prog_5_method_12_code 2 (some FieldType.boolean) : Cond) ∈ tB := tB_of (List.mem_append_right _ (List.mem_of_getElem? (i := 169) rfl)) rfl
theorem mw_170 : (.methodLink "CompiledProgram$Form" 107 ⟨"CompiledProgram$Exchange", "isKnown", "(I)Z"⟩ : Cond) ∈ tB := tB_of (List.mem_append_right _ (List.mem_of_getElem? (i := 170) (by decide +kernel))) rfl
theorem mw_171 : (.static ⟨"CompiledProgram$Exchange", "isKnown", "(I)Z"⟩ : Cond) ∈ tB := tB_of (List.mem_append_right _ (List.mem_of_getElem? (i := 171) (by decide +kernel))) rfl
set_option maxRecDepth 100000 in
theorem mw_172 : (.code ⟨"CompiledProgram$Exchange", "isKnown", "(I)Z"⟩ prog_3_method_2_code 1 (some FieldType.boolean) : Cond) ∈ tB := tB_of (List.mem_append_right _ (List.mem_of_getElem? (i := 172) rfl)) rfl
theorem mw_173 : (.methodLink "CompiledProgram$Form" 113 ⟨"CompiledProgram$Exchange", "changesSource", "(I)Z"⟩ : Cond) ∈ tB := tB_of (List.mem_append_right _ (List.mem_of_getElem? (i := 173) (by decide +kernel))) rfl
theorem mw_174 : (.static ⟨"CompiledProgram$Exchange", "changesSource", "(I)Z"⟩ : Cond) ∈ tB := tB_of (List.mem_append_right _ (List.mem_of_getElem? (i := 174) (by decide +kernel))) rfl
set_option maxRecDepth 100000 in
theorem mw_175 : (.code ⟨"CompiledProgram$Exchange", "changesSource", "(I)Z"⟩ prog_3_method_3_code 1 (some FieldType.boolean) : Cond) ∈ tB := tB_of (List.mem_append_right _ (List.mem_of_getElem? (i := 175) rfl)) rfl
theorem mw_176 : (.methodLink "CompiledProgram$Form" 80 ⟨"CompiledProgram$Form", "isWriteOfRegister", "(J)Z"⟩ : Cond) ∈ tB := tB_of (List.mem_append_right _ (List.mem_of_getElem? (i := 176) (by decide +kernel))) rfl
theorem mw_177 : (.static ⟨"CompiledProgram$Form", "isWriteOfRegister", "(J)Z"⟩ : Cond) ∈ tB := tB_of (List.mem_append_right _ (List.mem_of_getElem? (i := 177) (by decide +kernel))) rfl
set_option maxRecDepth 100000 in
theorem mw_178 : (.code ⟨"CompiledProgram$Form", "isWriteOfRegister", "(J)Z"⟩ prog_5_method_11_code 2 (some FieldType.boolean) : Cond) ∈ tB := tB_of (List.mem_append_right _ (List.mem_of_getElem? (i := 178) rfl)) rfl
theorem mw_179 : (.methodLink "CompiledProgram$Form" 55 ⟨"CompiledProgram$Fields", "jumpsPerhaps", "(J)Z"⟩ : Cond) ∈ tB := tB_of (List.mem_append_right _ (List.mem_of_getElem? (i := 179) (by decide +kernel))) rfl
theorem mw_180 : (.static ⟨"CompiledProgram$Fields", "jumpsPerhaps", "(J)Z"⟩ : Cond) ∈ tB := tB_of (List.mem_append_right _ (List.mem_of_getElem? (i := 180) (by decide +kernel))) rfl
set_option maxRecDepth 100000 in
theorem mw_181 : (.code ⟨"CompiledProgram$Fields", "jumpsPerhaps", "(J)Z"⟩ prog_4_method_16_code 4 (some FieldType.boolean) : Cond) ∈ tB := tB_of (List.mem_append_right _ (List.mem_of_getElem? (i := 181) rfl)) rfl
theorem mw_182 : (.methodLink "CompiledProgram$Fields" 15 ⟨"CompiledProgram$Fields", "operation", "(J)I"⟩ : Cond) ∈ tB := tB_of (List.mem_append_right _ (List.mem_of_getElem? (i := 182) (by decide +kernel))) rfl
theorem mw_183 : (.static ⟨"CompiledProgram$Fields", "operation", "(J)I"⟩ : Cond) ∈ tB := tB_of (List.mem_append_right _ (List.mem_of_getElem? (i := 183) (by decide +kernel))) rfl
set_option maxRecDepth 100000 in
theorem mw_184 : (.code ⟨"CompiledProgram$Fields", "operation", "(J)I"⟩ prog_4_method_4_code 2 (some FieldType.int) : Cond) ∈ tB := tB_of (List.mem_append_right _ (List.mem_of_getElem? (i := 184) rfl)) rfl
theorem mw_185 : (.methodLink "CompiledProgram$Fields" 18 ⟨"CompiledProgram$Fields", "kind", "(J)I"⟩ : Cond) ∈ tB := tB_of (List.mem_append_right _ (List.mem_of_getElem? (i := 185) (by decide +kernel))) rfl
theorem mw_186 : (.methodLink "CompiledProgram$Form" 83 ⟨"CompiledProgram$Form", "isPerhapsJump", "(J)Z"⟩ : Cond) ∈ tB := tB_of (List.mem_append_right _ (List.mem_of_getElem? (i := 186) (by decide +kernel))) rfl
theorem mw_187 : (.static ⟨"CompiledProgram$Form", "isPerhapsJump", "(J)Z"⟩ : Cond) ∈ tB := tB_of (List.mem_append_right _ (List.mem_of_getElem? (i := 187) (by decide +kernel))) rfl
set_option maxRecDepth 100000 in
theorem mw_188 : (.code ⟨"CompiledProgram$Form", "isPerhapsJump", "(J)Z"⟩ prog_5_method_13_code 2 (some FieldType.boolean) : Cond) ∈ tB := tB_of (List.mem_append_right _ (List.mem_of_getElem? (i := 188) rfl)) rfl
theorem mw_189 : (.methodLink "CompiledProgram$Form" 116 ⟨"CompiledProgram$Form", "hasOperand", "(J)Z"⟩ : Cond) ∈ tB := tB_of (List.mem_append_right _ (List.mem_of_getElem? (i := 189) (by decide +kernel))) rfl
theorem mw_190 : (.static ⟨"CompiledProgram$Form", "hasOperand", "(J)Z"⟩ : Cond) ∈ tB := tB_of (List.mem_append_right _ (List.mem_of_getElem? (i := 190) (by decide +kernel))) rfl
set_option maxRecDepth 100000 in
theorem mw_191 : (.code ⟨"CompiledProgram$Form", "hasOperand", "(J)Z"⟩ prog_5_method_15_code 2 (some FieldType.boolean) : Cond) ∈ tB := tB_of (List.mem_append_right _ (List.mem_of_getElem? (i := 191) rfl)) rfl
theorem mw_192 : (.methodLink "CompiledProgram$Form" 119 ⟨"CompiledProgram$Fields", "usesSource", "(J)Z"⟩ : Cond) ∈ tB := tB_of (List.mem_append_right _ (List.mem_of_getElem? (i := 192) (by decide +kernel))) rfl
theorem mw_193 : (.static ⟨"CompiledProgram$Fields", "usesSource", "(J)Z"⟩ : Cond) ∈ tB := tB_of (List.mem_append_right _ (List.mem_of_getElem? (i := 193) (by decide +kernel))) rfl
set_option maxRecDepth 100000 in
theorem mw_194 : (.code ⟨"CompiledProgram$Fields", "usesSource", "(J)Z"⟩ prog_4_method_5_code 2 (some FieldType.boolean) : Cond) ∈ tB := tB_of (List.mem_append_right _ (List.mem_of_getElem? (i := 194) rfl)) rfl
theorem mw_195 : (.constantLong "CompiledProgram$Fields" 7 8 : Cond) ∈ tB := tB_of (List.mem_append_right _ (List.mem_of_getElem? (i := 195) (by decide +kernel))) rfl
theorem mw_196 : (.methodLink "CompiledProgram$Form" 86 ⟨"CompiledProgram$Form", "isCallOrExitOrJump", "(J)Z"⟩ : Cond) ∈ tB := tB_of (List.mem_append_right _ (List.mem_of_getElem? (i := 196) (by decide +kernel))) rfl
theorem mw_197 : (.static ⟨"CompiledProgram$Form", "isCallOrExitOrJump", "(J)Z"⟩ : Cond) ∈ tB := tB_of (List.mem_append_right _ (List.mem_of_getElem? (i := 197) (by decide +kernel))) rfl
set_option maxRecDepth 100000 in
theorem mw_198 : (.code ⟨"CompiledProgram$Form", "isCallOrExitOrJump", "(J)Z"⟩ prog_5_method_14_code 2 (some FieldType.boolean) : Cond) ∈ tB := tB_of (List.mem_append_right _ (List.mem_of_getElem? (i := 198) rfl)) rfl
theorem mw_199 : (.methodLink "CompiledProgram$Form" 58 ⟨"CompiledProgram$Fields", "code", "(J)I"⟩ : Cond) ∈ tB := tB_of (List.mem_append_right _ (List.mem_of_getElem? (i := 199) (by decide +kernel))) rfl
theorem mw_200 : (.methodLink "CompiledProgram$Form" 89 ⟨"CompiledProgram$Form", "isArithmetic", "(J)Z"⟩ : Cond) ∈ tB := tB_of (List.mem_append_right _ (List.mem_of_getElem? (i := 200) (by decide +kernel))) rfl
theorem mw_201 : (.static ⟨"CompiledProgram$Form", "isArithmetic", "(J)Z"⟩ : Cond) ∈ tB := tB_of (List.mem_append_right _ (List.mem_of_getElem? (i := 201) (by decide +kernel))) rfl
set_option maxRecDepth 100000 in
theorem mw_202 : (.code ⟨"CompiledProgram$Form", "isArithmetic", "(J)Z"⟩ prog_5_method_16_code 2 (some FieldType.boolean) : Cond) ∈ tB := tB_of (List.mem_append_right _ (List.mem_of_getElem? (i := 202) rfl)) rfl
theorem mw_203 : (.methodLink "CompiledProgram$Form" 122 ⟨"CompiledProgram$Fields", "operation", "(J)I"⟩ : Cond) ∈ tB := tB_of (List.mem_append_right _ (List.mem_of_getElem? (i := 203) (by decide +kernel))) rfl
theorem mw_204 : (.methodLink "CompiledProgram$Form" 125 ⟨"CompiledProgram$Form", "isMoveOffset", "(J)Z"⟩ : Cond) ∈ tB := tB_of (List.mem_append_right _ (List.mem_of_getElem? (i := 204) (by decide +kernel))) rfl
theorem mw_205 : (.static ⟨"CompiledProgram$Form", "isMoveOffset", "(J)Z"⟩ : Cond) ∈ tB := tB_of (List.mem_append_right _ (List.mem_of_getElem? (i := 205) (by decide +kernel))) rfl
set_option maxRecDepth 100000 in
theorem mw_206 : (.code ⟨"CompiledProgram$Form", "isMoveOffset", "(J)Z"⟩ prog_5_method_17_code 2 (some FieldType.boolean) : Cond) ∈ tB := tB_of (List.mem_append_right _ (List.mem_of_getElem? (i := 206) rfl)) rfl
theorem mw_207 : (.methodLink "CompiledProgram$Form" 128 ⟨"CompiledProgram$Form", "isTurning", "(J)Z"⟩ : Cond) ∈ tB := tB_of (List.mem_append_right _ (List.mem_of_getElem? (i := 207) (by decide +kernel))) rfl
theorem mw_208 : (.static ⟨"CompiledProgram$Form", "isTurning", "(J)Z"⟩ : Cond) ∈ tB := tB_of (List.mem_append_right _ (List.mem_of_getElem? (i := 208) (by decide +kernel))) rfl
set_option maxRecDepth 100000 in
theorem mw_209 : (.code ⟨"CompiledProgram$Form", "isTurning", "(J)Z"⟩ prog_5_method_18_code 3 (some FieldType.boolean) : Cond) ∈ tB := tB_of (List.mem_append_right _ (List.mem_of_getElem? (i := 209) rfl)) rfl
theorem mw_210 : (.methodLink "CompiledProgram$Form" 30 ⟨"CompiledProgram$Program", "has", "(J)Z"⟩ : Cond) ∈ tB := tB_of (List.mem_append_right _ (List.mem_of_getElem? (i := 210) (by decide +kernel))) rfl
theorem mw_211 : (.methodLink "CompiledProgram$Form" 33 ⟨"CompiledProgram$Form", "isSecondOf", "(JJ)Z"⟩ : Cond) ∈ tB := tB_of (List.mem_append_right _ (List.mem_of_getElem? (i := 211) (by decide +kernel))) rfl
theorem mw_212 : (.static ⟨"CompiledProgram$Form", "isSecondOf", "(JJ)Z"⟩ : Cond) ∈ tB := tB_of (List.mem_append_right _ (List.mem_of_getElem? (i := 212) (by decide +kernel))) rfl
set_option maxRecDepth 100000 in
theorem mw_213 : (.code ⟨"CompiledProgram$Form", "isSecondOf", "(JJ)Z"⟩ prog_5_method_8_code 5 (some FieldType.boolean) : Cond) ∈ tB := tB_of (List.mem_append_right _ (List.mem_of_getElem? (i := 213) rfl)) rfl
theorem mw_214 : (.methodLink "CompiledProgram" 73 ⟨"CompiledProgram$Form", "firstGoingWrong", "(LCompiledProgram$Program;)I"⟩ : Cond) ∈ tB := tB_of (List.mem_append_right _ (List.mem_of_getElem? (i := 214) (by decide +kernel))) rfl
theorem mw_215 : (.static ⟨"CompiledProgram$Form", "firstGoingWrong", "(LCompiledProgram$Program;)I"⟩ : Cond) ∈ tB := tB_of (List.mem_append_right _ (List.mem_of_getElem? (i := 215) (by decide +kernel))) rfl
set_option maxRecDepth 100000 in
theorem mw_216 : (.code ⟨"CompiledProgram$Form", "firstGoingWrong", "(LCompiledProgram$Program;)I"⟩ prog_5_method_3_code 4 (some FieldType.int) : Cond) ∈ tB := tB_of (List.mem_append_right _ (List.mem_of_getElem? (i := 216) rfl)) rfl
theorem mw_217 : (.methodLink "CompiledProgram$Form" 37 ⟨"CompiledProgram$Form", "goesOnRightly", "(LCompiledProgram$Program;IJ)Z"⟩ : Cond) ∈ tB := tB_of (List.mem_append_right _ (List.mem_of_getElem? (i := 217) (by decide +kernel))) rfl
theorem mw_218 : (.static ⟨"CompiledProgram$Form", "goesOnRightly", "(LCompiledProgram$Program;IJ)Z"⟩ : Cond) ∈ tB := tB_of (List.mem_append_right _ (List.mem_of_getElem? (i := 218) (by decide +kernel))) rfl
set_option maxRecDepth 100000 in
theorem mw_219 : (.code ⟨"CompiledProgram$Form", "goesOnRightly", "(LCompiledProgram$Program;IJ)Z"⟩ prog_5_method_4_code 4 (some FieldType.boolean) : Cond) ∈ tB := tB_of (List.mem_append_right _ (List.mem_of_getElem? (i := 219) rfl)) rfl
theorem mw_220 : (.methodLink "CompiledProgram$Form" 41 ⟨"CompiledProgram$Fields", "isExit", "(J)Z"⟩ : Cond) ∈ tB := tB_of (List.mem_append_right _ (List.mem_of_getElem? (i := 220) (by decide +kernel))) rfl
theorem mw_221 : (.static ⟨"CompiledProgram$Fields", "isExit", "(J)Z"⟩ : Cond) ∈ tB := tB_of (List.mem_append_right _ (List.mem_of_getElem? (i := 221) (by decide +kernel))) rfl
set_option maxRecDepth 100000 in
theorem mw_222 : (.code ⟨"CompiledProgram$Fields", "isExit", "(J)Z"⟩ prog_4_method_13_code 2 (some FieldType.boolean) : Cond) ∈ tB := tB_of (List.mem_append_right _ (List.mem_of_getElem? (i := 222) rfl)) rfl
theorem mw_223 : (.methodLink "CompiledProgram$Form" 44 ⟨"CompiledProgram$Fields", "jumpsAlways", "(J)Z"⟩ : Cond) ∈ tB := tB_of (List.mem_append_right _ (List.mem_of_getElem? (i := 223) (by decide +kernel))) rfl
theorem mw_224 : (.static ⟨"CompiledProgram$Fields", "jumpsAlways", "(J)Z"⟩ : Cond) ∈ tB := tB_of (List.mem_append_right _ (List.mem_of_getElem? (i := 224) (by decide +kernel))) rfl
set_option maxRecDepth 100000 in
theorem mw_225 : (.code ⟨"CompiledProgram$Fields", "jumpsAlways", "(J)Z"⟩ prog_4_method_15_code 2 (some FieldType.boolean) : Cond) ∈ tB := tB_of (List.mem_append_right _ (List.mem_of_getElem? (i := 225) rfl)) rfl
theorem mw_226 : (.methodLink "CompiledProgram$Form" 47 ⟨"CompiledProgram$Fields", "jumpFrom", "(IJ)J"⟩ : Cond) ∈ tB := tB_of (List.mem_append_right _ (List.mem_of_getElem? (i := 226) (by decide +kernel))) rfl
theorem mw_227 : (.static ⟨"CompiledProgram$Fields", "jumpFrom", "(IJ)J"⟩ : Cond) ∈ tB := tB_of (List.mem_append_right _ (List.mem_of_getElem? (i := 227) (by decide +kernel))) rfl
set_option maxRecDepth 100000 in
theorem mw_228 : (.code ⟨"CompiledProgram$Fields", "jumpFrom", "(IJ)J"⟩ prog_4_method_17_code 3 (some FieldType.long) : Cond) ∈ tB := tB_of (List.mem_append_right _ (List.mem_of_getElem? (i := 228) rfl)) rfl
theorem mw_229 : (.methodLink "CompiledProgram$Fields" 21 ⟨"CompiledProgram$Fields", "immediate", "(J)I"⟩ : Cond) ∈ tB := tB_of (List.mem_append_right _ (List.mem_of_getElem? (i := 229) (by decide +kernel))) rfl
theorem mw_230 : (.methodLink "CompiledProgram$Fields" 24 ⟨"CompiledProgram$Fields", "offset", "(J)I"⟩ : Cond) ∈ tB := tB_of (List.mem_append_right _ (List.mem_of_getElem? (i := 230) (by decide +kernel))) rfl
theorem mw_231 : (.methodLink "CompiledProgram$Form" 51 ⟨"CompiledProgram$Form", "isStart", "(LCompiledProgram$Program;J)Z"⟩ : Cond) ∈ tB := tB_of (List.mem_append_right _ (List.mem_of_getElem? (i := 231) (by decide +kernel))) rfl
theorem mw_232 : (.static ⟨"CompiledProgram$Form", "isStart", "(LCompiledProgram$Program;J)Z"⟩ : Cond) ∈ tB := tB_of (List.mem_append_right _ (List.mem_of_getElem? (i := 232) (by decide +kernel))) rfl
set_option maxRecDepth 100000 in
theorem mw_233 : (.code ⟨"CompiledProgram$Form", "isStart", "(LCompiledProgram$Program;J)Z"⟩ prog_5_method_5_code 3 (some FieldType.boolean) : Cond) ∈ tB := tB_of (List.mem_append_right _ (List.mem_of_getElem? (i := 233) rfl)) rfl
theorem mw_234 : (.methodLink "CompiledProgramLaw" 65 ⟨"CompiledProgram", "places", "()I"⟩ : Cond) ∈ tB := tB_of (List.mem_append_right _ (List.mem_of_getElem? (i := 234) (by decide +kernel))) rfl
theorem mw_235 : (.instanceMethod ⟨"CompiledProgram", "places", "()I"⟩ : Cond) ∈ tB := tB_of (List.mem_append_right _ (List.mem_of_getElem? (i := 235) (by decide +kernel))) rfl
theorem mw_236 : (.selects "CompiledProgram" ⟨"CompiledProgram", "places", "()I"⟩ ⟨"CompiledProgram", "places", "()I"⟩ : Cond) ∈ tB := tB_of (List.mem_append_right _ (List.mem_of_getElem? (i := 236) (by decide +kernel))) rfl
set_option maxRecDepth 100000 in
theorem mw_237 : (.code ⟨"CompiledProgram", "places", "()I"⟩ prog_1_method_5_code 1 (some FieldType.int) : Cond) ∈ tB := tB_of (List.mem_append_right _ (List.mem_of_getElem? (i := 237) rfl)) rfl
theorem mw_238 : (.methodLink "CompiledProgramLaw" 90 ⟨"CompiledProgram", "place", "()I"⟩ : Cond) ∈ tB := tB_of (List.mem_append_right _ (List.mem_of_getElem? (i := 238) (by decide +kernel))) rfl
theorem mw_239 : (.instanceMethod ⟨"CompiledProgram", "place", "()I"⟩ : Cond) ∈ tB := tB_of (List.mem_append_right _ (List.mem_of_getElem? (i := 239) (by decide +kernel))) rfl
theorem mw_240 : (.selects "CompiledProgram" ⟨"CompiledProgram", "place", "()I"⟩ ⟨"CompiledProgram", "place", "()I"⟩ : Cond) ∈ tB := tB_of (List.mem_append_right _ (List.mem_of_getElem? (i := 240) (by decide +kernel))) rfl
set_option maxRecDepth 100000 in
theorem mw_241 : (.code ⟨"CompiledProgram", "place", "()I"⟩ prog_1_method_11_code 1 (some FieldType.int) : Cond) ∈ tB := tB_of (List.mem_append_right _ (List.mem_of_getElem? (i := 241) rfl)) rfl
theorem mw_242 : (.methodLink "CompiledProgramLaw" 94 ⟨"CompiledProgram", "steps", "()I"⟩ : Cond) ∈ tB := tB_of (List.mem_append_right _ (List.mem_of_getElem? (i := 242) (by decide +kernel))) rfl
theorem mw_243 : (.instanceMethod ⟨"CompiledProgram", "steps", "()I"⟩ : Cond) ∈ tB := tB_of (List.mem_append_right _ (List.mem_of_getElem? (i := 243) (by decide +kernel))) rfl
theorem mw_244 : (.selects "CompiledProgram" ⟨"CompiledProgram", "steps", "()I"⟩ ⟨"CompiledProgram", "steps", "()I"⟩ : Cond) ∈ tB := tB_of (List.mem_append_right _ (List.mem_of_getElem? (i := 244) (by decide +kernel))) rfl
set_option maxRecDepth 100000 in
theorem mw_245 : (.code ⟨"CompiledProgram", "steps", "()I"⟩ prog_1_method_12_code 1 (some FieldType.int) : Cond) ∈ tB := tB_of (List.mem_append_right _ (List.mem_of_getElem? (i := 245) rfl)) rfl
theorem mw_246 : (.methodLink "CompiledProgramLaw" 47 ⟨"CompiledProgramLaw", "feed", "(LCompiledProgram;IIIII[J)I"⟩ : Cond) ∈ tB := tB_of (List.mem_append_right _ (List.mem_of_getElem? (i := 246) (by decide +kernel))) rfl
theorem mw_247 : (.static ⟨"CompiledProgramLaw", "feed", "(LCompiledProgram;IIIII[J)I"⟩ : Cond) ∈ tB := tB_of (List.mem_append_right _ (List.mem_of_getElem? (i := 247) (by decide +kernel))) rfl
set_option maxRecDepth 100000 in
theorem mw_248 : (.codeWith ⟨"CompiledProgramLaw", "feed", "(LCompiledProgram;IIIII[J)I"⟩ method_3_code 8 (some FieldType.int) [(0, 16, 19, 13)] : Cond) ∈ tB := tB_of (List.mem_append_right _ (List.mem_of_getElem? (i := 248) rfl)) rfl
theorem mw_249 : (.classLink "CompiledProgramLaw" 13 "java/lang/IllegalStateException" : Cond) ∈ tB := tB_of (List.mem_append_right _ (List.mem_of_getElem? (i := 249) (by decide +kernel))) rfl
theorem mw_250 : (.methodLink "CompiledProgramLaw" 7 ⟨"CompiledProgram", "feed", "(IIIII)I"⟩ : Cond) ∈ tB := tB_of (List.mem_append_right _ (List.mem_of_getElem? (i := 250) (by decide +kernel))) rfl
theorem mw_251 : (.instanceMethod ⟨"CompiledProgram", "feed", "(IIIII)I"⟩ : Cond) ∈ tB := tB_of (List.mem_append_right _ (List.mem_of_getElem? (i := 251) (by decide +kernel))) rfl
theorem mw_252 : (.selects "CompiledProgram" ⟨"CompiledProgram", "feed", "(IIIII)I"⟩ ⟨"CompiledProgram", "feed", "(IIIII)I"⟩ : Cond) ∈ tB := tB_of (List.mem_append_right _ (List.mem_of_getElem? (i := 252) (by decide +kernel))) rfl
set_option maxRecDepth 100000 in
theorem mw_253 : (.code ⟨"CompiledProgram", "feed", "(IIIII)I"⟩ prog_1_method_2_code 6 (some FieldType.int) : Cond) ∈ tB := tB_of (List.mem_append_right _ (List.mem_of_getElem? (i := 253) rfl)) rfl
theorem mw_254 : (.methodLink "CompiledProgram" 37 ⟨"CompiledProgram$Tape", "hasRoom", "()Z"⟩ : Cond) ∈ tB := tB_of (List.mem_append_right _ (List.mem_of_getElem? (i := 254) (by decide +kernel))) rfl
theorem mw_255 : (.instanceMethod ⟨"CompiledProgram$Tape", "hasRoom", "()Z"⟩ : Cond) ∈ tB := tB_of (List.mem_append_right _ (List.mem_of_getElem? (i := 255) (by decide +kernel))) rfl
theorem mw_256 : (.selects "CompiledProgram$Tape" ⟨"CompiledProgram$Tape", "hasRoom", "()Z"⟩ ⟨"CompiledProgram$Tape", "hasRoom", "()Z"⟩ : Cond) ∈ tB := tB_of (List.mem_append_right _ (List.mem_of_getElem? (i := 256) (by decide +kernel))) rfl
set_option maxRecDepth 100000 in
theorem mw_257 : (.code ⟨"CompiledProgram$Tape", "hasRoom", "()Z"⟩ prog_9_method_2_code 1 (some FieldType.boolean) : Cond) ∈ tB := tB_of (List.mem_append_right _ (List.mem_of_getElem? (i := 257) rfl)) rfl
theorem mw_258 : (.constant "CompiledProgram$Tape" 17 32768 : Cond) ∈ tB := tB_of (List.mem_append_right _ (List.mem_of_getElem? (i := 258) (by decide +kernel))) rfl
theorem mw_259 : (.classLink "CompiledProgram" 41 "java/lang/IllegalStateException" : Cond) ∈ tB := tB_of (List.mem_append_right _ (List.mem_of_getElem? (i := 259) (by decide +kernel))) rfl
theorem mw_260 : (.instantiable "java/lang/IllegalStateException" 6 : Cond) ∈ tB := tB_of (List.mem_append_right _ (List.mem_of_getElem? (i := 260) (by decide +kernel))) rfl
theorem mw_268 : (.selects "java/lang/IllegalStateException" ⟨"java/lang/Throwable", "fillInStackTrace", "(I)Ljava/lang/Throwable;"⟩ ⟨"java/lang/Throwable", "fillInStackTrace", "(I)Ljava/lang/Throwable;"⟩ : Cond) ∈ tB := tB_of (List.mem_append_right _ (List.mem_of_getElem? (i := 268) (by decide +kernel))) rfl
theorem mw_269 : (.selects "java/lang/IllegalStateException" ⟨"java/lang/Throwable", "fillInStackTrace", "()Ljava/lang/Throwable;"⟩ ⟨"java/lang/Throwable", "fillInStackTrace", "()Ljava/lang/Throwable;"⟩ : Cond) ∈ tB := tB_of (List.mem_append_right _ (List.mem_of_getElem? (i := 269) (by decide +kernel))) rfl
theorem mw_270 : (.lays "java/lang/IllegalStateException" "java/lang/Throwable" "cause" "Ljava/lang/Throwable;" : Cond) ∈ tB := tB_of (List.mem_append_right _ (List.mem_of_getElem? (i := 270) (by decide +kernel))) rfl
theorem mw_271 : (.lays "java/lang/Throwable" "java/lang/Throwable" "cause" "Ljava/lang/Throwable;" : Cond) ∈ tB := tB_of (List.mem_append_right _ (List.mem_of_getElem? (i := 271) (by decide +kernel))) rfl
theorem mw_272 : (.lays "java/lang/IllegalStateException" "java/lang/Throwable" "stackTrace" "[Ljava/lang/StackTraceElement;" : Cond) ∈ tB := tB_of (List.mem_append_right _ (List.mem_of_getElem? (i := 272) (by decide +kernel))) rfl
theorem mw_273 : (.lays "java/lang/Throwable" "java/lang/Throwable" "stackTrace" "[Ljava/lang/StackTraceElement;" : Cond) ∈ tB := tB_of (List.mem_append_right _ (List.mem_of_getElem? (i := 273) (by decide +kernel))) rfl
theorem mw_274 : (.lays "java/lang/IllegalStateException" "java/lang/Throwable" "suppressedExceptions" "Ljava/util/List;" : Cond) ∈ tB := tB_of (List.mem_append_right _ (List.mem_of_getElem? (i := 274) (by decide +kernel))) rfl
theorem mw_275 : (.lays "java/lang/Throwable" "java/lang/Throwable" "suppressedExceptions" "Ljava/util/List;" : Cond) ∈ tB := tB_of (List.mem_append_right _ (List.mem_of_getElem? (i := 275) (by decide +kernel))) rfl
theorem mw_276 : (.lays "java/lang/IllegalStateException" "java/lang/Throwable" "detailMessage" "Ljava/lang/String;" : Cond) ∈ tB := tB_of (List.mem_append_right _ (List.mem_of_getElem? (i := 276) (by decide +kernel))) rfl
theorem mw_277 : (.lays "java/lang/Throwable" "java/lang/Throwable" "detailMessage" "Ljava/lang/String;" : Cond) ∈ tB := tB_of (List.mem_append_right _ (List.mem_of_getElem? (i := 277) (by decide +kernel))) rfl
theorem mw_278 : (.lays "java/lang/IllegalStateException" "java/lang/Throwable" "backtrace" "Ljava/lang/Object;" : Cond) ∈ tB := tB_of (List.mem_append_right _ (List.mem_of_getElem? (i := 278) (by decide +kernel))) rfl
theorem mw_279 : (.lays "java/lang/Throwable" "java/lang/Throwable" "backtrace" "Ljava/lang/Object;" : Cond) ∈ tB := tB_of (List.mem_append_right _ (List.mem_of_getElem? (i := 279) (by decide +kernel))) rfl
theorem mw_280 : (.fieldLink "java/lang/Throwable" 198 "java/lang/Throwable" "backtrace" "Ljava/lang/Object;" : Cond) ∈ tB := tB_of (List.mem_append_right _ (List.mem_of_getElem? (i := 280) (by decide +kernel))) rfl
theorem mw_281 : (.superclass "java/lang/Throwable" "java/lang/Object" : Cond) ∈ tB := tB_of (List.mem_append_right _ (List.mem_of_getElem? (i := 281) (by decide +kernel))) rfl
theorem mw_282 : (.instanceMethod ⟨"java/lang/Throwable", "<init>", "()V"⟩ : Cond) ∈ tB := tB_of (List.mem_append_right _ (List.mem_of_getElem? (i := 282) (by decide +kernel))) rfl
set_option maxRecDepth 100000 in
theorem mw_283 : (.code ⟨"java/lang/Throwable", "<init>", "()V"⟩ prog_22_method_1_code 1 (none : Option FieldType) : Cond) ∈ tB := tB_of (List.mem_append_right _ (List.mem_of_getElem? (i := 283) rfl)) rfl
theorem mw_284 : (.methodLink "java/lang/Throwable" 1 ⟨"java/lang/Object", "<init>", "()V"⟩ : Cond) ∈ tB := tB_of (List.mem_append_right _ (List.mem_of_getElem? (i := 284) (by decide +kernel))) rfl
theorem mw_285 : (.fieldLink "java/lang/Throwable" 13 "java/lang/Throwable" "UNASSIGNED_STACK" "[Ljava/lang/StackTraceElement;" : Cond) ∈ tB := tB_of (List.mem_append_right _ (List.mem_of_getElem? (i := 285) (by decide +kernel))) rfl
theorem mw_287 : (.fieldLink "java/lang/Throwable" 20 "java/lang/Throwable" "SUPPRESSED_SENTINEL" "Ljava/util/List;" : Cond) ∈ tB := tB_of (List.mem_append_right _ (List.mem_of_getElem? (i := 287) (by decide +kernel))) rfl
theorem mw_289 : (.methodLink "java/lang/Throwable" 27 ⟨"java/lang/Throwable", "fillInStackTrace", "()Ljava/lang/Throwable;"⟩ : Cond) ∈ tB := tB_of (List.mem_append_right _ (List.mem_of_getElem? (i := 289) (by decide +kernel))) rfl
theorem mw_290 : (.instanceMethod ⟨"java/lang/Throwable", "fillInStackTrace", "()Ljava/lang/Throwable;"⟩ : Cond) ∈ tB := tB_of (List.mem_append_right _ (List.mem_of_getElem? (i := 290) (by decide +kernel))) rfl
theorem mw_291 : (.sameMethod "java/lang/Throwable" "java/lang/Throwable" "fillInStackTrace" "()Ljava/lang/Throwable;" : Cond) ∈ tB := tB_of (List.mem_append_right _ (List.mem_of_getElem? (i := 291) (by decide +kernel))) rfl
theorem mw_292 : (.selects "java/lang/IllegalArgumentException" ⟨"java/lang/Throwable", "fillInStackTrace", "()Ljava/lang/Throwable;"⟩ ⟨"java/lang/Throwable", "fillInStackTrace", "()Ljava/lang/Throwable;"⟩ : Cond) ∈ tB := tB_of (List.mem_append_right _ (List.mem_of_getElem? (i := 292) (by decide +kernel))) rfl
theorem mw_293 : (.selects "java/lang/IndexOutOfBoundsException" ⟨"java/lang/Throwable", "fillInStackTrace", "()Ljava/lang/Throwable;"⟩ ⟨"java/lang/Throwable", "fillInStackTrace", "()Ljava/lang/Throwable;"⟩ : Cond) ∈ tB := tB_of (List.mem_append_right _ (List.mem_of_getElem? (i := 293) (by decide +kernel))) rfl
set_option maxRecDepth 100000 in
theorem mw_294 : (.codeSync ⟨"java/lang/Throwable", "fillInStackTrace", "()Ljava/lang/Throwable;"⟩ prog_22_method_18_code 1 (some (FieldType.object "java/lang/Throwable")) : Cond) ∈ tB := tB_of (List.mem_append_right _ (List.mem_of_getElem? (i := 294) rfl)) rfl
theorem mw_295 : (.methodLink "java/lang/Throwable" 202 ⟨"java/lang/Throwable", "fillInStackTrace", "(I)Ljava/lang/Throwable;"⟩ : Cond) ∈ tB := tB_of (List.mem_append_right _ (List.mem_of_getElem? (i := 295) (by decide +kernel))) rfl
theorem mw_297 : (.instanceMethod ⟨"java/lang/Throwable", "fillInStackTrace", "(I)Ljava/lang/Throwable;"⟩ : Cond) ∈ tB := tB_of (List.mem_append_right _ (List.mem_of_getElem? (i := 297) (by decide +kernel))) rfl
theorem mw_298 : (.instantiable "java/lang/Throwable" 6 : Cond) ∈ tB := tB_of (List.mem_append_right _ (List.mem_of_getElem? (i := 298) (by decide +kernel))) rfl
theorem mw_299 : (.native ⟨"java/lang/Throwable", "fillInStackTrace", "(I)Ljava/lang/Throwable;"⟩ : Cond) ∈ tB := tB_of (List.mem_append_right _ (List.mem_of_getElem? (i := 299) (by decide +kernel))) rfl
theorem mw_301 : (.methodLink "CompiledProgram" 45 ⟨"java/lang/IllegalStateException", "<init>", "(Ljava/lang/String;)V"⟩ : Cond) ∈ tB := tB_of (List.mem_append_right _ (List.mem_of_getElem? (i := 301) (by decide +kernel))) rfl
theorem mw_302 : (.instanceMethod ⟨"java/lang/IllegalStateException", "<init>", "(Ljava/lang/String;)V"⟩ : Cond) ∈ tB := tB_of (List.mem_append_right _ (List.mem_of_getElem? (i := 302) (by decide +kernel))) rfl
set_option maxRecDepth 100000 in
theorem mw_303 : (.code ⟨"java/lang/IllegalStateException", "<init>", "(Ljava/lang/String;)V"⟩ prog_15_method_2_code 2 (none : Option FieldType) : Cond) ∈ tB := tB_of (List.mem_append_right _ (List.mem_of_getElem? (i := 303) rfl)) rfl
theorem mw_304 : (.methodLink "java/lang/IllegalStateException" 7 ⟨"java/lang/RuntimeException", "<init>", "(Ljava/lang/String;)V"⟩ : Cond) ∈ tB := tB_of (List.mem_append_right _ (List.mem_of_getElem? (i := 304) (by decide +kernel))) rfl
theorem mw_305 : (.instanceMethod ⟨"java/lang/RuntimeException", "<init>", "(Ljava/lang/String;)V"⟩ : Cond) ∈ tB := tB_of (List.mem_append_right _ (List.mem_of_getElem? (i := 305) (by decide +kernel))) rfl
set_option maxRecDepth 100000 in
theorem mw_306 : (.code ⟨"java/lang/RuntimeException", "<init>", "(Ljava/lang/String;)V"⟩ prog_19_method_2_code 2 (none : Option FieldType) : Cond) ∈ tB := tB_of (List.mem_append_right _ (List.mem_of_getElem? (i := 306) rfl)) rfl
theorem mw_307 : (.methodLink "java/lang/RuntimeException" 7 ⟨"java/lang/Exception", "<init>", "(Ljava/lang/String;)V"⟩ : Cond) ∈ tB := tB_of (List.mem_append_right _ (List.mem_of_getElem? (i := 307) (by decide +kernel))) rfl
theorem mw_308 : (.instanceMethod ⟨"java/lang/Exception", "<init>", "(Ljava/lang/String;)V"⟩ : Cond) ∈ tB := tB_of (List.mem_append_right _ (List.mem_of_getElem? (i := 308) (by decide +kernel))) rfl
set_option maxRecDepth 100000 in
theorem mw_309 : (.code ⟨"java/lang/Exception", "<init>", "(Ljava/lang/String;)V"⟩ prog_13_method_2_code 2 (none : Option FieldType) : Cond) ∈ tB := tB_of (List.mem_append_right _ (List.mem_of_getElem? (i := 309) rfl)) rfl
theorem mw_310 : (.methodLink "java/lang/Exception" 7 ⟨"java/lang/Throwable", "<init>", "(Ljava/lang/String;)V"⟩ : Cond) ∈ tB := tB_of (List.mem_append_right _ (List.mem_of_getElem? (i := 310) (by decide +kernel))) rfl
theorem mw_311 : (.instanceMethod ⟨"java/lang/Throwable", "<init>", "(Ljava/lang/String;)V"⟩ : Cond) ∈ tB := tB_of (List.mem_append_right _ (List.mem_of_getElem? (i := 311) (by decide +kernel))) rfl
set_option maxRecDepth 100000 in
theorem mw_312 : (.code ⟨"java/lang/Throwable", "<init>", "(Ljava/lang/String;)V"⟩ prog_22_method_2_code 2 (none : Option FieldType) : Cond) ∈ tB := tB_of (List.mem_append_right _ (List.mem_of_getElem? (i := 312) rfl)) rfl
theorem mw_314 : (.fieldLink "java/lang/Throwable" 31 "java/lang/Throwable" "detailMessage" "Ljava/lang/String;" : Cond) ∈ tB := tB_of (List.mem_append_right _ (List.mem_of_getElem? (i := 314) (by decide +kernel))) rfl
theorem mw_315 : (.fieldLink "java/lang/Throwable" 7 "java/lang/Throwable" "cause" "Ljava/lang/Throwable;" : Cond) ∈ tB := tB_of (List.mem_append_right _ (List.mem_of_getElem? (i := 315) (by decide +kernel))) rfl
theorem mw_316 : (.fieldLink "java/lang/Throwable" 17 "java/lang/Throwable" "stackTrace" "[Ljava/lang/StackTraceElement;" : Cond) ∈ tB := tB_of (List.mem_append_right _ (List.mem_of_getElem? (i := 316) (by decide +kernel))) rfl
theorem mw_317 : (.fieldLink "java/lang/Throwable" 24 "java/lang/Throwable" "suppressedExceptions" "Ljava/util/List;" : Cond) ∈ tB := tB_of (List.mem_append_right _ (List.mem_of_getElem? (i := 317) (by decide +kernel))) rfl
theorem mw_318 : (.soleField "java/lang/Throwable" "backtrace" : Cond) ∈ tB := tB_of (List.mem_append_right _ (List.mem_of_getElem? (i := 318) (by decide +kernel))) rfl
theorem mw_319 : (.soleField "java/lang/Throwable" "detailMessage" : Cond) ∈ tB := tB_of (List.mem_append_right _ (List.mem_of_getElem? (i := 319) (by decide +kernel))) rfl
theorem mw_320 : (.soleField "java/lang/Throwable" "cause" : Cond) ∈ tB := tB_of (List.mem_append_right _ (List.mem_of_getElem? (i := 320) (by decide +kernel))) rfl
theorem mw_321 : (.soleField "java/lang/Throwable" "stackTrace" : Cond) ∈ tB := tB_of (List.mem_append_right _ (List.mem_of_getElem? (i := 321) (by decide +kernel))) rfl
theorem mw_322 : (.lays "java/lang/IllegalStateException" "java/lang/Throwable" "depth" "I" : Cond) ∈ tB := tB_of (List.mem_append_right _ (List.mem_of_getElem? (i := 322) (by decide +kernel))) rfl
theorem mw_323 : (.soleField "java/lang/Throwable" "depth" : Cond) ∈ tB := tB_of (List.mem_append_right _ (List.mem_of_getElem? (i := 323) (by decide +kernel))) rfl
theorem mw_324 : (.soleField "java/lang/Throwable" "suppressedExceptions" : Cond) ∈ tB := tB_of (List.mem_append_right _ (List.mem_of_getElem? (i := 324) (by decide +kernel))) rfl
theorem mw_325 : (.superclass "java/lang/IllegalStateException" "java/lang/RuntimeException" : Cond) ∈ tB := tB_of (List.mem_append_right _ (List.mem_of_getElem? (i := 325) (by decide +kernel))) rfl
theorem mw_326 : (.methodLink "CompiledProgram" 48 ⟨"CompiledProgram$Tape", "makeRoom", "()V"⟩ : Cond) ∈ tB := tB_of (List.mem_append_right _ (List.mem_of_getElem? (i := 326) (by decide +kernel))) rfl
theorem mw_327 : (.instanceMethod ⟨"CompiledProgram$Tape", "makeRoom", "()V"⟩ : Cond) ∈ tB := tB_of (List.mem_append_right _ (List.mem_of_getElem? (i := 327) (by decide +kernel))) rfl
theorem mw_328 : (.selects "CompiledProgram$Tape" ⟨"CompiledProgram$Tape", "makeRoom", "()V"⟩ ⟨"CompiledProgram$Tape", "makeRoom", "()V"⟩ : Cond) ∈ tB := tB_of (List.mem_append_right _ (List.mem_of_getElem? (i := 328) (by decide +kernel))) rfl
set_option maxRecDepth 100000 in
theorem mw_329 : (.code ⟨"CompiledProgram$Tape", "makeRoom", "()V"⟩ prog_9_method_3_code 1 (none : Option FieldType) : Cond) ∈ tB := tB_of (List.mem_append_right _ (List.mem_of_getElem? (i := 329) rfl)) rfl
theorem mw_330 : (.methodLink "CompiledProgram$Tape" 18 ⟨"java/lang/Math", "min", "(II)I"⟩ : Cond) ∈ tB := tB_of (List.mem_append_right _ (List.mem_of_getElem? (i := 330) (by decide +kernel))) rfl
theorem mw_331 : (.static ⟨"java/lang/Math", "min", "(II)I"⟩ : Cond) ∈ tB := tB_of (List.mem_append_right _ (List.mem_of_getElem? (i := 331) (by decide +kernel))) rfl
set_option maxRecDepth 100000 in
theorem mw_332 : (.code ⟨"java/lang/Math", "min", "(II)I"⟩ prog_18_method_69_code 2 (some FieldType.int) : Cond) ∈ tB := tB_of (List.mem_append_right _ (List.mem_of_getElem? (i := 332) rfl)) rfl
theorem mw_333 : (.methodLink "CompiledProgram$Tape" 24 ⟨"java/util/Arrays", "copyOf", "([BI)[B"⟩ : Cond) ∈ tB := tB_of (List.mem_append_right _ (List.mem_of_getElem? (i := 333) (by decide +kernel))) rfl
theorem mw_334 : (.static ⟨"java/util/Arrays", "copyOf", "([BI)[B"⟩ : Cond) ∈ tB := tB_of (List.mem_append_right _ (List.mem_of_getElem? (i := 334) (by decide +kernel))) rfl
set_option maxRecDepth 100000 in
theorem mw_335 : (.code ⟨"java/util/Arrays", "copyOf", "([BI)[B"⟩ prog_23_method_121_code 3 (some (FieldType.array FieldType.byte)) : Cond) ∈ tB := tB_of (List.mem_append_right _ (List.mem_of_getElem? (i := 335) rfl)) rfl
theorem mw_336 : (.methodLink "java/util/Arrays" 310 ⟨"[B", "clone", "()Ljava/lang/Object;"⟩ : Cond) ∈ tB := tB_of (List.mem_append_right _ (List.mem_of_getElem? (i := 336) (by decide +kernel))) rfl
theorem mw_337 : (.sameMethod "[B" "java/lang/Object" "clone" "()Ljava/lang/Object;" : Cond) ∈ tB := tB_of (List.mem_append_right _ (List.mem_of_getElem? (i := 337) (by decide +kernel))) rfl
theorem mw_338 : (.native ⟨"java/lang/Object", "clone", "()Ljava/lang/Object;"⟩ : Cond) ∈ tB := tB_of (List.mem_append_right _ (List.mem_of_getElem? (i := 338) (by decide +kernel))) rfl
theorem mw_339 : (.instanceMethod ⟨"java/lang/Object", "clone", "()Ljava/lang/Object;"⟩ : Cond) ∈ tB := tB_of (List.mem_append_right _ (List.mem_of_getElem? (i := 339) (by decide +kernel))) rfl
theorem mw_340 : (.selects "[B" ⟨"[B", "clone", "()Ljava/lang/Object;"⟩ ⟨"java/lang/Object", "clone", "()Ljava/lang/Object;"⟩ : Cond) ∈ tB := tB_of (List.mem_append_right _ (List.mem_of_getElem? (i := 340) (by decide +kernel))) rfl
theorem mw_342 : (.classLink "java/util/Arrays" 311 "[B" : Cond) ∈ tB := tB_of (List.mem_append_right _ (List.mem_of_getElem? (i := 342) (by decide +kernel))) rfl
theorem mw_343 : (.methodLink "java/util/Arrays" 304 ⟨"java/lang/Math", "min", "(II)I"⟩ : Cond) ∈ tB := tB_of (List.mem_append_right _ (List.mem_of_getElem? (i := 343) (by decide +kernel))) rfl
theorem mw_344 : (.methodLink "java/util/Arrays" 150 ⟨"java/lang/System", "arraycopy", "(Ljava/lang/Object;ILjava/lang/Object;II)V"⟩ : Cond) ∈ tB := tB_of (List.mem_append_right _ (List.mem_of_getElem? (i := 344) (by decide +kernel))) rfl
theorem mw_345 : (.static ⟨"java/lang/System", "arraycopy", "(Ljava/lang/Object;ILjava/lang/Object;II)V"⟩ : Cond) ∈ tB := tB_of (List.mem_append_right _ (List.mem_of_getElem? (i := 345) (by decide +kernel))) rfl
theorem mw_346 : (.native ⟨"java/lang/System", "arraycopy", "(Ljava/lang/Object;ILjava/lang/Object;II)V"⟩ : Cond) ∈ tB := tB_of (List.mem_append_right _ (List.mem_of_getElem? (i := 346) (by decide +kernel))) rfl
theorem mw_347 : (.methodLink "CompiledProgram" 51 ⟨"CompiledProgram$Tape", "type", "(I)V"⟩ : Cond) ∈ tB := tB_of (List.mem_append_right _ (List.mem_of_getElem? (i := 347) (by decide +kernel))) rfl
theorem mw_348 : (.instanceMethod ⟨"CompiledProgram$Tape", "type", "(I)V"⟩ : Cond) ∈ tB := tB_of (List.mem_append_right _ (List.mem_of_getElem? (i := 348) (by decide +kernel))) rfl
theorem mw_349 : (.selects "CompiledProgram$Tape" ⟨"CompiledProgram$Tape", "type", "(I)V"⟩ ⟨"CompiledProgram$Tape", "type", "(I)V"⟩ : Cond) ∈ tB := tB_of (List.mem_append_right _ (List.mem_of_getElem? (i := 349) (by decide +kernel))) rfl
set_option maxRecDepth 100000 in
theorem mw_350 : (.code ⟨"CompiledProgram$Tape", "type", "(I)V"⟩ prog_9_method_4_code 2 (none : Option FieldType) : Cond) ∈ tB := tB_of (List.mem_append_right _ (List.mem_of_getElem? (i := 350) rfl)) rfl
theorem mw_351 : (.methodLink "CompiledProgramLaw" 57 ⟨"CompiledProgramLaw", "end", "(LCompiledProgram;I)I"⟩ : Cond) ∈ tB := tB_of (List.mem_append_right _ (List.mem_of_getElem? (i := 351) (by decide +kernel))) rfl
theorem mw_352 : (.static ⟨"CompiledProgramLaw", "end", "(LCompiledProgram;I)I"⟩ : Cond) ∈ tB := tB_of (List.mem_append_right _ (List.mem_of_getElem? (i := 352) (by decide +kernel))) rfl
set_option maxRecDepth 100000 in
theorem mw_353 : (.codeWith ⟨"CompiledProgramLaw", "end", "(LCompiledProgram;I)I"⟩ method_4_code 3 (some FieldType.int) [(0, 5, 8, 19)] : Cond) ∈ tB := tB_of (List.mem_append_right _ (List.mem_of_getElem? (i := 353) rfl)) rfl
theorem mw_354 : (.classLink "CompiledProgramLaw" 19 "java/lang/IllegalArgumentException" : Cond) ∈ tB := tB_of (List.mem_append_right _ (List.mem_of_getElem? (i := 354) (by decide +kernel))) rfl
theorem mw_355 : (.methodLink "CompiledProgramLaw" 15 ⟨"CompiledProgram", "end", "(I)V"⟩ : Cond) ∈ tB := tB_of (List.mem_append_right _ (List.mem_of_getElem? (i := 355) (by decide +kernel))) rfl
theorem mw_356 : (.instanceMethod ⟨"CompiledProgram", "end", "(I)V"⟩ : Cond) ∈ tB := tB_of (List.mem_append_right _ (List.mem_of_getElem? (i := 356) (by decide +kernel))) rfl
theorem mw_357 : (.selects "CompiledProgram" ⟨"CompiledProgram", "end", "(I)V"⟩ ⟨"CompiledProgram", "end", "(I)V"⟩ : Cond) ∈ tB := tB_of (List.mem_append_right _ (List.mem_of_getElem? (i := 357) (by decide +kernel))) rfl
set_option maxRecDepth 100000 in
theorem mw_358 : (.code ⟨"CompiledProgram", "end", "(I)V"⟩ prog_1_method_3_code 2 (none : Option FieldType) : Cond) ∈ tB := tB_of (List.mem_append_right _ (List.mem_of_getElem? (i := 358) rfl)) rfl
theorem mw_359 : (.classLink "CompiledProgram" 58 "java/lang/IllegalArgumentException" : Cond) ∈ tB := tB_of (List.mem_append_right _ (List.mem_of_getElem? (i := 359) (by decide +kernel))) rfl
theorem mw_360 : (.instantiable "java/lang/IllegalArgumentException" 6 : Cond) ∈ tB := tB_of (List.mem_append_right _ (List.mem_of_getElem? (i := 360) (by decide +kernel))) rfl
theorem mw_362 : (.selects "java/lang/IllegalArgumentException" ⟨"java/lang/Throwable", "fillInStackTrace", "(I)Ljava/lang/Throwable;"⟩ ⟨"java/lang/Throwable", "fillInStackTrace", "(I)Ljava/lang/Throwable;"⟩ : Cond) ∈ tB := tB_of (List.mem_append_right _ (List.mem_of_getElem? (i := 362) (by decide +kernel))) rfl
theorem mw_363 : (.lays "java/lang/IllegalArgumentException" "java/lang/Throwable" "cause" "Ljava/lang/Throwable;" : Cond) ∈ tB := tB_of (List.mem_append_right _ (List.mem_of_getElem? (i := 363) (by decide +kernel))) rfl
theorem mw_364 : (.lays "java/lang/IllegalArgumentException" "java/lang/Throwable" "stackTrace" "[Ljava/lang/StackTraceElement;" : Cond) ∈ tB := tB_of (List.mem_append_right _ (List.mem_of_getElem? (i := 364) (by decide +kernel))) rfl
theorem mw_365 : (.lays "java/lang/IllegalArgumentException" "java/lang/Throwable" "suppressedExceptions" "Ljava/util/List;" : Cond) ∈ tB := tB_of (List.mem_append_right _ (List.mem_of_getElem? (i := 365) (by decide +kernel))) rfl
theorem mw_366 : (.lays "java/lang/IllegalArgumentException" "java/lang/Throwable" "detailMessage" "Ljava/lang/String;" : Cond) ∈ tB := tB_of (List.mem_append_right _ (List.mem_of_getElem? (i := 366) (by decide +kernel))) rfl
theorem mw_367 : (.lays "java/lang/IllegalArgumentException" "java/lang/Throwable" "backtrace" "Ljava/lang/Object;" : Cond) ∈ tB := tB_of (List.mem_append_right _ (List.mem_of_getElem? (i := 367) (by decide +kernel))) rfl
theorem mw_369 : (.methodLink "CompiledProgram" 62 ⟨"java/lang/IllegalArgumentException", "<init>", "(Ljava/lang/String;)V"⟩ : Cond) ∈ tB := tB_of (List.mem_append_right _ (List.mem_of_getElem? (i := 369) (by decide +kernel))) rfl
theorem mw_370 : (.instanceMethod ⟨"java/lang/IllegalArgumentException", "<init>", "(Ljava/lang/String;)V"⟩ : Cond) ∈ tB := tB_of (List.mem_append_right _ (List.mem_of_getElem? (i := 370) (by decide +kernel))) rfl
set_option maxRecDepth 100000 in
theorem mw_371 : (.code ⟨"java/lang/IllegalArgumentException", "<init>", "(Ljava/lang/String;)V"⟩ prog_14_method_2_code 2 (none : Option FieldType) : Cond) ∈ tB := tB_of (List.mem_append_right _ (List.mem_of_getElem? (i := 371) rfl)) rfl
theorem mw_372 : (.methodLink "java/lang/IllegalArgumentException" 7 ⟨"java/lang/RuntimeException", "<init>", "(Ljava/lang/String;)V"⟩ : Cond) ∈ tB := tB_of (List.mem_append_right _ (List.mem_of_getElem? (i := 372) (by decide +kernel))) rfl
theorem mw_373 : (.lays "java/lang/IllegalArgumentException" "java/lang/Throwable" "depth" "I" : Cond) ∈ tB := tB_of (List.mem_append_right _ (List.mem_of_getElem? (i := 373) (by decide +kernel))) rfl
theorem mw_374 : (.superclass "java/lang/IllegalArgumentException" "java/lang/RuntimeException" : Cond) ∈ tB := tB_of (List.mem_append_right _ (List.mem_of_getElem? (i := 374) (by decide +kernel))) rfl
theorem mw_375 : (.methodLink "CompiledProgramLaw" 71 ⟨"CompiledProgramLaw", "set", "(LCompiledProgram;IJ)I"⟩ : Cond) ∈ tB := tB_of (List.mem_append_right _ (List.mem_of_getElem? (i := 375) (by decide +kernel))) rfl
theorem mw_376 : (.static ⟨"CompiledProgramLaw", "set", "(LCompiledProgram;IJ)I"⟩ : Cond) ∈ tB := tB_of (List.mem_append_right _ (List.mem_of_getElem? (i := 376) (by decide +kernel))) rfl
set_option maxRecDepth 100000 in
theorem mw_377 : (.codeWith ⟨"CompiledProgramLaw", "set", "(LCompiledProgram;IJ)I"⟩ method_5_code 5 (some FieldType.int) [(0, 6, 9, 25)] : Cond) ∈ tB := tB_of (List.mem_append_right _ (List.mem_of_getElem? (i := 377) rfl)) rfl
theorem mw_378 : (.classLink "CompiledProgramLaw" 25 "java/lang/IndexOutOfBoundsException" : Cond) ∈ tB := tB_of (List.mem_append_right _ (List.mem_of_getElem? (i := 378) (by decide +kernel))) rfl
theorem mw_379 : (.methodLink "CompiledProgramLaw" 21 ⟨"CompiledProgram", "set", "(IJ)V"⟩ : Cond) ∈ tB := tB_of (List.mem_append_right _ (List.mem_of_getElem? (i := 379) (by decide +kernel))) rfl
theorem mw_380 : (.instanceMethod ⟨"CompiledProgram", "set", "(IJ)V"⟩ : Cond) ∈ tB := tB_of (List.mem_append_right _ (List.mem_of_getElem? (i := 380) (by decide +kernel))) rfl
theorem mw_381 : (.selects "CompiledProgram" ⟨"CompiledProgram", "set", "(IJ)V"⟩ ⟨"CompiledProgram", "set", "(IJ)V"⟩ : Cond) ∈ tB := tB_of (List.mem_append_right _ (List.mem_of_getElem? (i := 381) (by decide +kernel))) rfl
set_option maxRecDepth 100000 in
theorem mw_382 : (.code ⟨"CompiledProgram", "set", "(IJ)V"⟩ prog_1_method_6_code 4 (none : Option FieldType) : Cond) ∈ tB := tB_of (List.mem_append_right _ (List.mem_of_getElem? (i := 382) rfl)) rfl
theorem mw_383 : (.classLink "CompiledProgram" 80 "java/lang/IndexOutOfBoundsException" : Cond) ∈ tB := tB_of (List.mem_append_right _ (List.mem_of_getElem? (i := 383) (by decide +kernel))) rfl
theorem mw_384 : (.instantiable "java/lang/IndexOutOfBoundsException" 6 : Cond) ∈ tB := tB_of (List.mem_append_right _ (List.mem_of_getElem? (i := 384) (by decide +kernel))) rfl
theorem mw_386 : (.selects "java/lang/IndexOutOfBoundsException" ⟨"java/lang/Throwable", "fillInStackTrace", "(I)Ljava/lang/Throwable;"⟩ ⟨"java/lang/Throwable", "fillInStackTrace", "(I)Ljava/lang/Throwable;"⟩ : Cond) ∈ tB := tB_of (List.mem_append_right _ (List.mem_of_getElem? (i := 386) (by decide +kernel))) rfl
theorem mw_387 : (.lays "java/lang/IndexOutOfBoundsException" "java/lang/Throwable" "cause" "Ljava/lang/Throwable;" : Cond) ∈ tB := tB_of (List.mem_append_right _ (List.mem_of_getElem? (i := 387) (by decide +kernel))) rfl
theorem mw_388 : (.lays "java/lang/IndexOutOfBoundsException" "java/lang/Throwable" "stackTrace" "[Ljava/lang/StackTraceElement;" : Cond) ∈ tB := tB_of (List.mem_append_right _ (List.mem_of_getElem? (i := 388) (by decide +kernel))) rfl
theorem mw_389 : (.lays "java/lang/IndexOutOfBoundsException" "java/lang/Throwable" "suppressedExceptions" "Ljava/util/List;" : Cond) ∈ tB := tB_of (List.mem_append_right _ (List.mem_of_getElem? (i := 389) (by decide +kernel))) rfl
theorem mw_390 : (.lays "java/lang/IndexOutOfBoundsException" "java/lang/Throwable" "detailMessage" "Ljava/lang/String;" : Cond) ∈ tB := tB_of (List.mem_append_right _ (List.mem_of_getElem? (i := 390) (by decide +kernel))) rfl
theorem mw_391 : (.lays "java/lang/IndexOutOfBoundsException" "java/lang/Throwable" "backtrace" "Ljava/lang/Object;" : Cond) ∈ tB := tB_of (List.mem_append_right _ (List.mem_of_getElem? (i := 391) (by decide +kernel))) rfl
theorem mw_393 : (.methodLink "CompiledProgram" 84 ⟨"java/lang/IndexOutOfBoundsException", "<init>", "(Ljava/lang/String;)V"⟩ : Cond) ∈ tB := tB_of (List.mem_append_right _ (List.mem_of_getElem? (i := 393) (by decide +kernel))) rfl
theorem mw_394 : (.instanceMethod ⟨"java/lang/IndexOutOfBoundsException", "<init>", "(Ljava/lang/String;)V"⟩ : Cond) ∈ tB := tB_of (List.mem_append_right _ (List.mem_of_getElem? (i := 394) (by decide +kernel))) rfl
set_option maxRecDepth 100000 in
theorem mw_395 : (.code ⟨"java/lang/IndexOutOfBoundsException", "<init>", "(Ljava/lang/String;)V"⟩ prog_16_method_2_code 2 (none : Option FieldType) : Cond) ∈ tB := tB_of (List.mem_append_right _ (List.mem_of_getElem? (i := 395) rfl)) rfl
theorem mw_396 : (.methodLink "java/lang/IndexOutOfBoundsException" 7 ⟨"java/lang/RuntimeException", "<init>", "(Ljava/lang/String;)V"⟩ : Cond) ∈ tB := tB_of (List.mem_append_right _ (List.mem_of_getElem? (i := 396) (by decide +kernel))) rfl
theorem mw_397 : (.lays "java/lang/IndexOutOfBoundsException" "java/lang/Throwable" "depth" "I" : Cond) ∈ tB := tB_of (List.mem_append_right _ (List.mem_of_getElem? (i := 397) (by decide +kernel))) rfl
theorem mw_398 : (.superclass "java/lang/IndexOutOfBoundsException" "java/lang/RuntimeException" : Cond) ∈ tB := tB_of (List.mem_append_right _ (List.mem_of_getElem? (i := 398) (by decide +kernel))) rfl
theorem mw_399 : (.methodLink "CompiledProgramLaw" 75 ⟨"CompiledProgramLaw", "get", "(LCompiledProgram;I[J)I"⟩ : Cond) ∈ tB := tB_of (List.mem_append_right _ (List.mem_of_getElem? (i := 399) (by decide +kernel))) rfl
theorem mw_400 : (.static ⟨"CompiledProgramLaw", "get", "(LCompiledProgram;I[J)I"⟩ : Cond) ∈ tB := tB_of (List.mem_append_right _ (List.mem_of_getElem? (i := 400) (by decide +kernel))) rfl
set_option maxRecDepth 100000 in
theorem mw_401 : (.codeWith ⟨"CompiledProgramLaw", "get", "(LCompiledProgram;I[J)I"⟩ method_6_code 4 (some FieldType.int) [(0, 8, 11, 25)] : Cond) ∈ tB := tB_of (List.mem_append_right _ (List.mem_of_getElem? (i := 401) rfl)) rfl
theorem mw_402 : (.methodLink "CompiledProgramLaw" 27 ⟨"CompiledProgram", "get", "(I)J"⟩ : Cond) ∈ tB := tB_of (List.mem_append_right _ (List.mem_of_getElem? (i := 402) (by decide +kernel))) rfl
theorem mw_403 : (.instanceMethod ⟨"CompiledProgram", "get", "(I)J"⟩ : Cond) ∈ tB := tB_of (List.mem_append_right _ (List.mem_of_getElem? (i := 403) (by decide +kernel))) rfl
theorem mw_404 : (.selects "CompiledProgram" ⟨"CompiledProgram", "get", "(I)J"⟩ ⟨"CompiledProgram", "get", "(I)J"⟩ : Cond) ∈ tB := tB_of (List.mem_append_right _ (List.mem_of_getElem? (i := 404) (by decide +kernel))) rfl
set_option maxRecDepth 100000 in
theorem mw_405 : (.code ⟨"CompiledProgram", "get", "(I)J"⟩ prog_1_method_7_code 2 (some FieldType.long) : Cond) ∈ tB := tB_of (List.mem_append_right _ (List.mem_of_getElem? (i := 405) rfl)) rfl
theorem mw_406 : (.methodLink "CompiledProgramLaw" 79 ⟨"CompiledProgramLaw", "put", "(LCompiledProgram;JJ)I"⟩ : Cond) ∈ tB := tB_of (List.mem_append_right _ (List.mem_of_getElem? (i := 406) (by decide +kernel))) rfl
theorem mw_407 : (.static ⟨"CompiledProgramLaw", "put", "(LCompiledProgram;JJ)I"⟩ : Cond) ∈ tB := tB_of (List.mem_append_right _ (List.mem_of_getElem? (i := 407) (by decide +kernel))) rfl
set_option maxRecDepth 100000 in
theorem mw_408 : (.codeWith ⟨"CompiledProgramLaw", "put", "(LCompiledProgram;JJ)I"⟩ method_7_code 6 (some FieldType.int) [(0, 6, 9, 25)] : Cond) ∈ tB := tB_of (List.mem_append_right _ (List.mem_of_getElem? (i := 408) rfl)) rfl
theorem mw_409 : (.methodLink "CompiledProgramLaw" 31 ⟨"CompiledProgram", "put", "(JJ)V"⟩ : Cond) ∈ tB := tB_of (List.mem_append_right _ (List.mem_of_getElem? (i := 409) (by decide +kernel))) rfl
theorem mw_410 : (.instanceMethod ⟨"CompiledProgram", "put", "(JJ)V"⟩ : Cond) ∈ tB := tB_of (List.mem_append_right _ (List.mem_of_getElem? (i := 410) (by decide +kernel))) rfl
theorem mw_411 : (.selects "CompiledProgram" ⟨"CompiledProgram", "put", "(JJ)V"⟩ ⟨"CompiledProgram", "put", "(JJ)V"⟩ : Cond) ∈ tB := tB_of (List.mem_append_right _ (List.mem_of_getElem? (i := 411) (by decide +kernel))) rfl
set_option maxRecDepth 100000 in
theorem mw_412 : (.code ⟨"CompiledProgram", "put", "(JJ)V"⟩ prog_1_method_8_code 5 (none : Option FieldType) : Cond) ∈ tB := tB_of (List.mem_append_right _ (List.mem_of_getElem? (i := 412) rfl)) rfl
theorem mw_413 : (.methodLink "CompiledProgram" 93 ⟨"CompiledProgram$Memory", "holds", "(JI)Z"⟩ : Cond) ∈ tB := tB_of (List.mem_append_right _ (List.mem_of_getElem? (i := 413) (by decide +kernel))) rfl
theorem mw_414 : (.instanceMethod ⟨"CompiledProgram$Memory", "holds", "(JI)Z"⟩ : Cond) ∈ tB := tB_of (List.mem_append_right _ (List.mem_of_getElem? (i := 414) (by decide +kernel))) rfl
theorem mw_415 : (.selects "CompiledProgram$Memory" ⟨"CompiledProgram$Memory", "holds", "(JI)Z"⟩ ⟨"CompiledProgram$Memory", "holds", "(JI)Z"⟩ : Cond) ∈ tB := tB_of (List.mem_append_right _ (List.mem_of_getElem? (i := 415) (by decide +kernel))) rfl
set_option maxRecDepth 100000 in
theorem mw_416 : (.code ⟨"CompiledProgram$Memory", "holds", "(JI)Z"⟩ prog_7_method_2_code 6 (some FieldType.boolean) : Cond) ∈ tB := tB_of (List.mem_append_right _ (List.mem_of_getElem? (i := 416) rfl)) rfl
theorem mw_417 : (.constantLong "CompiledProgram$Memory" 13 2147483648 : Cond) ∈ tB := tB_of (List.mem_append_right _ (List.mem_of_getElem? (i := 417) (by decide +kernel))) rfl
theorem mw_419 : (.methodLink "CompiledProgram" 101 ⟨"CompiledProgram$Memory", "write", "(JIJ)V"⟩ : Cond) ∈ tB := tB_of (List.mem_append_right _ (List.mem_of_getElem? (i := 419) (by decide +kernel))) rfl
theorem mw_420 : (.instanceMethod ⟨"CompiledProgram$Memory", "write", "(JIJ)V"⟩ : Cond) ∈ tB := tB_of (List.mem_append_right _ (List.mem_of_getElem? (i := 420) (by decide +kernel))) rfl
theorem mw_421 : (.selects "CompiledProgram$Memory" ⟨"CompiledProgram$Memory", "write", "(JIJ)V"⟩ ⟨"CompiledProgram$Memory", "write", "(JIJ)V"⟩ : Cond) ∈ tB := tB_of (List.mem_append_right _ (List.mem_of_getElem? (i := 421) (by decide +kernel))) rfl
set_option maxRecDepth 100000 in
theorem mw_422 : (.code ⟨"CompiledProgram$Memory", "write", "(JIJ)V"⟩ prog_7_method_4_code 8 (none : Option FieldType) : Cond) ∈ tB := tB_of (List.mem_append_right _ (List.mem_of_getElem? (i := 422) rfl)) rfl
theorem mw_423 : (.methodLink "CompiledProgram$Memory" 15 ⟨"CompiledProgram$Memory", "holds", "(JI)Z"⟩ : Cond) ∈ tB := tB_of (List.mem_append_right _ (List.mem_of_getElem? (i := 423) (by decide +kernel))) rfl
theorem mw_424 : (.methodLink "CompiledProgramLaw" 83 ⟨"CompiledProgramLaw", "word", "(LCompiledProgram;J[J)I"⟩ : Cond) ∈ tB := tB_of (List.mem_append_right _ (List.mem_of_getElem? (i := 424) (by decide +kernel))) rfl
theorem mw_425 : (.static ⟨"CompiledProgramLaw", "word", "(LCompiledProgram;J[J)I"⟩ : Cond) ∈ tB := tB_of (List.mem_append_right _ (List.mem_of_getElem? (i := 425) (by decide +kernel))) rfl
set_option maxRecDepth 100000 in
theorem mw_426 : (.codeWith ⟨"CompiledProgramLaw", "word", "(LCompiledProgram;J[J)I"⟩ method_8_code 5 (some FieldType.int) [(0, 8, 11, 25)] : Cond) ∈ tB := tB_of (List.mem_append_right _ (List.mem_of_getElem? (i := 426) rfl)) rfl
theorem mw_427 : (.methodLink "CompiledProgramLaw" 35 ⟨"CompiledProgram", "word", "(J)J"⟩ : Cond) ∈ tB := tB_of (List.mem_append_right _ (List.mem_of_getElem? (i := 427) (by decide +kernel))) rfl
theorem mw_428 : (.instanceMethod ⟨"CompiledProgram", "word", "(J)J"⟩ : Cond) ∈ tB := tB_of (List.mem_append_right _ (List.mem_of_getElem? (i := 428) (by decide +kernel))) rfl
theorem mw_429 : (.selects "CompiledProgram" ⟨"CompiledProgram", "word", "(J)J"⟩ ⟨"CompiledProgram", "word", "(J)J"⟩ : Cond) ∈ tB := tB_of (List.mem_append_right _ (List.mem_of_getElem? (i := 429) (by decide +kernel))) rfl
set_option maxRecDepth 100000 in
theorem mw_430 : (.code ⟨"CompiledProgram", "word", "(J)J"⟩ prog_1_method_9_code 3 (some FieldType.long) : Cond) ∈ tB := tB_of (List.mem_append_right _ (List.mem_of_getElem? (i := 430) rfl)) rfl
theorem mw_431 : (.methodLink "CompiledProgram" 105 ⟨"CompiledProgram$Memory", "read", "(JI)J"⟩ : Cond) ∈ tB := tB_of (List.mem_append_right _ (List.mem_of_getElem? (i := 431) (by decide +kernel))) rfl
theorem mw_432 : (.instanceMethod ⟨"CompiledProgram$Memory", "read", "(JI)J"⟩ : Cond) ∈ tB := tB_of (List.mem_append_right _ (List.mem_of_getElem? (i := 432) (by decide +kernel))) rfl
theorem mw_433 : (.selects "CompiledProgram$Memory" ⟨"CompiledProgram$Memory", "read", "(JI)J"⟩ ⟨"CompiledProgram$Memory", "read", "(JI)J"⟩ : Cond) ∈ tB := tB_of (List.mem_append_right _ (List.mem_of_getElem? (i := 433) (by decide +kernel))) rfl
set_option maxRecDepth 100000 in
theorem mw_434 : (.code ⟨"CompiledProgram$Memory", "read", "(JI)J"⟩ prog_7_method_3_code 8 (some FieldType.long) : Cond) ∈ tB := tB_of (List.mem_append_right _ (List.mem_of_getElem? (i := 434) rfl)) rfl
theorem mw_435 : (.methodLink "CompiledProgramLaw" 87 ⟨"CompiledProgramLaw", "run", "(LCompiledProgram;I[J)I"⟩ : Cond) ∈ tB := tB_of (List.mem_append_right _ (List.mem_of_getElem? (i := 435) (by decide +kernel))) rfl
theorem mw_436 : (.static ⟨"CompiledProgramLaw", "run", "(LCompiledProgram;I[J)I"⟩ : Cond) ∈ tB := tB_of (List.mem_append_right _ (List.mem_of_getElem? (i := 436) (by decide +kernel))) rfl
set_option maxRecDepth 100000 in
theorem mw_437 : (.codeWith ⟨"CompiledProgramLaw", "run", "(LCompiledProgram;I[J)I"⟩ method_9_code 4 (some FieldType.int) [(0, 9, 12, 19), (0, 9, 15, 13)] : Cond) ∈ tB := tB_of (List.mem_append_right _ (List.mem_of_getElem? (i := 437) rfl)) rfl
theorem mw_438 : (.methodLink "CompiledProgramLaw" 39 ⟨"CompiledProgram", "run", "(I)I"⟩ : Cond) ∈ tB := tB_of (List.mem_append_right _ (List.mem_of_getElem? (i := 438) (by decide +kernel))) rfl
theorem mw_439 : (.instanceMethod ⟨"CompiledProgram", "run", "(I)I"⟩ : Cond) ∈ tB := tB_of (List.mem_append_right _ (List.mem_of_getElem? (i := 439) (by decide +kernel))) rfl
theorem mw_440 : (.selects "CompiledProgram" ⟨"CompiledProgram", "run", "(I)I"⟩ ⟨"CompiledProgram", "run", "(I)I"⟩ : Cond) ∈ tB := tB_of (List.mem_append_right _ (List.mem_of_getElem? (i := 440) (by decide +kernel))) rfl
set_option maxRecDepth 100000 in
theorem mw_441 : (.code ⟨"CompiledProgram", "run", "(I)I"⟩ prog_1_method_10_code 4 (some FieldType.int) : Cond) ∈ tB := tB_of (List.mem_append_right _ (List.mem_of_getElem? (i := 441) rfl)) rfl
theorem mw_442 : (.constant "CompiledProgram" 109 100000 : Cond) ∈ tB := tB_of (List.mem_append_right _ (List.mem_of_getElem? (i := 442) (by decide +kernel))) rfl
theorem mw_445 : (.methodLink "CompiledProgram" 114 ⟨"CompiledProgram$Machine", "follow", "(LCompiledProgram$Program;I)I"⟩ : Cond) ∈ tB := tB_of (List.mem_append_right _ (List.mem_of_getElem? (i := 445) (by decide +kernel))) rfl
theorem mw_446 : (.instanceMethod ⟨"CompiledProgram$Machine", "follow", "(LCompiledProgram$Program;I)I"⟩ : Cond) ∈ tB := tB_of (List.mem_append_right _ (List.mem_of_getElem? (i := 446) (by decide +kernel))) rfl
theorem mw_447 : (.selects "CompiledProgram$Machine" ⟨"CompiledProgram$Machine", "follow", "(LCompiledProgram$Program;I)I"⟩ ⟨"CompiledProgram$Machine", "follow", "(LCompiledProgram$Program;I)I"⟩ : Cond) ∈ tB := tB_of (List.mem_append_right _ (List.mem_of_getElem? (i := 447) (by decide +kernel))) rfl
set_option maxRecDepth 100000 in
theorem mw_448 : (.code ⟨"CompiledProgram$Machine", "follow", "(LCompiledProgram$Program;I)I"⟩ prog_6_method_2_code 5 (some FieldType.int) : Cond) ∈ tB := tB_of (List.mem_append_right _ (List.mem_of_getElem? (i := 448) rfl)) rfl
theorem mw_449 : (.methodLink "CompiledProgram$Machine" 20 ⟨"CompiledProgram$Program", "at", "(I)J"⟩ : Cond) ∈ tB := tB_of (List.mem_append_right _ (List.mem_of_getElem? (i := 449) (by decide +kernel))) rfl
theorem mw_450 : (.methodLink "CompiledProgram$Machine" 26 ⟨"CompiledProgram$Fields", "kind", "(J)I"⟩ : Cond) ∈ tB := tB_of (List.mem_append_right _ (List.mem_of_getElem? (i := 450) (by decide +kernel))) rfl
theorem mw_451 : (.methodLink "CompiledProgram$Machine" 32 ⟨"CompiledProgram$Machine", "takeTwoPlaces", "(JJ)V"⟩ : Cond) ∈ tB := tB_of (List.mem_append_right _ (List.mem_of_getElem? (i := 451) (by decide +kernel))) rfl
theorem mw_452 : (.instanceMethod ⟨"CompiledProgram$Machine", "takeTwoPlaces", "(JJ)V"⟩ : Cond) ∈ tB := tB_of (List.mem_append_right _ (List.mem_of_getElem? (i := 452) (by decide +kernel))) rfl
theorem mw_453 : (.selects "CompiledProgram$Machine" ⟨"CompiledProgram$Machine", "takeTwoPlaces", "(JJ)V"⟩ ⟨"CompiledProgram$Machine", "takeTwoPlaces", "(JJ)V"⟩ : Cond) ∈ tB := tB_of (List.mem_append_right _ (List.mem_of_getElem? (i := 453) (by decide +kernel))) rfl
set_option maxRecDepth 100000 in
theorem mw_454 : (.code ⟨"CompiledProgram$Machine", "takeTwoPlaces", "(JJ)V"⟩ prog_6_method_6_code 7 (none : Option FieldType) : Cond) ∈ tB := tB_of (List.mem_append_right _ (List.mem_of_getElem? (i := 454) rfl)) rfl
theorem mw_455 : (.methodLink "CompiledProgram$Machine" 40 ⟨"CompiledProgram$Fields", "immediate", "(J)I"⟩ : Cond) ∈ tB := tB_of (List.mem_append_right _ (List.mem_of_getElem? (i := 455) (by decide +kernel))) rfl
theorem mw_456 : (.methodLink "CompiledProgram$Machine" 61 ⟨"CompiledProgram$Fields", "target", "(J)I"⟩ : Cond) ∈ tB := tB_of (List.mem_append_right _ (List.mem_of_getElem? (i := 456) (by decide +kernel))) rfl
theorem mw_457 : (.methodLink "CompiledProgram$Machine" 73 ⟨"CompiledProgram$Arithmetic", "lowest", "(JI)J"⟩ : Cond) ∈ tB := tB_of (List.mem_append_right _ (List.mem_of_getElem? (i := 457) (by decide +kernel))) rfl
theorem mw_458 : (.static ⟨"CompiledProgram$Arithmetic", "lowest", "(JI)J"⟩ : Cond) ∈ tB := tB_of (List.mem_append_right _ (List.mem_of_getElem? (i := 458) (by decide +kernel))) rfl
set_option maxRecDepth 100000 in
theorem mw_459 : (.code ⟨"CompiledProgram$Arithmetic", "lowest", "(JI)J"⟩ prog_2_method_7_code 3 (some FieldType.long) : Cond) ∈ tB := tB_of (List.mem_append_right _ (List.mem_of_getElem? (i := 459) rfl)) rfl
theorem mw_460 : (.methodLink "CompiledProgram$Machine" 36 ⟨"CompiledProgram$Machine", "read", "(J)Z"⟩ : Cond) ∈ tB := tB_of (List.mem_append_right _ (List.mem_of_getElem? (i := 460) (by decide +kernel))) rfl
theorem mw_461 : (.instanceMethod ⟨"CompiledProgram$Machine", "read", "(J)Z"⟩ : Cond) ∈ tB := tB_of (List.mem_append_right _ (List.mem_of_getElem? (i := 461) (by decide +kernel))) rfl
theorem mw_462 : (.selects "CompiledProgram$Machine" ⟨"CompiledProgram$Machine", "read", "(J)Z"⟩ ⟨"CompiledProgram$Machine", "read", "(J)Z"⟩ : Cond) ∈ tB := tB_of (List.mem_append_right _ (List.mem_of_getElem? (i := 462) (by decide +kernel))) rfl
set_option maxRecDepth 100000 in
theorem mw_463 : (.code ⟨"CompiledProgram$Machine", "read", "(J)Z"⟩ prog_6_method_7_code 8 (some FieldType.boolean) : Cond) ∈ tB := tB_of (List.mem_append_right _ (List.mem_of_getElem? (i := 463) rfl)) rfl
theorem mw_464 : (.methodLink "CompiledProgram$Machine" 79 ⟨"CompiledProgram$Fields", "size", "(J)I"⟩ : Cond) ∈ tB := tB_of (List.mem_append_right _ (List.mem_of_getElem? (i := 464) (by decide +kernel))) rfl
theorem mw_465 : (.methodLink "CompiledProgram$Machine" 53 ⟨"CompiledProgram$Machine", "y", "(J)J"⟩ : Cond) ∈ tB := tB_of (List.mem_append_right _ (List.mem_of_getElem? (i := 465) (by decide +kernel))) rfl
theorem mw_466 : (.instanceMethod ⟨"CompiledProgram$Machine", "y", "(J)J"⟩ : Cond) ∈ tB := tB_of (List.mem_append_right _ (List.mem_of_getElem? (i := 466) (by decide +kernel))) rfl
theorem mw_467 : (.selects "CompiledProgram$Machine" ⟨"CompiledProgram$Machine", "y", "(J)J"⟩ ⟨"CompiledProgram$Machine", "y", "(J)J"⟩ : Cond) ∈ tB := tB_of (List.mem_append_right _ (List.mem_of_getElem? (i := 467) (by decide +kernel))) rfl
set_option maxRecDepth 100000 in
theorem mw_468 : (.code ⟨"CompiledProgram$Machine", "y", "(J)J"⟩ prog_6_method_4_code 3 (some FieldType.long) : Cond) ∈ tB := tB_of (List.mem_append_right _ (List.mem_of_getElem? (i := 468) rfl)) rfl
theorem mw_469 : (.methodLink "CompiledProgram$Machine" 67 ⟨"CompiledProgram$Fields", "source", "(J)I"⟩ : Cond) ∈ tB := tB_of (List.mem_append_right _ (List.mem_of_getElem? (i := 469) (by decide +kernel))) rfl
theorem mw_470 : (.methodLink "CompiledProgram$Machine" 82 ⟨"CompiledProgram$Fields", "offset", "(J)I"⟩ : Cond) ∈ tB := tB_of (List.mem_append_right _ (List.mem_of_getElem? (i := 470) (by decide +kernel))) rfl
theorem mw_471 : (.methodLink "CompiledProgram$Machine" 85 ⟨"CompiledProgram$Memory", "holds", "(JI)Z"⟩ : Cond) ∈ tB := tB_of (List.mem_append_right _ (List.mem_of_getElem? (i := 471) (by decide +kernel))) rfl
theorem mw_472 : (.methodLink "CompiledProgram$Machine" 89 ⟨"CompiledProgram$Memory", "read", "(JI)J"⟩ : Cond) ∈ tB := tB_of (List.mem_append_right _ (List.mem_of_getElem? (i := 472) (by decide +kernel))) rfl
theorem mw_473 : (.methodLink "CompiledProgram$Machine" 47 ⟨"CompiledProgram$Fields", "mode", "(J)I"⟩ : Cond) ∈ tB := tB_of (List.mem_append_right _ (List.mem_of_getElem? (i := 473) (by decide +kernel))) rfl
theorem mw_474 : (.methodLink "CompiledProgram$Machine" 91 ⟨"CompiledProgram$Arithmetic", "signed", "(JI)J"⟩ : Cond) ∈ tB := tB_of (List.mem_append_right _ (List.mem_of_getElem? (i := 474) (by decide +kernel))) rfl
theorem mw_475 : (.static ⟨"CompiledProgram$Arithmetic", "signed", "(JI)J"⟩ : Cond) ∈ tB := tB_of (List.mem_append_right _ (List.mem_of_getElem? (i := 475) (by decide +kernel))) rfl
set_option maxRecDepth 100000 in
theorem mw_476 : (.code ⟨"CompiledProgram$Arithmetic", "signed", "(JI)J"⟩ prog_2_method_8_code 3 (some FieldType.long) : Cond) ∈ tB := tB_of (List.mem_append_right _ (List.mem_of_getElem? (i := 476) rfl)) rfl
theorem mw_477 : (.methodLink "CompiledProgram$Machine" 43 ⟨"CompiledProgram$Machine", "write", "(JJ)Z"⟩ : Cond) ∈ tB := tB_of (List.mem_append_right _ (List.mem_of_getElem? (i := 477) (by decide +kernel))) rfl
theorem mw_478 : (.instanceMethod ⟨"CompiledProgram$Machine", "write", "(JJ)Z"⟩ : Cond) ∈ tB := tB_of (List.mem_append_right _ (List.mem_of_getElem? (i := 478) (by decide +kernel))) rfl
theorem mw_479 : (.selects "CompiledProgram$Machine" ⟨"CompiledProgram$Machine", "write", "(JJ)Z"⟩ ⟨"CompiledProgram$Machine", "write", "(JJ)Z"⟩ : Cond) ∈ tB := tB_of (List.mem_append_right _ (List.mem_of_getElem? (i := 479) (by decide +kernel))) rfl
set_option maxRecDepth 100000 in
theorem mw_480 : (.code ⟨"CompiledProgram$Machine", "write", "(JJ)Z"⟩ prog_6_method_8_code 8 (some FieldType.boolean) : Cond) ∈ tB := tB_of (List.mem_append_right _ (List.mem_of_getElem? (i := 480) rfl)) rfl
theorem mw_481 : (.methodLink "CompiledProgram$Machine" 94 ⟨"CompiledProgram$Machine", "x", "(J)J"⟩ : Cond) ∈ tB := tB_of (List.mem_append_right _ (List.mem_of_getElem? (i := 481) (by decide +kernel))) rfl
theorem mw_482 : (.instanceMethod ⟨"CompiledProgram$Machine", "x", "(J)J"⟩ : Cond) ∈ tB := tB_of (List.mem_append_right _ (List.mem_of_getElem? (i := 482) (by decide +kernel))) rfl
theorem mw_483 : (.selects "CompiledProgram$Machine" ⟨"CompiledProgram$Machine", "x", "(J)J"⟩ ⟨"CompiledProgram$Machine", "x", "(J)J"⟩ : Cond) ∈ tB := tB_of (List.mem_append_right _ (List.mem_of_getElem? (i := 483) (by decide +kernel))) rfl
set_option maxRecDepth 100000 in
theorem mw_484 : (.code ⟨"CompiledProgram$Machine", "x", "(J)J"⟩ prog_6_method_3_code 3 (some FieldType.long) : Cond) ∈ tB := tB_of (List.mem_append_right _ (List.mem_of_getElem? (i := 484) rfl)) rfl
theorem mw_485 : (.methodLink "CompiledProgram$Machine" 97 ⟨"CompiledProgram$Memory", "write", "(JIJ)V"⟩ : Cond) ∈ tB := tB_of (List.mem_append_right _ (List.mem_of_getElem? (i := 485) (by decide +kernel))) rfl
theorem mw_486 : (.methodLink "CompiledProgram$Machine" 50 ⟨"CompiledProgram$Machine", "exchange", "(J)Z"⟩ : Cond) ∈ tB := tB_of (List.mem_append_right _ (List.mem_of_getElem? (i := 486) (by decide +kernel))) rfl
theorem mw_487 : (.instanceMethod ⟨"CompiledProgram$Machine", "exchange", "(J)Z"⟩ : Cond) ∈ tB := tB_of (List.mem_append_right _ (List.mem_of_getElem? (i := 487) (by decide +kernel))) rfl
theorem mw_488 : (.selects "CompiledProgram$Machine" ⟨"CompiledProgram$Machine", "exchange", "(J)Z"⟩ ⟨"CompiledProgram$Machine", "exchange", "(J)Z"⟩ : Cond) ∈ tB := tB_of (List.mem_append_right _ (List.mem_of_getElem? (i := 488) (by decide +kernel))) rfl
set_option maxRecDepth 100000 in
theorem mw_489 : (.code ⟨"CompiledProgram$Machine", "exchange", "(J)Z"⟩ prog_6_method_9_code 10 (some FieldType.boolean) : Cond) ∈ tB := tB_of (List.mem_append_right _ (List.mem_of_getElem? (i := 489) rfl)) rfl
theorem mw_490 : (.methodLink "CompiledProgram$Machine" 100 ⟨"CompiledProgram$Exchange", "become", "(IJJZ)J"⟩ : Cond) ∈ tB := tB_of (List.mem_append_right _ (List.mem_of_getElem? (i := 490) (by decide +kernel))) rfl
theorem mw_491 : (.static ⟨"CompiledProgram$Exchange", "become", "(IJJZ)J"⟩ : Cond) ∈ tB := tB_of (List.mem_append_right _ (List.mem_of_getElem? (i := 491) (by decide +kernel))) rfl
set_option maxRecDepth 100000 in
theorem mw_492 : (.code ⟨"CompiledProgram$Exchange", "become", "(IJJZ)J"⟩ prog_3_method_4_code 6 (some FieldType.long) : Cond) ∈ tB := tB_of (List.mem_append_right _ (List.mem_of_getElem? (i := 492) rfl)) rfl
theorem mw_493 : (.methodLink "CompiledProgram$Machine" 106 ⟨"CompiledProgram$Exchange", "changesSource", "(I)Z"⟩ : Cond) ∈ tB := tB_of (List.mem_append_right _ (List.mem_of_getElem? (i := 493) (by decide +kernel))) rfl
theorem mw_494 : (.methodLink "CompiledProgram$Machine" 57 ⟨"CompiledProgram$Machine", "jump", "(IJ)I"⟩ : Cond) ∈ tB := tB_of (List.mem_append_right _ (List.mem_of_getElem? (i := 494) (by decide +kernel))) rfl
theorem mw_495 : (.instanceMethod ⟨"CompiledProgram$Machine", "jump", "(IJ)I"⟩ : Cond) ∈ tB := tB_of (List.mem_append_right _ (List.mem_of_getElem? (i := 495) (by decide +kernel))) rfl
theorem mw_496 : (.selects "CompiledProgram$Machine" ⟨"CompiledProgram$Machine", "jump", "(IJ)I"⟩ ⟨"CompiledProgram$Machine", "jump", "(IJ)I"⟩ : Cond) ∈ tB := tB_of (List.mem_append_right _ (List.mem_of_getElem? (i := 496) (by decide +kernel))) rfl
set_option maxRecDepth 100000 in
theorem mw_497 : (.code ⟨"CompiledProgram$Machine", "jump", "(IJ)I"⟩ prog_6_method_10_code 4 (some FieldType.int) : Cond) ∈ tB := tB_of (List.mem_append_right _ (List.mem_of_getElem? (i := 497) rfl)) rfl
theorem mw_498 : (.methodLink "CompiledProgram$Machine" 110 ⟨"CompiledProgram$Fields", "isExit", "(J)Z"⟩ : Cond) ∈ tB := tB_of (List.mem_append_right _ (List.mem_of_getElem? (i := 498) (by decide +kernel))) rfl
theorem mw_499 : (.methodLink "CompiledProgram$Machine" 113 ⟨"CompiledProgram$Fields", "isCall", "(J)Z"⟩ : Cond) ∈ tB := tB_of (List.mem_append_right _ (List.mem_of_getElem? (i := 499) (by decide +kernel))) rfl
theorem mw_500 : (.static ⟨"CompiledProgram$Fields", "isCall", "(J)Z"⟩ : Cond) ∈ tB := tB_of (List.mem_append_right _ (List.mem_of_getElem? (i := 500) (by decide +kernel))) rfl
set_option maxRecDepth 100000 in
theorem mw_501 : (.code ⟨"CompiledProgram$Fields", "isCall", "(J)Z"⟩ prog_4_method_14_code 2 (some FieldType.boolean) : Cond) ∈ tB := tB_of (List.mem_append_right _ (List.mem_of_getElem? (i := 501) rfl)) rfl
theorem mw_502 : (.methodLink "CompiledProgram$Machine" 116 ⟨"CompiledProgram$Machine", "answerCall", "(I)V"⟩ : Cond) ∈ tB := tB_of (List.mem_append_right _ (List.mem_of_getElem? (i := 502) (by decide +kernel))) rfl
theorem mw_503 : (.instanceMethod ⟨"CompiledProgram$Machine", "answerCall", "(I)V"⟩ : Cond) ∈ tB := tB_of (List.mem_append_right _ (List.mem_of_getElem? (i := 503) (by decide +kernel))) rfl
theorem mw_504 : (.selects "CompiledProgram$Machine" ⟨"CompiledProgram$Machine", "answerCall", "(I)V"⟩ ⟨"CompiledProgram$Machine", "answerCall", "(I)V"⟩ : Cond) ∈ tB := tB_of (List.mem_append_right _ (List.mem_of_getElem? (i := 504) (by decide +kernel))) rfl
set_option maxRecDepth 100000 in
theorem mw_505 : (.code ⟨"CompiledProgram$Machine", "answerCall", "(I)V"⟩ prog_6_method_12_code 5 (none : Option FieldType) : Cond) ∈ tB := tB_of (List.mem_append_right _ (List.mem_of_getElem? (i := 505) rfl)) rfl
theorem mw_506 : (.constantLong "CompiledProgram$Machine" 140 31 : Cond) ∈ tB := tB_of (List.mem_append_right _ (List.mem_of_getElem? (i := 506) (by decide +kernel))) rfl
theorem mw_507 : (.methodLink "CompiledProgram$Machine" 120 ⟨"CompiledProgram$Fields", "jumpsAlways", "(J)Z"⟩ : Cond) ∈ tB := tB_of (List.mem_append_right _ (List.mem_of_getElem? (i := 507) (by decide +kernel))) rfl
theorem mw_508 : (.methodLink "CompiledProgram$Machine" 123 ⟨"CompiledProgram$Machine", "takesJump", "(J)Z"⟩ : Cond) ∈ tB := tB_of (List.mem_append_right _ (List.mem_of_getElem? (i := 508) (by decide +kernel))) rfl
theorem mw_509 : (.instanceMethod ⟨"CompiledProgram$Machine", "takesJump", "(J)Z"⟩ : Cond) ∈ tB := tB_of (List.mem_append_right _ (List.mem_of_getElem? (i := 509) (by decide +kernel))) rfl
theorem mw_510 : (.selects "CompiledProgram$Machine" ⟨"CompiledProgram$Machine", "takesJump", "(J)Z"⟩ ⟨"CompiledProgram$Machine", "takesJump", "(J)Z"⟩ : Cond) ∈ tB := tB_of (List.mem_append_right _ (List.mem_of_getElem? (i := 510) (by decide +kernel))) rfl
set_option maxRecDepth 100000 in
theorem mw_511 : (.code ⟨"CompiledProgram$Machine", "takesJump", "(J)Z"⟩ prog_6_method_11_code 7 (some FieldType.boolean) : Cond) ∈ tB := tB_of (List.mem_append_right _ (List.mem_of_getElem? (i := 511) rfl)) rfl
theorem mw_512 : (.methodLink "CompiledProgram$Machine" 130 ⟨"CompiledProgram$Machine", "operand", "(J)J"⟩ : Cond) ∈ tB := tB_of (List.mem_append_right _ (List.mem_of_getElem? (i := 512) (by decide +kernel))) rfl
theorem mw_513 : (.instanceMethod ⟨"CompiledProgram$Machine", "operand", "(J)J"⟩ : Cond) ∈ tB := tB_of (List.mem_append_right _ (List.mem_of_getElem? (i := 513) (by decide +kernel))) rfl
theorem mw_514 : (.selects "CompiledProgram$Machine" ⟨"CompiledProgram$Machine", "operand", "(J)J"⟩ ⟨"CompiledProgram$Machine", "operand", "(J)J"⟩ : Cond) ∈ tB := tB_of (List.mem_append_right _ (List.mem_of_getElem? (i := 514) (by decide +kernel))) rfl
set_option maxRecDepth 100000 in
theorem mw_515 : (.code ⟨"CompiledProgram$Machine", "operand", "(J)J"⟩ prog_6_method_5_code 3 (some FieldType.long) : Cond) ∈ tB := tB_of (List.mem_append_right _ (List.mem_of_getElem? (i := 515) rfl)) rfl
theorem mw_516 : (.methodLink "CompiledProgram$Machine" 70 ⟨"CompiledProgram$Fields", "usesSource", "(J)Z"⟩ : Cond) ∈ tB := tB_of (List.mem_append_right _ (List.mem_of_getElem? (i := 516) (by decide +kernel))) rfl
theorem mw_517 : (.methodLink "CompiledProgram$Machine" 133 ⟨"CompiledProgram$Fields", "operation", "(J)I"⟩ : Cond) ∈ tB := tB_of (List.mem_append_right _ (List.mem_of_getElem? (i := 517) (by decide +kernel))) rfl
theorem mw_518 : (.methodLink "CompiledProgram$Machine" 136 ⟨"CompiledProgram$Arithmetic", "isTaken", "(IJJ)Z"⟩ : Cond) ∈ tB := tB_of (List.mem_append_right _ (List.mem_of_getElem? (i := 518) (by decide +kernel))) rfl
theorem mw_519 : (.static ⟨"CompiledProgram$Arithmetic", "isTaken", "(IJJ)Z"⟩ : Cond) ∈ tB := tB_of (List.mem_append_right _ (List.mem_of_getElem? (i := 519) (by decide +kernel))) rfl
set_option maxRecDepth 100000 in
theorem mw_520 : (.code ⟨"CompiledProgram$Arithmetic", "isTaken", "(IJJ)Z"⟩ prog_2_method_10_code 9 (some FieldType.boolean) : Cond) ∈ tB := tB_of (List.mem_append_right _ (List.mem_of_getElem? (i := 520) rfl)) rfl
theorem mw_521 : (.constantLong "CompiledProgram$Arithmetic" 33 (-9223372036854775808) : Cond) ∈ tB := tB_of (List.mem_append_right _ (List.mem_of_getElem? (i := 521) (by decide +kernel))) rfl
theorem mw_522 : (.methodLink "CompiledProgram$Machine" 126 ⟨"CompiledProgram$Fields", "jumpFrom", "(IJ)J"⟩ : Cond) ∈ tB := tB_of (List.mem_append_right _ (List.mem_of_getElem? (i := 522) (by decide +kernel))) rfl
theorem mw_523 : (.methodLink "CompiledProgram$Machine" 64 ⟨"CompiledProgram$Machine", "computed", "(J)J"⟩ : Cond) ∈ tB := tB_of (List.mem_append_right _ (List.mem_of_getElem? (i := 523) (by decide +kernel))) rfl
theorem mw_524 : (.instanceMethod ⟨"CompiledProgram$Machine", "computed", "(J)J"⟩ : Cond) ∈ tB := tB_of (List.mem_append_right _ (List.mem_of_getElem? (i := 524) (by decide +kernel))) rfl
theorem mw_525 : (.selects "CompiledProgram$Machine" ⟨"CompiledProgram$Machine", "computed", "(J)J"⟩ ⟨"CompiledProgram$Machine", "computed", "(J)J"⟩ : Cond) ∈ tB := tB_of (List.mem_append_right _ (List.mem_of_getElem? (i := 525) (by decide +kernel))) rfl
set_option maxRecDepth 100000 in
theorem mw_526 : (.code ⟨"CompiledProgram$Machine", "computed", "(J)J"⟩ prog_6_method_13_code 4 (some FieldType.long) : Cond) ∈ tB := tB_of (List.mem_append_right _ (List.mem_of_getElem? (i := 526) rfl)) rfl
theorem mw_527 : (.methodLink "CompiledProgram$Machine" 142 ⟨"CompiledProgram$Machine", "turnedOrCut", "(J)J"⟩ : Cond) ∈ tB := tB_of (List.mem_append_right _ (List.mem_of_getElem? (i := 527) (by decide +kernel))) rfl
theorem mw_528 : (.instanceMethod ⟨"CompiledProgram$Machine", "turnedOrCut", "(J)J"⟩ : Cond) ∈ tB := tB_of (List.mem_append_right _ (List.mem_of_getElem? (i := 528) (by decide +kernel))) rfl
theorem mw_529 : (.selects "CompiledProgram$Machine" ⟨"CompiledProgram$Machine", "turnedOrCut", "(J)J"⟩ ⟨"CompiledProgram$Machine", "turnedOrCut", "(J)J"⟩ : Cond) ∈ tB := tB_of (List.mem_append_right _ (List.mem_of_getElem? (i := 529) (by decide +kernel))) rfl
set_option maxRecDepth 100000 in
theorem mw_530 : (.code ⟨"CompiledProgram$Machine", "turnedOrCut", "(J)J"⟩ prog_6_method_14_code 5 (some FieldType.long) : Cond) ∈ tB := tB_of (List.mem_append_right _ (List.mem_of_getElem? (i := 530) rfl)) rfl
theorem mw_531 : (.methodLink "CompiledProgram$Machine" 153 ⟨"CompiledProgram$Arithmetic", "turned", "(JI)J"⟩ : Cond) ∈ tB := tB_of (List.mem_append_right _ (List.mem_of_getElem? (i := 531) (by decide +kernel))) rfl
theorem mw_532 : (.static ⟨"CompiledProgram$Arithmetic", "turned", "(JI)J"⟩ : Cond) ∈ tB := tB_of (List.mem_append_right _ (List.mem_of_getElem? (i := 532) (by decide +kernel))) rfl
set_option maxRecDepth 100000 in
theorem mw_533 : (.code ⟨"CompiledProgram$Arithmetic", "turned", "(JI)J"⟩ prog_2_method_9_code 3 (some FieldType.long) : Cond) ∈ tB := tB_of (List.mem_append_right _ (List.mem_of_getElem? (i := 533) rfl)) rfl
theorem mw_534 : (.methodLink "CompiledProgram$Arithmetic" 35 ⟨"java/lang/Long", "reverseBytes", "(J)J"⟩ : Cond) ∈ tB := tB_of (List.mem_append_right _ (List.mem_of_getElem? (i := 534) (by decide +kernel))) rfl
theorem mw_535 : (.static ⟨"java/lang/Long", "reverseBytes", "(J)J"⟩ : Cond) ∈ tB := tB_of (List.mem_append_right _ (List.mem_of_getElem? (i := 535) (by decide +kernel))) rfl
set_option maxRecDepth 100000 in
theorem mw_536 : (.code ⟨"java/lang/Long", "reverseBytes", "(J)J"⟩ prog_17_method_58_code 2 (some FieldType.long) : Cond) ∈ tB := tB_of (List.mem_append_right _ (List.mem_of_getElem? (i := 536) rfl)) rfl
theorem mw_537 : (.constantLong "java/lang/Long" 327 71777214294589695 : Cond) ∈ tB := tB_of (List.mem_append_right _ (List.mem_of_getElem? (i := 537) (by decide +kernel))) rfl
theorem mw_538 : (.constantLong "java/lang/Long" 329 4294901760 : Cond) ∈ tB := tB_of (List.mem_append_right _ (List.mem_of_getElem? (i := 538) (by decide +kernel))) rfl
theorem mw_539 : (.methodLink "CompiledProgram$Machine" 145 ⟨"CompiledProgram$Arithmetic", "wide", "(IIJJ)J"⟩ : Cond) ∈ tB := tB_of (List.mem_append_right _ (List.mem_of_getElem? (i := 539) (by decide +kernel))) rfl
theorem mw_540 : (.static ⟨"CompiledProgram$Arithmetic", "wide", "(IIJJ)J"⟩ : Cond) ∈ tB := tB_of (List.mem_append_right _ (List.mem_of_getElem? (i := 540) (by decide +kernel))) rfl
set_option maxRecDepth 100000 in
theorem mw_541 : (.code ⟨"CompiledProgram$Arithmetic", "wide", "(IIJJ)J"⟩ prog_2_method_2_code 6 (some FieldType.long) : Cond) ∈ tB := tB_of (List.mem_append_right _ (List.mem_of_getElem? (i := 541) rfl)) rfl
theorem mw_542 : (.methodLink "CompiledProgram$Arithmetic" 7 ⟨"CompiledProgram$Arithmetic", "quotient", "(ZJJ)J"⟩ : Cond) ∈ tB := tB_of (List.mem_append_right _ (List.mem_of_getElem? (i := 542) (by decide +kernel))) rfl
theorem mw_543 : (.static ⟨"CompiledProgram$Arithmetic", "quotient", "(ZJJ)J"⟩ : Cond) ∈ tB := tB_of (List.mem_append_right _ (List.mem_of_getElem? (i := 543) (by decide +kernel))) rfl
set_option maxRecDepth 100000 in
theorem mw_544 : (.code ⟨"CompiledProgram$Arithmetic", "quotient", "(ZJJ)J"⟩ prog_2_method_4_code 5 (some FieldType.long) : Cond) ∈ tB := tB_of (List.mem_append_right _ (List.mem_of_getElem? (i := 544) rfl)) rfl
theorem mw_545 : (.methodLink "CompiledProgram$Arithmetic" 29 ⟨"CompiledProgram$Arithmetic", "unsignedQuotient", "(JJ)J"⟩ : Cond) ∈ tB := tB_of (List.mem_append_right _ (List.mem_of_getElem? (i := 545) (by decide +kernel))) rfl
theorem mw_546 : (.static ⟨"CompiledProgram$Arithmetic", "unsignedQuotient", "(JJ)J"⟩ : Cond) ∈ tB := tB_of (List.mem_append_right _ (List.mem_of_getElem? (i := 546) (by decide +kernel))) rfl
set_option maxRecDepth 100000 in
theorem mw_547 : (.code ⟨"CompiledProgram$Arithmetic", "unsignedQuotient", "(JJ)J"⟩ prog_2_method_5_code 8 (some FieldType.long) : Cond) ∈ tB := tB_of (List.mem_append_right _ (List.mem_of_getElem? (i := 547) rfl)) rfl
theorem mw_548 : (.constantLong "CompiledProgram$Arithmetic" 13 63 : Cond) ∈ tB := tB_of (List.mem_append_right _ (List.mem_of_getElem? (i := 548) (by decide +kernel))) rfl
theorem mw_549 : (.methodLink "CompiledProgram$Arithmetic" 15 ⟨"CompiledProgram$Arithmetic", "rest", "(ZJJ)J"⟩ : Cond) ∈ tB := tB_of (List.mem_append_right _ (List.mem_of_getElem? (i := 549) (by decide +kernel))) rfl
theorem mw_550 : (.static ⟨"CompiledProgram$Arithmetic", "rest", "(ZJJ)J"⟩ : Cond) ∈ tB := tB_of (List.mem_append_right _ (List.mem_of_getElem? (i := 550) (by decide +kernel))) rfl
set_option maxRecDepth 100000 in
theorem mw_551 : (.code ⟨"CompiledProgram$Arithmetic", "rest", "(ZJJ)J"⟩ prog_2_method_6_code 5 (some FieldType.long) : Cond) ∈ tB := tB_of (List.mem_append_right _ (List.mem_of_getElem? (i := 551) rfl)) rfl
theorem mw_552 : (.methodLink "CompiledProgram$Arithmetic" 18 ⟨"CompiledProgram$Arithmetic", "signed", "(JI)J"⟩ : Cond) ∈ tB := tB_of (List.mem_append_right _ (List.mem_of_getElem? (i := 552) (by decide +kernel))) rfl
theorem mw_553 : (.methodLink "CompiledProgram$Machine" 149 ⟨"CompiledProgram$Arithmetic", "narrow", "(IIII)J"⟩ : Cond) ∈ tB := tB_of (List.mem_append_right _ (List.mem_of_getElem? (i := 553) (by decide +kernel))) rfl
theorem mw_554 : (.static ⟨"CompiledProgram$Arithmetic", "narrow", "(IIII)J"⟩ : Cond) ∈ tB := tB_of (List.mem_append_right _ (List.mem_of_getElem? (i := 554) (by decide +kernel))) rfl
set_option maxRecDepth 100000 in
theorem mw_555 : (.code ⟨"CompiledProgram$Arithmetic", "narrow", "(IIII)J"⟩ prog_2_method_3_code 4 (some FieldType.long) : Cond) ∈ tB := tB_of (List.mem_append_right _ (List.mem_of_getElem? (i := 555) rfl)) rfl
theorem mw_556 : (.methodLink "CompiledProgram$Arithmetic" 22 ⟨"CompiledProgram$Arithmetic", "lowest", "(JI)J"⟩ : Cond) ∈ tB := tB_of (List.mem_append_right _ (List.mem_of_getElem? (i := 556) (by decide +kernel))) rfl
theorem mw_557 : (.methodLink "CompiledProgram$Arithmetic" 25 ⟨"CompiledProgram$Arithmetic", "wide", "(IIJJ)J"⟩ : Cond) ∈ tB := tB_of (List.mem_append_right _ (List.mem_of_getElem? (i := 557) (by decide +kernel))) rfl
theorem mw_558 : (.classLink "CompiledProgramLaw" 44 "CompiledProgramModel" : Cond) ∈ tB := tB_of (List.mem_append_right _ (List.mem_of_getElem? (i := 558) (by decide +kernel))) rfl
theorem mw_559 : (.instantiable "CompiledProgramModel" 15 : Cond) ∈ tB := tB_of (List.mem_append_right _ (List.mem_of_getElem? (i := 559) (by decide +kernel))) rfl
theorem mw_560 : (.methodLink "CompiledProgramLaw" 46 ⟨"CompiledProgramModel", "<init>", "()V"⟩ : Cond) ∈ tB := tB_of (List.mem_append_right _ (List.mem_of_getElem? (i := 560) (by decide +kernel))) rfl
theorem mw_561 : (.instanceMethod ⟨"CompiledProgramModel", "<init>", "()V"⟩ : Cond) ∈ tB := tB_of (List.mem_append_right _ (List.mem_of_getElem? (i := 561) (by decide +kernel))) rfl
set_option maxRecDepth 100000 in
theorem mw_562 : (.code ⟨"CompiledProgramModel", "<init>", "()V"⟩ prog_11_method_1_code 1 (none : Option FieldType) : Cond) ∈ tB := tB_of (List.mem_append_right _ (List.mem_of_getElem? (i := 562) rfl)) rfl
theorem mw_563 : (.methodLink "CompiledProgramModel" 1 ⟨"java/lang/Object", "<init>", "()V"⟩ : Cond) ∈ tB := tB_of (List.mem_append_right _ (List.mem_of_getElem? (i := 563) (by decide +kernel))) rfl
theorem mw_564 : (.constant "CompiledProgramModel" 7 32768 : Cond) ∈ tB := tB_of (List.mem_append_right _ (List.mem_of_getElem? (i := 564) (by decide +kernel))) rfl
theorem mw_565 : (.fieldLink "CompiledProgramModel" 28 "CompiledProgramModel" "thrown" "I" : Cond) ∈ tB := tB_of (List.mem_append_right _ (List.mem_of_getElem? (i := 565) (by decide +kernel))) rfl
theorem mw_566 : (.fieldLink "CompiledProgramModel" 8 "CompiledProgramModel" "tape" "[I" : Cond) ∈ tB := tB_of (List.mem_append_right _ (List.mem_of_getElem? (i := 566) (by decide +kernel))) rfl
theorem mw_567 : (.fieldLink "CompiledProgramModel" 31 "CompiledProgramModel" "taped" "I" : Cond) ∈ tB := tB_of (List.mem_append_right _ (List.mem_of_getElem? (i := 567) (by decide +kernel))) rfl
theorem mw_568 : (.fieldLink "CompiledProgramModel" 14 "CompiledProgramModel" "program" "[I" : Cond) ∈ tB := tB_of (List.mem_append_right _ (List.mem_of_getElem? (i := 568) (by decide +kernel))) rfl
theorem mw_569 : (.fieldLink "CompiledProgramModel" 104 "CompiledProgramModel" "places" "I" : Cond) ∈ tB := tB_of (List.mem_append_right _ (List.mem_of_getElem? (i := 569) (by decide +kernel))) rfl
theorem mw_570 : (.fieldLink "CompiledProgramModel" 17 "CompiledProgramModel" "registers" "[J" : Cond) ∈ tB := tB_of (List.mem_append_right _ (List.mem_of_getElem? (i := 570) (by decide +kernel))) rfl
theorem mw_571 : (.fieldLink "CompiledProgramModel" 21 "CompiledProgramModel" "memory" "[I" : Cond) ∈ tB := tB_of (List.mem_append_right _ (List.mem_of_getElem? (i := 571) (by decide +kernel))) rfl
theorem mw_572 : (.fieldLink "CompiledProgramModel" 24 "CompiledProgramModel" "place" "I" : Cond) ∈ tB := tB_of (List.mem_append_right _ (List.mem_of_getElem? (i := 572) (by decide +kernel))) rfl
theorem mw_573 : (.fieldLink "CompiledProgramModel" 180 "CompiledProgramModel" "steps" "I" : Cond) ∈ tB := tB_of (List.mem_append_right _ (List.mem_of_getElem? (i := 573) (by decide +kernel))) rfl
theorem mw_574 : (.fieldLink "CompiledProgramModel" 34 "CompiledProgramModel" "code" "I" : Cond) ∈ tB := tB_of (List.mem_append_right _ (List.mem_of_getElem? (i := 574) (by decide +kernel))) rfl
theorem mw_575 : (.fieldLink "CompiledProgramModel" 37 "CompiledProgramModel" "d" "I" : Cond) ∈ tB := tB_of (List.mem_append_right _ (List.mem_of_getElem? (i := 575) (by decide +kernel))) rfl
theorem mw_576 : (.fieldLink "CompiledProgramModel" 40 "CompiledProgramModel" "s" "I" : Cond) ∈ tB := tB_of (List.mem_append_right _ (List.mem_of_getElem? (i := 576) (by decide +kernel))) rfl
theorem mw_577 : (.fieldLink "CompiledProgramModel" 47 "CompiledProgramModel" "o" "I" : Cond) ∈ tB := tB_of (List.mem_append_right _ (List.mem_of_getElem? (i := 577) (by decide +kernel))) rfl
theorem mw_578 : (.fieldLink "CompiledProgramModel" 50 "CompiledProgramModel" "i" "I" : Cond) ∈ tB := tB_of (List.mem_append_right _ (List.mem_of_getElem? (i := 578) (by decide +kernel))) rfl
theorem mw_579 : (.fieldLink "CompiledProgramModel" 158 "CompiledProgramModel" "next" "I" : Cond) ∈ tB := tB_of (List.mem_append_right _ (List.mem_of_getElem? (i := 579) (by decide +kernel))) rfl
theorem mw_580 : (.lays "CompiledProgramModel" "CompiledProgramModel" "thrown" "I" : Cond) ∈ tB := tB_of (List.mem_append_right _ (List.mem_of_getElem? (i := 580) (by decide +kernel))) rfl
theorem mw_581 : (.soleField "CompiledProgramModel" "thrown" : Cond) ∈ tB := tB_of (List.mem_append_right _ (List.mem_of_getElem? (i := 581) (by decide +kernel))) rfl
theorem mw_582 : (.laysFinal "CompiledProgramModel" "CompiledProgramModel" "tape" "[I" : Cond) ∈ tB := tB_of (List.mem_append_right _ (List.mem_of_getElem? (i := 582) (by decide +kernel))) rfl
theorem mw_583 : (.soleField "CompiledProgramModel" "tape" : Cond) ∈ tB := tB_of (List.mem_append_right _ (List.mem_of_getElem? (i := 583) (by decide +kernel))) rfl
theorem mw_584 : (.lays "CompiledProgramModel" "CompiledProgramModel" "taped" "I" : Cond) ∈ tB := tB_of (List.mem_append_right _ (List.mem_of_getElem? (i := 584) (by decide +kernel))) rfl
theorem mw_585 : (.soleField "CompiledProgramModel" "taped" : Cond) ∈ tB := tB_of (List.mem_append_right _ (List.mem_of_getElem? (i := 585) (by decide +kernel))) rfl
theorem mw_586 : (.laysFinal "CompiledProgramModel" "CompiledProgramModel" "program" "[I" : Cond) ∈ tB := tB_of (List.mem_append_right _ (List.mem_of_getElem? (i := 586) (by decide +kernel))) rfl
theorem mw_587 : (.soleField "CompiledProgramModel" "program" : Cond) ∈ tB := tB_of (List.mem_append_right _ (List.mem_of_getElem? (i := 587) (by decide +kernel))) rfl
theorem mw_588 : (.lays "CompiledProgramModel" "CompiledProgramModel" "places" "I" : Cond) ∈ tB := tB_of (List.mem_append_right _ (List.mem_of_getElem? (i := 588) (by decide +kernel))) rfl
theorem mw_589 : (.soleField "CompiledProgramModel" "places" : Cond) ∈ tB := tB_of (List.mem_append_right _ (List.mem_of_getElem? (i := 589) (by decide +kernel))) rfl
theorem mw_590 : (.laysFinal "CompiledProgramModel" "CompiledProgramModel" "registers" "[J" : Cond) ∈ tB := tB_of (List.mem_append_right _ (List.mem_of_getElem? (i := 590) (by decide +kernel))) rfl
theorem mw_591 : (.soleField "CompiledProgramModel" "registers" : Cond) ∈ tB := tB_of (List.mem_append_right _ (List.mem_of_getElem? (i := 591) (by decide +kernel))) rfl
theorem mw_592 : (.laysFinal "CompiledProgramModel" "CompiledProgramModel" "memory" "[I" : Cond) ∈ tB := tB_of (List.mem_append_right _ (List.mem_of_getElem? (i := 592) (by decide +kernel))) rfl
theorem mw_593 : (.soleField "CompiledProgramModel" "memory" : Cond) ∈ tB := tB_of (List.mem_append_right _ (List.mem_of_getElem? (i := 593) (by decide +kernel))) rfl
theorem mw_594 : (.lays "CompiledProgramModel" "CompiledProgramModel" "place" "I" : Cond) ∈ tB := tB_of (List.mem_append_right _ (List.mem_of_getElem? (i := 594) (by decide +kernel))) rfl
theorem mw_595 : (.soleField "CompiledProgramModel" "place" : Cond) ∈ tB := tB_of (List.mem_append_right _ (List.mem_of_getElem? (i := 595) (by decide +kernel))) rfl
theorem mw_596 : (.lays "CompiledProgramModel" "CompiledProgramModel" "steps" "I" : Cond) ∈ tB := tB_of (List.mem_append_right _ (List.mem_of_getElem? (i := 596) (by decide +kernel))) rfl
theorem mw_597 : (.soleField "CompiledProgramModel" "steps" : Cond) ∈ tB := tB_of (List.mem_append_right _ (List.mem_of_getElem? (i := 597) (by decide +kernel))) rfl
theorem mw_598 : (.lays "CompiledProgramModel" "CompiledProgramModel" "code" "I" : Cond) ∈ tB := tB_of (List.mem_append_right _ (List.mem_of_getElem? (i := 598) (by decide +kernel))) rfl
theorem mw_599 : (.soleField "CompiledProgramModel" "code" : Cond) ∈ tB := tB_of (List.mem_append_right _ (List.mem_of_getElem? (i := 599) (by decide +kernel))) rfl
theorem mw_600 : (.lays "CompiledProgramModel" "CompiledProgramModel" "d" "I" : Cond) ∈ tB := tB_of (List.mem_append_right _ (List.mem_of_getElem? (i := 600) (by decide +kernel))) rfl
theorem mw_601 : (.soleField "CompiledProgramModel" "d" : Cond) ∈ tB := tB_of (List.mem_append_right _ (List.mem_of_getElem? (i := 601) (by decide +kernel))) rfl
theorem mw_602 : (.lays "CompiledProgramModel" "CompiledProgramModel" "s" "I" : Cond) ∈ tB := tB_of (List.mem_append_right _ (List.mem_of_getElem? (i := 602) (by decide +kernel))) rfl
theorem mw_603 : (.soleField "CompiledProgramModel" "s" : Cond) ∈ tB := tB_of (List.mem_append_right _ (List.mem_of_getElem? (i := 603) (by decide +kernel))) rfl
theorem mw_604 : (.lays "CompiledProgramModel" "CompiledProgramModel" "o" "I" : Cond) ∈ tB := tB_of (List.mem_append_right _ (List.mem_of_getElem? (i := 604) (by decide +kernel))) rfl
theorem mw_605 : (.soleField "CompiledProgramModel" "o" : Cond) ∈ tB := tB_of (List.mem_append_right _ (List.mem_of_getElem? (i := 605) (by decide +kernel))) rfl
theorem mw_606 : (.lays "CompiledProgramModel" "CompiledProgramModel" "i" "I" : Cond) ∈ tB := tB_of (List.mem_append_right _ (List.mem_of_getElem? (i := 606) (by decide +kernel))) rfl
theorem mw_607 : (.soleField "CompiledProgramModel" "i" : Cond) ∈ tB := tB_of (List.mem_append_right _ (List.mem_of_getElem? (i := 607) (by decide +kernel))) rfl
theorem mw_608 : (.lays "CompiledProgramModel" "CompiledProgramModel" "next" "I" : Cond) ∈ tB := tB_of (List.mem_append_right _ (List.mem_of_getElem? (i := 608) (by decide +kernel))) rfl
theorem mw_609 : (.soleField "CompiledProgramModel" "next" : Cond) ∈ tB := tB_of (List.mem_append_right _ (List.mem_of_getElem? (i := 609) (by decide +kernel))) rfl
theorem mw_610 : (.superclass "CompiledProgramModel" "java/lang/Object" : Cond) ∈ tB := tB_of (List.mem_append_right _ (List.mem_of_getElem? (i := 610) (by decide +kernel))) rfl
theorem mw_611 : (.arrayClass FieldType.int : Cond) ∈ tB := tB_of (List.mem_append_right _ (List.mem_of_getElem? (i := 611) (by decide +kernel))) rfl
theorem mw_612 : (.methodLink "CompiledProgramLaw" 53 ⟨"CompiledProgramModel", "thrown", "()I"⟩ : Cond) ∈ tB := tB_of (List.mem_append_right _ (List.mem_of_getElem? (i := 612) (by decide +kernel))) rfl
theorem mw_613 : (.instanceMethod ⟨"CompiledProgramModel", "thrown", "()I"⟩ : Cond) ∈ tB := tB_of (List.mem_append_right _ (List.mem_of_getElem? (i := 613) (by decide +kernel))) rfl
theorem mw_614 : (.selects "CompiledProgramModel" ⟨"CompiledProgramModel", "thrown", "()I"⟩ ⟨"CompiledProgramModel", "thrown", "()I"⟩ : Cond) ∈ tB := tB_of (List.mem_append_right _ (List.mem_of_getElem? (i := 614) (by decide +kernel))) rfl
set_option maxRecDepth 100000 in
theorem mw_615 : (.code ⟨"CompiledProgramModel", "thrown", "()I"⟩ prog_11_method_2_code 1 (some FieldType.int) : Cond) ∈ tB := tB_of (List.mem_append_right _ (List.mem_of_getElem? (i := 615) rfl)) rfl
theorem mw_616 : (.methodLink "CompiledProgramLaw" 52 ⟨"CompiledProgramModel", "feed", "(IIIII)I"⟩ : Cond) ∈ tB := tB_of (List.mem_append_right _ (List.mem_of_getElem? (i := 616) (by decide +kernel))) rfl
theorem mw_617 : (.instanceMethod ⟨"CompiledProgramModel", "feed", "(IIIII)I"⟩ : Cond) ∈ tB := tB_of (List.mem_append_right _ (List.mem_of_getElem? (i := 617) (by decide +kernel))) rfl
theorem mw_618 : (.selects "CompiledProgramModel" ⟨"CompiledProgramModel", "feed", "(IIIII)I"⟩ ⟨"CompiledProgramModel", "feed", "(IIIII)I"⟩ : Cond) ∈ tB := tB_of (List.mem_append_right _ (List.mem_of_getElem? (i := 618) (by decide +kernel))) rfl
set_option maxRecDepth 100000 in
theorem mw_619 : (.code ⟨"CompiledProgramModel", "feed", "(IIIII)I"⟩ prog_11_method_3_code 8 (some FieldType.int) : Cond) ∈ tB := tB_of (List.mem_append_right _ (List.mem_of_getElem? (i := 619) rfl)) rfl
theorem mw_620 : (.methodLink "CompiledProgramLaw" 60 ⟨"CompiledProgramModel", "end", "(I)V"⟩ : Cond) ∈ tB := tB_of (List.mem_append_right _ (List.mem_of_getElem? (i := 620) (by decide +kernel))) rfl
theorem mw_621 : (.instanceMethod ⟨"CompiledProgramModel", "end", "(I)V"⟩ : Cond) ∈ tB := tB_of (List.mem_append_right _ (List.mem_of_getElem? (i := 621) (by decide +kernel))) rfl
theorem mw_622 : (.selects "CompiledProgramModel" ⟨"CompiledProgramModel", "end", "(I)V"⟩ ⟨"CompiledProgramModel", "end", "(I)V"⟩ : Cond) ∈ tB := tB_of (List.mem_append_right _ (List.mem_of_getElem? (i := 622) (by decide +kernel))) rfl
set_option maxRecDepth 100000 in
theorem mw_623 : (.code ⟨"CompiledProgramModel", "end", "(I)V"⟩ prog_11_method_4_code 2 (none : Option FieldType) : Cond) ∈ tB := tB_of (List.mem_append_right _ (List.mem_of_getElem? (i := 623) rfl)) rfl
theorem mw_624 : (.methodLink "CompiledProgramLaw" 64 ⟨"CompiledProgramModel", "load", "()I"⟩ : Cond) ∈ tB := tB_of (List.mem_append_right _ (List.mem_of_getElem? (i := 624) (by decide +kernel))) rfl
theorem mw_625 : (.instanceMethod ⟨"CompiledProgramModel", "load", "()I"⟩ : Cond) ∈ tB := tB_of (List.mem_append_right _ (List.mem_of_getElem? (i := 625) (by decide +kernel))) rfl
theorem mw_626 : (.selects "CompiledProgramModel" ⟨"CompiledProgramModel", "load", "()I"⟩ ⟨"CompiledProgramModel", "load", "()I"⟩ : Cond) ∈ tB := tB_of (List.mem_append_right _ (List.mem_of_getElem? (i := 626) (by decide +kernel))) rfl
set_option maxRecDepth 100000 in
theorem mw_627 : (.code ⟨"CompiledProgramModel", "load", "()I"⟩ prog_11_method_21_code 4 (some FieldType.int) : Cond) ∈ tB := tB_of (List.mem_append_right _ (List.mem_of_getElem? (i := 627) rfl)) rfl
theorem mw_628 : (.methodLink "CompiledProgramModel" 97 ⟨"CompiledProgramModel", "wrongPlace", "(I)I"⟩ : Cond) ∈ tB := tB_of (List.mem_append_right _ (List.mem_of_getElem? (i := 628) (by decide +kernel))) rfl
theorem mw_630 : (.instanceMethod ⟨"CompiledProgramModel", "wrongPlace", "(I)I"⟩ : Cond) ∈ tB := tB_of (List.mem_append_right _ (List.mem_of_getElem? (i := 630) (by decide +kernel))) rfl
set_option maxRecDepth 100000 in
theorem mw_631 : (.code ⟨"CompiledProgramModel", "wrongPlace", "(I)I"⟩ prog_11_method_18_code 3 (some FieldType.int) : Cond) ∈ tB := tB_of (List.mem_append_right _ (List.mem_of_getElem? (i := 631) rfl)) rfl
theorem mw_632 : (.methodLink "CompiledProgramModel" 89 ⟨"CompiledProgramModel", "isInstruction", "([III)Z"⟩ : Cond) ∈ tB := tB_of (List.mem_append_right _ (List.mem_of_getElem? (i := 632) (by decide +kernel))) rfl
theorem mw_634 : (.instanceMethod ⟨"CompiledProgramModel", "isInstruction", "([III)Z"⟩ : Cond) ∈ tB := tB_of (List.mem_append_right _ (List.mem_of_getElem? (i := 634) (by decide +kernel))) rfl
set_option maxRecDepth 100000 in
theorem mw_635 : (.code ⟨"CompiledProgramModel", "isInstruction", "([III)Z"⟩ prog_11_method_17_code 6 (some FieldType.boolean) : Cond) ∈ tB := tB_of (List.mem_append_right _ (List.mem_of_getElem? (i := 635) rfl)) rfl
theorem mw_636 : (.methodLink "CompiledProgramModel" 70 ⟨"CompiledProgramModel", "take", "([II)V"⟩ : Cond) ∈ tB := tB_of (List.mem_append_right _ (List.mem_of_getElem? (i := 636) (by decide +kernel))) rfl
theorem mw_638 : (.instanceMethod ⟨"CompiledProgramModel", "take", "([II)V"⟩ : Cond) ∈ tB := tB_of (List.mem_append_right _ (List.mem_of_getElem? (i := 638) (by decide +kernel))) rfl
set_option maxRecDepth 100000 in
theorem mw_639 : (.code ⟨"CompiledProgramModel", "take", "([II)V"⟩ prog_11_method_6_code 3 (none : Option FieldType) : Cond) ∈ tB := tB_of (List.mem_append_right _ (List.mem_of_getElem? (i := 639) rfl)) rfl
theorem mw_640 : (.methodLink "CompiledProgramModel" 43 ⟨"CompiledProgramModel", "number", "([III)I"⟩ : Cond) ∈ tB := tB_of (List.mem_append_right _ (List.mem_of_getElem? (i := 640) (by decide +kernel))) rfl
theorem mw_641 : (.static ⟨"CompiledProgramModel", "number", "([III)I"⟩ : Cond) ∈ tB := tB_of (List.mem_append_right _ (List.mem_of_getElem? (i := 641) (by decide +kernel))) rfl
set_option maxRecDepth 100000 in
theorem mw_642 : (.code ⟨"CompiledProgramModel", "number", "([III)I"⟩ prog_11_method_5_code 5 (some FieldType.int) : Cond) ∈ tB := tB_of (List.mem_append_right _ (List.mem_of_getElem? (i := 642) rfl)) rfl
theorem mw_643 : (.methodLink "CompiledProgramModel" 57 ⟨"CompiledProgramModel", "kind", "()I"⟩ : Cond) ∈ tB := tB_of (List.mem_append_right _ (List.mem_of_getElem? (i := 643) (by decide +kernel))) rfl
theorem mw_645 : (.instanceMethod ⟨"CompiledProgramModel", "kind", "()I"⟩ : Cond) ∈ tB := tB_of (List.mem_append_right _ (List.mem_of_getElem? (i := 645) (by decide +kernel))) rfl
set_option maxRecDepth 100000 in
theorem mw_646 : (.code ⟨"CompiledProgramModel", "kind", "()I"⟩ prog_11_method_7_code 1 (some FieldType.int) : Cond) ∈ tB := tB_of (List.mem_append_right _ (List.mem_of_getElem? (i := 646) rfl)) rfl
theorem mw_647 : (.methodLink "CompiledProgramModel" 74 ⟨"CompiledProgramModel", "isArithmetic", "()Z"⟩ : Cond) ∈ tB := tB_of (List.mem_append_right _ (List.mem_of_getElem? (i := 647) (by decide +kernel))) rfl
theorem mw_649 : (.instanceMethod ⟨"CompiledProgramModel", "isArithmetic", "()Z"⟩ : Cond) ∈ tB := tB_of (List.mem_append_right _ (List.mem_of_getElem? (i := 649) (by decide +kernel))) rfl
set_option maxRecDepth 100000 in
theorem mw_650 : (.code ⟨"CompiledProgramModel", "isArithmetic", "()Z"⟩ prog_11_method_14_code 3 (some FieldType.boolean) : Cond) ∈ tB := tB_of (List.mem_append_right _ (List.mem_of_getElem? (i := 650) rfl)) rfl
theorem mw_651 : (.methodLink "CompiledProgramModel" 61 ⟨"CompiledProgramModel", "n", "()I"⟩ : Cond) ∈ tB := tB_of (List.mem_append_right _ (List.mem_of_getElem? (i := 651) (by decide +kernel))) rfl
theorem mw_653 : (.instanceMethod ⟨"CompiledProgramModel", "n", "()I"⟩ : Cond) ∈ tB := tB_of (List.mem_append_right _ (List.mem_of_getElem? (i := 653) (by decide +kernel))) rfl
set_option maxRecDepth 100000 in
theorem mw_654 : (.code ⟨"CompiledProgramModel", "n", "()I"⟩ prog_11_method_8_code 1 (some FieldType.int) : Cond) ∈ tB := tB_of (List.mem_append_right _ (List.mem_of_getElem? (i := 654) rfl)) rfl
theorem mw_655 : (.methodLink "CompiledProgramModel" 53 ⟨"CompiledProgramModel", "bit3", "()Z"⟩ : Cond) ∈ tB := tB_of (List.mem_append_right _ (List.mem_of_getElem? (i := 655) (by decide +kernel))) rfl
theorem mw_657 : (.instanceMethod ⟨"CompiledProgramModel", "bit3", "()Z"⟩ : Cond) ∈ tB := tB_of (List.mem_append_right _ (List.mem_of_getElem? (i := 657) (by decide +kernel))) rfl
set_option maxRecDepth 100000 in
theorem mw_658 : (.code ⟨"CompiledProgramModel", "bit3", "()Z"⟩ prog_11_method_9_code 1 (some FieldType.boolean) : Cond) ∈ tB := tB_of (List.mem_append_right _ (List.mem_of_getElem? (i := 658) rfl)) rfl
theorem mw_659 : (.methodLink "CompiledProgramModel" 64 ⟨"CompiledProgramModel", "hasSource", "()Z"⟩ : Cond) ∈ tB := tB_of (List.mem_append_right _ (List.mem_of_getElem? (i := 659) (by decide +kernel))) rfl
theorem mw_661 : (.instanceMethod ⟨"CompiledProgramModel", "hasSource", "()Z"⟩ : Cond) ∈ tB := tB_of (List.mem_append_right _ (List.mem_of_getElem? (i := 661) (by decide +kernel))) rfl
set_option maxRecDepth 100000 in
theorem mw_662 : (.code ⟨"CompiledProgramModel", "hasSource", "()Z"⟩ prog_11_method_13_code 1 (some FieldType.boolean) : Cond) ∈ tB := tB_of (List.mem_append_right _ (List.mem_of_getElem? (i := 662) rfl)) rfl
theorem mw_663 : (.methodLink "CompiledProgramModel" 77 ⟨"CompiledProgramModel", "isJump", "()Z"⟩ : Cond) ∈ tB := tB_of (List.mem_append_right _ (List.mem_of_getElem? (i := 663) (by decide +kernel))) rfl
theorem mw_665 : (.instanceMethod ⟨"CompiledProgramModel", "isJump", "()Z"⟩ : Cond) ∈ tB := tB_of (List.mem_append_right _ (List.mem_of_getElem? (i := 665) (by decide +kernel))) rfl
set_option maxRecDepth 100000 in
theorem mw_666 : (.code ⟨"CompiledProgramModel", "isJump", "()Z"⟩ prog_11_method_15_code 2 (some FieldType.boolean) : Cond) ∈ tB := tB_of (List.mem_append_right _ (List.mem_of_getElem? (i := 666) rfl)) rfl
theorem mw_667 : (.methodLink "CompiledProgramModel" 80 ⟨"CompiledProgramModel", "mode", "()I"⟩ : Cond) ∈ tB := tB_of (List.mem_append_right _ (List.mem_of_getElem? (i := 667) (by decide +kernel))) rfl
theorem mw_669 : (.instanceMethod ⟨"CompiledProgramModel", "mode", "()I"⟩ : Cond) ∈ tB := tB_of (List.mem_append_right _ (List.mem_of_getElem? (i := 669) (by decide +kernel))) rfl
set_option maxRecDepth 100000 in
theorem mw_670 : (.code ⟨"CompiledProgramModel", "mode", "()I"⟩ prog_11_method_11_code 1 (some FieldType.int) : Cond) ∈ tB := tB_of (List.mem_append_right _ (List.mem_of_getElem? (i := 670) rfl)) rfl
theorem mw_671 : (.methodLink "CompiledProgramModel" 67 ⟨"CompiledProgramModel", "size", "()I"⟩ : Cond) ∈ tB := tB_of (List.mem_append_right _ (List.mem_of_getElem? (i := 671) (by decide +kernel))) rfl
theorem mw_673 : (.instanceMethod ⟨"CompiledProgramModel", "size", "()I"⟩ : Cond) ∈ tB := tB_of (List.mem_append_right _ (List.mem_of_getElem? (i := 673) (by decide +kernel))) rfl
set_option maxRecDepth 100000 in
theorem mw_674 : (.code ⟨"CompiledProgramModel", "size", "()I"⟩ prog_11_method_10_code 2 (some FieldType.int) : Cond) ∈ tB := tB_of (List.mem_append_right _ (List.mem_of_getElem? (i := 674) rfl)) rfl
theorem mw_675 : (.methodLink "CompiledProgramModel" 83 ⟨"CompiledProgramModel", "isAtomic", "()Z"⟩ : Cond) ∈ tB := tB_of (List.mem_append_right _ (List.mem_of_getElem? (i := 675) (by decide +kernel))) rfl
theorem mw_677 : (.instanceMethod ⟨"CompiledProgramModel", "isAtomic", "()Z"⟩ : Cond) ∈ tB := tB_of (List.mem_append_right _ (List.mem_of_getElem? (i := 677) (by decide +kernel))) rfl
set_option maxRecDepth 100000 in
theorem mw_678 : (.code ⟨"CompiledProgramModel", "isAtomic", "()Z"⟩ prog_11_method_16_code 3 (some FieldType.boolean) : Cond) ∈ tB := tB_of (List.mem_append_right _ (List.mem_of_getElem? (i := 678) rfl)) rfl
theorem mw_679 : (.methodLink "CompiledProgramModel" 86 ⟨"CompiledProgramModel", "isWide", "()Z"⟩ : Cond) ∈ tB := tB_of (List.mem_append_right _ (List.mem_of_getElem? (i := 679) (by decide +kernel))) rfl
theorem mw_681 : (.instanceMethod ⟨"CompiledProgramModel", "isWide", "()Z"⟩ : Cond) ∈ tB := tB_of (List.mem_append_right _ (List.mem_of_getElem? (i := 681) (by decide +kernel))) rfl
set_option maxRecDepth 100000 in
theorem mw_682 : (.code ⟨"CompiledProgramModel", "isWide", "()Z"⟩ prog_11_method_12_code 1 (some FieldType.boolean) : Cond) ∈ tB := tB_of (List.mem_append_right _ (List.mem_of_getElem? (i := 682) rfl)) rfl
theorem mw_683 : (.methodLink "CompiledProgramModel" 101 ⟨"CompiledProgramModel", "wrongWay", "(I)I"⟩ : Cond) ∈ tB := tB_of (List.mem_append_right _ (List.mem_of_getElem? (i := 683) (by decide +kernel))) rfl
theorem mw_685 : (.instanceMethod ⟨"CompiledProgramModel", "wrongWay", "(I)I"⟩ : Cond) ∈ tB := tB_of (List.mem_append_right _ (List.mem_of_getElem? (i := 685) (by decide +kernel))) rfl
set_option maxRecDepth 100000 in
theorem mw_686 : (.code ⟨"CompiledProgramModel", "wrongWay", "(I)I"⟩ prog_11_method_20_code 8 (some FieldType.int) : Cond) ∈ tB := tB_of (List.mem_append_right _ (List.mem_of_getElem? (i := 686) rfl)) rfl
theorem mw_687 : (.methodLink "CompiledProgramModel" 93 ⟨"CompiledProgramModel", "isGoal", "(JI)Z"⟩ : Cond) ∈ tB := tB_of (List.mem_append_right _ (List.mem_of_getElem? (i := 687) (by decide +kernel))) rfl
theorem mw_689 : (.instanceMethod ⟨"CompiledProgramModel", "isGoal", "(JI)Z"⟩ : Cond) ∈ tB := tB_of (List.mem_append_right _ (List.mem_of_getElem? (i := 689) (by decide +kernel))) rfl
set_option maxRecDepth 100000 in
theorem mw_690 : (.code ⟨"CompiledProgramModel", "isGoal", "(JI)Z"⟩ prog_11_method_19_code 5 (some FieldType.boolean) : Cond) ∈ tB := tB_of (List.mem_append_right _ (List.mem_of_getElem? (i := 690) rfl)) rfl
theorem mw_691 : (.methodLink "CompiledProgramLaw" 68 ⟨"CompiledProgramModel", "places", "()I"⟩ : Cond) ∈ tB := tB_of (List.mem_append_right _ (List.mem_of_getElem? (i := 691) (by decide +kernel))) rfl
theorem mw_692 : (.instanceMethod ⟨"CompiledProgramModel", "places", "()I"⟩ : Cond) ∈ tB := tB_of (List.mem_append_right _ (List.mem_of_getElem? (i := 692) (by decide +kernel))) rfl
theorem mw_693 : (.selects "CompiledProgramModel" ⟨"CompiledProgramModel", "places", "()I"⟩ ⟨"CompiledProgramModel", "places", "()I"⟩ : Cond) ∈ tB := tB_of (List.mem_append_right _ (List.mem_of_getElem? (i := 693) (by decide +kernel))) rfl
set_option maxRecDepth 100000 in
theorem mw_694 : (.code ⟨"CompiledProgramModel", "places", "()I"⟩ prog_11_method_22_code 1 (some FieldType.int) : Cond) ∈ tB := tB_of (List.mem_append_right _ (List.mem_of_getElem? (i := 694) rfl)) rfl
theorem mw_695 : (.methodLink "CompiledProgramLaw" 74 ⟨"CompiledProgramModel", "set", "(IJ)V"⟩ : Cond) ∈ tB := tB_of (List.mem_append_right _ (List.mem_of_getElem? (i := 695) (by decide +kernel))) rfl
theorem mw_696 : (.instanceMethod ⟨"CompiledProgramModel", "set", "(IJ)V"⟩ : Cond) ∈ tB := tB_of (List.mem_append_right _ (List.mem_of_getElem? (i := 696) (by decide +kernel))) rfl
theorem mw_697 : (.selects "CompiledProgramModel" ⟨"CompiledProgramModel", "set", "(IJ)V"⟩ ⟨"CompiledProgramModel", "set", "(IJ)V"⟩ : Cond) ∈ tB := tB_of (List.mem_append_right _ (List.mem_of_getElem? (i := 697) (by decide +kernel))) rfl
set_option maxRecDepth 100000 in
theorem mw_698 : (.code ⟨"CompiledProgramModel", "set", "(IJ)V"⟩ prog_11_method_23_code 4 (none : Option FieldType) : Cond) ∈ tB := tB_of (List.mem_append_right _ (List.mem_of_getElem? (i := 698) rfl)) rfl
theorem mw_699 : (.methodLink "CompiledProgramLaw" 78 ⟨"CompiledProgramModel", "get", "(I)J"⟩ : Cond) ∈ tB := tB_of (List.mem_append_right _ (List.mem_of_getElem? (i := 699) (by decide +kernel))) rfl
theorem mw_700 : (.instanceMethod ⟨"CompiledProgramModel", "get", "(I)J"⟩ : Cond) ∈ tB := tB_of (List.mem_append_right _ (List.mem_of_getElem? (i := 700) (by decide +kernel))) rfl
theorem mw_701 : (.selects "CompiledProgramModel" ⟨"CompiledProgramModel", "get", "(I)J"⟩ ⟨"CompiledProgramModel", "get", "(I)J"⟩ : Cond) ∈ tB := tB_of (List.mem_append_right _ (List.mem_of_getElem? (i := 701) (by decide +kernel))) rfl
set_option maxRecDepth 100000 in
theorem mw_702 : (.code ⟨"CompiledProgramModel", "get", "(I)J"⟩ prog_11_method_24_code 2 (some FieldType.long) : Cond) ∈ tB := tB_of (List.mem_append_right _ (List.mem_of_getElem? (i := 702) rfl)) rfl
theorem mw_703 : (.methodLink "CompiledProgramLaw" 82 ⟨"CompiledProgramModel", "put", "(JJ)V"⟩ : Cond) ∈ tB := tB_of (List.mem_append_right _ (List.mem_of_getElem? (i := 703) (by decide +kernel))) rfl
theorem mw_704 : (.instanceMethod ⟨"CompiledProgramModel", "put", "(JJ)V"⟩ : Cond) ∈ tB := tB_of (List.mem_append_right _ (List.mem_of_getElem? (i := 704) (by decide +kernel))) rfl
theorem mw_705 : (.selects "CompiledProgramModel" ⟨"CompiledProgramModel", "put", "(JJ)V"⟩ ⟨"CompiledProgramModel", "put", "(JJ)V"⟩ : Cond) ∈ tB := tB_of (List.mem_append_right _ (List.mem_of_getElem? (i := 705) (by decide +kernel))) rfl
set_option maxRecDepth 100000 in
theorem mw_706 : (.code ⟨"CompiledProgramModel", "put", "(JJ)V"⟩ prog_11_method_28_code 5 (none : Option FieldType) : Cond) ∈ tB := tB_of (List.mem_append_right _ (List.mem_of_getElem? (i := 706) rfl)) rfl
theorem mw_707 : (.methodLink "CompiledProgramModel" 113 ⟨"CompiledProgramModel", "isThere", "(JI)Z"⟩ : Cond) ∈ tB := tB_of (List.mem_append_right _ (List.mem_of_getElem? (i := 707) (by decide +kernel))) rfl
theorem mw_708 : (.static ⟨"CompiledProgramModel", "isThere", "(JI)Z"⟩ : Cond) ∈ tB := tB_of (List.mem_append_right _ (List.mem_of_getElem? (i := 708) (by decide +kernel))) rfl
set_option maxRecDepth 100000 in
theorem mw_709 : (.code ⟨"CompiledProgramModel", "isThere", "(JI)Z"⟩ prog_11_method_25_code 3 (some FieldType.boolean) : Cond) ∈ tB := tB_of (List.mem_append_right _ (List.mem_of_getElem? (i := 709) rfl)) rfl
theorem mw_710 : (.constantLong "CompiledProgramModel" 107 2147483648 : Cond) ∈ tB := tB_of (List.mem_append_right _ (List.mem_of_getElem? (i := 710) (by decide +kernel))) rfl
theorem mw_711 : (.constantLong "CompiledProgramModel" 109 2147487744 : Cond) ∈ tB := tB_of (List.mem_append_right _ (List.mem_of_getElem? (i := 711) (by decide +kernel))) rfl
theorem mw_712 : (.methodLink "CompiledProgramModel" 116 ⟨"CompiledProgramModel", "store", "(JIJ)V"⟩ : Cond) ∈ tB := tB_of (List.mem_append_right _ (List.mem_of_getElem? (i := 712) (by decide +kernel))) rfl
theorem mw_714 : (.instanceMethod ⟨"CompiledProgramModel", "store", "(JIJ)V"⟩ : Cond) ∈ tB := tB_of (List.mem_append_right _ (List.mem_of_getElem? (i := 714) (by decide +kernel))) rfl
set_option maxRecDepth 100000 in
theorem mw_715 : (.code ⟨"CompiledProgramModel", "store", "(JIJ)V"⟩ prog_11_method_27_code 7 (none : Option FieldType) : Cond) ∈ tB := tB_of (List.mem_append_right _ (List.mem_of_getElem? (i := 715) rfl)) rfl
theorem mw_716 : (.methodLink "CompiledProgramLaw" 86 ⟨"CompiledProgramModel", "word", "(J)J"⟩ : Cond) ∈ tB := tB_of (List.mem_append_right _ (List.mem_of_getElem? (i := 716) (by decide +kernel))) rfl
theorem mw_717 : (.instanceMethod ⟨"CompiledProgramModel", "word", "(J)J"⟩ : Cond) ∈ tB := tB_of (List.mem_append_right _ (List.mem_of_getElem? (i := 717) (by decide +kernel))) rfl
theorem mw_718 : (.selects "CompiledProgramModel" ⟨"CompiledProgramModel", "word", "(J)J"⟩ ⟨"CompiledProgramModel", "word", "(J)J"⟩ : Cond) ∈ tB := tB_of (List.mem_append_right _ (List.mem_of_getElem? (i := 718) (by decide +kernel))) rfl
set_option maxRecDepth 100000 in
theorem mw_719 : (.code ⟨"CompiledProgramModel", "word", "(J)J"⟩ prog_11_method_29_code 3 (some FieldType.long) : Cond) ∈ tB := tB_of (List.mem_append_right _ (List.mem_of_getElem? (i := 719) rfl)) rfl
theorem mw_720 : (.methodLink "CompiledProgramModel" 120 ⟨"CompiledProgramModel", "load", "(JI)J"⟩ : Cond) ∈ tB := tB_of (List.mem_append_right _ (List.mem_of_getElem? (i := 720) (by decide +kernel))) rfl
theorem mw_722 : (.instanceMethod ⟨"CompiledProgramModel", "load", "(JI)J"⟩ : Cond) ∈ tB := tB_of (List.mem_append_right _ (List.mem_of_getElem? (i := 722) (by decide +kernel))) rfl
set_option maxRecDepth 100000 in
theorem mw_723 : (.code ⟨"CompiledProgramModel", "load", "(JI)J"⟩ prog_11_method_26_code 7 (some FieldType.long) : Cond) ∈ tB := tB_of (List.mem_append_right _ (List.mem_of_getElem? (i := 723) rfl)) rfl
theorem mw_724 : (.constantLong "CompiledProgramModel" 111 256 : Cond) ∈ tB := tB_of (List.mem_append_right _ (List.mem_of_getElem? (i := 724) (by decide +kernel))) rfl
theorem mw_725 : (.methodLink "CompiledProgramLaw" 89 ⟨"CompiledProgramModel", "run", "(I)I"⟩ : Cond) ∈ tB := tB_of (List.mem_append_right _ (List.mem_of_getElem? (i := 725) (by decide +kernel))) rfl
theorem mw_726 : (.instanceMethod ⟨"CompiledProgramModel", "run", "(I)I"⟩ : Cond) ∈ tB := tB_of (List.mem_append_right _ (List.mem_of_getElem? (i := 726) (by decide +kernel))) rfl
theorem mw_727 : (.selects "CompiledProgramModel" ⟨"CompiledProgramModel", "run", "(I)I"⟩ ⟨"CompiledProgramModel", "run", "(I)I"⟩ : Cond) ∈ tB := tB_of (List.mem_append_right _ (List.mem_of_getElem? (i := 727) (by decide +kernel))) rfl
set_option maxRecDepth 100000 in
theorem mw_728 : (.code ⟨"CompiledProgramModel", "run", "(I)I"⟩ prog_11_method_44_code 4 (some FieldType.int) : Cond) ∈ tB := tB_of (List.mem_append_right _ (List.mem_of_getElem? (i := 728) rfl)) rfl
theorem mw_729 : (.constant "CompiledProgramModel" 179 100000 : Cond) ∈ tB := tB_of (List.mem_append_right _ (List.mem_of_getElem? (i := 729) (by decide +kernel))) rfl
theorem mw_730 : (.methodLink "CompiledProgramModel" 183 ⟨"CompiledProgramModel", "does", "(I)Z"⟩ : Cond) ∈ tB := tB_of (List.mem_append_right _ (List.mem_of_getElem? (i := 730) (by decide +kernel))) rfl
theorem mw_732 : (.instanceMethod ⟨"CompiledProgramModel", "does", "(I)Z"⟩ : Cond) ∈ tB := tB_of (List.mem_append_right _ (List.mem_of_getElem? (i := 732) (by decide +kernel))) rfl
set_option maxRecDepth 100000 in
theorem mw_733 : (.code ⟨"CompiledProgramModel", "does", "(I)Z"⟩ prog_11_method_43_code 4 (some FieldType.boolean) : Cond) ∈ tB := tB_of (List.mem_append_right _ (List.mem_of_getElem? (i := 733) rfl)) rfl
theorem mw_734 : (.methodLink "CompiledProgramModel" 167 ⟨"CompiledProgramModel", "arithmetic", "()V"⟩ : Cond) ∈ tB := tB_of (List.mem_append_right _ (List.mem_of_getElem? (i := 734) (by decide +kernel))) rfl
theorem mw_736 : (.instanceMethod ⟨"CompiledProgramModel", "arithmetic", "()V"⟩ : Cond) ∈ tB := tB_of (List.mem_append_right _ (List.mem_of_getElem? (i := 736) (by decide +kernel))) rfl
set_option maxRecDepth 100000 in
theorem mw_737 : (.code ⟨"CompiledProgramModel", "arithmetic", "()V"⟩ prog_11_method_37_code 6 (none : Option FieldType) : Cond) ∈ tB := tB_of (List.mem_append_right _ (List.mem_of_getElem? (i := 737) rfl)) rfl
theorem mw_738 : (.methodLink "CompiledProgramModel" 146 ⟨"CompiledProgramModel", "turned", "(JI)J"⟩ : Cond) ∈ tB := tB_of (List.mem_append_right _ (List.mem_of_getElem? (i := 738) (by decide +kernel))) rfl
theorem mw_739 : (.static ⟨"CompiledProgramModel", "turned", "(JI)J"⟩ : Cond) ∈ tB := tB_of (List.mem_append_right _ (List.mem_of_getElem? (i := 739) (by decide +kernel))) rfl
set_option maxRecDepth 100000 in
theorem mw_740 : (.code ⟨"CompiledProgramModel", "turned", "(JI)J"⟩ prog_11_method_33_code 6 (some FieldType.long) : Cond) ∈ tB := tB_of (List.mem_append_right _ (List.mem_of_getElem? (i := 740) rfl)) rfl
theorem mw_741 : (.constantLong "CompiledProgramModel" 134 255 : Cond) ∈ tB := tB_of (List.mem_append_right _ (List.mem_of_getElem? (i := 741) (by decide +kernel))) rfl
theorem mw_742 : (.methodLink "CompiledProgramModel" 136 ⟨"CompiledProgramModel", "lowest", "(JI)J"⟩ : Cond) ∈ tB := tB_of (List.mem_append_right _ (List.mem_of_getElem? (i := 742) (by decide +kernel))) rfl
theorem mw_743 : (.static ⟨"CompiledProgramModel", "lowest", "(JI)J"⟩ : Cond) ∈ tB := tB_of (List.mem_append_right _ (List.mem_of_getElem? (i := 743) (by decide +kernel))) rfl
set_option maxRecDepth 100000 in
theorem mw_744 : (.code ⟨"CompiledProgramModel", "lowest", "(JI)J"⟩ prog_11_method_35_code 3 (some FieldType.long) : Cond) ∈ tB := tB_of (List.mem_append_right _ (List.mem_of_getElem? (i := 744) rfl)) rfl
theorem mw_745 : (.methodLink "CompiledProgramModel" 149 ⟨"CompiledProgramModel", "reckoned", "(JJI)J"⟩ : Cond) ∈ tB := tB_of (List.mem_append_right _ (List.mem_of_getElem? (i := 745) (by decide +kernel))) rfl
theorem mw_747 : (.instanceMethod ⟨"CompiledProgramModel", "reckoned", "(JJI)J"⟩ : Cond) ∈ tB := tB_of (List.mem_append_right _ (List.mem_of_getElem? (i := 747) (by decide +kernel))) rfl
set_option maxRecDepth 100000 in
theorem mw_748 : (.code ⟨"CompiledProgramModel", "reckoned", "(JJI)J"⟩ prog_11_method_36_code 12 (some FieldType.long) : Cond) ∈ tB := tB_of (List.mem_append_right _ (List.mem_of_getElem? (i := 748) rfl)) rfl
theorem mw_749 : (.methodLink "CompiledProgramModel" 139 ⟨"CompiledProgramModel", "quotient", "(JJZ)J"⟩ : Cond) ∈ tB := tB_of (List.mem_append_right _ (List.mem_of_getElem? (i := 749) (by decide +kernel))) rfl
theorem mw_750 : (.static ⟨"CompiledProgramModel", "quotient", "(JJZ)J"⟩ : Cond) ∈ tB := tB_of (List.mem_append_right _ (List.mem_of_getElem? (i := 750) (by decide +kernel))) rfl
set_option maxRecDepth 100000 in
theorem mw_751 : (.code ⟨"CompiledProgramModel", "quotient", "(JJZ)J"⟩ prog_11_method_32_code 9 (some FieldType.long) : Cond) ∈ tB := tB_of (List.mem_append_right _ (List.mem_of_getElem? (i := 751) rfl)) rfl
theorem mw_752 : (.methodLink "CompiledProgramModel" 130 ⟨"CompiledProgramModel", "divided", "(JJ)J"⟩ : Cond) ∈ tB := tB_of (List.mem_append_right _ (List.mem_of_getElem? (i := 752) (by decide +kernel))) rfl
theorem mw_753 : (.static ⟨"CompiledProgramModel", "divided", "(JJ)J"⟩ : Cond) ∈ tB := tB_of (List.mem_append_right _ (List.mem_of_getElem? (i := 753) (by decide +kernel))) rfl
set_option maxRecDepth 100000 in
theorem mw_754 : (.code ⟨"CompiledProgramModel", "divided", "(JJ)J"⟩ prog_11_method_31_code 10 (some FieldType.long) : Cond) ∈ tB := tB_of (List.mem_append_right _ (List.mem_of_getElem? (i := 754) rfl)) rfl
theorem mw_755 : (.constantLong "CompiledProgramModel" 124 2 : Cond) ∈ tB := tB_of (List.mem_append_right _ (List.mem_of_getElem? (i := 755) (by decide +kernel))) rfl
theorem mw_756 : (.methodLink "CompiledProgramModel" 126 ⟨"CompiledProgramModel", "isLess", "(JJ)Z"⟩ : Cond) ∈ tB := tB_of (List.mem_append_right _ (List.mem_of_getElem? (i := 756) (by decide +kernel))) rfl
theorem mw_757 : (.static ⟨"CompiledProgramModel", "isLess", "(JJ)Z"⟩ : Cond) ∈ tB := tB_of (List.mem_append_right _ (List.mem_of_getElem? (i := 757) (by decide +kernel))) rfl
set_option maxRecDepth 100000 in
theorem mw_758 : (.code ⟨"CompiledProgramModel", "isLess", "(JJ)Z"⟩ prog_11_method_30_code 4 (some FieldType.boolean) : Cond) ∈ tB := tB_of (List.mem_append_right _ (List.mem_of_getElem? (i := 758) rfl)) rfl
theorem mw_759 : (.methodLink "CompiledProgramModel" 143 ⟨"CompiledProgramModel", "signed", "(JI)J"⟩ : Cond) ∈ tB := tB_of (List.mem_append_right _ (List.mem_of_getElem? (i := 759) (by decide +kernel))) rfl
theorem mw_760 : (.static ⟨"CompiledProgramModel", "signed", "(JI)J"⟩ : Cond) ∈ tB := tB_of (List.mem_append_right _ (List.mem_of_getElem? (i := 760) (by decide +kernel))) rfl
set_option maxRecDepth 100000 in
theorem mw_761 : (.code ⟨"CompiledProgramModel", "signed", "(JI)J"⟩ prog_11_method_34_code 7 (some FieldType.long) : Cond) ∈ tB := tB_of (List.mem_append_right _ (List.mem_of_getElem? (i := 761) rfl)) rfl
theorem mw_762 : (.methodLink "CompiledProgramModel" 170 ⟨"CompiledProgramModel", "jump", "(I)V"⟩ : Cond) ∈ tB := tB_of (List.mem_append_right _ (List.mem_of_getElem? (i := 762) (by decide +kernel))) rfl
theorem mw_764 : (.instanceMethod ⟨"CompiledProgramModel", "jump", "(I)V"⟩ : Cond) ∈ tB := tB_of (List.mem_append_right _ (List.mem_of_getElem? (i := 764) (by decide +kernel))) rfl
set_option maxRecDepth 100000 in
theorem mw_765 : (.code ⟨"CompiledProgramModel", "jump", "(I)V"⟩ prog_11_method_40_code 7 (none : Option FieldType) : Cond) ∈ tB := tB_of (List.mem_append_right _ (List.mem_of_getElem? (i := 765) rfl)) rfl
theorem mw_766 : (.methodLink "CompiledProgramModel" 155 ⟨"CompiledProgramModel", "call", "()V"⟩ : Cond) ∈ tB := tB_of (List.mem_append_right _ (List.mem_of_getElem? (i := 766) (by decide +kernel))) rfl
theorem mw_768 : (.instanceMethod ⟨"CompiledProgramModel", "call", "()V"⟩ : Cond) ∈ tB := tB_of (List.mem_append_right _ (List.mem_of_getElem? (i := 768) (by decide +kernel))) rfl
set_option maxRecDepth 100000 in
theorem mw_769 : (.code ⟨"CompiledProgramModel", "call", "()V"⟩ prog_11_method_39_code 4 (none : Option FieldType) : Cond) ∈ tB := tB_of (List.mem_append_right _ (List.mem_of_getElem? (i := 769) rfl)) rfl
theorem mw_770 : (.constantLong "CompiledProgramModel" 153 31 : Cond) ∈ tB := tB_of (List.mem_append_right _ (List.mem_of_getElem? (i := 770) (by decide +kernel))) rfl
theorem mw_771 : (.methodLink "CompiledProgramModel" 161 ⟨"CompiledProgramModel", "isSo", "(JJ)Z"⟩ : Cond) ∈ tB := tB_of (List.mem_append_right _ (List.mem_of_getElem? (i := 771) (by decide +kernel))) rfl
theorem mw_773 : (.instanceMethod ⟨"CompiledProgramModel", "isSo", "(JJ)Z"⟩ : Cond) ∈ tB := tB_of (List.mem_append_right _ (List.mem_of_getElem? (i := 773) (by decide +kernel))) rfl
set_option maxRecDepth 100000 in
theorem mw_774 : (.code ⟨"CompiledProgramModel", "isSo", "(JJ)Z"⟩ prog_11_method_38_code 5 (some FieldType.boolean) : Cond) ∈ tB := tB_of (List.mem_append_right _ (List.mem_of_getElem? (i := 774) rfl)) rfl
theorem mw_775 : (.constantLong "CompiledProgramModel" 174 4294967295 : Cond) ∈ tB := tB_of (List.mem_append_right _ (List.mem_of_getElem? (i := 775) (by decide +kernel))) rfl
theorem mw_776 : (.methodLink "CompiledProgramModel" 176 ⟨"CompiledProgramModel", "access", "()Z"⟩ : Cond) ∈ tB := tB_of (List.mem_append_right _ (List.mem_of_getElem? (i := 776) (by decide +kernel))) rfl
theorem mw_778 : (.instanceMethod ⟨"CompiledProgramModel", "access", "()Z"⟩ : Cond) ∈ tB := tB_of (List.mem_append_right _ (List.mem_of_getElem? (i := 778) (by decide +kernel))) rfl
set_option maxRecDepth 100000 in
theorem mw_779 : (.code ⟨"CompiledProgramModel", "access", "()Z"⟩ prog_11_method_42_code 4 (some FieldType.boolean) : Cond) ∈ tB := tB_of (List.mem_append_right _ (List.mem_of_getElem? (i := 779) rfl)) rfl
theorem mw_780 : (.methodLink "CompiledProgramModel" 164 ⟨"CompiledProgramModel", "atomic", "(JI)Z"⟩ : Cond) ∈ tB := tB_of (List.mem_append_right _ (List.mem_of_getElem? (i := 780) (by decide +kernel))) rfl
theorem mw_782 : (.instanceMethod ⟨"CompiledProgramModel", "atomic", "(JI)Z"⟩ : Cond) ∈ tB := tB_of (List.mem_append_right _ (List.mem_of_getElem? (i := 782) (by decide +kernel))) rfl
set_option maxRecDepth 100000 in
theorem mw_783 : (.code ⟨"CompiledProgramModel", "atomic", "(JI)Z"⟩ prog_11_method_41_code 11 (some FieldType.boolean) : Cond) ∈ tB := tB_of (List.mem_append_right _ (List.mem_of_getElem? (i := 783) rfl)) rfl
theorem mw_784 : (.methodLink "CompiledProgramLaw" 93 ⟨"CompiledProgramModel", "place", "()I"⟩ : Cond) ∈ tB := tB_of (List.mem_append_right _ (List.mem_of_getElem? (i := 784) (by decide +kernel))) rfl
theorem mw_785 : (.instanceMethod ⟨"CompiledProgramModel", "place", "()I"⟩ : Cond) ∈ tB := tB_of (List.mem_append_right _ (List.mem_of_getElem? (i := 785) (by decide +kernel))) rfl
theorem mw_786 : (.selects "CompiledProgramModel" ⟨"CompiledProgramModel", "place", "()I"⟩ ⟨"CompiledProgramModel", "place", "()I"⟩ : Cond) ∈ tB := tB_of (List.mem_append_right _ (List.mem_of_getElem? (i := 786) (by decide +kernel))) rfl
set_option maxRecDepth 100000 in
theorem mw_787 : (.code ⟨"CompiledProgramModel", "place", "()I"⟩ prog_11_method_45_code 1 (some FieldType.int) : Cond) ∈ tB := tB_of (List.mem_append_right _ (List.mem_of_getElem? (i := 787) rfl)) rfl
theorem mw_788 : (.methodLink "CompiledProgramLaw" 97 ⟨"CompiledProgramModel", "steps", "()I"⟩ : Cond) ∈ tB := tB_of (List.mem_append_right _ (List.mem_of_getElem? (i := 788) (by decide +kernel))) rfl
theorem mw_789 : (.instanceMethod ⟨"CompiledProgramModel", "steps", "()I"⟩ : Cond) ∈ tB := tB_of (List.mem_append_right _ (List.mem_of_getElem? (i := 789) (by decide +kernel))) rfl
theorem mw_790 : (.selects "CompiledProgramModel" ⟨"CompiledProgramModel", "steps", "()I"⟩ ⟨"CompiledProgramModel", "steps", "()I"⟩ : Cond) ∈ tB := tB_of (List.mem_append_right _ (List.mem_of_getElem? (i := 790) (by decide +kernel))) rfl
set_option maxRecDepth 100000 in
theorem mw_791 : (.code ⟨"CompiledProgramModel", "steps", "()I"⟩ prog_11_method_46_code 1 (some FieldType.int) : Cond) ∈ tB := tB_of (List.mem_append_right _ (List.mem_of_getElem? (i := 791) rfl)) rfl
theorem mw_792 : (.constantLong "CompiledProgramLaw" 69 4294967295 : Cond) ∈ tB := tB_of (List.mem_append_right _ (List.mem_of_getElem? (i := 792) (by decide +kernel))) rfl
theorem mw_793 : (.sameMethod "java/lang/Throwable" "java/lang/Throwable" "fillInStackTrace" "(I)Ljava/lang/Throwable;" : Cond) ∈ tB := tB_of (List.mem_append_right _ (List.mem_of_getElem? (i := 793) (by decide +kernel))) rfl
end
section
theorem dAr_wide_0 : decode cAr_wide 0 = .ok (.iload_n 0, 1) := by decide +kernel
theorem dAr_wide_1 : decode cAr_wide 1 = .ok (.tableswitch 180 0 12 #[67, 72, 77, 82, 99, 104, 109, 119, 129, 132, 149, 154, 170], 67) := by decide +kernel
theorem dAr_wide_68 : decode cAr_wide 68 = .ok (.lload_n 2, 1) := by decide +kernel
theorem dAr_wide_69 : decode cAr_wide 69 = .ok (.lload 4, 2) := by decide +kernel
theorem dAr_wide_71 : decode cAr_wide 71 = .ok (.ladd, 1) := by decide +kernel
theorem dAr_wide_72 : decode cAr_wide 72 = .ok (.lreturn, 1) := by decide +kernel
theorem dAr_wide_73 : decode cAr_wide 73 = .ok (.lload_n 2, 1) := by decide +kernel
theorem dAr_wide_74 : decode cAr_wide 74 = .ok (.lload 4, 2) := by decide +kernel
theorem dAr_wide_76 : decode cAr_wide 76 = .ok (.lsub, 1) := by decide +kernel
theorem dAr_wide_77 : decode cAr_wide 77 = .ok (.lreturn, 1) := by decide +kernel
theorem dAr_wide_78 : decode cAr_wide 78 = .ok (.lload_n 2, 1) := by decide +kernel
theorem dAr_wide_79 : decode cAr_wide 79 = .ok (.lload 4, 2) := by decide +kernel
theorem dAr_wide_81 : decode cAr_wide 81 = .ok (.lmul, 1) := by decide +kernel
theorem dAr_wide_82 : decode cAr_wide 82 = .ok (.lreturn, 1) := by decide +kernel
theorem dAr_wide_83 : decode cAr_wide 83 = .ok (.iload_n 1, 1) := by decide +kernel
theorem dAr_wide_84 : decode cAr_wide 84 = .ok (.iconst 1, 1) := by decide +kernel
theorem dAr_wide_85 : decode cAr_wide 85 = .ok (.if_icmp .ne 7, 3) := by decide +kernel
theorem dAr_wide_88 : decode cAr_wide 88 = .ok (.iconst 1, 1) := by decide +kernel
theorem dAr_wide_89 : decode cAr_wide 89 = .ok (.goto 4, 3) := by decide +kernel
theorem dAr_wide_92 : decode cAr_wide 92 = .ok (.iconst 0, 1) := by decide +kernel
theorem dAr_wide_93 : decode cAr_wide 93 = .ok (.lload_n 2, 1) := by decide +kernel
theorem dAr_wide_94 : decode cAr_wide 94 = .ok (.lload 4, 2) := by decide +kernel
theorem dAr_wide_96 : decode cAr_wide 96 = .ok (.invokestatic 7, 3) := by decide +kernel
theorem dAr_wide_99 : decode cAr_wide 99 = .ok (.lreturn, 1) := by decide +kernel
theorem dAr_wide_100 : decode cAr_wide 100 = .ok (.lload_n 2, 1) := by decide +kernel
theorem dAr_wide_101 : decode cAr_wide 101 = .ok (.lload 4, 2) := by decide +kernel
theorem dAr_wide_103 : decode cAr_wide 103 = .ok (.lor, 1) := by decide +kernel
theorem dAr_wide_104 : decode cAr_wide 104 = .ok (.lreturn, 1) := by decide +kernel
theorem dAr_wide_105 : decode cAr_wide 105 = .ok (.lload_n 2, 1) := by decide +kernel
theorem dAr_wide_106 : decode cAr_wide 106 = .ok (.lload 4, 2) := by decide +kernel
theorem dAr_wide_108 : decode cAr_wide 108 = .ok (.land, 1) := by decide +kernel
theorem dAr_wide_109 : decode cAr_wide 109 = .ok (.lreturn, 1) := by decide +kernel
theorem dAr_wide_110 : decode cAr_wide 110 = .ok (.lload_n 2, 1) := by decide +kernel
theorem dAr_wide_111 : decode cAr_wide 111 = .ok (.lload 4, 2) := by decide +kernel
theorem dAr_wide_113 : decode cAr_wide 113 = .ok (.ldc2_w 13, 3) := by decide +kernel
theorem dAr_wide_116 : decode cAr_wide 116 = .ok (.land, 1) := by decide +kernel
theorem dAr_wide_117 : decode cAr_wide 117 = .ok (.l2i, 1) := by decide +kernel
theorem dAr_wide_118 : decode cAr_wide 118 = .ok (.lshl, 1) := by decide +kernel
theorem dAr_wide_119 : decode cAr_wide 119 = .ok (.lreturn, 1) := by decide +kernel
theorem dAr_wide_120 : decode cAr_wide 120 = .ok (.lload_n 2, 1) := by decide +kernel
theorem dAr_wide_121 : decode cAr_wide 121 = .ok (.lload 4, 2) := by decide +kernel
theorem dAr_wide_123 : decode cAr_wide 123 = .ok (.ldc2_w 13, 3) := by decide +kernel
theorem dAr_wide_126 : decode cAr_wide 126 = .ok (.land, 1) := by decide +kernel
theorem dAr_wide_127 : decode cAr_wide 127 = .ok (.l2i, 1) := by decide +kernel
theorem dAr_wide_128 : decode cAr_wide 128 = .ok (.lushr, 1) := by decide +kernel
theorem dAr_wide_129 : decode cAr_wide 129 = .ok (.lreturn, 1) := by decide +kernel
theorem dAr_wide_130 : decode cAr_wide 130 = .ok (.lload_n 2, 1) := by decide +kernel
theorem dAr_wide_131 : decode cAr_wide 131 = .ok (.lneg, 1) := by decide +kernel
theorem dAr_wide_132 : decode cAr_wide 132 = .ok (.lreturn, 1) := by decide +kernel
theorem dAr_wide_133 : decode cAr_wide 133 = .ok (.iload_n 1, 1) := by decide +kernel
theorem dAr_wide_134 : decode cAr_wide 134 = .ok (.iconst 1, 1) := by decide +kernel
theorem dAr_wide_135 : decode cAr_wide 135 = .ok (.if_icmp .ne 7, 3) := by decide +kernel
theorem dAr_wide_138 : decode cAr_wide 138 = .ok (.iconst 1, 1) := by decide +kernel
theorem dAr_wide_139 : decode cAr_wide 139 = .ok (.goto 4, 3) := by decide +kernel
theorem dAr_wide_142 : decode cAr_wide 142 = .ok (.iconst 0, 1) := by decide +kernel
theorem dAr_wide_143 : decode cAr_wide 143 = .ok (.lload_n 2, 1) := by decide +kernel
theorem dAr_wide_144 : decode cAr_wide 144 = .ok (.lload 4, 2) := by decide +kernel
theorem dAr_wide_146 : decode cAr_wide 146 = .ok (.invokestatic 15, 3) := by decide +kernel
theorem dAr_wide_149 : decode cAr_wide 149 = .ok (.lreturn, 1) := by decide +kernel
theorem dAr_wide_150 : decode cAr_wide 150 = .ok (.lload_n 2, 1) := by decide +kernel
theorem dAr_wide_151 : decode cAr_wide 151 = .ok (.lload 4, 2) := by decide +kernel
theorem dAr_wide_153 : decode cAr_wide 153 = .ok (.lxor, 1) := by decide +kernel
theorem dAr_wide_154 : decode cAr_wide 154 = .ok (.lreturn, 1) := by decide +kernel
theorem dAr_wide_155 : decode cAr_wide 155 = .ok (.iload_n 1, 1) := by decide +kernel
theorem dAr_wide_156 : decode cAr_wide 156 = .ok (.ifCond .ne 8, 3) := by decide +kernel
theorem dAr_wide_159 : decode cAr_wide 159 = .ok (.lload 4, 2) := by decide +kernel
theorem dAr_wide_161 : decode cAr_wide 161 = .ok (.goto 9, 3) := by decide +kernel
theorem dAr_wide_164 : decode cAr_wide 164 = .ok (.lload 4, 2) := by decide +kernel
theorem dAr_wide_166 : decode cAr_wide 166 = .ok (.iload_n 1, 1) := by decide +kernel
theorem dAr_wide_167 : decode cAr_wide 167 = .ok (.invokestatic 18, 3) := by decide +kernel
theorem dAr_wide_170 : decode cAr_wide 170 = .ok (.lreturn, 1) := by decide +kernel
theorem dAr_wide_171 : decode cAr_wide 171 = .ok (.lload_n 2, 1) := by decide +kernel
theorem dAr_wide_172 : decode cAr_wide 172 = .ok (.lload 4, 2) := by decide +kernel
theorem dAr_wide_174 : decode cAr_wide 174 = .ok (.ldc2_w 13, 3) := by decide +kernel
theorem dAr_wide_177 : decode cAr_wide 177 = .ok (.land, 1) := by decide +kernel
theorem dAr_wide_178 : decode cAr_wide 178 = .ok (.l2i, 1) := by decide +kernel
theorem dAr_wide_179 : decode cAr_wide 179 = .ok (.lshr, 1) := by decide +kernel
theorem dAr_wide_180 : decode cAr_wide 180 = .ok (.lreturn, 1) := by decide +kernel
theorem dAr_wide_181 : decode cAr_wide 181 = .ok (.lload_n 2, 1) := by decide +kernel
theorem dAr_wide_182 : decode cAr_wide 182 = .ok (.lreturn, 1) := by decide +kernel
theorem dAr_narrow_0 : decode cAr_narrow 0 = .ok (.iload_n 0, 1) := by decide +kernel
theorem dAr_narrow_1 : decode cAr_narrow 1 = .ok (.tableswitch 174 3 12 #[55, 174, 174, 95, 108, 174, 121, 174, 174, 161], 55) := by decide +kernel
theorem dAr_narrow_56 : decode cAr_narrow 56 = .ok (.iload_n 1, 1) := by decide +kernel
theorem dAr_narrow_57 : decode cAr_narrow 57 = .ok (.iconst 1, 1) := by decide +kernel
theorem dAr_narrow_58 : decode cAr_narrow 58 = .ok (.if_icmp .ne 14, 3) := by decide +kernel
theorem dAr_narrow_61 : decode cAr_narrow 61 = .ok (.iconst 1, 1) := by decide +kernel
theorem dAr_narrow_62 : decode cAr_narrow 62 = .ok (.iload_n 2, 1) := by decide +kernel
theorem dAr_narrow_63 : decode cAr_narrow 63 = .ok (.i2l, 1) := by decide +kernel
theorem dAr_narrow_64 : decode cAr_narrow 64 = .ok (.iload_n 3, 1) := by decide +kernel
theorem dAr_narrow_65 : decode cAr_narrow 65 = .ok (.i2l, 1) := by decide +kernel
theorem dAr_narrow_66 : decode cAr_narrow 66 = .ok (.invokestatic 7, 3) := by decide +kernel
theorem dAr_narrow_69 : decode cAr_narrow 69 = .ok (.goto 21, 3) := by decide +kernel
theorem dAr_narrow_72 : decode cAr_narrow 72 = .ok (.iconst 0, 1) := by decide +kernel
theorem dAr_narrow_73 : decode cAr_narrow 73 = .ok (.iload_n 2, 1) := by decide +kernel
theorem dAr_narrow_74 : decode cAr_narrow 74 = .ok (.i2l, 1) := by decide +kernel
theorem dAr_narrow_75 : decode cAr_narrow 75 = .ok (.bipush 32, 2) := by decide +kernel
theorem dAr_narrow_77 : decode cAr_narrow 77 = .ok (.invokestatic 22, 3) := by decide +kernel
theorem dAr_narrow_80 : decode cAr_narrow 80 = .ok (.iload_n 3, 1) := by decide +kernel
theorem dAr_narrow_81 : decode cAr_narrow 81 = .ok (.i2l, 1) := by decide +kernel
theorem dAr_narrow_82 : decode cAr_narrow 82 = .ok (.bipush 32, 2) := by decide +kernel
theorem dAr_narrow_84 : decode cAr_narrow 84 = .ok (.invokestatic 22, 3) := by decide +kernel
theorem dAr_narrow_87 : decode cAr_narrow 87 = .ok (.invokestatic 7, 3) := by decide +kernel
theorem dAr_narrow_90 : decode cAr_narrow 90 = .ok (.bipush 32, 2) := by decide +kernel
theorem dAr_narrow_92 : decode cAr_narrow 92 = .ok (.invokestatic 22, 3) := by decide +kernel
theorem dAr_narrow_95 : decode cAr_narrow 95 = .ok (.lreturn, 1) := by decide +kernel
theorem dAr_narrow_96 : decode cAr_narrow 96 = .ok (.iload_n 2, 1) := by decide +kernel
theorem dAr_narrow_97 : decode cAr_narrow 97 = .ok (.iload_n 3, 1) := by decide +kernel
theorem dAr_narrow_98 : decode cAr_narrow 98 = .ok (.bipush 31, 2) := by decide +kernel
theorem dAr_narrow_100 : decode cAr_narrow 100 = .ok (.iand, 1) := by decide +kernel
theorem dAr_narrow_101 : decode cAr_narrow 101 = .ok (.ishl, 1) := by decide +kernel
theorem dAr_narrow_102 : decode cAr_narrow 102 = .ok (.i2l, 1) := by decide +kernel
theorem dAr_narrow_103 : decode cAr_narrow 103 = .ok (.bipush 32, 2) := by decide +kernel
theorem dAr_narrow_105 : decode cAr_narrow 105 = .ok (.invokestatic 22, 3) := by decide +kernel
theorem dAr_narrow_108 : decode cAr_narrow 108 = .ok (.lreturn, 1) := by decide +kernel
theorem dAr_narrow_109 : decode cAr_narrow 109 = .ok (.iload_n 2, 1) := by decide +kernel
theorem dAr_narrow_110 : decode cAr_narrow 110 = .ok (.iload_n 3, 1) := by decide +kernel
theorem dAr_narrow_111 : decode cAr_narrow 111 = .ok (.bipush 31, 2) := by decide +kernel
theorem dAr_narrow_113 : decode cAr_narrow 113 = .ok (.iand, 1) := by decide +kernel
theorem dAr_narrow_114 : decode cAr_narrow 114 = .ok (.iushr, 1) := by decide +kernel
theorem dAr_narrow_115 : decode cAr_narrow 115 = .ok (.i2l, 1) := by decide +kernel
theorem dAr_narrow_116 : decode cAr_narrow 116 = .ok (.bipush 32, 2) := by decide +kernel
theorem dAr_narrow_118 : decode cAr_narrow 118 = .ok (.invokestatic 22, 3) := by decide +kernel
theorem dAr_narrow_121 : decode cAr_narrow 121 = .ok (.lreturn, 1) := by decide +kernel
theorem dAr_narrow_122 : decode cAr_narrow 122 = .ok (.iload_n 1, 1) := by decide +kernel
theorem dAr_narrow_123 : decode cAr_narrow 123 = .ok (.iconst 1, 1) := by decide +kernel
theorem dAr_narrow_124 : decode cAr_narrow 124 = .ok (.if_icmp .ne 14, 3) := by decide +kernel
theorem dAr_narrow_127 : decode cAr_narrow 127 = .ok (.iconst 1, 1) := by decide +kernel
theorem dAr_narrow_128 : decode cAr_narrow 128 = .ok (.iload_n 2, 1) := by decide +kernel
theorem dAr_narrow_129 : decode cAr_narrow 129 = .ok (.i2l, 1) := by decide +kernel
theorem dAr_narrow_130 : decode cAr_narrow 130 = .ok (.iload_n 3, 1) := by decide +kernel
theorem dAr_narrow_131 : decode cAr_narrow 131 = .ok (.i2l, 1) := by decide +kernel
theorem dAr_narrow_132 : decode cAr_narrow 132 = .ok (.invokestatic 15, 3) := by decide +kernel
theorem dAr_narrow_135 : decode cAr_narrow 135 = .ok (.goto 21, 3) := by decide +kernel
theorem dAr_narrow_138 : decode cAr_narrow 138 = .ok (.iconst 0, 1) := by decide +kernel
theorem dAr_narrow_139 : decode cAr_narrow 139 = .ok (.iload_n 2, 1) := by decide +kernel
theorem dAr_narrow_140 : decode cAr_narrow 140 = .ok (.i2l, 1) := by decide +kernel
theorem dAr_narrow_141 : decode cAr_narrow 141 = .ok (.bipush 32, 2) := by decide +kernel
theorem dAr_narrow_143 : decode cAr_narrow 143 = .ok (.invokestatic 22, 3) := by decide +kernel
theorem dAr_narrow_146 : decode cAr_narrow 146 = .ok (.iload_n 3, 1) := by decide +kernel
theorem dAr_narrow_147 : decode cAr_narrow 147 = .ok (.i2l, 1) := by decide +kernel
theorem dAr_narrow_148 : decode cAr_narrow 148 = .ok (.bipush 32, 2) := by decide +kernel
theorem dAr_narrow_150 : decode cAr_narrow 150 = .ok (.invokestatic 22, 3) := by decide +kernel
theorem dAr_narrow_153 : decode cAr_narrow 153 = .ok (.invokestatic 15, 3) := by decide +kernel
theorem dAr_narrow_156 : decode cAr_narrow 156 = .ok (.bipush 32, 2) := by decide +kernel
theorem dAr_narrow_158 : decode cAr_narrow 158 = .ok (.invokestatic 22, 3) := by decide +kernel
theorem dAr_narrow_161 : decode cAr_narrow 161 = .ok (.lreturn, 1) := by decide +kernel
theorem dAr_narrow_162 : decode cAr_narrow 162 = .ok (.iload_n 2, 1) := by decide +kernel
theorem dAr_narrow_163 : decode cAr_narrow 163 = .ok (.iload_n 3, 1) := by decide +kernel
theorem dAr_narrow_164 : decode cAr_narrow 164 = .ok (.bipush 31, 2) := by decide +kernel
theorem dAr_narrow_166 : decode cAr_narrow 166 = .ok (.iand, 1) := by decide +kernel
theorem dAr_narrow_167 : decode cAr_narrow 167 = .ok (.ishr, 1) := by decide +kernel
theorem dAr_narrow_168 : decode cAr_narrow 168 = .ok (.i2l, 1) := by decide +kernel
theorem dAr_narrow_169 : decode cAr_narrow 169 = .ok (.bipush 32, 2) := by decide +kernel
theorem dAr_narrow_171 : decode cAr_narrow 171 = .ok (.invokestatic 22, 3) := by decide +kernel
theorem dAr_narrow_174 : decode cAr_narrow 174 = .ok (.lreturn, 1) := by decide +kernel
theorem dAr_narrow_175 : decode cAr_narrow 175 = .ok (.iload_n 0, 1) := by decide +kernel
theorem dAr_narrow_176 : decode cAr_narrow 176 = .ok (.iload_n 1, 1) := by decide +kernel
theorem dAr_narrow_177 : decode cAr_narrow 177 = .ok (.iload_n 2, 1) := by decide +kernel
theorem dAr_narrow_178 : decode cAr_narrow 178 = .ok (.i2l, 1) := by decide +kernel
theorem dAr_narrow_179 : decode cAr_narrow 179 = .ok (.iload_n 3, 1) := by decide +kernel
theorem dAr_narrow_180 : decode cAr_narrow 180 = .ok (.i2l, 1) := by decide +kernel
theorem dAr_narrow_181 : decode cAr_narrow 181 = .ok (.invokestatic 25, 3) := by decide +kernel
theorem dAr_narrow_184 : decode cAr_narrow 184 = .ok (.bipush 32, 2) := by decide +kernel
theorem dAr_narrow_186 : decode cAr_narrow 186 = .ok (.invokestatic 22, 3) := by decide +kernel
theorem dAr_narrow_189 : decode cAr_narrow 189 = .ok (.lreturn, 1) := by decide +kernel
theorem dAr_quotient_0 : decode cAr_quotient 0 = .ok (.lload_n 3, 1) := by decide +kernel
theorem dAr_quotient_1 : decode cAr_quotient 1 = .ok (.lconst 0, 1) := by decide +kernel
theorem dAr_quotient_2 : decode cAr_quotient 2 = .ok (.lcmp, 1) := by decide +kernel
theorem dAr_quotient_3 : decode cAr_quotient 3 = .ok (.ifCond .ne 5, 3) := by decide +kernel
theorem dAr_quotient_6 : decode cAr_quotient 6 = .ok (.lconst 0, 1) := by decide +kernel
theorem dAr_quotient_7 : decode cAr_quotient 7 = .ok (.lreturn, 1) := by decide +kernel
theorem dAr_quotient_8 : decode cAr_quotient 8 = .ok (.iload_n 0, 1) := by decide +kernel
theorem dAr_quotient_9 : decode cAr_quotient 9 = .ok (.ifCond .eq 9, 3) := by decide +kernel
theorem dAr_quotient_12 : decode cAr_quotient 12 = .ok (.lload_n 1, 1) := by decide +kernel
theorem dAr_quotient_13 : decode cAr_quotient 13 = .ok (.lload_n 3, 1) := by decide +kernel
theorem dAr_quotient_14 : decode cAr_quotient 14 = .ok (.ldiv, 1) := by decide +kernel
theorem dAr_quotient_15 : decode cAr_quotient 15 = .ok (.goto 8, 3) := by decide +kernel
theorem dAr_quotient_18 : decode cAr_quotient 18 = .ok (.lload_n 1, 1) := by decide +kernel
theorem dAr_quotient_19 : decode cAr_quotient 19 = .ok (.lload_n 3, 1) := by decide +kernel
theorem dAr_quotient_20 : decode cAr_quotient 20 = .ok (.invokestatic 29, 3) := by decide +kernel
theorem dAr_quotient_23 : decode cAr_quotient 23 = .ok (.lreturn, 1) := by decide +kernel
theorem dAr_unsignedQuotient_0 : decode cAr_unsignedQuotient 0 = .ok (.lload_n 2, 1) := by decide +kernel
theorem dAr_unsignedQuotient_1 : decode cAr_unsignedQuotient 1 = .ok (.lconst 0, 1) := by decide +kernel
theorem dAr_unsignedQuotient_2 : decode cAr_unsignedQuotient 2 = .ok (.lcmp, 1) := by decide +kernel
theorem dAr_unsignedQuotient_3 : decode cAr_unsignedQuotient 3 = .ok (.ifCond .gt 23, 3) := by decide +kernel
theorem dAr_unsignedQuotient_6 : decode cAr_unsignedQuotient 6 = .ok (.lload_n 0, 1) := by decide +kernel
theorem dAr_unsignedQuotient_7 : decode cAr_unsignedQuotient 7 = .ok (.ldc2_w 33, 3) := by decide +kernel
theorem dAr_unsignedQuotient_10 : decode cAr_unsignedQuotient 10 = .ok (.lxor, 1) := by decide +kernel
theorem dAr_unsignedQuotient_11 : decode cAr_unsignedQuotient 11 = .ok (.lload_n 2, 1) := by decide +kernel
theorem dAr_unsignedQuotient_12 : decode cAr_unsignedQuotient 12 = .ok (.ldc2_w 33, 3) := by decide +kernel
theorem dAr_unsignedQuotient_15 : decode cAr_unsignedQuotient 15 = .ok (.lxor, 1) := by decide +kernel
theorem dAr_unsignedQuotient_16 : decode cAr_unsignedQuotient 16 = .ok (.lcmp, 1) := by decide +kernel
theorem dAr_unsignedQuotient_17 : decode cAr_unsignedQuotient 17 = .ok (.ifCond .lt 7, 3) := by decide +kernel
theorem dAr_unsignedQuotient_20 : decode cAr_unsignedQuotient 20 = .ok (.lconst 1, 1) := by decide +kernel
theorem dAr_unsignedQuotient_21 : decode cAr_unsignedQuotient 21 = .ok (.goto 4, 3) := by decide +kernel
theorem dAr_unsignedQuotient_24 : decode cAr_unsignedQuotient 24 = .ok (.lconst 0, 1) := by decide +kernel
theorem dAr_unsignedQuotient_25 : decode cAr_unsignedQuotient 25 = .ok (.lreturn, 1) := by decide +kernel
theorem dAr_unsignedQuotient_26 : decode cAr_unsignedQuotient 26 = .ok (.lload_n 0, 1) := by decide +kernel
theorem dAr_unsignedQuotient_27 : decode cAr_unsignedQuotient 27 = .ok (.iconst 1, 1) := by decide +kernel
theorem dAr_unsignedQuotient_28 : decode cAr_unsignedQuotient 28 = .ok (.lushr, 1) := by decide +kernel
theorem dAr_unsignedQuotient_29 : decode cAr_unsignedQuotient 29 = .ok (.lload_n 2, 1) := by decide +kernel
theorem dAr_unsignedQuotient_30 : decode cAr_unsignedQuotient 30 = .ok (.ldiv, 1) := by decide +kernel
theorem dAr_unsignedQuotient_31 : decode cAr_unsignedQuotient 31 = .ok (.iconst 1, 1) := by decide +kernel
theorem dAr_unsignedQuotient_32 : decode cAr_unsignedQuotient 32 = .ok (.lshl, 1) := by decide +kernel
theorem dAr_unsignedQuotient_33 : decode cAr_unsignedQuotient 33 = .ok (.lstore 4, 2) := by decide +kernel
theorem dAr_unsignedQuotient_35 : decode cAr_unsignedQuotient 35 = .ok (.lload_n 0, 1) := by decide +kernel
theorem dAr_unsignedQuotient_36 : decode cAr_unsignedQuotient 36 = .ok (.lload 4, 2) := by decide +kernel
theorem dAr_unsignedQuotient_38 : decode cAr_unsignedQuotient 38 = .ok (.lload_n 2, 1) := by decide +kernel
theorem dAr_unsignedQuotient_39 : decode cAr_unsignedQuotient 39 = .ok (.lmul, 1) := by decide +kernel
theorem dAr_unsignedQuotient_40 : decode cAr_unsignedQuotient 40 = .ok (.lsub, 1) := by decide +kernel
theorem dAr_unsignedQuotient_41 : decode cAr_unsignedQuotient 41 = .ok (.lstore 6, 2) := by decide +kernel
theorem dAr_unsignedQuotient_43 : decode cAr_unsignedQuotient 43 = .ok (.lload 6, 2) := by decide +kernel
theorem dAr_unsignedQuotient_45 : decode cAr_unsignedQuotient 45 = .ok (.ldc2_w 33, 3) := by decide +kernel
theorem dAr_unsignedQuotient_48 : decode cAr_unsignedQuotient 48 = .ok (.lxor, 1) := by decide +kernel
theorem dAr_unsignedQuotient_49 : decode cAr_unsignedQuotient 49 = .ok (.lload_n 2, 1) := by decide +kernel
theorem dAr_unsignedQuotient_50 : decode cAr_unsignedQuotient 50 = .ok (.ldc2_w 33, 3) := by decide +kernel
theorem dAr_unsignedQuotient_53 : decode cAr_unsignedQuotient 53 = .ok (.lxor, 1) := by decide +kernel
theorem dAr_unsignedQuotient_54 : decode cAr_unsignedQuotient 54 = .ok (.lcmp, 1) := by decide +kernel
theorem dAr_unsignedQuotient_55 : decode cAr_unsignedQuotient 55 = .ok (.ifCond .lt 10, 3) := by decide +kernel
theorem dAr_unsignedQuotient_58 : decode cAr_unsignedQuotient 58 = .ok (.lload 4, 2) := by decide +kernel
theorem dAr_unsignedQuotient_60 : decode cAr_unsignedQuotient 60 = .ok (.lconst 1, 1) := by decide +kernel
theorem dAr_unsignedQuotient_61 : decode cAr_unsignedQuotient 61 = .ok (.ladd, 1) := by decide +kernel
theorem dAr_unsignedQuotient_62 : decode cAr_unsignedQuotient 62 = .ok (.goto 5, 3) := by decide +kernel
theorem dAr_unsignedQuotient_65 : decode cAr_unsignedQuotient 65 = .ok (.lload 4, 2) := by decide +kernel
theorem dAr_unsignedQuotient_67 : decode cAr_unsignedQuotient 67 = .ok (.lreturn, 1) := by decide +kernel
theorem dAr_rest_0 : decode cAr_rest 0 = .ok (.lload_n 1, 1) := by decide +kernel
theorem dAr_rest_1 : decode cAr_rest 1 = .ok (.lload_n 3, 1) := by decide +kernel
theorem dAr_rest_2 : decode cAr_rest 2 = .ok (.iload_n 0, 1) := by decide +kernel
theorem dAr_rest_3 : decode cAr_rest 3 = .ok (.lload_n 1, 1) := by decide +kernel
theorem dAr_rest_4 : decode cAr_rest 4 = .ok (.lload_n 3, 1) := by decide +kernel
theorem dAr_rest_5 : decode cAr_rest 5 = .ok (.invokestatic 7, 3) := by decide +kernel
theorem dAr_rest_8 : decode cAr_rest 8 = .ok (.lmul, 1) := by decide +kernel
theorem dAr_rest_9 : decode cAr_rest 9 = .ok (.lsub, 1) := by decide +kernel
theorem dAr_rest_10 : decode cAr_rest 10 = .ok (.lreturn, 1) := by decide +kernel
theorem dAr_lowest_0 : decode cAr_lowest 0 = .ok (.iload_n 2, 1) := by decide +kernel
theorem dAr_lowest_1 : decode cAr_lowest 1 = .ok (.bipush 64, 2) := by decide +kernel
theorem dAr_lowest_3 : decode cAr_lowest 3 = .ok (.if_icmp .lt 7, 3) := by decide +kernel
theorem dAr_lowest_6 : decode cAr_lowest 6 = .ok (.lload_n 0, 1) := by decide +kernel
theorem dAr_lowest_7 : decode cAr_lowest 7 = .ok (.goto 10, 3) := by decide +kernel
theorem dAr_lowest_10 : decode cAr_lowest 10 = .ok (.lload_n 0, 1) := by decide +kernel
theorem dAr_lowest_11 : decode cAr_lowest 11 = .ok (.lconst 1, 1) := by decide +kernel
theorem dAr_lowest_12 : decode cAr_lowest 12 = .ok (.iload_n 2, 1) := by decide +kernel
theorem dAr_lowest_13 : decode cAr_lowest 13 = .ok (.lshl, 1) := by decide +kernel
theorem dAr_lowest_14 : decode cAr_lowest 14 = .ok (.lconst 1, 1) := by decide +kernel
theorem dAr_lowest_15 : decode cAr_lowest 15 = .ok (.lsub, 1) := by decide +kernel
theorem dAr_lowest_16 : decode cAr_lowest 16 = .ok (.land, 1) := by decide +kernel
theorem dAr_lowest_17 : decode cAr_lowest 17 = .ok (.lreturn, 1) := by decide +kernel
theorem dAr_signed_0 : decode cAr_signed 0 = .ok (.iload_n 2, 1) := by decide +kernel
theorem dAr_signed_1 : decode cAr_signed 1 = .ok (.bipush 64, 2) := by decide +kernel
theorem dAr_signed_3 : decode cAr_signed 3 = .ok (.if_icmp .lt 7, 3) := by decide +kernel
theorem dAr_signed_6 : decode cAr_signed 6 = .ok (.lload_n 0, 1) := by decide +kernel
theorem dAr_signed_7 : decode cAr_signed 7 = .ok (.goto 14, 3) := by decide +kernel
theorem dAr_signed_10 : decode cAr_signed 10 = .ok (.lload_n 0, 1) := by decide +kernel
theorem dAr_signed_11 : decode cAr_signed 11 = .ok (.bipush 64, 2) := by decide +kernel
theorem dAr_signed_13 : decode cAr_signed 13 = .ok (.iload_n 2, 1) := by decide +kernel
theorem dAr_signed_14 : decode cAr_signed 14 = .ok (.isub, 1) := by decide +kernel
theorem dAr_signed_15 : decode cAr_signed 15 = .ok (.lshl, 1) := by decide +kernel
theorem dAr_signed_16 : decode cAr_signed 16 = .ok (.bipush 64, 2) := by decide +kernel
theorem dAr_signed_18 : decode cAr_signed 18 = .ok (.iload_n 2, 1) := by decide +kernel
theorem dAr_signed_19 : decode cAr_signed 19 = .ok (.isub, 1) := by decide +kernel
theorem dAr_signed_20 : decode cAr_signed 20 = .ok (.lshr, 1) := by decide +kernel
theorem dAr_signed_21 : decode cAr_signed 21 = .ok (.lreturn, 1) := by decide +kernel
theorem dAr_turned_0 : decode cAr_turned 0 = .ok (.lload_n 0, 1) := by decide +kernel
theorem dAr_turned_1 : decode cAr_turned 1 = .ok (.invokestatic 35, 3) := by decide +kernel
theorem dAr_turned_4 : decode cAr_turned 4 = .ok (.bipush 64, 2) := by decide +kernel
theorem dAr_turned_6 : decode cAr_turned 6 = .ok (.iload_n 2, 1) := by decide +kernel
theorem dAr_turned_7 : decode cAr_turned 7 = .ok (.isub, 1) := by decide +kernel
theorem dAr_turned_8 : decode cAr_turned 8 = .ok (.lushr, 1) := by decide +kernel
theorem dAr_turned_9 : decode cAr_turned 9 = .ok (.lreturn, 1) := by decide +kernel
theorem dAr_isTaken_0 : decode cAr_isTaken 0 = .ok (.lload_n 1, 1) := by decide +kernel
theorem dAr_isTaken_1 : decode cAr_isTaken 1 = .ok (.ldc2_w 33, 3) := by decide +kernel
theorem dAr_isTaken_4 : decode cAr_isTaken 4 = .ok (.lxor, 1) := by decide +kernel
theorem dAr_isTaken_5 : decode cAr_isTaken 5 = .ok (.lstore 5, 2) := by decide +kernel
theorem dAr_isTaken_7 : decode cAr_isTaken 7 = .ok (.lload_n 3, 1) := by decide +kernel
theorem dAr_isTaken_8 : decode cAr_isTaken 8 = .ok (.ldc2_w 33, 3) := by decide +kernel
theorem dAr_isTaken_11 : decode cAr_isTaken 11 = .ok (.lxor, 1) := by decide +kernel
theorem dAr_isTaken_12 : decode cAr_isTaken 12 = .ok (.lstore 7, 2) := by decide +kernel
theorem dAr_isTaken_14 : decode cAr_isTaken 14 = .ok (.iload_n 0, 1) := by decide +kernel
theorem dAr_isTaken_15 : decode cAr_isTaken 15 = .ok (.tableswitch 207 1 13 #[65, 77, 91, 105, 119, 131, 143, 207, 207, 155, 169, 183, 195], 65) := by decide +kernel
theorem dAr_isTaken_80 : decode cAr_isTaken 80 = .ok (.lload_n 1, 1) := by decide +kernel
theorem dAr_isTaken_81 : decode cAr_isTaken 81 = .ok (.lload_n 3, 1) := by decide +kernel
theorem dAr_isTaken_82 : decode cAr_isTaken 82 = .ok (.lcmp, 1) := by decide +kernel
theorem dAr_isTaken_83 : decode cAr_isTaken 83 = .ok (.ifCond .ne 7, 3) := by decide +kernel
theorem dAr_isTaken_86 : decode cAr_isTaken 86 = .ok (.iconst 1, 1) := by decide +kernel
theorem dAr_isTaken_87 : decode cAr_isTaken 87 = .ok (.goto 4, 3) := by decide +kernel
theorem dAr_isTaken_90 : decode cAr_isTaken 90 = .ok (.iconst 0, 1) := by decide +kernel
theorem dAr_isTaken_91 : decode cAr_isTaken 91 = .ok (.ireturn, 1) := by decide +kernel
theorem dAr_isTaken_92 : decode cAr_isTaken 92 = .ok (.lload 5, 2) := by decide +kernel
theorem dAr_isTaken_94 : decode cAr_isTaken 94 = .ok (.lload 7, 2) := by decide +kernel
theorem dAr_isTaken_96 : decode cAr_isTaken 96 = .ok (.lcmp, 1) := by decide +kernel
theorem dAr_isTaken_97 : decode cAr_isTaken 97 = .ok (.ifCond .le 7, 3) := by decide +kernel
theorem dAr_isTaken_100 : decode cAr_isTaken 100 = .ok (.iconst 1, 1) := by decide +kernel
theorem dAr_isTaken_101 : decode cAr_isTaken 101 = .ok (.goto 4, 3) := by decide +kernel
theorem dAr_isTaken_104 : decode cAr_isTaken 104 = .ok (.iconst 0, 1) := by decide +kernel
theorem dAr_isTaken_105 : decode cAr_isTaken 105 = .ok (.ireturn, 1) := by decide +kernel
theorem dAr_isTaken_106 : decode cAr_isTaken 106 = .ok (.lload 5, 2) := by decide +kernel
theorem dAr_isTaken_108 : decode cAr_isTaken 108 = .ok (.lload 7, 2) := by decide +kernel
theorem dAr_isTaken_110 : decode cAr_isTaken 110 = .ok (.lcmp, 1) := by decide +kernel
theorem dAr_isTaken_111 : decode cAr_isTaken 111 = .ok (.ifCond .lt 7, 3) := by decide +kernel
theorem dAr_isTaken_114 : decode cAr_isTaken 114 = .ok (.iconst 1, 1) := by decide +kernel
theorem dAr_isTaken_115 : decode cAr_isTaken 115 = .ok (.goto 4, 3) := by decide +kernel
theorem dAr_isTaken_118 : decode cAr_isTaken 118 = .ok (.iconst 0, 1) := by decide +kernel
theorem dAr_isTaken_119 : decode cAr_isTaken 119 = .ok (.ireturn, 1) := by decide +kernel
theorem dAr_isTaken_120 : decode cAr_isTaken 120 = .ok (.lload_n 1, 1) := by decide +kernel
theorem dAr_isTaken_121 : decode cAr_isTaken 121 = .ok (.lload_n 3, 1) := by decide +kernel
theorem dAr_isTaken_122 : decode cAr_isTaken 122 = .ok (.land, 1) := by decide +kernel
theorem dAr_isTaken_123 : decode cAr_isTaken 123 = .ok (.lconst 0, 1) := by decide +kernel
theorem dAr_isTaken_124 : decode cAr_isTaken 124 = .ok (.lcmp, 1) := by decide +kernel
theorem dAr_isTaken_125 : decode cAr_isTaken 125 = .ok (.ifCond .eq 7, 3) := by decide +kernel
theorem dAr_isTaken_128 : decode cAr_isTaken 128 = .ok (.iconst 1, 1) := by decide +kernel
theorem dAr_isTaken_129 : decode cAr_isTaken 129 = .ok (.goto 4, 3) := by decide +kernel
theorem dAr_isTaken_132 : decode cAr_isTaken 132 = .ok (.iconst 0, 1) := by decide +kernel
theorem dAr_isTaken_133 : decode cAr_isTaken 133 = .ok (.ireturn, 1) := by decide +kernel
theorem dAr_isTaken_134 : decode cAr_isTaken 134 = .ok (.lload_n 1, 1) := by decide +kernel
theorem dAr_isTaken_135 : decode cAr_isTaken 135 = .ok (.lload_n 3, 1) := by decide +kernel
theorem dAr_isTaken_136 : decode cAr_isTaken 136 = .ok (.lcmp, 1) := by decide +kernel
theorem dAr_isTaken_137 : decode cAr_isTaken 137 = .ok (.ifCond .eq 7, 3) := by decide +kernel
theorem dAr_isTaken_140 : decode cAr_isTaken 140 = .ok (.iconst 1, 1) := by decide +kernel
theorem dAr_isTaken_141 : decode cAr_isTaken 141 = .ok (.goto 4, 3) := by decide +kernel
theorem dAr_isTaken_144 : decode cAr_isTaken 144 = .ok (.iconst 0, 1) := by decide +kernel
theorem dAr_isTaken_145 : decode cAr_isTaken 145 = .ok (.ireturn, 1) := by decide +kernel
theorem dAr_isTaken_146 : decode cAr_isTaken 146 = .ok (.lload_n 1, 1) := by decide +kernel
theorem dAr_isTaken_147 : decode cAr_isTaken 147 = .ok (.lload_n 3, 1) := by decide +kernel
theorem dAr_isTaken_148 : decode cAr_isTaken 148 = .ok (.lcmp, 1) := by decide +kernel
theorem dAr_isTaken_149 : decode cAr_isTaken 149 = .ok (.ifCond .le 7, 3) := by decide +kernel
theorem dAr_isTaken_152 : decode cAr_isTaken 152 = .ok (.iconst 1, 1) := by decide +kernel
theorem dAr_isTaken_153 : decode cAr_isTaken 153 = .ok (.goto 4, 3) := by decide +kernel
theorem dAr_isTaken_156 : decode cAr_isTaken 156 = .ok (.iconst 0, 1) := by decide +kernel
theorem dAr_isTaken_157 : decode cAr_isTaken 157 = .ok (.ireturn, 1) := by decide +kernel
theorem dAr_isTaken_158 : decode cAr_isTaken 158 = .ok (.lload_n 1, 1) := by decide +kernel
theorem dAr_isTaken_159 : decode cAr_isTaken 159 = .ok (.lload_n 3, 1) := by decide +kernel
theorem dAr_isTaken_160 : decode cAr_isTaken 160 = .ok (.lcmp, 1) := by decide +kernel
theorem dAr_isTaken_161 : decode cAr_isTaken 161 = .ok (.ifCond .lt 7, 3) := by decide +kernel
theorem dAr_isTaken_164 : decode cAr_isTaken 164 = .ok (.iconst 1, 1) := by decide +kernel
theorem dAr_isTaken_165 : decode cAr_isTaken 165 = .ok (.goto 4, 3) := by decide +kernel
theorem dAr_isTaken_168 : decode cAr_isTaken 168 = .ok (.iconst 0, 1) := by decide +kernel
theorem dAr_isTaken_169 : decode cAr_isTaken 169 = .ok (.ireturn, 1) := by decide +kernel
theorem dAr_isTaken_170 : decode cAr_isTaken 170 = .ok (.lload 5, 2) := by decide +kernel
theorem dAr_isTaken_172 : decode cAr_isTaken 172 = .ok (.lload 7, 2) := by decide +kernel
theorem dAr_isTaken_174 : decode cAr_isTaken 174 = .ok (.lcmp, 1) := by decide +kernel
theorem dAr_isTaken_175 : decode cAr_isTaken 175 = .ok (.ifCond .ge 7, 3) := by decide +kernel
theorem dAr_isTaken_178 : decode cAr_isTaken 178 = .ok (.iconst 1, 1) := by decide +kernel
theorem dAr_isTaken_179 : decode cAr_isTaken 179 = .ok (.goto 4, 3) := by decide +kernel
theorem dAr_isTaken_182 : decode cAr_isTaken 182 = .ok (.iconst 0, 1) := by decide +kernel
theorem dAr_isTaken_183 : decode cAr_isTaken 183 = .ok (.ireturn, 1) := by decide +kernel
theorem dAr_isTaken_184 : decode cAr_isTaken 184 = .ok (.lload 5, 2) := by decide +kernel
theorem dAr_isTaken_186 : decode cAr_isTaken 186 = .ok (.lload 7, 2) := by decide +kernel
theorem dAr_isTaken_188 : decode cAr_isTaken 188 = .ok (.lcmp, 1) := by decide +kernel
theorem dAr_isTaken_189 : decode cAr_isTaken 189 = .ok (.ifCond .gt 7, 3) := by decide +kernel
theorem dAr_isTaken_192 : decode cAr_isTaken 192 = .ok (.iconst 1, 1) := by decide +kernel
theorem dAr_isTaken_193 : decode cAr_isTaken 193 = .ok (.goto 4, 3) := by decide +kernel
theorem dAr_isTaken_196 : decode cAr_isTaken 196 = .ok (.iconst 0, 1) := by decide +kernel
theorem dAr_isTaken_197 : decode cAr_isTaken 197 = .ok (.ireturn, 1) := by decide +kernel
theorem dAr_isTaken_198 : decode cAr_isTaken 198 = .ok (.lload_n 1, 1) := by decide +kernel
theorem dAr_isTaken_199 : decode cAr_isTaken 199 = .ok (.lload_n 3, 1) := by decide +kernel
theorem dAr_isTaken_200 : decode cAr_isTaken 200 = .ok (.lcmp, 1) := by decide +kernel
theorem dAr_isTaken_201 : decode cAr_isTaken 201 = .ok (.ifCond .ge 7, 3) := by decide +kernel
theorem dAr_isTaken_204 : decode cAr_isTaken 204 = .ok (.iconst 1, 1) := by decide +kernel
theorem dAr_isTaken_205 : decode cAr_isTaken 205 = .ok (.goto 4, 3) := by decide +kernel
theorem dAr_isTaken_208 : decode cAr_isTaken 208 = .ok (.iconst 0, 1) := by decide +kernel
theorem dAr_isTaken_209 : decode cAr_isTaken 209 = .ok (.ireturn, 1) := by decide +kernel
theorem dAr_isTaken_210 : decode cAr_isTaken 210 = .ok (.lload_n 1, 1) := by decide +kernel
theorem dAr_isTaken_211 : decode cAr_isTaken 211 = .ok (.lload_n 3, 1) := by decide +kernel
theorem dAr_isTaken_212 : decode cAr_isTaken 212 = .ok (.lcmp, 1) := by decide +kernel
theorem dAr_isTaken_213 : decode cAr_isTaken 213 = .ok (.ifCond .gt 7, 3) := by decide +kernel
theorem dAr_isTaken_216 : decode cAr_isTaken 216 = .ok (.iconst 1, 1) := by decide +kernel
theorem dAr_isTaken_217 : decode cAr_isTaken 217 = .ok (.goto 4, 3) := by decide +kernel
theorem dAr_isTaken_220 : decode cAr_isTaken 220 = .ok (.iconst 0, 1) := by decide +kernel
theorem dAr_isTaken_221 : decode cAr_isTaken 221 = .ok (.ireturn, 1) := by decide +kernel
theorem dAr_isTaken_222 : decode cAr_isTaken 222 = .ok (.iconst 0, 1) := by decide +kernel
theorem dAr_isTaken_223 : decode cAr_isTaken 223 = .ok (.ireturn, 1) := by decide +kernel
end
section
theorem dCp_init_0 : decode cCp_init 0 = .ok (.aload_n 0, 1) := by decide +kernel
theorem dCp_init_1 : decode cCp_init 1 = .ok (.invokespecial 1, 3) := by decide +kernel
theorem dCp_init_4 : decode cCp_init 4 = .ok (.aload_n 0, 1) := by decide +kernel
theorem dCp_init_5 : decode cCp_init 5 = .ok (.new 7, 3) := by decide +kernel
theorem dCp_init_8 : decode cCp_init 8 = .ok (.dup, 1) := by decide +kernel
theorem dCp_init_9 : decode cCp_init 9 = .ok (.invokespecial 9, 3) := by decide +kernel
theorem dCp_init_12 : decode cCp_init 12 = .ok (.putfield 10, 3) := by decide +kernel
theorem dCp_init_15 : decode cCp_init 15 = .ok (.aload_n 0, 1) := by decide +kernel
theorem dCp_init_16 : decode cCp_init 16 = .ok (.new 16, 3) := by decide +kernel
theorem dCp_init_19 : decode cCp_init 19 = .ok (.dup, 1) := by decide +kernel
theorem dCp_init_20 : decode cCp_init 20 = .ok (.invokespecial 18, 3) := by decide +kernel
theorem dCp_init_23 : decode cCp_init 23 = .ok (.putfield 19, 3) := by decide +kernel
theorem dCp_init_26 : decode cCp_init 26 = .ok (.aload_n 0, 1) := by decide +kernel
theorem dCp_init_27 : decode cCp_init 27 = .ok (.new 23, 3) := by decide +kernel
theorem dCp_init_30 : decode cCp_init 30 = .ok (.dup, 1) := by decide +kernel
theorem dCp_init_31 : decode cCp_init 31 = .ok (.invokespecial 25, 3) := by decide +kernel
theorem dCp_init_34 : decode cCp_init 34 = .ok (.putfield 26, 3) := by decide +kernel
theorem dCp_init_37 : decode cCp_init 37 = .ok (.aload_n 0, 1) := by decide +kernel
theorem dCp_init_38 : decode cCp_init 38 = .ok (.iconst (-1), 1) := by decide +kernel
theorem dCp_init_39 : decode cCp_init 39 = .ok (.putfield 30, 3) := by decide +kernel
theorem dCp_init_42 : decode cCp_init 42 = .ok (.aload_n 0, 1) := by decide +kernel
theorem dCp_init_43 : decode cCp_init 43 = .ok (.iconst 0, 1) := by decide +kernel
theorem dCp_init_44 : decode cCp_init 44 = .ok (.putfield 34, 3) := by decide +kernel
theorem dCp_init_47 : decode cCp_init 47 = .ok (.return_, 1) := by decide +kernel
theorem dCp_feed_0 : decode cCp_feed 0 = .ok (.aload_n 0, 1) := by decide +kernel
theorem dCp_feed_1 : decode cCp_feed 1 = .ok (.getfield 10, 3) := by decide +kernel
theorem dCp_feed_4 : decode cCp_feed 4 = .ok (.invokevirtual 37, 3) := by decide +kernel
theorem dCp_feed_7 : decode cCp_feed 7 = .ok (.ifCond .ne 13, 3) := by decide +kernel
theorem dCp_feed_10 : decode cCp_feed 10 = .ok (.new 41, 3) := by decide +kernel
theorem dCp_feed_13 : decode cCp_feed 13 = .ok (.dup, 1) := by decide +kernel
theorem dCp_feed_14 : decode cCp_feed 14 = .ok (.ldc 43, 2) := by decide +kernel
theorem dCp_feed_16 : decode cCp_feed 16 = .ok (.invokespecial 45, 3) := by decide +kernel
theorem dCp_feed_19 : decode cCp_feed 19 = .ok (.athrow, 1) := by decide +kernel
theorem dCp_feed_20 : decode cCp_feed 20 = .ok (.aload_n 0, 1) := by decide +kernel
theorem dCp_feed_21 : decode cCp_feed 21 = .ok (.getfield 10, 3) := by decide +kernel
theorem dCp_feed_24 : decode cCp_feed 24 = .ok (.invokevirtual 48, 3) := by decide +kernel
theorem dCp_feed_27 : decode cCp_feed 27 = .ok (.aload_n 0, 1) := by decide +kernel
theorem dCp_feed_28 : decode cCp_feed 28 = .ok (.getfield 10, 3) := by decide +kernel
theorem dCp_feed_31 : decode cCp_feed 31 = .ok (.iload_n 1, 1) := by decide +kernel
theorem dCp_feed_32 : decode cCp_feed 32 = .ok (.invokevirtual 51, 3) := by decide +kernel
theorem dCp_feed_35 : decode cCp_feed 35 = .ok (.aload_n 0, 1) := by decide +kernel
theorem dCp_feed_36 : decode cCp_feed 36 = .ok (.getfield 10, 3) := by decide +kernel
theorem dCp_feed_39 : decode cCp_feed 39 = .ok (.iload_n 2, 1) := by decide +kernel
theorem dCp_feed_40 : decode cCp_feed 40 = .ok (.invokevirtual 51, 3) := by decide +kernel
theorem dCp_feed_43 : decode cCp_feed 43 = .ok (.aload_n 0, 1) := by decide +kernel
theorem dCp_feed_44 : decode cCp_feed 44 = .ok (.getfield 10, 3) := by decide +kernel
theorem dCp_feed_47 : decode cCp_feed 47 = .ok (.iload_n 3, 1) := by decide +kernel
theorem dCp_feed_48 : decode cCp_feed 48 = .ok (.invokevirtual 51, 3) := by decide +kernel
theorem dCp_feed_51 : decode cCp_feed 51 = .ok (.aload_n 0, 1) := by decide +kernel
theorem dCp_feed_52 : decode cCp_feed 52 = .ok (.getfield 10, 3) := by decide +kernel
theorem dCp_feed_55 : decode cCp_feed 55 = .ok (.iload 4, 2) := by decide +kernel
theorem dCp_feed_57 : decode cCp_feed 57 = .ok (.invokevirtual 51, 3) := by decide +kernel
theorem dCp_feed_60 : decode cCp_feed 60 = .ok (.aload_n 0, 1) := by decide +kernel
theorem dCp_feed_61 : decode cCp_feed 61 = .ok (.getfield 10, 3) := by decide +kernel
theorem dCp_feed_64 : decode cCp_feed 64 = .ok (.iload 5, 2) := by decide +kernel
theorem dCp_feed_66 : decode cCp_feed 66 = .ok (.invokevirtual 51, 3) := by decide +kernel
theorem dCp_feed_69 : decode cCp_feed 69 = .ok (.aload_n 0, 1) := by decide +kernel
theorem dCp_feed_70 : decode cCp_feed 70 = .ok (.getfield 10, 3) := by decide +kernel
theorem dCp_feed_73 : decode cCp_feed 73 = .ok (.getfield 55, 3) := by decide +kernel
theorem dCp_feed_76 : decode cCp_feed 76 = .ok (.ireturn, 1) := by decide +kernel
theorem dCp_end_0 : decode cCp_end 0 = .ok (.iload_n 1, 1) := by decide +kernel
theorem dCp_end_1 : decode cCp_end 1 = .ok (.ifCond .lt 14, 3) := by decide +kernel
theorem dCp_end_4 : decode cCp_end 4 = .ok (.iload_n 1, 1) := by decide +kernel
theorem dCp_end_5 : decode cCp_end 5 = .ok (.aload_n 0, 1) := by decide +kernel
theorem dCp_end_6 : decode cCp_end 6 = .ok (.getfield 10, 3) := by decide +kernel
theorem dCp_end_9 : decode cCp_end 9 = .ok (.getfield 55, 3) := by decide +kernel
theorem dCp_end_12 : decode cCp_end 12 = .ok (.if_icmp .le 13, 3) := by decide +kernel
theorem dCp_end_15 : decode cCp_end 15 = .ok (.new 58, 3) := by decide +kernel
theorem dCp_end_18 : decode cCp_end 18 = .ok (.dup, 1) := by decide +kernel
theorem dCp_end_19 : decode cCp_end 19 = .ok (.ldc 60, 2) := by decide +kernel
theorem dCp_end_21 : decode cCp_end 21 = .ok (.invokespecial 62, 3) := by decide +kernel
theorem dCp_end_24 : decode cCp_end 24 = .ok (.athrow, 1) := by decide +kernel
theorem dCp_end_25 : decode cCp_end 25 = .ok (.aload_n 0, 1) := by decide +kernel
theorem dCp_end_26 : decode cCp_end 26 = .ok (.getfield 10, 3) := by decide +kernel
theorem dCp_end_29 : decode cCp_end 29 = .ok (.iload_n 1, 1) := by decide +kernel
theorem dCp_end_30 : decode cCp_end 30 = .ok (.putfield 55, 3) := by decide +kernel
theorem dCp_end_33 : decode cCp_end 33 = .ok (.return_, 1) := by decide +kernel
theorem dCp_load_0 : decode cCp_load 0 = .ok (.aload_n 0, 1) := by decide +kernel
theorem dCp_load_1 : decode cCp_load 1 = .ok (.getfield 10, 3) := by decide +kernel
theorem dCp_load_4 : decode cCp_load 4 = .ok (.getfield 55, 3) := by decide +kernel
theorem dCp_load_7 : decode cCp_load 7 = .ok (.bipush 8, 2) := by decide +kernel
theorem dCp_load_9 : decode cCp_load 9 = .ok (.irem, 1) := by decide +kernel
theorem dCp_load_10 : decode cCp_load 10 = .ok (.ifCond .eq 7, 3) := by decide +kernel
theorem dCp_load_13 : decode cCp_load 13 = .ok (.iconst 1, 1) := by decide +kernel
theorem dCp_load_14 : decode cCp_load 14 = .ok (.goto 4, 3) := by decide +kernel
theorem dCp_load_17 : decode cCp_load 17 = .ok (.iconst 0, 1) := by decide +kernel
theorem dCp_load_18 : decode cCp_load 18 = .ok (.istore_n 1, 1) := by decide +kernel
theorem dCp_load_19 : decode cCp_load 19 = .ok (.aload_n 0, 1) := by decide +kernel
theorem dCp_load_20 : decode cCp_load 20 = .ok (.getfield 19, 3) := by decide +kernel
theorem dCp_load_23 : decode cCp_load 23 = .ok (.aload_n 0, 1) := by decide +kernel
theorem dCp_load_24 : decode cCp_load 24 = .ok (.getfield 10, 3) := by decide +kernel
theorem dCp_load_27 : decode cCp_load 27 = .ok (.invokevirtual 63, 3) := by decide +kernel
theorem dCp_load_30 : decode cCp_load 30 = .ok (.aload_n 0, 1) := by decide +kernel
theorem dCp_load_31 : decode cCp_load 31 = .ok (.getfield 10, 3) := by decide +kernel
theorem dCp_load_34 : decode cCp_load 34 = .ok (.iconst 0, 1) := by decide +kernel
theorem dCp_load_35 : decode cCp_load 35 = .ok (.putfield 55, 3) := by decide +kernel
theorem dCp_load_38 : decode cCp_load 38 = .ok (.aload_n 0, 1) := by decide +kernel
theorem dCp_load_39 : decode cCp_load 39 = .ok (.getfield 19, 3) := by decide +kernel
theorem dCp_load_42 : decode cCp_load 42 = .ok (.iload_n 1, 1) := by decide +kernel
theorem dCp_load_43 : decode cCp_load 43 = .ok (.invokestatic 67, 3) := by decide +kernel
theorem dCp_load_46 : decode cCp_load 46 = .ok (.istore_n 2, 1) := by decide +kernel
theorem dCp_load_47 : decode cCp_load 47 = .ok (.iload_n 2, 1) := by decide +kernel
theorem dCp_load_48 : decode cCp_load 48 = .ok (.iconst (-1), 1) := by decide +kernel
theorem dCp_load_49 : decode cCp_load 49 = .ok (.if_icmp .ne 11, 3) := by decide +kernel
theorem dCp_load_52 : decode cCp_load 52 = .ok (.aload_n 0, 1) := by decide +kernel
theorem dCp_load_53 : decode cCp_load 53 = .ok (.getfield 19, 3) := by decide +kernel
theorem dCp_load_56 : decode cCp_load 56 = .ok (.invokestatic 73, 3) := by decide +kernel
theorem dCp_load_59 : decode cCp_load 59 = .ok (.istore_n 2, 1) := by decide +kernel
theorem dCp_load_60 : decode cCp_load 60 = .ok (.iload_n 2, 1) := by decide +kernel
theorem dCp_load_61 : decode cCp_load 61 = .ok (.iconst (-1), 1) := by decide +kernel
theorem dCp_load_62 : decode cCp_load 62 = .ok (.if_icmp .eq 11, 3) := by decide +kernel
theorem dCp_load_65 : decode cCp_load 65 = .ok (.aload_n 0, 1) := by decide +kernel
theorem dCp_load_66 : decode cCp_load 66 = .ok (.getfield 19, 3) := by decide +kernel
theorem dCp_load_69 : decode cCp_load 69 = .ok (.iconst 0, 1) := by decide +kernel
theorem dCp_load_70 : decode cCp_load 70 = .ok (.putfield 77, 3) := by decide +kernel
theorem dCp_load_73 : decode cCp_load 73 = .ok (.iload_n 2, 1) := by decide +kernel
theorem dCp_load_74 : decode cCp_load 74 = .ok (.ireturn, 1) := by decide +kernel
theorem dCp_places_0 : decode cCp_places 0 = .ok (.aload_n 0, 1) := by decide +kernel
theorem dCp_places_1 : decode cCp_places 1 = .ok (.getfield 19, 3) := by decide +kernel
theorem dCp_places_4 : decode cCp_places 4 = .ok (.getfield 77, 3) := by decide +kernel
theorem dCp_places_7 : decode cCp_places 7 = .ok (.ireturn, 1) := by decide +kernel
theorem dCp_set_0 : decode cCp_set 0 = .ok (.iload_n 1, 1) := by decide +kernel
theorem dCp_set_1 : decode cCp_set 1 = .ok (.ifCond .lt 9, 3) := by decide +kernel
theorem dCp_set_4 : decode cCp_set 4 = .ok (.iload_n 1, 1) := by decide +kernel
theorem dCp_set_5 : decode cCp_set 5 = .ok (.bipush 11, 2) := by decide +kernel
theorem dCp_set_7 : decode cCp_set 7 = .ok (.if_icmp .lt 13, 3) := by decide +kernel
theorem dCp_set_10 : decode cCp_set 10 = .ok (.new 80, 3) := by decide +kernel
theorem dCp_set_13 : decode cCp_set 13 = .ok (.dup, 1) := by decide +kernel
theorem dCp_set_14 : decode cCp_set 14 = .ok (.ldc 82, 2) := by decide +kernel
theorem dCp_set_16 : decode cCp_set 16 = .ok (.invokespecial 84, 3) := by decide +kernel
theorem dCp_set_19 : decode cCp_set 19 = .ok (.athrow, 1) := by decide +kernel
theorem dCp_set_20 : decode cCp_set 20 = .ok (.aload_n 0, 1) := by decide +kernel
theorem dCp_set_21 : decode cCp_set 21 = .ok (.getfield 26, 3) := by decide +kernel
theorem dCp_set_24 : decode cCp_set 24 = .ok (.getfield 85, 3) := by decide +kernel
theorem dCp_set_27 : decode cCp_set 27 = .ok (.iload_n 1, 1) := by decide +kernel
theorem dCp_set_28 : decode cCp_set 28 = .ok (.lload_n 2, 1) := by decide +kernel
theorem dCp_set_29 : decode cCp_set 29 = .ok (.lastore, 1) := by decide +kernel
theorem dCp_set_30 : decode cCp_set 30 = .ok (.return_, 1) := by decide +kernel
theorem dCp_get_0 : decode cCp_get 0 = .ok (.iload_n 1, 1) := by decide +kernel
theorem dCp_get_1 : decode cCp_get 1 = .ok (.ifCond .lt 9, 3) := by decide +kernel
theorem dCp_get_4 : decode cCp_get 4 = .ok (.iload_n 1, 1) := by decide +kernel
theorem dCp_get_5 : decode cCp_get 5 = .ok (.bipush 11, 2) := by decide +kernel
theorem dCp_get_7 : decode cCp_get 7 = .ok (.if_icmp .lt 13, 3) := by decide +kernel
theorem dCp_get_10 : decode cCp_get 10 = .ok (.new 80, 3) := by decide +kernel
theorem dCp_get_13 : decode cCp_get 13 = .ok (.dup, 1) := by decide +kernel
theorem dCp_get_14 : decode cCp_get 14 = .ok (.ldc 82, 2) := by decide +kernel
theorem dCp_get_16 : decode cCp_get 16 = .ok (.invokespecial 84, 3) := by decide +kernel
theorem dCp_get_19 : decode cCp_get 19 = .ok (.athrow, 1) := by decide +kernel
theorem dCp_get_20 : decode cCp_get 20 = .ok (.aload_n 0, 1) := by decide +kernel
theorem dCp_get_21 : decode cCp_get 21 = .ok (.getfield 26, 3) := by decide +kernel
theorem dCp_get_24 : decode cCp_get 24 = .ok (.getfield 85, 3) := by decide +kernel
theorem dCp_get_27 : decode cCp_get 27 = .ok (.iload_n 1, 1) := by decide +kernel
theorem dCp_get_28 : decode cCp_get 28 = .ok (.laload, 1) := by decide +kernel
theorem dCp_get_29 : decode cCp_get 29 = .ok (.lreturn, 1) := by decide +kernel
theorem dCp_put_0 : decode cCp_put 0 = .ok (.aload_n 0, 1) := by decide +kernel
theorem dCp_put_1 : decode cCp_put 1 = .ok (.getfield 26, 3) := by decide +kernel
theorem dCp_put_4 : decode cCp_put 4 = .ok (.getfield 89, 3) := by decide +kernel
theorem dCp_put_7 : decode cCp_put 7 = .ok (.lload_n 1, 1) := by decide +kernel
theorem dCp_put_8 : decode cCp_put 8 = .ok (.bipush 8, 2) := by decide +kernel
theorem dCp_put_10 : decode cCp_put 10 = .ok (.invokevirtual 93, 3) := by decide +kernel
theorem dCp_put_13 : decode cCp_put 13 = .ok (.ifCond .ne 13, 3) := by decide +kernel
theorem dCp_put_16 : decode cCp_put 16 = .ok (.new 80, 3) := by decide +kernel
theorem dCp_put_19 : decode cCp_put 19 = .ok (.dup, 1) := by decide +kernel
theorem dCp_put_20 : decode cCp_put 20 = .ok (.ldc 99, 2) := by decide +kernel
theorem dCp_put_22 : decode cCp_put 22 = .ok (.invokespecial 84, 3) := by decide +kernel
theorem dCp_put_25 : decode cCp_put 25 = .ok (.athrow, 1) := by decide +kernel
theorem dCp_put_26 : decode cCp_put 26 = .ok (.aload_n 0, 1) := by decide +kernel
theorem dCp_put_27 : decode cCp_put 27 = .ok (.getfield 26, 3) := by decide +kernel
theorem dCp_put_30 : decode cCp_put 30 = .ok (.getfield 89, 3) := by decide +kernel
theorem dCp_put_33 : decode cCp_put 33 = .ok (.lload_n 1, 1) := by decide +kernel
theorem dCp_put_34 : decode cCp_put 34 = .ok (.bipush 8, 2) := by decide +kernel
theorem dCp_put_36 : decode cCp_put 36 = .ok (.lload_n 3, 1) := by decide +kernel
theorem dCp_put_37 : decode cCp_put 37 = .ok (.invokevirtual 101, 3) := by decide +kernel
theorem dCp_put_40 : decode cCp_put 40 = .ok (.return_, 1) := by decide +kernel
theorem dCp_word_0 : decode cCp_word 0 = .ok (.aload_n 0, 1) := by decide +kernel
theorem dCp_word_1 : decode cCp_word 1 = .ok (.getfield 26, 3) := by decide +kernel
theorem dCp_word_4 : decode cCp_word 4 = .ok (.getfield 89, 3) := by decide +kernel
theorem dCp_word_7 : decode cCp_word 7 = .ok (.lload_n 1, 1) := by decide +kernel
theorem dCp_word_8 : decode cCp_word 8 = .ok (.bipush 8, 2) := by decide +kernel
theorem dCp_word_10 : decode cCp_word 10 = .ok (.invokevirtual 93, 3) := by decide +kernel
theorem dCp_word_13 : decode cCp_word 13 = .ok (.ifCond .ne 13, 3) := by decide +kernel
theorem dCp_word_16 : decode cCp_word 16 = .ok (.new 80, 3) := by decide +kernel
theorem dCp_word_19 : decode cCp_word 19 = .ok (.dup, 1) := by decide +kernel
theorem dCp_word_20 : decode cCp_word 20 = .ok (.ldc 99, 2) := by decide +kernel
theorem dCp_word_22 : decode cCp_word 22 = .ok (.invokespecial 84, 3) := by decide +kernel
theorem dCp_word_25 : decode cCp_word 25 = .ok (.athrow, 1) := by decide +kernel
theorem dCp_word_26 : decode cCp_word 26 = .ok (.aload_n 0, 1) := by decide +kernel
theorem dCp_word_27 : decode cCp_word 27 = .ok (.getfield 26, 3) := by decide +kernel
theorem dCp_word_30 : decode cCp_word 30 = .ok (.getfield 89, 3) := by decide +kernel
theorem dCp_word_33 : decode cCp_word 33 = .ok (.lload_n 1, 1) := by decide +kernel
theorem dCp_word_34 : decode cCp_word 34 = .ok (.bipush 8, 2) := by decide +kernel
theorem dCp_word_36 : decode cCp_word 36 = .ok (.invokevirtual 105, 3) := by decide +kernel
theorem dCp_word_39 : decode cCp_word 39 = .ok (.lreturn, 1) := by decide +kernel
theorem dCp_run_0 : decode cCp_run 0 = .ok (.iload_n 1, 1) := by decide +kernel
theorem dCp_run_1 : decode cCp_run 1 = .ok (.ifCond .lt 9, 3) := by decide +kernel
theorem dCp_run_4 : decode cCp_run 4 = .ok (.iload_n 1, 1) := by decide +kernel
theorem dCp_run_5 : decode cCp_run 5 = .ok (.ldc 109, 2) := by decide +kernel
theorem dCp_run_7 : decode cCp_run 7 = .ok (.if_icmp .le 13, 3) := by decide +kernel
theorem dCp_run_10 : decode cCp_run 10 = .ok (.new 58, 3) := by decide +kernel
theorem dCp_run_13 : decode cCp_run 13 = .ok (.dup, 1) := by decide +kernel
theorem dCp_run_14 : decode cCp_run 14 = .ok (.ldc 110, 2) := by decide +kernel
theorem dCp_run_16 : decode cCp_run 16 = .ok (.invokespecial 62, 3) := by decide +kernel
theorem dCp_run_19 : decode cCp_run 19 = .ok (.athrow, 1) := by decide +kernel
theorem dCp_run_20 : decode cCp_run 20 = .ok (.aload_n 0, 1) := by decide +kernel
theorem dCp_run_21 : decode cCp_run 21 = .ok (.getfield 19, 3) := by decide +kernel
theorem dCp_run_24 : decode cCp_run 24 = .ok (.getfield 77, 3) := by decide +kernel
theorem dCp_run_27 : decode cCp_run 27 = .ok (.ifCond .ne 13, 3) := by decide +kernel
theorem dCp_run_30 : decode cCp_run 30 = .ok (.new 41, 3) := by decide +kernel
theorem dCp_run_33 : decode cCp_run 33 = .ok (.dup, 1) := by decide +kernel
theorem dCp_run_34 : decode cCp_run 34 = .ok (.ldc 112, 2) := by decide +kernel
theorem dCp_run_36 : decode cCp_run 36 = .ok (.invokespecial 45, 3) := by decide +kernel
theorem dCp_run_39 : decode cCp_run 39 = .ok (.athrow, 1) := by decide +kernel
theorem dCp_run_40 : decode cCp_run 40 = .ok (.aload_n 0, 1) := by decide +kernel
theorem dCp_run_41 : decode cCp_run 41 = .ok (.iconst 0, 1) := by decide +kernel
theorem dCp_run_42 : decode cCp_run 42 = .ok (.putfield 30, 3) := by decide +kernel
theorem dCp_run_45 : decode cCp_run 45 = .ok (.aload_n 0, 1) := by decide +kernel
theorem dCp_run_46 : decode cCp_run 46 = .ok (.iconst 0, 1) := by decide +kernel
theorem dCp_run_47 : decode cCp_run 47 = .ok (.putfield 34, 3) := by decide +kernel
theorem dCp_run_50 : decode cCp_run 50 = .ok (.iconst 0, 1) := by decide +kernel
theorem dCp_run_51 : decode cCp_run 51 = .ok (.istore_n 2, 1) := by decide +kernel
theorem dCp_run_52 : decode cCp_run 52 = .ok (.iload_n 2, 1) := by decide +kernel
theorem dCp_run_53 : decode cCp_run 53 = .ok (.iload_n 1, 1) := by decide +kernel
theorem dCp_run_54 : decode cCp_run 54 = .ok (.if_icmp .ge 52, 3) := by decide +kernel
theorem dCp_run_57 : decode cCp_run 57 = .ok (.aload_n 0, 1) := by decide +kernel
theorem dCp_run_58 : decode cCp_run 58 = .ok (.getfield 26, 3) := by decide +kernel
theorem dCp_run_61 : decode cCp_run 61 = .ok (.aload_n 0, 1) := by decide +kernel
theorem dCp_run_62 : decode cCp_run 62 = .ok (.getfield 19, 3) := by decide +kernel
theorem dCp_run_65 : decode cCp_run 65 = .ok (.aload_n 0, 1) := by decide +kernel
theorem dCp_run_66 : decode cCp_run 66 = .ok (.getfield 30, 3) := by decide +kernel
theorem dCp_run_69 : decode cCp_run 69 = .ok (.invokevirtual 114, 3) := by decide +kernel
theorem dCp_run_72 : decode cCp_run 72 = .ok (.istore_n 3, 1) := by decide +kernel
theorem dCp_run_73 : decode cCp_run 73 = .ok (.iload_n 3, 1) := by decide +kernel
theorem dCp_run_74 : decode cCp_run 74 = .ok (.bipush (-2), 2) := by decide +kernel
theorem dCp_run_76 : decode cCp_run 76 = .ok (.if_icmp .ne 5, 3) := by decide +kernel
theorem dCp_run_79 : decode cCp_run 79 = .ok (.iconst 2, 1) := by decide +kernel
theorem dCp_run_80 : decode cCp_run 80 = .ok (.ireturn, 1) := by decide +kernel
theorem dCp_run_81 : decode cCp_run 81 = .ok (.aload_n 0, 1) := by decide +kernel
theorem dCp_run_82 : decode cCp_run 82 = .ok (.iload_n 2, 1) := by decide +kernel
theorem dCp_run_83 : decode cCp_run 83 = .ok (.iconst 1, 1) := by decide +kernel
theorem dCp_run_84 : decode cCp_run 84 = .ok (.iadd, 1) := by decide +kernel
theorem dCp_run_85 : decode cCp_run 85 = .ok (.putfield 34, 3) := by decide +kernel
theorem dCp_run_88 : decode cCp_run 88 = .ok (.iload_n 3, 1) := by decide +kernel
theorem dCp_run_89 : decode cCp_run 89 = .ok (.iconst (-1), 1) := by decide +kernel
theorem dCp_run_90 : decode cCp_run 90 = .ok (.if_icmp .ne 5, 3) := by decide +kernel
theorem dCp_run_93 : decode cCp_run 93 = .ok (.iconst 0, 1) := by decide +kernel
theorem dCp_run_94 : decode cCp_run 94 = .ok (.ireturn, 1) := by decide +kernel
theorem dCp_run_95 : decode cCp_run 95 = .ok (.aload_n 0, 1) := by decide +kernel
theorem dCp_run_96 : decode cCp_run 96 = .ok (.iload_n 3, 1) := by decide +kernel
theorem dCp_run_97 : decode cCp_run 97 = .ok (.putfield 30, 3) := by decide +kernel
theorem dCp_run_100 : decode cCp_run 100 = .ok (.iinc 2 1, 3) := by decide +kernel
theorem dCp_run_103 : decode cCp_run 103 = .ok (.goto (-51), 3) := by decide +kernel
theorem dCp_run_106 : decode cCp_run 106 = .ok (.iconst 1, 1) := by decide +kernel
theorem dCp_run_107 : decode cCp_run 107 = .ok (.ireturn, 1) := by decide +kernel
theorem dCp_place_0 : decode cCp_place 0 = .ok (.aload_n 0, 1) := by decide +kernel
theorem dCp_place_1 : decode cCp_place 1 = .ok (.getfield 30, 3) := by decide +kernel
theorem dCp_place_4 : decode cCp_place 4 = .ok (.ireturn, 1) := by decide +kernel
theorem dCp_steps_0 : decode cCp_steps 0 = .ok (.aload_n 0, 1) := by decide +kernel
theorem dCp_steps_1 : decode cCp_steps 1 = .ok (.getfield 34, 3) := by decide +kernel
theorem dCp_steps_4 : decode cCp_steps 4 = .ok (.ireturn, 1) := by decide +kernel
end
section
theorem dEx_isKnown_0 : decode cEx_isKnown 0 = .ok (.iload_n 0, 1) := by decide +kernel
theorem dEx_isKnown_1 : decode cEx_isKnown 1 = .ok (.lookupswitch 77 #[(0, 75), (1, 75), (64, 75), (65, 75), (80, 75), (81, 75), (160, 75), (161, 75)], 75) := by decide +kernel
theorem dEx_isKnown_76 : decode cEx_isKnown 76 = .ok (.iconst 1, 1) := by decide +kernel
theorem dEx_isKnown_77 : decode cEx_isKnown 77 = .ok (.ireturn, 1) := by decide +kernel
theorem dEx_isKnown_78 : decode cEx_isKnown 78 = .ok (.iload_n 0, 1) := by decide +kernel
theorem dEx_isKnown_79 : decode cEx_isKnown 79 = .ok (.sipush 225, 3) := by decide +kernel
theorem dEx_isKnown_82 : decode cEx_isKnown 82 = .ok (.if_icmp .eq 10, 3) := by decide +kernel
theorem dEx_isKnown_85 : decode cEx_isKnown 85 = .ok (.iload_n 0, 1) := by decide +kernel
theorem dEx_isKnown_86 : decode cEx_isKnown 86 = .ok (.sipush 241, 3) := by decide +kernel
theorem dEx_isKnown_89 : decode cEx_isKnown 89 = .ok (.if_icmp .ne 7, 3) := by decide +kernel
theorem dEx_isKnown_92 : decode cEx_isKnown 92 = .ok (.iconst 1, 1) := by decide +kernel
theorem dEx_isKnown_93 : decode cEx_isKnown 93 = .ok (.goto 4, 3) := by decide +kernel
theorem dEx_isKnown_96 : decode cEx_isKnown 96 = .ok (.iconst 0, 1) := by decide +kernel
theorem dEx_isKnown_97 : decode cEx_isKnown 97 = .ok (.ireturn, 1) := by decide +kernel
theorem dEx_changesSource_0 : decode cEx_changesSource 0 = .ok (.iload_n 0, 1) := by decide +kernel
theorem dEx_changesSource_1 : decode cEx_changesSource 1 = .ok (.iconst 1, 1) := by decide +kernel
theorem dEx_changesSource_2 : decode cEx_changesSource 2 = .ok (.iand, 1) := by decide +kernel
theorem dEx_changesSource_3 : decode cEx_changesSource 3 = .ok (.iconst 1, 1) := by decide +kernel
theorem dEx_changesSource_4 : decode cEx_changesSource 4 = .ok (.if_icmp .ne 14, 3) := by decide +kernel
theorem dEx_changesSource_7 : decode cEx_changesSource 7 = .ok (.iload_n 0, 1) := by decide +kernel
theorem dEx_changesSource_8 : decode cEx_changesSource 8 = .ok (.sipush 241, 3) := by decide +kernel
theorem dEx_changesSource_11 : decode cEx_changesSource 11 = .ok (.if_icmp .eq 7, 3) := by decide +kernel
theorem dEx_changesSource_14 : decode cEx_changesSource 14 = .ok (.iconst 1, 1) := by decide +kernel
theorem dEx_changesSource_15 : decode cEx_changesSource 15 = .ok (.goto 4, 3) := by decide +kernel
theorem dEx_changesSource_18 : decode cEx_changesSource 18 = .ok (.iconst 0, 1) := by decide +kernel
theorem dEx_changesSource_19 : decode cEx_changesSource 19 = .ok (.ireturn, 1) := by decide +kernel
theorem dEx_become_0 : decode cEx_become 0 = .ok (.iload_n 0, 1) := by decide +kernel
theorem dEx_become_1 : decode cEx_become 1 = .ok (.lookupswitch 101 #[(0, 83), (1, 83), (64, 87), (65, 87), (80, 91), (81, 91), (160, 95), (161, 95), (225, 99)], 83) := by decide +kernel
theorem dEx_become_84 : decode cEx_become 84 = .ok (.lload_n 1, 1) := by decide +kernel
theorem dEx_become_85 : decode cEx_become 85 = .ok (.lload_n 3, 1) := by decide +kernel
theorem dEx_become_86 : decode cEx_become 86 = .ok (.ladd, 1) := by decide +kernel
theorem dEx_become_87 : decode cEx_become 87 = .ok (.lreturn, 1) := by decide +kernel
theorem dEx_become_88 : decode cEx_become 88 = .ok (.lload_n 1, 1) := by decide +kernel
theorem dEx_become_89 : decode cEx_become 89 = .ok (.lload_n 3, 1) := by decide +kernel
theorem dEx_become_90 : decode cEx_become 90 = .ok (.lor, 1) := by decide +kernel
theorem dEx_become_91 : decode cEx_become 91 = .ok (.lreturn, 1) := by decide +kernel
theorem dEx_become_92 : decode cEx_become 92 = .ok (.lload_n 1, 1) := by decide +kernel
theorem dEx_become_93 : decode cEx_become 93 = .ok (.lload_n 3, 1) := by decide +kernel
theorem dEx_become_94 : decode cEx_become 94 = .ok (.land, 1) := by decide +kernel
theorem dEx_become_95 : decode cEx_become 95 = .ok (.lreturn, 1) := by decide +kernel
theorem dEx_become_96 : decode cEx_become 96 = .ok (.lload_n 1, 1) := by decide +kernel
theorem dEx_become_97 : decode cEx_become 97 = .ok (.lload_n 3, 1) := by decide +kernel
theorem dEx_become_98 : decode cEx_become 98 = .ok (.lxor, 1) := by decide +kernel
theorem dEx_become_99 : decode cEx_become 99 = .ok (.lreturn, 1) := by decide +kernel
theorem dEx_become_100 : decode cEx_become 100 = .ok (.lload_n 3, 1) := by decide +kernel
theorem dEx_become_101 : decode cEx_become 101 = .ok (.lreturn, 1) := by decide +kernel
theorem dEx_become_102 : decode cEx_become 102 = .ok (.iload 5, 2) := by decide +kernel
theorem dEx_become_104 : decode cEx_become 104 = .ok (.ifCond .eq 7, 3) := by decide +kernel
theorem dEx_become_107 : decode cEx_become 107 = .ok (.lload_n 3, 1) := by decide +kernel
theorem dEx_become_108 : decode cEx_become 108 = .ok (.goto 4, 3) := by decide +kernel
theorem dEx_become_111 : decode cEx_become 111 = .ok (.lload_n 1, 1) := by decide +kernel
theorem dEx_become_112 : decode cEx_become 112 = .ok (.lreturn, 1) := by decide +kernel
end
section
theorem dFi_code_0 : decode cFi_code 0 = .ok (.lload_n 0, 1) := by decide +kernel
theorem dFi_code_1 : decode cFi_code 1 = .ok (.l2i, 1) := by decide +kernel
theorem dFi_code_2 : decode cFi_code 2 = .ok (.sipush 255, 3) := by decide +kernel
theorem dFi_code_5 : decode cFi_code 5 = .ok (.iand, 1) := by decide +kernel
theorem dFi_code_6 : decode cFi_code 6 = .ok (.ireturn, 1) := by decide +kernel
theorem dFi_kind_0 : decode cFi_kind 0 = .ok (.lload_n 0, 1) := by decide +kernel
theorem dFi_kind_1 : decode cFi_kind 1 = .ok (.l2i, 1) := by decide +kernel
theorem dFi_kind_2 : decode cFi_kind 2 = .ok (.bipush 7, 2) := by decide +kernel
theorem dFi_kind_4 : decode cFi_kind 4 = .ok (.iand, 1) := by decide +kernel
theorem dFi_kind_5 : decode cFi_kind 5 = .ok (.ireturn, 1) := by decide +kernel
theorem dFi_operation_0 : decode cFi_operation 0 = .ok (.lload_n 0, 1) := by decide +kernel
theorem dFi_operation_1 : decode cFi_operation 1 = .ok (.iconst 4, 1) := by decide +kernel
theorem dFi_operation_2 : decode cFi_operation 2 = .ok (.lushr, 1) := by decide +kernel
theorem dFi_operation_3 : decode cFi_operation 3 = .ok (.l2i, 1) := by decide +kernel
theorem dFi_operation_4 : decode cFi_operation 4 = .ok (.bipush 15, 2) := by decide +kernel
theorem dFi_operation_6 : decode cFi_operation 6 = .ok (.iand, 1) := by decide +kernel
theorem dFi_operation_7 : decode cFi_operation 7 = .ok (.ireturn, 1) := by decide +kernel
theorem dFi_usesSource_0 : decode cFi_usesSource 0 = .ok (.lload_n 0, 1) := by decide +kernel
theorem dFi_usesSource_1 : decode cFi_usesSource 1 = .ok (.ldc2_w 7, 3) := by decide +kernel
theorem dFi_usesSource_4 : decode cFi_usesSource 4 = .ok (.land, 1) := by decide +kernel
theorem dFi_usesSource_5 : decode cFi_usesSource 5 = .ok (.lconst 0, 1) := by decide +kernel
theorem dFi_usesSource_6 : decode cFi_usesSource 6 = .ok (.lcmp, 1) := by decide +kernel
theorem dFi_usesSource_7 : decode cFi_usesSource 7 = .ok (.ifCond .eq 7, 3) := by decide +kernel
theorem dFi_usesSource_10 : decode cFi_usesSource 10 = .ok (.iconst 1, 1) := by decide +kernel
theorem dFi_usesSource_11 : decode cFi_usesSource 11 = .ok (.goto 4, 3) := by decide +kernel
theorem dFi_usesSource_14 : decode cFi_usesSource 14 = .ok (.iconst 0, 1) := by decide +kernel
theorem dFi_usesSource_15 : decode cFi_usesSource 15 = .ok (.ireturn, 1) := by decide +kernel
theorem dFi_mode_0 : decode cFi_mode 0 = .ok (.lload_n 0, 1) := by decide +kernel
theorem dFi_mode_1 : decode cFi_mode 1 = .ok (.iconst 5, 1) := by decide +kernel
theorem dFi_mode_2 : decode cFi_mode 2 = .ok (.lushr, 1) := by decide +kernel
theorem dFi_mode_3 : decode cFi_mode 3 = .ok (.l2i, 1) := by decide +kernel
theorem dFi_mode_4 : decode cFi_mode 4 = .ok (.bipush 7, 2) := by decide +kernel
theorem dFi_mode_6 : decode cFi_mode 6 = .ok (.iand, 1) := by decide +kernel
theorem dFi_mode_7 : decode cFi_mode 7 = .ok (.ireturn, 1) := by decide +kernel
theorem dFi_size_0 : decode cFi_size 0 = .ok (.lload_n 0, 1) := by decide +kernel
theorem dFi_size_1 : decode cFi_size 1 = .ok (.iconst 3, 1) := by decide +kernel
theorem dFi_size_2 : decode cFi_size 2 = .ok (.lushr, 1) := by decide +kernel
theorem dFi_size_3 : decode cFi_size 3 = .ok (.l2i, 1) := by decide +kernel
theorem dFi_size_4 : decode cFi_size 4 = .ok (.iconst 3, 1) := by decide +kernel
theorem dFi_size_5 : decode cFi_size 5 = .ok (.iand, 1) := by decide +kernel
theorem dFi_size_6 : decode cFi_size 6 = .ok (.tableswitch 32 0 2 #[26, 28, 30], 26) := by decide +kernel
theorem dFi_size_32 : decode cFi_size 32 = .ok (.iconst 4, 1) := by decide +kernel
theorem dFi_size_33 : decode cFi_size 33 = .ok (.ireturn, 1) := by decide +kernel
theorem dFi_size_34 : decode cFi_size 34 = .ok (.iconst 2, 1) := by decide +kernel
theorem dFi_size_35 : decode cFi_size 35 = .ok (.ireturn, 1) := by decide +kernel
theorem dFi_size_36 : decode cFi_size 36 = .ok (.iconst 1, 1) := by decide +kernel
theorem dFi_size_37 : decode cFi_size 37 = .ok (.ireturn, 1) := by decide +kernel
theorem dFi_size_38 : decode cFi_size 38 = .ok (.bipush 8, 2) := by decide +kernel
theorem dFi_size_40 : decode cFi_size 40 = .ok (.ireturn, 1) := by decide +kernel
theorem dFi_target_0 : decode cFi_target 0 = .ok (.lload_n 0, 1) := by decide +kernel
theorem dFi_target_1 : decode cFi_target 1 = .ok (.bipush 8, 2) := by decide +kernel
theorem dFi_target_3 : decode cFi_target 3 = .ok (.lushr, 1) := by decide +kernel
theorem dFi_target_4 : decode cFi_target 4 = .ok (.l2i, 1) := by decide +kernel
theorem dFi_target_5 : decode cFi_target 5 = .ok (.bipush 15, 2) := by decide +kernel
theorem dFi_target_7 : decode cFi_target 7 = .ok (.iand, 1) := by decide +kernel
theorem dFi_target_8 : decode cFi_target 8 = .ok (.ireturn, 1) := by decide +kernel
theorem dFi_source_0 : decode cFi_source 0 = .ok (.lload_n 0, 1) := by decide +kernel
theorem dFi_source_1 : decode cFi_source 1 = .ok (.bipush 12, 2) := by decide +kernel
theorem dFi_source_3 : decode cFi_source 3 = .ok (.lushr, 1) := by decide +kernel
theorem dFi_source_4 : decode cFi_source 4 = .ok (.l2i, 1) := by decide +kernel
theorem dFi_source_5 : decode cFi_source 5 = .ok (.bipush 15, 2) := by decide +kernel
theorem dFi_source_7 : decode cFi_source 7 = .ok (.iand, 1) := by decide +kernel
theorem dFi_source_8 : decode cFi_source 8 = .ok (.ireturn, 1) := by decide +kernel
theorem dFi_offset_0 : decode cFi_offset 0 = .ok (.lload_n 0, 1) := by decide +kernel
theorem dFi_offset_1 : decode cFi_offset 1 = .ok (.bipush 16, 2) := by decide +kernel
theorem dFi_offset_3 : decode cFi_offset 3 = .ok (.lushr, 1) := by decide +kernel
theorem dFi_offset_4 : decode cFi_offset 4 = .ok (.l2i, 1) := by decide +kernel
theorem dFi_offset_5 : decode cFi_offset 5 = .ok (.i2s, 1) := by decide +kernel
theorem dFi_offset_6 : decode cFi_offset 6 = .ok (.ireturn, 1) := by decide +kernel
theorem dFi_immediate_0 : decode cFi_immediate 0 = .ok (.lload_n 0, 1) := by decide +kernel
theorem dFi_immediate_1 : decode cFi_immediate 1 = .ok (.bipush 32, 2) := by decide +kernel
theorem dFi_immediate_3 : decode cFi_immediate 3 = .ok (.lushr, 1) := by decide +kernel
theorem dFi_immediate_4 : decode cFi_immediate 4 = .ok (.l2i, 1) := by decide +kernel
theorem dFi_immediate_5 : decode cFi_immediate 5 = .ok (.ireturn, 1) := by decide +kernel
theorem dFi_isTwoPlaces_0 : decode cFi_isTwoPlaces 0 = .ok (.lload_n 0, 1) := by decide +kernel
theorem dFi_isTwoPlaces_1 : decode cFi_isTwoPlaces 1 = .ok (.invokestatic 9, 3) := by decide +kernel
theorem dFi_isTwoPlaces_4 : decode cFi_isTwoPlaces 4 = .ok (.bipush 24, 2) := by decide +kernel
theorem dFi_isTwoPlaces_6 : decode cFi_isTwoPlaces 6 = .ok (.if_icmp .ne 7, 3) := by decide +kernel
theorem dFi_isTwoPlaces_9 : decode cFi_isTwoPlaces 9 = .ok (.iconst 1, 1) := by decide +kernel
theorem dFi_isTwoPlaces_10 : decode cFi_isTwoPlaces 10 = .ok (.goto 4, 3) := by decide +kernel
theorem dFi_isTwoPlaces_13 : decode cFi_isTwoPlaces 13 = .ok (.iconst 0, 1) := by decide +kernel
theorem dFi_isTwoPlaces_14 : decode cFi_isTwoPlaces 14 = .ok (.ireturn, 1) := by decide +kernel
theorem dFi_isExit_0 : decode cFi_isExit 0 = .ok (.lload_n 0, 1) := by decide +kernel
theorem dFi_isExit_1 : decode cFi_isExit 1 = .ok (.invokestatic 9, 3) := by decide +kernel
theorem dFi_isExit_4 : decode cFi_isExit 4 = .ok (.sipush 149, 3) := by decide +kernel
theorem dFi_isExit_7 : decode cFi_isExit 7 = .ok (.if_icmp .ne 7, 3) := by decide +kernel
theorem dFi_isExit_10 : decode cFi_isExit 10 = .ok (.iconst 1, 1) := by decide +kernel
theorem dFi_isExit_11 : decode cFi_isExit 11 = .ok (.goto 4, 3) := by decide +kernel
theorem dFi_isExit_14 : decode cFi_isExit 14 = .ok (.iconst 0, 1) := by decide +kernel
theorem dFi_isExit_15 : decode cFi_isExit 15 = .ok (.ireturn, 1) := by decide +kernel
theorem dFi_isCall_0 : decode cFi_isCall 0 = .ok (.lload_n 0, 1) := by decide +kernel
theorem dFi_isCall_1 : decode cFi_isCall 1 = .ok (.invokestatic 9, 3) := by decide +kernel
theorem dFi_isCall_4 : decode cFi_isCall 4 = .ok (.sipush 133, 3) := by decide +kernel
theorem dFi_isCall_7 : decode cFi_isCall 7 = .ok (.if_icmp .ne 7, 3) := by decide +kernel
theorem dFi_isCall_10 : decode cFi_isCall 10 = .ok (.iconst 1, 1) := by decide +kernel
theorem dFi_isCall_11 : decode cFi_isCall 11 = .ok (.goto 4, 3) := by decide +kernel
theorem dFi_isCall_14 : decode cFi_isCall 14 = .ok (.iconst 0, 1) := by decide +kernel
theorem dFi_isCall_15 : decode cFi_isCall 15 = .ok (.ireturn, 1) := by decide +kernel
theorem dFi_jumpsAlways_0 : decode cFi_jumpsAlways 0 = .ok (.lload_n 0, 1) := by decide +kernel
theorem dFi_jumpsAlways_1 : decode cFi_jumpsAlways 1 = .ok (.invokestatic 9, 3) := by decide +kernel
theorem dFi_jumpsAlways_4 : decode cFi_jumpsAlways 4 = .ok (.iconst 5, 1) := by decide +kernel
theorem dFi_jumpsAlways_5 : decode cFi_jumpsAlways 5 = .ok (.if_icmp .eq 12, 3) := by decide +kernel
theorem dFi_jumpsAlways_8 : decode cFi_jumpsAlways 8 = .ok (.lload_n 0, 1) := by decide +kernel
theorem dFi_jumpsAlways_9 : decode cFi_jumpsAlways 9 = .ok (.invokestatic 9, 3) := by decide +kernel
theorem dFi_jumpsAlways_12 : decode cFi_jumpsAlways 12 = .ok (.bipush 6, 2) := by decide +kernel
theorem dFi_jumpsAlways_14 : decode cFi_jumpsAlways 14 = .ok (.if_icmp .ne 7, 3) := by decide +kernel
theorem dFi_jumpsAlways_17 : decode cFi_jumpsAlways 17 = .ok (.iconst 1, 1) := by decide +kernel
theorem dFi_jumpsAlways_18 : decode cFi_jumpsAlways 18 = .ok (.goto 4, 3) := by decide +kernel
theorem dFi_jumpsAlways_21 : decode cFi_jumpsAlways 21 = .ok (.iconst 0, 1) := by decide +kernel
theorem dFi_jumpsAlways_22 : decode cFi_jumpsAlways 22 = .ok (.ireturn, 1) := by decide +kernel
theorem dFi_jumpsPerhaps_0 : decode cFi_jumpsPerhaps 0 = .ok (.lload_n 0, 1) := by decide +kernel
theorem dFi_jumpsPerhaps_1 : decode cFi_jumpsPerhaps 1 = .ok (.invokestatic 15, 3) := by decide +kernel
theorem dFi_jumpsPerhaps_4 : decode cFi_jumpsPerhaps 4 = .ok (.istore_n 2, 1) := by decide +kernel
theorem dFi_jumpsPerhaps_5 : decode cFi_jumpsPerhaps 5 = .ok (.lload_n 0, 1) := by decide +kernel
theorem dFi_jumpsPerhaps_6 : decode cFi_jumpsPerhaps 6 = .ok (.invokestatic 18, 3) := by decide +kernel
theorem dFi_jumpsPerhaps_9 : decode cFi_jumpsPerhaps 9 = .ok (.iconst 5, 1) := by decide +kernel
theorem dFi_jumpsPerhaps_10 : decode cFi_jumpsPerhaps 10 = .ok (.if_icmp .eq 12, 3) := by decide +kernel
theorem dFi_jumpsPerhaps_13 : decode cFi_jumpsPerhaps 13 = .ok (.lload_n 0, 1) := by decide +kernel
theorem dFi_jumpsPerhaps_14 : decode cFi_jumpsPerhaps 14 = .ok (.invokestatic 18, 3) := by decide +kernel
theorem dFi_jumpsPerhaps_17 : decode cFi_jumpsPerhaps 17 = .ok (.bipush 6, 2) := by decide +kernel
theorem dFi_jumpsPerhaps_19 : decode cFi_jumpsPerhaps 19 = .ok (.if_icmp .ne 7, 3) := by decide +kernel
theorem dFi_jumpsPerhaps_22 : decode cFi_jumpsPerhaps 22 = .ok (.iconst 1, 1) := by decide +kernel
theorem dFi_jumpsPerhaps_23 : decode cFi_jumpsPerhaps 23 = .ok (.goto 4, 3) := by decide +kernel
theorem dFi_jumpsPerhaps_26 : decode cFi_jumpsPerhaps 26 = .ok (.iconst 0, 1) := by decide +kernel
theorem dFi_jumpsPerhaps_27 : decode cFi_jumpsPerhaps 27 = .ok (.istore_n 3, 1) := by decide +kernel
theorem dFi_jumpsPerhaps_28 : decode cFi_jumpsPerhaps 28 = .ok (.iload_n 3, 1) := by decide +kernel
theorem dFi_jumpsPerhaps_29 : decode cFi_jumpsPerhaps 29 = .ok (.ifCond .eq 30, 3) := by decide +kernel
theorem dFi_jumpsPerhaps_32 : decode cFi_jumpsPerhaps 32 = .ok (.iload_n 2, 1) := by decide +kernel
theorem dFi_jumpsPerhaps_33 : decode cFi_jumpsPerhaps 33 = .ok (.iconst 1, 1) := by decide +kernel
theorem dFi_jumpsPerhaps_34 : decode cFi_jumpsPerhaps 34 = .ok (.if_icmp .lt 9, 3) := by decide +kernel
theorem dFi_jumpsPerhaps_37 : decode cFi_jumpsPerhaps 37 = .ok (.iload_n 2, 1) := by decide +kernel
theorem dFi_jumpsPerhaps_38 : decode cFi_jumpsPerhaps 38 = .ok (.bipush 7, 2) := by decide +kernel
theorem dFi_jumpsPerhaps_40 : decode cFi_jumpsPerhaps 40 = .ok (.if_icmp .le 15, 3) := by decide +kernel
theorem dFi_jumpsPerhaps_43 : decode cFi_jumpsPerhaps 43 = .ok (.iload_n 2, 1) := by decide +kernel
theorem dFi_jumpsPerhaps_44 : decode cFi_jumpsPerhaps 44 = .ok (.bipush 10, 2) := by decide +kernel
theorem dFi_jumpsPerhaps_46 : decode cFi_jumpsPerhaps 46 = .ok (.if_icmp .lt 13, 3) := by decide +kernel
theorem dFi_jumpsPerhaps_49 : decode cFi_jumpsPerhaps 49 = .ok (.iload_n 2, 1) := by decide +kernel
theorem dFi_jumpsPerhaps_50 : decode cFi_jumpsPerhaps 50 = .ok (.bipush 13, 2) := by decide +kernel
theorem dFi_jumpsPerhaps_52 : decode cFi_jumpsPerhaps 52 = .ok (.if_icmp .gt 7, 3) := by decide +kernel
theorem dFi_jumpsPerhaps_55 : decode cFi_jumpsPerhaps 55 = .ok (.iconst 1, 1) := by decide +kernel
theorem dFi_jumpsPerhaps_56 : decode cFi_jumpsPerhaps 56 = .ok (.goto 4, 3) := by decide +kernel
theorem dFi_jumpsPerhaps_59 : decode cFi_jumpsPerhaps 59 = .ok (.iconst 0, 1) := by decide +kernel
theorem dFi_jumpsPerhaps_60 : decode cFi_jumpsPerhaps 60 = .ok (.ireturn, 1) := by decide +kernel
theorem dFi_jumpFrom_0 : decode cFi_jumpFrom 0 = .ok (.iload_n 0, 1) := by decide +kernel
theorem dFi_jumpFrom_1 : decode cFi_jumpFrom 1 = .ok (.i2l, 1) := by decide +kernel
theorem dFi_jumpFrom_2 : decode cFi_jumpFrom 2 = .ok (.lconst 1, 1) := by decide +kernel
theorem dFi_jumpFrom_3 : decode cFi_jumpFrom 3 = .ok (.ladd, 1) := by decide +kernel
theorem dFi_jumpFrom_4 : decode cFi_jumpFrom 4 = .ok (.lload_n 1, 1) := by decide +kernel
theorem dFi_jumpFrom_5 : decode cFi_jumpFrom 5 = .ok (.invokestatic 9, 3) := by decide +kernel
theorem dFi_jumpFrom_8 : decode cFi_jumpFrom 8 = .ok (.bipush 6, 2) := by decide +kernel
theorem dFi_jumpFrom_10 : decode cFi_jumpFrom 10 = .ok (.if_icmp .ne 10, 3) := by decide +kernel
theorem dFi_jumpFrom_13 : decode cFi_jumpFrom 13 = .ok (.lload_n 1, 1) := by decide +kernel
theorem dFi_jumpFrom_14 : decode cFi_jumpFrom 14 = .ok (.invokestatic 21, 3) := by decide +kernel
theorem dFi_jumpFrom_17 : decode cFi_jumpFrom 17 = .ok (.goto 7, 3) := by decide +kernel
theorem dFi_jumpFrom_20 : decode cFi_jumpFrom 20 = .ok (.lload_n 1, 1) := by decide +kernel
theorem dFi_jumpFrom_21 : decode cFi_jumpFrom 21 = .ok (.invokestatic 24, 3) := by decide +kernel
theorem dFi_jumpFrom_24 : decode cFi_jumpFrom 24 = .ok (.i2l, 1) := by decide +kernel
theorem dFi_jumpFrom_25 : decode cFi_jumpFrom 25 = .ok (.ladd, 1) := by decide +kernel
theorem dFi_jumpFrom_26 : decode cFi_jumpFrom 26 = .ok (.lreturn, 1) := by decide +kernel
end
section
theorem dFo_firstWrongForItself_0 : decode cFo_firstWrongForItself 0 = .ok (.iconst 0, 1) := by decide +kernel
theorem dFo_firstWrongForItself_1 : decode cFo_firstWrongForItself 1 = .ok (.istore_n 2, 1) := by decide +kernel
theorem dFo_firstWrongForItself_2 : decode cFo_firstWrongForItself 2 = .ok (.iload_n 2, 1) := by decide +kernel
theorem dFo_firstWrongForItself_3 : decode cFo_firstWrongForItself 3 = .ok (.aload_n 0, 1) := by decide +kernel
theorem dFo_firstWrongForItself_4 : decode cFo_firstWrongForItself 4 = .ok (.getfield 9, 3) := by decide +kernel
theorem dFo_firstWrongForItself_7 : decode cFo_firstWrongForItself 7 = .ok (.if_icmp .ge 61, 3) := by decide +kernel
theorem dFo_firstWrongForItself_10 : decode cFo_firstWrongForItself 10 = .ok (.aload_n 0, 1) := by decide +kernel
theorem dFo_firstWrongForItself_11 : decode cFo_firstWrongForItself 11 = .ok (.iload_n 2, 1) := by decide +kernel
theorem dFo_firstWrongForItself_12 : decode cFo_firstWrongForItself 12 = .ok (.invokevirtual 15, 3) := by decide +kernel
theorem dFo_firstWrongForItself_15 : decode cFo_firstWrongForItself 15 = .ok (.lstore_n 3, 1) := by decide +kernel
theorem dFo_firstWrongForItself_16 : decode cFo_firstWrongForItself 16 = .ok (.lload_n 3, 1) := by decide +kernel
theorem dFo_firstWrongForItself_17 : decode cFo_firstWrongForItself 17 = .ok (.invokestatic 19, 3) := by decide +kernel
theorem dFo_firstWrongForItself_20 : decode cFo_firstWrongForItself 20 = .ok (.ifCond .ne 5, 3) := by decide +kernel
theorem dFo_firstWrongForItself_23 : decode cFo_firstWrongForItself 23 = .ok (.iload_n 2, 1) := by decide +kernel
theorem dFo_firstWrongForItself_24 : decode cFo_firstWrongForItself 24 = .ok (.ireturn, 1) := by decide +kernel
theorem dFo_firstWrongForItself_25 : decode cFo_firstWrongForItself 25 = .ok (.lload_n 3, 1) := by decide +kernel
theorem dFo_firstWrongForItself_26 : decode cFo_firstWrongForItself 26 = .ok (.invokestatic 25, 3) := by decide +kernel
theorem dFo_firstWrongForItself_29 : decode cFo_firstWrongForItself 29 = .ok (.ifCond .eq 33, 3) := by decide +kernel
theorem dFo_firstWrongForItself_32 : decode cFo_firstWrongForItself 32 = .ok (.aload_n 0, 1) := by decide +kernel
theorem dFo_firstWrongForItself_33 : decode cFo_firstWrongForItself 33 = .ok (.iload_n 2, 1) := by decide +kernel
theorem dFo_firstWrongForItself_34 : decode cFo_firstWrongForItself 34 = .ok (.iconst 1, 1) := by decide +kernel
theorem dFo_firstWrongForItself_35 : decode cFo_firstWrongForItself 35 = .ok (.iadd, 1) := by decide +kernel
theorem dFo_firstWrongForItself_36 : decode cFo_firstWrongForItself 36 = .ok (.i2l, 1) := by decide +kernel
theorem dFo_firstWrongForItself_37 : decode cFo_firstWrongForItself 37 = .ok (.invokevirtual 30, 3) := by decide +kernel
theorem dFo_firstWrongForItself_40 : decode cFo_firstWrongForItself 40 = .ok (.ifCond .eq 17, 3) := by decide +kernel
theorem dFo_firstWrongForItself_43 : decode cFo_firstWrongForItself 43 = .ok (.lload_n 3, 1) := by decide +kernel
theorem dFo_firstWrongForItself_44 : decode cFo_firstWrongForItself 44 = .ok (.aload_n 0, 1) := by decide +kernel
theorem dFo_firstWrongForItself_45 : decode cFo_firstWrongForItself 45 = .ok (.iload_n 2, 1) := by decide +kernel
theorem dFo_firstWrongForItself_46 : decode cFo_firstWrongForItself 46 = .ok (.iconst 1, 1) := by decide +kernel
theorem dFo_firstWrongForItself_47 : decode cFo_firstWrongForItself 47 = .ok (.iadd, 1) := by decide +kernel
theorem dFo_firstWrongForItself_48 : decode cFo_firstWrongForItself 48 = .ok (.invokevirtual 15, 3) := by decide +kernel
theorem dFo_firstWrongForItself_51 : decode cFo_firstWrongForItself 51 = .ok (.invokestatic 33, 3) := by decide +kernel
theorem dFo_firstWrongForItself_54 : decode cFo_firstWrongForItself 54 = .ok (.ifCond .ne 5, 3) := by decide +kernel
theorem dFo_firstWrongForItself_57 : decode cFo_firstWrongForItself 57 = .ok (.iload_n 2, 1) := by decide +kernel
theorem dFo_firstWrongForItself_58 : decode cFo_firstWrongForItself 58 = .ok (.ireturn, 1) := by decide +kernel
theorem dFo_firstWrongForItself_59 : decode cFo_firstWrongForItself 59 = .ok (.iinc 2 1, 3) := by decide +kernel
theorem dFo_firstWrongForItself_62 : decode cFo_firstWrongForItself 62 = .ok (.iinc 2 1, 3) := by decide +kernel
theorem dFo_firstWrongForItself_65 : decode cFo_firstWrongForItself 65 = .ok (.goto (-63), 3) := by decide +kernel
theorem dFo_firstWrongForItself_68 : decode cFo_firstWrongForItself 68 = .ok (.iload_n 1, 1) := by decide +kernel
theorem dFo_firstWrongForItself_69 : decode cFo_firstWrongForItself 69 = .ok (.ifCond .ne 10, 3) := by decide +kernel
theorem dFo_firstWrongForItself_72 : decode cFo_firstWrongForItself 72 = .ok (.aload_n 0, 1) := by decide +kernel
theorem dFo_firstWrongForItself_73 : decode cFo_firstWrongForItself 73 = .ok (.getfield 9, 3) := by decide +kernel
theorem dFo_firstWrongForItself_76 : decode cFo_firstWrongForItself 76 = .ok (.ifCond .ne 10, 3) := by decide +kernel
theorem dFo_firstWrongForItself_79 : decode cFo_firstWrongForItself 79 = .ok (.aload_n 0, 1) := by decide +kernel
theorem dFo_firstWrongForItself_80 : decode cFo_firstWrongForItself 80 = .ok (.getfield 9, 3) := by decide +kernel
theorem dFo_firstWrongForItself_83 : decode cFo_firstWrongForItself 83 = .ok (.goto 4, 3) := by decide +kernel
theorem dFo_firstWrongForItself_86 : decode cFo_firstWrongForItself 86 = .ok (.iconst (-1), 1) := by decide +kernel
theorem dFo_firstWrongForItself_87 : decode cFo_firstWrongForItself 87 = .ok (.ireturn, 1) := by decide +kernel
theorem dFo_firstGoingWrong_0 : decode cFo_firstGoingWrong 0 = .ok (.iconst 0, 1) := by decide +kernel
theorem dFo_firstGoingWrong_1 : decode cFo_firstGoingWrong 1 = .ok (.istore_n 1, 1) := by decide +kernel
theorem dFo_firstGoingWrong_2 : decode cFo_firstGoingWrong 2 = .ok (.iload_n 1, 1) := by decide +kernel
theorem dFo_firstGoingWrong_3 : decode cFo_firstGoingWrong 3 = .ok (.aload_n 0, 1) := by decide +kernel
theorem dFo_firstGoingWrong_4 : decode cFo_firstGoingWrong 4 = .ok (.getfield 9, 3) := by decide +kernel
theorem dFo_firstGoingWrong_7 : decode cFo_firstGoingWrong 7 = .ok (.if_icmp .ge 36, 3) := by decide +kernel
theorem dFo_firstGoingWrong_10 : decode cFo_firstGoingWrong 10 = .ok (.aload_n 0, 1) := by decide +kernel
theorem dFo_firstGoingWrong_11 : decode cFo_firstGoingWrong 11 = .ok (.iload_n 1, 1) := by decide +kernel
theorem dFo_firstGoingWrong_12 : decode cFo_firstGoingWrong 12 = .ok (.invokevirtual 15, 3) := by decide +kernel
theorem dFo_firstGoingWrong_15 : decode cFo_firstGoingWrong 15 = .ok (.lstore_n 2, 1) := by decide +kernel
theorem dFo_firstGoingWrong_16 : decode cFo_firstGoingWrong 16 = .ok (.aload_n 0, 1) := by decide +kernel
theorem dFo_firstGoingWrong_17 : decode cFo_firstGoingWrong 17 = .ok (.iload_n 1, 1) := by decide +kernel
theorem dFo_firstGoingWrong_18 : decode cFo_firstGoingWrong 18 = .ok (.lload_n 2, 1) := by decide +kernel
theorem dFo_firstGoingWrong_19 : decode cFo_firstGoingWrong 19 = .ok (.invokestatic 37, 3) := by decide +kernel
theorem dFo_firstGoingWrong_22 : decode cFo_firstGoingWrong 22 = .ok (.ifCond .ne 5, 3) := by decide +kernel
theorem dFo_firstGoingWrong_25 : decode cFo_firstGoingWrong 25 = .ok (.iload_n 1, 1) := by decide +kernel
theorem dFo_firstGoingWrong_26 : decode cFo_firstGoingWrong 26 = .ok (.ireturn, 1) := by decide +kernel
theorem dFo_firstGoingWrong_27 : decode cFo_firstGoingWrong 27 = .ok (.lload_n 2, 1) := by decide +kernel
theorem dFo_firstGoingWrong_28 : decode cFo_firstGoingWrong 28 = .ok (.invokestatic 25, 3) := by decide +kernel
theorem dFo_firstGoingWrong_31 : decode cFo_firstGoingWrong 31 = .ok (.ifCond .eq 6, 3) := by decide +kernel
theorem dFo_firstGoingWrong_34 : decode cFo_firstGoingWrong 34 = .ok (.iinc 1 1, 3) := by decide +kernel
theorem dFo_firstGoingWrong_37 : decode cFo_firstGoingWrong 37 = .ok (.iinc 1 1, 3) := by decide +kernel
theorem dFo_firstGoingWrong_40 : decode cFo_firstGoingWrong 40 = .ok (.goto (-38), 3) := by decide +kernel
theorem dFo_firstGoingWrong_43 : decode cFo_firstGoingWrong 43 = .ok (.iconst (-1), 1) := by decide +kernel
theorem dFo_firstGoingWrong_44 : decode cFo_firstGoingWrong 44 = .ok (.ireturn, 1) := by decide +kernel
theorem dFo_goesOnRightly_0 : decode cFo_goesOnRightly 0 = .ok (.lload_n 2, 1) := by decide +kernel
theorem dFo_goesOnRightly_1 : decode cFo_goesOnRightly 1 = .ok (.invokestatic 41, 3) := by decide +kernel
theorem dFo_goesOnRightly_4 : decode cFo_goesOnRightly 4 = .ok (.ifCond .eq 5, 3) := by decide +kernel
theorem dFo_goesOnRightly_7 : decode cFo_goesOnRightly 7 = .ok (.iconst 1, 1) := by decide +kernel
theorem dFo_goesOnRightly_8 : decode cFo_goesOnRightly 8 = .ok (.ireturn, 1) := by decide +kernel
theorem dFo_goesOnRightly_9 : decode cFo_goesOnRightly 9 = .ok (.lload_n 2, 1) := by decide +kernel
theorem dFo_goesOnRightly_10 : decode cFo_goesOnRightly 10 = .ok (.invokestatic 44, 3) := by decide +kernel
theorem dFo_goesOnRightly_13 : decode cFo_goesOnRightly 13 = .ok (.ifCond .eq 13, 3) := by decide +kernel
theorem dFo_goesOnRightly_16 : decode cFo_goesOnRightly 16 = .ok (.aload_n 0, 1) := by decide +kernel
theorem dFo_goesOnRightly_17 : decode cFo_goesOnRightly 17 = .ok (.iload_n 1, 1) := by decide +kernel
theorem dFo_goesOnRightly_18 : decode cFo_goesOnRightly 18 = .ok (.lload_n 2, 1) := by decide +kernel
theorem dFo_goesOnRightly_19 : decode cFo_goesOnRightly 19 = .ok (.invokestatic 47, 3) := by decide +kernel
theorem dFo_goesOnRightly_22 : decode cFo_goesOnRightly 22 = .ok (.invokestatic 51, 3) := by decide +kernel
theorem dFo_goesOnRightly_25 : decode cFo_goesOnRightly 25 = .ok (.ireturn, 1) := by decide +kernel
theorem dFo_goesOnRightly_26 : decode cFo_goesOnRightly 26 = .ok (.lload_n 2, 1) := by decide +kernel
theorem dFo_goesOnRightly_27 : decode cFo_goesOnRightly 27 = .ok (.invokestatic 55, 3) := by decide +kernel
theorem dFo_goesOnRightly_30 : decode cFo_goesOnRightly 30 = .ok (.ifCond .eq 17, 3) := by decide +kernel
theorem dFo_goesOnRightly_33 : decode cFo_goesOnRightly 33 = .ok (.aload_n 0, 1) := by decide +kernel
theorem dFo_goesOnRightly_34 : decode cFo_goesOnRightly 34 = .ok (.iload_n 1, 1) := by decide +kernel
theorem dFo_goesOnRightly_35 : decode cFo_goesOnRightly 35 = .ok (.lload_n 2, 1) := by decide +kernel
theorem dFo_goesOnRightly_36 : decode cFo_goesOnRightly 36 = .ok (.invokestatic 47, 3) := by decide +kernel
theorem dFo_goesOnRightly_39 : decode cFo_goesOnRightly 39 = .ok (.invokestatic 51, 3) := by decide +kernel
theorem dFo_goesOnRightly_42 : decode cFo_goesOnRightly 42 = .ok (.ifCond .ne 5, 3) := by decide +kernel
theorem dFo_goesOnRightly_45 : decode cFo_goesOnRightly 45 = .ok (.iconst 0, 1) := by decide +kernel
theorem dFo_goesOnRightly_46 : decode cFo_goesOnRightly 46 = .ok (.ireturn, 1) := by decide +kernel
theorem dFo_goesOnRightly_47 : decode cFo_goesOnRightly 47 = .ok (.aload_n 0, 1) := by decide +kernel
theorem dFo_goesOnRightly_48 : decode cFo_goesOnRightly 48 = .ok (.iload_n 1, 1) := by decide +kernel
theorem dFo_goesOnRightly_49 : decode cFo_goesOnRightly 49 = .ok (.lload_n 2, 1) := by decide +kernel
theorem dFo_goesOnRightly_50 : decode cFo_goesOnRightly 50 = .ok (.invokestatic 25, 3) := by decide +kernel
theorem dFo_goesOnRightly_53 : decode cFo_goesOnRightly 53 = .ok (.ifCond .eq 7, 3) := by decide +kernel
theorem dFo_goesOnRightly_56 : decode cFo_goesOnRightly 56 = .ok (.iconst 2, 1) := by decide +kernel
theorem dFo_goesOnRightly_57 : decode cFo_goesOnRightly 57 = .ok (.goto 4, 3) := by decide +kernel
theorem dFo_goesOnRightly_60 : decode cFo_goesOnRightly 60 = .ok (.iconst 1, 1) := by decide +kernel
theorem dFo_goesOnRightly_61 : decode cFo_goesOnRightly 61 = .ok (.iadd, 1) := by decide +kernel
theorem dFo_goesOnRightly_62 : decode cFo_goesOnRightly 62 = .ok (.i2l, 1) := by decide +kernel
theorem dFo_goesOnRightly_63 : decode cFo_goesOnRightly 63 = .ok (.invokestatic 51, 3) := by decide +kernel
theorem dFo_goesOnRightly_66 : decode cFo_goesOnRightly 66 = .ok (.ireturn, 1) := by decide +kernel
theorem dFo_isStart_0 : decode cFo_isStart 0 = .ok (.aload_n 0, 1) := by decide +kernel
theorem dFo_isStart_1 : decode cFo_isStart 1 = .ok (.lload_n 1, 1) := by decide +kernel
theorem dFo_isStart_2 : decode cFo_isStart 2 = .ok (.invokevirtual 30, 3) := by decide +kernel
theorem dFo_isStart_5 : decode cFo_isStart 5 = .ok (.ifCond .eq 19, 3) := by decide +kernel
theorem dFo_isStart_8 : decode cFo_isStart 8 = .ok (.aload_n 0, 1) := by decide +kernel
theorem dFo_isStart_9 : decode cFo_isStart 9 = .ok (.lload_n 1, 1) := by decide +kernel
theorem dFo_isStart_10 : decode cFo_isStart 10 = .ok (.l2i, 1) := by decide +kernel
theorem dFo_isStart_11 : decode cFo_isStart 11 = .ok (.invokevirtual 15, 3) := by decide +kernel
theorem dFo_isStart_14 : decode cFo_isStart 14 = .ok (.invokestatic 58, 3) := by decide +kernel
theorem dFo_isStart_17 : decode cFo_isStart 17 = .ok (.ifCond .eq 7, 3) := by decide +kernel
theorem dFo_isStart_20 : decode cFo_isStart 20 = .ok (.iconst 1, 1) := by decide +kernel
theorem dFo_isStart_21 : decode cFo_isStart 21 = .ok (.goto 4, 3) := by decide +kernel
theorem dFo_isStart_24 : decode cFo_isStart 24 = .ok (.iconst 0, 1) := by decide +kernel
theorem dFo_isStart_25 : decode cFo_isStart 25 = .ok (.ireturn, 1) := by decide +kernel
theorem dFo_isInstruction_0 : decode cFo_isInstruction 0 = .ok (.lload_n 0, 1) := by decide +kernel
theorem dFo_isInstruction_1 : decode cFo_isInstruction 1 = .ok (.invokestatic 62, 3) := by decide +kernel
theorem dFo_isInstruction_4 : decode cFo_isInstruction 4 = .ok (.tableswitch 99 0 6 #[44, 49, 54, 59, 99, 80, 80], 44) := by decide +kernel
theorem dFo_isInstruction_48 : decode cFo_isInstruction 48 = .ok (.lload_n 0, 1) := by decide +kernel
theorem dFo_isInstruction_49 : decode cFo_isInstruction 49 = .ok (.invokestatic 65, 3) := by decide +kernel
theorem dFo_isInstruction_52 : decode cFo_isInstruction 52 = .ok (.ireturn, 1) := by decide +kernel
theorem dFo_isInstruction_53 : decode cFo_isInstruction 53 = .ok (.lload_n 0, 1) := by decide +kernel
theorem dFo_isInstruction_54 : decode cFo_isInstruction 54 = .ok (.invokestatic 68, 3) := by decide +kernel
theorem dFo_isInstruction_57 : decode cFo_isInstruction 57 = .ok (.ireturn, 1) := by decide +kernel
theorem dFo_isInstruction_58 : decode cFo_isInstruction 58 = .ok (.lload_n 0, 1) := by decide +kernel
theorem dFo_isInstruction_59 : decode cFo_isInstruction 59 = .ok (.invokestatic 71, 3) := by decide +kernel
theorem dFo_isInstruction_62 : decode cFo_isInstruction 62 = .ok (.ireturn, 1) := by decide +kernel
theorem dFo_isInstruction_63 : decode cFo_isInstruction 63 = .ok (.lload_n 0, 1) := by decide +kernel
theorem dFo_isInstruction_64 : decode cFo_isInstruction 64 = .ok (.invokestatic 74, 3) := by decide +kernel
theorem dFo_isInstruction_67 : decode cFo_isInstruction 67 = .ok (.bipush 6, 2) := by decide +kernel
theorem dFo_isInstruction_69 : decode cFo_isInstruction 69 = .ok (.if_icmp .ne 10, 3) := by decide +kernel
theorem dFo_isInstruction_72 : decode cFo_isInstruction 72 = .ok (.lload_n 0, 1) := by decide +kernel
theorem dFo_isInstruction_73 : decode cFo_isInstruction 73 = .ok (.invokestatic 77, 3) := by decide +kernel
theorem dFo_isInstruction_76 : decode cFo_isInstruction 76 = .ok (.goto 7, 3) := by decide +kernel
theorem dFo_isInstruction_79 : decode cFo_isInstruction 79 = .ok (.lload_n 0, 1) := by decide +kernel
theorem dFo_isInstruction_80 : decode cFo_isInstruction 80 = .ok (.invokestatic 80, 3) := by decide +kernel
theorem dFo_isInstruction_83 : decode cFo_isInstruction 83 = .ok (.ireturn, 1) := by decide +kernel
theorem dFo_isInstruction_84 : decode cFo_isInstruction 84 = .ok (.lload_n 0, 1) := by decide +kernel
theorem dFo_isInstruction_85 : decode cFo_isInstruction 85 = .ok (.invokestatic 55, 3) := by decide +kernel
theorem dFo_isInstruction_88 : decode cFo_isInstruction 88 = .ok (.ifCond .eq 10, 3) := by decide +kernel
theorem dFo_isInstruction_91 : decode cFo_isInstruction 91 = .ok (.lload_n 0, 1) := by decide +kernel
theorem dFo_isInstruction_92 : decode cFo_isInstruction 92 = .ok (.invokestatic 83, 3) := by decide +kernel
theorem dFo_isInstruction_95 : decode cFo_isInstruction 95 = .ok (.goto 7, 3) := by decide +kernel
theorem dFo_isInstruction_98 : decode cFo_isInstruction 98 = .ok (.lload_n 0, 1) := by decide +kernel
theorem dFo_isInstruction_99 : decode cFo_isInstruction 99 = .ok (.invokestatic 86, 3) := by decide +kernel
theorem dFo_isInstruction_102 : decode cFo_isInstruction 102 = .ok (.ireturn, 1) := by decide +kernel
theorem dFo_isInstruction_103 : decode cFo_isInstruction 103 = .ok (.lload_n 0, 1) := by decide +kernel
theorem dFo_isInstruction_104 : decode cFo_isInstruction 104 = .ok (.invokestatic 89, 3) := by decide +kernel
theorem dFo_isInstruction_107 : decode cFo_isInstruction 107 = .ok (.ireturn, 1) := by decide +kernel
theorem dFo_isFirstOfTwo_0 : decode cFo_isFirstOfTwo 0 = .ok (.lload_n 0, 1) := by decide +kernel
theorem dFo_isFirstOfTwo_1 : decode cFo_isFirstOfTwo 1 = .ok (.invokestatic 92, 3) := by decide +kernel
theorem dFo_isFirstOfTwo_4 : decode cFo_isFirstOfTwo 4 = .ok (.istore_n 2, 1) := by decide +kernel
theorem dFo_isFirstOfTwo_5 : decode cFo_isFirstOfTwo 5 = .ok (.lload_n 0, 1) := by decide +kernel
theorem dFo_isFirstOfTwo_6 : decode cFo_isFirstOfTwo 6 = .ok (.invokestatic 25, 3) := by decide +kernel
theorem dFo_isFirstOfTwo_9 : decode cFo_isFirstOfTwo 9 = .ok (.ifCond .eq 39, 3) := by decide +kernel
theorem dFo_isFirstOfTwo_12 : decode cFo_isFirstOfTwo 12 = .ok (.lload_n 0, 1) := by decide +kernel
theorem dFo_isFirstOfTwo_13 : decode cFo_isFirstOfTwo 13 = .ok (.invokestatic 95, 3) := by decide +kernel
theorem dFo_isFirstOfTwo_16 : decode cFo_isFirstOfTwo 16 = .ok (.bipush 9, 2) := by decide +kernel
theorem dFo_isFirstOfTwo_18 : decode cFo_isFirstOfTwo 18 = .ok (.if_icmp .gt 30, 3) := by decide +kernel
theorem dFo_isFirstOfTwo_21 : decode cFo_isFirstOfTwo 21 = .ok (.lload_n 0, 1) := by decide +kernel
theorem dFo_isFirstOfTwo_22 : decode cFo_isFirstOfTwo 22 = .ok (.invokestatic 98, 3) := by decide +kernel
theorem dFo_isFirstOfTwo_25 : decode cFo_isFirstOfTwo 25 = .ok (.ifCond .ne 23, 3) := by decide +kernel
theorem dFo_isFirstOfTwo_28 : decode cFo_isFirstOfTwo 28 = .ok (.iload_n 2, 1) := by decide +kernel
theorem dFo_isFirstOfTwo_29 : decode cFo_isFirstOfTwo 29 = .ok (.ifCond .eq 15, 3) := by decide +kernel
theorem dFo_isFirstOfTwo_32 : decode cFo_isFirstOfTwo 32 = .ok (.iload_n 2, 1) := by decide +kernel
theorem dFo_isFirstOfTwo_33 : decode cFo_isFirstOfTwo 33 = .ok (.iconst 1, 1) := by decide +kernel
theorem dFo_isFirstOfTwo_34 : decode cFo_isFirstOfTwo 34 = .ok (.if_icmp .ne 14, 3) := by decide +kernel
theorem dFo_isFirstOfTwo_37 : decode cFo_isFirstOfTwo 37 = .ok (.lload_n 0, 1) := by decide +kernel
theorem dFo_isFirstOfTwo_38 : decode cFo_isFirstOfTwo 38 = .ok (.invokestatic 101, 3) := by decide +kernel
theorem dFo_isFirstOfTwo_41 : decode cFo_isFirstOfTwo 41 = .ok (.ifCond .lt 7, 3) := by decide +kernel
theorem dFo_isFirstOfTwo_44 : decode cFo_isFirstOfTwo 44 = .ok (.iconst 1, 1) := by decide +kernel
theorem dFo_isFirstOfTwo_45 : decode cFo_isFirstOfTwo 45 = .ok (.goto 4, 3) := by decide +kernel
theorem dFo_isFirstOfTwo_48 : decode cFo_isFirstOfTwo 48 = .ok (.iconst 0, 1) := by decide +kernel
theorem dFo_isFirstOfTwo_49 : decode cFo_isFirstOfTwo 49 = .ok (.ireturn, 1) := by decide +kernel
theorem dFo_isSecondOf_0 : decode cFo_isSecondOf 0 = .ok (.lload_n 2, 1) := by decide +kernel
theorem dFo_isSecondOf_1 : decode cFo_isSecondOf 1 = .ok (.l2i, 1) := by decide +kernel
theorem dFo_isSecondOf_2 : decode cFo_isSecondOf 2 = .ok (.ifCond .ne 7, 3) := by decide +kernel
theorem dFo_isSecondOf_5 : decode cFo_isSecondOf 5 = .ok (.iconst 1, 1) := by decide +kernel
theorem dFo_isSecondOf_6 : decode cFo_isSecondOf 6 = .ok (.goto 4, 3) := by decide +kernel
theorem dFo_isSecondOf_9 : decode cFo_isSecondOf 9 = .ok (.iconst 0, 1) := by decide +kernel
theorem dFo_isSecondOf_10 : decode cFo_isSecondOf 10 = .ok (.istore 4, 2) := by decide +kernel
theorem dFo_isSecondOf_12 : decode cFo_isSecondOf 12 = .ok (.iload 4, 2) := by decide +kernel
theorem dFo_isSecondOf_14 : decode cFo_isSecondOf 14 = .ok (.ifCond .eq 21, 3) := by decide +kernel
theorem dFo_isSecondOf_17 : decode cFo_isSecondOf 17 = .ok (.lload_n 0, 1) := by decide +kernel
theorem dFo_isSecondOf_18 : decode cFo_isSecondOf 18 = .ok (.invokestatic 92, 3) := by decide +kernel
theorem dFo_isSecondOf_21 : decode cFo_isSecondOf 21 = .ok (.ifCond .eq 10, 3) := by decide +kernel
theorem dFo_isSecondOf_24 : decode cFo_isSecondOf 24 = .ok (.lload_n 2, 1) := by decide +kernel
theorem dFo_isSecondOf_25 : decode cFo_isSecondOf 25 = .ok (.invokestatic 101, 3) := by decide +kernel
theorem dFo_isSecondOf_28 : decode cFo_isSecondOf 28 = .ok (.ifCond .ne 7, 3) := by decide +kernel
theorem dFo_isSecondOf_31 : decode cFo_isSecondOf 31 = .ok (.iconst 1, 1) := by decide +kernel
theorem dFo_isSecondOf_32 : decode cFo_isSecondOf 32 = .ok (.goto 4, 3) := by decide +kernel
theorem dFo_isSecondOf_35 : decode cFo_isSecondOf 35 = .ok (.iconst 0, 1) := by decide +kernel
theorem dFo_isSecondOf_36 : decode cFo_isSecondOf 36 = .ok (.ireturn, 1) := by decide +kernel
theorem dFo_isRead_0 : decode cFo_isRead 0 = .ok (.lload_n 0, 1) := by decide +kernel
theorem dFo_isRead_1 : decode cFo_isRead 1 = .ok (.invokestatic 74, 3) := by decide +kernel
theorem dFo_isRead_4 : decode cFo_isRead 4 = .ok (.istore_n 2, 1) := by decide +kernel
theorem dFo_isRead_5 : decode cFo_isRead 5 = .ok (.iload_n 2, 1) := by decide +kernel
theorem dFo_isRead_6 : decode cFo_isRead 6 = .ok (.iconst 3, 1) := by decide +kernel
theorem dFo_isRead_7 : decode cFo_isRead 7 = .ok (.if_icmp .eq 17, 3) := by decide +kernel
theorem dFo_isRead_10 : decode cFo_isRead 10 = .ok (.iload_n 2, 1) := by decide +kernel
theorem dFo_isRead_11 : decode cFo_isRead 11 = .ok (.iconst 4, 1) := by decide +kernel
theorem dFo_isRead_12 : decode cFo_isRead 12 = .ok (.if_icmp .ne 41, 3) := by decide +kernel
theorem dFo_isRead_15 : decode cFo_isRead 15 = .ok (.lload_n 0, 1) := by decide +kernel
theorem dFo_isRead_16 : decode cFo_isRead 16 = .ok (.invokestatic 104, 3) := by decide +kernel
theorem dFo_isRead_19 : decode cFo_isRead 19 = .ok (.bipush 8, 2) := by decide +kernel
theorem dFo_isRead_21 : decode cFo_isRead 21 = .ok (.if_icmp .ge 32, 3) := by decide +kernel
theorem dFo_isRead_24 : decode cFo_isRead 24 = .ok (.lload_n 0, 1) := by decide +kernel
theorem dFo_isRead_25 : decode cFo_isRead 25 = .ok (.invokestatic 101, 3) := by decide +kernel
theorem dFo_isRead_28 : decode cFo_isRead 28 = .ok (.ifCond .ne 25, 3) := by decide +kernel
theorem dFo_isRead_31 : decode cFo_isRead 31 = .ok (.lload_n 0, 1) := by decide +kernel
theorem dFo_isRead_32 : decode cFo_isRead 32 = .ok (.invokestatic 95, 3) := by decide +kernel
theorem dFo_isRead_35 : decode cFo_isRead 35 = .ok (.bipush 9, 2) := by decide +kernel
theorem dFo_isRead_37 : decode cFo_isRead 37 = .ok (.if_icmp .gt 16, 3) := by decide +kernel
theorem dFo_isRead_40 : decode cFo_isRead 40 = .ok (.lload_n 0, 1) := by decide +kernel
theorem dFo_isRead_41 : decode cFo_isRead 41 = .ok (.invokestatic 92, 3) := by decide +kernel
theorem dFo_isRead_44 : decode cFo_isRead 44 = .ok (.bipush 10, 2) := by decide +kernel
theorem dFo_isRead_46 : decode cFo_isRead 46 = .ok (.if_icmp .gt 7, 3) := by decide +kernel
theorem dFo_isRead_49 : decode cFo_isRead 49 = .ok (.iconst 1, 1) := by decide +kernel
theorem dFo_isRead_50 : decode cFo_isRead 50 = .ok (.goto 4, 3) := by decide +kernel
theorem dFo_isRead_53 : decode cFo_isRead 53 = .ok (.iconst 0, 1) := by decide +kernel
theorem dFo_isRead_54 : decode cFo_isRead 54 = .ok (.ireturn, 1) := by decide +kernel
theorem dFo_isWriteOfNumber_0 : decode cFo_isWriteOfNumber 0 = .ok (.lload_n 0, 1) := by decide +kernel
theorem dFo_isWriteOfNumber_1 : decode cFo_isWriteOfNumber 1 = .ok (.invokestatic 74, 3) := by decide +kernel
theorem dFo_isWriteOfNumber_4 : decode cFo_isWriteOfNumber 4 = .ok (.iconst 3, 1) := by decide +kernel
theorem dFo_isWriteOfNumber_5 : decode cFo_isWriteOfNumber 5 = .ok (.if_icmp .ne 23, 3) := by decide +kernel
theorem dFo_isWriteOfNumber_8 : decode cFo_isWriteOfNumber 8 = .ok (.lload_n 0, 1) := by decide +kernel
theorem dFo_isWriteOfNumber_9 : decode cFo_isWriteOfNumber 9 = .ok (.invokestatic 95, 3) := by decide +kernel
theorem dFo_isWriteOfNumber_12 : decode cFo_isWriteOfNumber 12 = .ok (.bipush 10, 2) := by decide +kernel
theorem dFo_isWriteOfNumber_14 : decode cFo_isWriteOfNumber 14 = .ok (.if_icmp .gt 14, 3) := by decide +kernel
theorem dFo_isWriteOfNumber_17 : decode cFo_isWriteOfNumber 17 = .ok (.lload_n 0, 1) := by decide +kernel
theorem dFo_isWriteOfNumber_18 : decode cFo_isWriteOfNumber 18 = .ok (.invokestatic 92, 3) := by decide +kernel
theorem dFo_isWriteOfNumber_21 : decode cFo_isWriteOfNumber 21 = .ok (.ifCond .ne 7, 3) := by decide +kernel
theorem dFo_isWriteOfNumber_24 : decode cFo_isWriteOfNumber 24 = .ok (.iconst 1, 1) := by decide +kernel
theorem dFo_isWriteOfNumber_25 : decode cFo_isWriteOfNumber 25 = .ok (.goto 4, 3) := by decide +kernel
theorem dFo_isWriteOfNumber_28 : decode cFo_isWriteOfNumber 28 = .ok (.iconst 0, 1) := by decide +kernel
theorem dFo_isWriteOfNumber_29 : decode cFo_isWriteOfNumber 29 = .ok (.ireturn, 1) := by decide +kernel
theorem dFo_isWriteOfRegister_0 : decode cFo_isWriteOfRegister 0 = .ok (.lload_n 0, 1) := by decide +kernel
theorem dFo_isWriteOfRegister_1 : decode cFo_isWriteOfRegister 1 = .ok (.invokestatic 74, 3) := by decide +kernel
theorem dFo_isWriteOfRegister_4 : decode cFo_isWriteOfRegister 4 = .ok (.iconst 3, 1) := by decide +kernel
theorem dFo_isWriteOfRegister_5 : decode cFo_isWriteOfRegister 5 = .ok (.if_icmp .ne 32, 3) := by decide +kernel
theorem dFo_isWriteOfRegister_8 : decode cFo_isWriteOfRegister 8 = .ok (.lload_n 0, 1) := by decide +kernel
theorem dFo_isWriteOfRegister_9 : decode cFo_isWriteOfRegister 9 = .ok (.invokestatic 101, 3) := by decide +kernel
theorem dFo_isWriteOfRegister_12 : decode cFo_isWriteOfRegister 12 = .ok (.ifCond .ne 25, 3) := by decide +kernel
theorem dFo_isWriteOfRegister_15 : decode cFo_isWriteOfRegister 15 = .ok (.lload_n 0, 1) := by decide +kernel
theorem dFo_isWriteOfRegister_16 : decode cFo_isWriteOfRegister 16 = .ok (.invokestatic 95, 3) := by decide +kernel
theorem dFo_isWriteOfRegister_19 : decode cFo_isWriteOfRegister 19 = .ok (.bipush 10, 2) := by decide +kernel
theorem dFo_isWriteOfRegister_21 : decode cFo_isWriteOfRegister 21 = .ok (.if_icmp .gt 16, 3) := by decide +kernel
theorem dFo_isWriteOfRegister_24 : decode cFo_isWriteOfRegister 24 = .ok (.lload_n 0, 1) := by decide +kernel
theorem dFo_isWriteOfRegister_25 : decode cFo_isWriteOfRegister 25 = .ok (.invokestatic 92, 3) := by decide +kernel
theorem dFo_isWriteOfRegister_28 : decode cFo_isWriteOfRegister 28 = .ok (.bipush 10, 2) := by decide +kernel
theorem dFo_isWriteOfRegister_30 : decode cFo_isWriteOfRegister 30 = .ok (.if_icmp .gt 7, 3) := by decide +kernel
theorem dFo_isWriteOfRegister_33 : decode cFo_isWriteOfRegister 33 = .ok (.iconst 1, 1) := by decide +kernel
theorem dFo_isWriteOfRegister_34 : decode cFo_isWriteOfRegister 34 = .ok (.goto 4, 3) := by decide +kernel
theorem dFo_isWriteOfRegister_37 : decode cFo_isWriteOfRegister 37 = .ok (.iconst 0, 1) := by decide +kernel
theorem dFo_isWriteOfRegister_38 : decode cFo_isWriteOfRegister 38 = .ok (.ireturn, 1) := by decide +kernel
theorem dFo_isExchange_0 : decode cFo_isExchange 0 = .ok (.lload_n 0, 1) := by decide +kernel
theorem dFo_isExchange_1 : decode cFo_isExchange 1 = .ok (.invokestatic 104, 3) := by decide +kernel
theorem dFo_isExchange_4 : decode cFo_isExchange 4 = .ok (.iconst 4, 1) := by decide +kernel
theorem dFo_isExchange_5 : decode cFo_isExchange 5 = .ok (.if_icmp .lt 50, 3) := by decide +kernel
theorem dFo_isExchange_8 : decode cFo_isExchange 8 = .ok (.lload_n 0, 1) := by decide +kernel
theorem dFo_isExchange_9 : decode cFo_isExchange 9 = .ok (.invokestatic 101, 3) := by decide +kernel
theorem dFo_isExchange_12 : decode cFo_isExchange 12 = .ok (.invokestatic 107, 3) := by decide +kernel
theorem dFo_isExchange_15 : decode cFo_isExchange 15 = .ok (.ifCond .eq 40, 3) := by decide +kernel
theorem dFo_isExchange_18 : decode cFo_isExchange 18 = .ok (.lload_n 0, 1) := by decide +kernel
theorem dFo_isExchange_19 : decode cFo_isExchange 19 = .ok (.invokestatic 95, 3) := by decide +kernel
theorem dFo_isExchange_22 : decode cFo_isExchange 22 = .ok (.bipush 10, 2) := by decide +kernel
theorem dFo_isExchange_24 : decode cFo_isExchange 24 = .ok (.if_icmp .gt 31, 3) := by decide +kernel
theorem dFo_isExchange_27 : decode cFo_isExchange 27 = .ok (.lload_n 0, 1) := by decide +kernel
theorem dFo_isExchange_28 : decode cFo_isExchange 28 = .ok (.invokestatic 92, 3) := by decide +kernel
theorem dFo_isExchange_31 : decode cFo_isExchange 31 = .ok (.lload_n 0, 1) := by decide +kernel
theorem dFo_isExchange_32 : decode cFo_isExchange 32 = .ok (.invokestatic 101, 3) := by decide +kernel
theorem dFo_isExchange_35 : decode cFo_isExchange 35 = .ok (.invokestatic 113, 3) := by decide +kernel
theorem dFo_isExchange_38 : decode cFo_isExchange 38 = .ok (.ifCond .eq 8, 3) := by decide +kernel
theorem dFo_isExchange_41 : decode cFo_isExchange 41 = .ok (.bipush 9, 2) := by decide +kernel
theorem dFo_isExchange_43 : decode cFo_isExchange 43 = .ok (.goto 5, 3) := by decide +kernel
theorem dFo_isExchange_46 : decode cFo_isExchange 46 = .ok (.bipush 10, 2) := by decide +kernel
theorem dFo_isExchange_48 : decode cFo_isExchange 48 = .ok (.if_icmp .gt 7, 3) := by decide +kernel
theorem dFo_isExchange_51 : decode cFo_isExchange 51 = .ok (.iconst 1, 1) := by decide +kernel
theorem dFo_isExchange_52 : decode cFo_isExchange 52 = .ok (.goto 4, 3) := by decide +kernel
theorem dFo_isExchange_55 : decode cFo_isExchange 55 = .ok (.iconst 0, 1) := by decide +kernel
theorem dFo_isExchange_56 : decode cFo_isExchange 56 = .ok (.ireturn, 1) := by decide +kernel
theorem dFo_isPerhapsJump_0 : decode cFo_isPerhapsJump 0 = .ok (.lload_n 0, 1) := by decide +kernel
theorem dFo_isPerhapsJump_1 : decode cFo_isPerhapsJump 1 = .ok (.invokestatic 95, 3) := by decide +kernel
theorem dFo_isPerhapsJump_4 : decode cFo_isPerhapsJump 4 = .ok (.bipush 10, 2) := by decide +kernel
theorem dFo_isPerhapsJump_6 : decode cFo_isPerhapsJump 6 = .ok (.if_icmp .gt 14, 3) := by decide +kernel
theorem dFo_isPerhapsJump_9 : decode cFo_isPerhapsJump 9 = .ok (.lload_n 0, 1) := by decide +kernel
theorem dFo_isPerhapsJump_10 : decode cFo_isPerhapsJump 10 = .ok (.invokestatic 116, 3) := by decide +kernel
theorem dFo_isPerhapsJump_13 : decode cFo_isPerhapsJump 13 = .ok (.ifCond .eq 7, 3) := by decide +kernel
theorem dFo_isPerhapsJump_16 : decode cFo_isPerhapsJump 16 = .ok (.iconst 1, 1) := by decide +kernel
theorem dFo_isPerhapsJump_17 : decode cFo_isPerhapsJump 17 = .ok (.goto 4, 3) := by decide +kernel
theorem dFo_isPerhapsJump_20 : decode cFo_isPerhapsJump 20 = .ok (.iconst 0, 1) := by decide +kernel
theorem dFo_isPerhapsJump_21 : decode cFo_isPerhapsJump 21 = .ok (.ireturn, 1) := by decide +kernel
theorem dFo_isCallOrExitOrJump_0 : decode cFo_isCallOrExitOrJump 0 = .ok (.lload_n 0, 1) := by decide +kernel
theorem dFo_isCallOrExitOrJump_1 : decode cFo_isCallOrExitOrJump 1 = .ok (.invokestatic 95, 3) := by decide +kernel
theorem dFo_isCallOrExitOrJump_4 : decode cFo_isCallOrExitOrJump 4 = .ok (.ifCond .ne 10, 3) := by decide +kernel
theorem dFo_isCallOrExitOrJump_7 : decode cFo_isCallOrExitOrJump 7 = .ok (.lload_n 0, 1) := by decide +kernel
theorem dFo_isCallOrExitOrJump_8 : decode cFo_isCallOrExitOrJump 8 = .ok (.invokestatic 92, 3) := by decide +kernel
theorem dFo_isCallOrExitOrJump_11 : decode cFo_isCallOrExitOrJump 11 = .ok (.ifCond .eq 5, 3) := by decide +kernel
theorem dFo_isCallOrExitOrJump_14 : decode cFo_isCallOrExitOrJump 14 = .ok (.iconst 0, 1) := by decide +kernel
theorem dFo_isCallOrExitOrJump_15 : decode cFo_isCallOrExitOrJump 15 = .ok (.ireturn, 1) := by decide +kernel
theorem dFo_isCallOrExitOrJump_16 : decode cFo_isCallOrExitOrJump 16 = .ok (.lload_n 0, 1) := by decide +kernel
theorem dFo_isCallOrExitOrJump_17 : decode cFo_isCallOrExitOrJump 17 = .ok (.invokestatic 58, 3) := by decide +kernel
theorem dFo_isCallOrExitOrJump_20 : decode cFo_isCallOrExitOrJump 20 = .ok (.lookupswitch 90 #[(5, 44), (6, 57), (133, 57), (149, 70)], 44) := by decide +kernel
theorem dFo_isCallOrExitOrJump_64 : decode cFo_isCallOrExitOrJump 64 = .ok (.lload_n 0, 1) := by decide +kernel
theorem dFo_isCallOrExitOrJump_65 : decode cFo_isCallOrExitOrJump 65 = .ok (.invokestatic 101, 3) := by decide +kernel
theorem dFo_isCallOrExitOrJump_68 : decode cFo_isCallOrExitOrJump 68 = .ok (.ifCond .ne 7, 3) := by decide +kernel
theorem dFo_isCallOrExitOrJump_71 : decode cFo_isCallOrExitOrJump 71 = .ok (.iconst 1, 1) := by decide +kernel
theorem dFo_isCallOrExitOrJump_72 : decode cFo_isCallOrExitOrJump 72 = .ok (.goto 4, 3) := by decide +kernel
theorem dFo_isCallOrExitOrJump_75 : decode cFo_isCallOrExitOrJump 75 = .ok (.iconst 0, 1) := by decide +kernel
theorem dFo_isCallOrExitOrJump_76 : decode cFo_isCallOrExitOrJump 76 = .ok (.ireturn, 1) := by decide +kernel
theorem dFo_isCallOrExitOrJump_77 : decode cFo_isCallOrExitOrJump 77 = .ok (.lload_n 0, 1) := by decide +kernel
theorem dFo_isCallOrExitOrJump_78 : decode cFo_isCallOrExitOrJump 78 = .ok (.invokestatic 98, 3) := by decide +kernel
theorem dFo_isCallOrExitOrJump_81 : decode cFo_isCallOrExitOrJump 81 = .ok (.ifCond .ne 7, 3) := by decide +kernel
theorem dFo_isCallOrExitOrJump_84 : decode cFo_isCallOrExitOrJump 84 = .ok (.iconst 1, 1) := by decide +kernel
theorem dFo_isCallOrExitOrJump_85 : decode cFo_isCallOrExitOrJump 85 = .ok (.goto 4, 3) := by decide +kernel
theorem dFo_isCallOrExitOrJump_88 : decode cFo_isCallOrExitOrJump 88 = .ok (.iconst 0, 1) := by decide +kernel
theorem dFo_isCallOrExitOrJump_89 : decode cFo_isCallOrExitOrJump 89 = .ok (.ireturn, 1) := by decide +kernel
theorem dFo_isCallOrExitOrJump_90 : decode cFo_isCallOrExitOrJump 90 = .ok (.lload_n 0, 1) := by decide +kernel
theorem dFo_isCallOrExitOrJump_91 : decode cFo_isCallOrExitOrJump 91 = .ok (.invokestatic 98, 3) := by decide +kernel
theorem dFo_isCallOrExitOrJump_94 : decode cFo_isCallOrExitOrJump 94 = .ok (.ifCond .ne 14, 3) := by decide +kernel
theorem dFo_isCallOrExitOrJump_97 : decode cFo_isCallOrExitOrJump 97 = .ok (.lload_n 0, 1) := by decide +kernel
theorem dFo_isCallOrExitOrJump_98 : decode cFo_isCallOrExitOrJump 98 = .ok (.invokestatic 101, 3) := by decide +kernel
theorem dFo_isCallOrExitOrJump_101 : decode cFo_isCallOrExitOrJump 101 = .ok (.ifCond .ne 7, 3) := by decide +kernel
theorem dFo_isCallOrExitOrJump_104 : decode cFo_isCallOrExitOrJump 104 = .ok (.iconst 1, 1) := by decide +kernel
theorem dFo_isCallOrExitOrJump_105 : decode cFo_isCallOrExitOrJump 105 = .ok (.goto 4, 3) := by decide +kernel
theorem dFo_isCallOrExitOrJump_108 : decode cFo_isCallOrExitOrJump 108 = .ok (.iconst 0, 1) := by decide +kernel
theorem dFo_isCallOrExitOrJump_109 : decode cFo_isCallOrExitOrJump 109 = .ok (.ireturn, 1) := by decide +kernel
theorem dFo_isCallOrExitOrJump_110 : decode cFo_isCallOrExitOrJump 110 = .ok (.iconst 0, 1) := by decide +kernel
theorem dFo_isCallOrExitOrJump_111 : decode cFo_isCallOrExitOrJump 111 = .ok (.ireturn, 1) := by decide +kernel
theorem dFo_hasOperand_0 : decode cFo_hasOperand 0 = .ok (.lload_n 0, 1) := by decide +kernel
theorem dFo_hasOperand_1 : decode cFo_hasOperand 1 = .ok (.invokestatic 119, 3) := by decide +kernel
theorem dFo_hasOperand_4 : decode cFo_hasOperand 4 = .ok (.ifCond .eq 27, 3) := by decide +kernel
theorem dFo_hasOperand_7 : decode cFo_hasOperand 7 = .ok (.lload_n 0, 1) := by decide +kernel
theorem dFo_hasOperand_8 : decode cFo_hasOperand 8 = .ok (.invokestatic 92, 3) := by decide +kernel
theorem dFo_hasOperand_11 : decode cFo_hasOperand 11 = .ok (.bipush 10, 2) := by decide +kernel
theorem dFo_hasOperand_13 : decode cFo_hasOperand 13 = .ok (.if_icmp .gt 14, 3) := by decide +kernel
theorem dFo_hasOperand_16 : decode cFo_hasOperand 16 = .ok (.lload_n 0, 1) := by decide +kernel
theorem dFo_hasOperand_17 : decode cFo_hasOperand 17 = .ok (.invokestatic 101, 3) := by decide +kernel
theorem dFo_hasOperand_20 : decode cFo_hasOperand 20 = .ok (.ifCond .ne 7, 3) := by decide +kernel
theorem dFo_hasOperand_23 : decode cFo_hasOperand 23 = .ok (.iconst 1, 1) := by decide +kernel
theorem dFo_hasOperand_24 : decode cFo_hasOperand 24 = .ok (.goto 19, 3) := by decide +kernel
theorem dFo_hasOperand_27 : decode cFo_hasOperand 27 = .ok (.iconst 0, 1) := by decide +kernel
theorem dFo_hasOperand_28 : decode cFo_hasOperand 28 = .ok (.goto 15, 3) := by decide +kernel
theorem dFo_hasOperand_31 : decode cFo_hasOperand 31 = .ok (.lload_n 0, 1) := by decide +kernel
theorem dFo_hasOperand_32 : decode cFo_hasOperand 32 = .ok (.invokestatic 92, 3) := by decide +kernel
theorem dFo_hasOperand_35 : decode cFo_hasOperand 35 = .ok (.ifCond .ne 7, 3) := by decide +kernel
theorem dFo_hasOperand_38 : decode cFo_hasOperand 38 = .ok (.iconst 1, 1) := by decide +kernel
theorem dFo_hasOperand_39 : decode cFo_hasOperand 39 = .ok (.goto 4, 3) := by decide +kernel
theorem dFo_hasOperand_42 : decode cFo_hasOperand 42 = .ok (.iconst 0, 1) := by decide +kernel
theorem dFo_hasOperand_43 : decode cFo_hasOperand 43 = .ok (.ireturn, 1) := by decide +kernel
theorem dFo_isArithmetic_0 : decode cFo_isArithmetic 0 = .ok (.lload_n 0, 1) := by decide +kernel
theorem dFo_isArithmetic_1 : decode cFo_isArithmetic 1 = .ok (.invokestatic 95, 3) := by decide +kernel
theorem dFo_isArithmetic_4 : decode cFo_isArithmetic 4 = .ok (.bipush 9, 2) := by decide +kernel
theorem dFo_isArithmetic_6 : decode cFo_isArithmetic 6 = .ok (.if_icmp .le 5, 3) := by decide +kernel
theorem dFo_isArithmetic_9 : decode cFo_isArithmetic 9 = .ok (.iconst 0, 1) := by decide +kernel
theorem dFo_isArithmetic_10 : decode cFo_isArithmetic 10 = .ok (.ireturn, 1) := by decide +kernel
theorem dFo_isArithmetic_11 : decode cFo_isArithmetic 11 = .ok (.lload_n 0, 1) := by decide +kernel
theorem dFo_isArithmetic_12 : decode cFo_isArithmetic 12 = .ok (.invokestatic 122, 3) := by decide +kernel
theorem dFo_isArithmetic_15 : decode cFo_isArithmetic 15 = .ok (.tableswitch 154 3 15 #[65, 154, 154, 154, 154, 93, 65, 154, 127, 154, 147, 152, 152], 65) := by decide +kernel
theorem dFo_isArithmetic_80 : decode cFo_isArithmetic 80 = .ok (.lload_n 0, 1) := by decide +kernel
theorem dFo_isArithmetic_81 : decode cFo_isArithmetic 81 = .ok (.invokestatic 116, 3) := by decide +kernel
theorem dFo_isArithmetic_84 : decode cFo_isArithmetic 84 = .ok (.ifCond .eq 22, 3) := by decide +kernel
theorem dFo_isArithmetic_87 : decode cFo_isArithmetic 87 = .ok (.lload_n 0, 1) := by decide +kernel
theorem dFo_isArithmetic_88 : decode cFo_isArithmetic 88 = .ok (.invokestatic 98, 3) := by decide +kernel
theorem dFo_isArithmetic_91 : decode cFo_isArithmetic 91 = .ok (.ifCond .eq 11, 3) := by decide +kernel
theorem dFo_isArithmetic_94 : decode cFo_isArithmetic 94 = .ok (.lload_n 0, 1) := by decide +kernel
theorem dFo_isArithmetic_95 : decode cFo_isArithmetic 95 = .ok (.invokestatic 98, 3) := by decide +kernel
theorem dFo_isArithmetic_98 : decode cFo_isArithmetic 98 = .ok (.iconst 1, 1) := by decide +kernel
theorem dFo_isArithmetic_99 : decode cFo_isArithmetic 99 = .ok (.if_icmp .ne 7, 3) := by decide +kernel
theorem dFo_isArithmetic_102 : decode cFo_isArithmetic 102 = .ok (.iconst 1, 1) := by decide +kernel
theorem dFo_isArithmetic_103 : decode cFo_isArithmetic 103 = .ok (.goto 4, 3) := by decide +kernel
theorem dFo_isArithmetic_106 : decode cFo_isArithmetic 106 = .ok (.iconst 0, 1) := by decide +kernel
theorem dFo_isArithmetic_107 : decode cFo_isArithmetic 107 = .ok (.ireturn, 1) := by decide +kernel
theorem dFo_isArithmetic_108 : decode cFo_isArithmetic 108 = .ok (.lload_n 0, 1) := by decide +kernel
theorem dFo_isArithmetic_109 : decode cFo_isArithmetic 109 = .ok (.invokestatic 119, 3) := by decide +kernel
theorem dFo_isArithmetic_112 : decode cFo_isArithmetic 112 = .ok (.ifCond .ne 28, 3) := by decide +kernel
theorem dFo_isArithmetic_115 : decode cFo_isArithmetic 115 = .ok (.lload_n 0, 1) := by decide +kernel
theorem dFo_isArithmetic_116 : decode cFo_isArithmetic 116 = .ok (.invokestatic 116, 3) := by decide +kernel
theorem dFo_isArithmetic_119 : decode cFo_isArithmetic 119 = .ok (.ifCond .eq 21, 3) := by decide +kernel
theorem dFo_isArithmetic_122 : decode cFo_isArithmetic 122 = .ok (.lload_n 0, 1) := by decide +kernel
theorem dFo_isArithmetic_123 : decode cFo_isArithmetic 123 = .ok (.invokestatic 101, 3) := by decide +kernel
theorem dFo_isArithmetic_126 : decode cFo_isArithmetic 126 = .ok (.ifCond .ne 14, 3) := by decide +kernel
theorem dFo_isArithmetic_129 : decode cFo_isArithmetic 129 = .ok (.lload_n 0, 1) := by decide +kernel
theorem dFo_isArithmetic_130 : decode cFo_isArithmetic 130 = .ok (.invokestatic 98, 3) := by decide +kernel
theorem dFo_isArithmetic_133 : decode cFo_isArithmetic 133 = .ok (.ifCond .ne 7, 3) := by decide +kernel
theorem dFo_isArithmetic_136 : decode cFo_isArithmetic 136 = .ok (.iconst 1, 1) := by decide +kernel
theorem dFo_isArithmetic_137 : decode cFo_isArithmetic 137 = .ok (.goto 4, 3) := by decide +kernel
theorem dFo_isArithmetic_140 : decode cFo_isArithmetic 140 = .ok (.iconst 0, 1) := by decide +kernel
theorem dFo_isArithmetic_141 : decode cFo_isArithmetic 141 = .ok (.ireturn, 1) := by decide +kernel
theorem dFo_isArithmetic_142 : decode cFo_isArithmetic 142 = .ok (.lload_n 0, 1) := by decide +kernel
theorem dFo_isArithmetic_143 : decode cFo_isArithmetic 143 = .ok (.invokestatic 116, 3) := by decide +kernel
theorem dFo_isArithmetic_146 : decode cFo_isArithmetic 146 = .ok (.ifCond .eq 14, 3) := by decide +kernel
theorem dFo_isArithmetic_149 : decode cFo_isArithmetic 149 = .ok (.lload_n 0, 1) := by decide +kernel
theorem dFo_isArithmetic_150 : decode cFo_isArithmetic 150 = .ok (.invokestatic 125, 3) := by decide +kernel
theorem dFo_isArithmetic_153 : decode cFo_isArithmetic 153 = .ok (.ifCond .eq 7, 3) := by decide +kernel
theorem dFo_isArithmetic_156 : decode cFo_isArithmetic 156 = .ok (.iconst 1, 1) := by decide +kernel
theorem dFo_isArithmetic_157 : decode cFo_isArithmetic 157 = .ok (.goto 4, 3) := by decide +kernel
theorem dFo_isArithmetic_160 : decode cFo_isArithmetic 160 = .ok (.iconst 0, 1) := by decide +kernel
theorem dFo_isArithmetic_161 : decode cFo_isArithmetic 161 = .ok (.ireturn, 1) := by decide +kernel
theorem dFo_isArithmetic_162 : decode cFo_isArithmetic 162 = .ok (.lload_n 0, 1) := by decide +kernel
theorem dFo_isArithmetic_163 : decode cFo_isArithmetic 163 = .ok (.invokestatic 128, 3) := by decide +kernel
theorem dFo_isArithmetic_166 : decode cFo_isArithmetic 166 = .ok (.ireturn, 1) := by decide +kernel
theorem dFo_isArithmetic_167 : decode cFo_isArithmetic 167 = .ok (.iconst 0, 1) := by decide +kernel
theorem dFo_isArithmetic_168 : decode cFo_isArithmetic 168 = .ok (.ireturn, 1) := by decide +kernel
theorem dFo_isArithmetic_169 : decode cFo_isArithmetic 169 = .ok (.lload_n 0, 1) := by decide +kernel
theorem dFo_isArithmetic_170 : decode cFo_isArithmetic 170 = .ok (.invokestatic 116, 3) := by decide +kernel
theorem dFo_isArithmetic_173 : decode cFo_isArithmetic 173 = .ok (.ifCond .eq 14, 3) := by decide +kernel
theorem dFo_isArithmetic_176 : decode cFo_isArithmetic 176 = .ok (.lload_n 0, 1) := by decide +kernel
theorem dFo_isArithmetic_177 : decode cFo_isArithmetic 177 = .ok (.invokestatic 98, 3) := by decide +kernel
theorem dFo_isArithmetic_180 : decode cFo_isArithmetic 180 = .ok (.ifCond .ne 7, 3) := by decide +kernel
theorem dFo_isArithmetic_183 : decode cFo_isArithmetic 183 = .ok (.iconst 1, 1) := by decide +kernel
theorem dFo_isArithmetic_184 : decode cFo_isArithmetic 184 = .ok (.goto 4, 3) := by decide +kernel
theorem dFo_isArithmetic_187 : decode cFo_isArithmetic 187 = .ok (.iconst 0, 1) := by decide +kernel
theorem dFo_isArithmetic_188 : decode cFo_isArithmetic 188 = .ok (.ireturn, 1) := by decide +kernel
theorem dFo_isMoveOffset_0 : decode cFo_isMoveOffset 0 = .ok (.lload_n 0, 1) := by decide +kernel
theorem dFo_isMoveOffset_1 : decode cFo_isMoveOffset 1 = .ok (.invokestatic 98, 3) := by decide +kernel
theorem dFo_isMoveOffset_4 : decode cFo_isMoveOffset 4 = .ok (.lookupswitch 73 #[(0, 44), (8, 46), (16, 46), (32, 51)], 44) := by decide +kernel
theorem dFo_isMoveOffset_48 : decode cFo_isMoveOffset 48 = .ok (.iconst 1, 1) := by decide +kernel
theorem dFo_isMoveOffset_49 : decode cFo_isMoveOffset 49 = .ok (.ireturn, 1) := by decide +kernel
theorem dFo_isMoveOffset_50 : decode cFo_isMoveOffset 50 = .ok (.lload_n 0, 1) := by decide +kernel
theorem dFo_isMoveOffset_51 : decode cFo_isMoveOffset 51 = .ok (.invokestatic 119, 3) := by decide +kernel
theorem dFo_isMoveOffset_54 : decode cFo_isMoveOffset 54 = .ok (.ireturn, 1) := by decide +kernel
theorem dFo_isMoveOffset_55 : decode cFo_isMoveOffset 55 = .ok (.lload_n 0, 1) := by decide +kernel
theorem dFo_isMoveOffset_56 : decode cFo_isMoveOffset 56 = .ok (.invokestatic 119, 3) := by decide +kernel
theorem dFo_isMoveOffset_59 : decode cFo_isMoveOffset 59 = .ok (.ifCond .eq 16, 3) := by decide +kernel
theorem dFo_isMoveOffset_62 : decode cFo_isMoveOffset 62 = .ok (.lload_n 0, 1) := by decide +kernel
theorem dFo_isMoveOffset_63 : decode cFo_isMoveOffset 63 = .ok (.invokestatic 62, 3) := by decide +kernel
theorem dFo_isMoveOffset_66 : decode cFo_isMoveOffset 66 = .ok (.bipush 7, 2) := by decide +kernel
theorem dFo_isMoveOffset_68 : decode cFo_isMoveOffset 68 = .ok (.if_icmp .ne 7, 3) := by decide +kernel
theorem dFo_isMoveOffset_71 : decode cFo_isMoveOffset 71 = .ok (.iconst 1, 1) := by decide +kernel
theorem dFo_isMoveOffset_72 : decode cFo_isMoveOffset 72 = .ok (.goto 4, 3) := by decide +kernel
theorem dFo_isMoveOffset_75 : decode cFo_isMoveOffset 75 = .ok (.iconst 0, 1) := by decide +kernel
theorem dFo_isMoveOffset_76 : decode cFo_isMoveOffset 76 = .ok (.ireturn, 1) := by decide +kernel
theorem dFo_isMoveOffset_77 : decode cFo_isMoveOffset 77 = .ok (.iconst 0, 1) := by decide +kernel
theorem dFo_isMoveOffset_78 : decode cFo_isMoveOffset 78 = .ok (.ireturn, 1) := by decide +kernel
theorem dFo_isTurning_0 : decode cFo_isTurning 0 = .ok (.lload_n 0, 1) := by decide +kernel
theorem dFo_isTurning_1 : decode cFo_isTurning 1 = .ok (.invokestatic 101, 3) := by decide +kernel
theorem dFo_isTurning_4 : decode cFo_isTurning 4 = .ok (.istore_n 2, 1) := by decide +kernel
theorem dFo_isTurning_5 : decode cFo_isTurning 5 = .ok (.lload_n 0, 1) := by decide +kernel
theorem dFo_isTurning_6 : decode cFo_isTurning 6 = .ok (.invokestatic 62, 3) := by decide +kernel
theorem dFo_isTurning_9 : decode cFo_isTurning 9 = .ok (.iconst 4, 1) := by decide +kernel
theorem dFo_isTurning_10 : decode cFo_isTurning 10 = .ok (.if_icmp .eq 10, 3) := by decide +kernel
theorem dFo_isTurning_13 : decode cFo_isTurning 13 = .ok (.lload_n 0, 1) := by decide +kernel
theorem dFo_isTurning_14 : decode cFo_isTurning 14 = .ok (.invokestatic 119, 3) := by decide +kernel
theorem dFo_isTurning_17 : decode cFo_isTurning 17 = .ok (.ifCond .ne 39, 3) := by decide +kernel
theorem dFo_isTurning_20 : decode cFo_isTurning 20 = .ok (.lload_n 0, 1) := by decide +kernel
theorem dFo_isTurning_21 : decode cFo_isTurning 21 = .ok (.invokestatic 92, 3) := by decide +kernel
theorem dFo_isTurning_24 : decode cFo_isTurning 24 = .ok (.ifCond .ne 32, 3) := by decide +kernel
theorem dFo_isTurning_27 : decode cFo_isTurning 27 = .ok (.lload_n 0, 1) := by decide +kernel
theorem dFo_isTurning_28 : decode cFo_isTurning 28 = .ok (.invokestatic 98, 3) := by decide +kernel
theorem dFo_isTurning_31 : decode cFo_isTurning 31 = .ok (.ifCond .ne 25, 3) := by decide +kernel
theorem dFo_isTurning_34 : decode cFo_isTurning 34 = .ok (.iload_n 2, 1) := by decide +kernel
theorem dFo_isTurning_35 : decode cFo_isTurning 35 = .ok (.bipush 16, 2) := by decide +kernel
theorem dFo_isTurning_37 : decode cFo_isTurning 37 = .ok (.if_icmp .eq 15, 3) := by decide +kernel
theorem dFo_isTurning_40 : decode cFo_isTurning 40 = .ok (.iload_n 2, 1) := by decide +kernel
theorem dFo_isTurning_41 : decode cFo_isTurning 41 = .ok (.bipush 32, 2) := by decide +kernel
theorem dFo_isTurning_43 : decode cFo_isTurning 43 = .ok (.if_icmp .eq 9, 3) := by decide +kernel
theorem dFo_isTurning_46 : decode cFo_isTurning 46 = .ok (.iload_n 2, 1) := by decide +kernel
theorem dFo_isTurning_47 : decode cFo_isTurning 47 = .ok (.bipush 64, 2) := by decide +kernel
theorem dFo_isTurning_49 : decode cFo_isTurning 49 = .ok (.if_icmp .ne 7, 3) := by decide +kernel
theorem dFo_isTurning_52 : decode cFo_isTurning 52 = .ok (.iconst 1, 1) := by decide +kernel
theorem dFo_isTurning_53 : decode cFo_isTurning 53 = .ok (.goto 4, 3) := by decide +kernel
theorem dFo_isTurning_56 : decode cFo_isTurning 56 = .ok (.iconst 0, 1) := by decide +kernel
theorem dFo_isTurning_57 : decode cFo_isTurning 57 = .ok (.ireturn, 1) := by decide +kernel
end
section
theorem dJl_reverseBytes_0 : decode cJl_reverseBytes 0 = .ok (.lload_n 0, 1) := by decide +kernel
theorem dJl_reverseBytes_1 : decode cJl_reverseBytes 1 = .ok (.ldc2_w 327, 3) := by decide +kernel
theorem dJl_reverseBytes_4 : decode cJl_reverseBytes 4 = .ok (.land, 1) := by decide +kernel
theorem dJl_reverseBytes_5 : decode cJl_reverseBytes 5 = .ok (.bipush 8, 2) := by decide +kernel
theorem dJl_reverseBytes_7 : decode cJl_reverseBytes 7 = .ok (.lshl, 1) := by decide +kernel
theorem dJl_reverseBytes_8 : decode cJl_reverseBytes 8 = .ok (.lload_n 0, 1) := by decide +kernel
theorem dJl_reverseBytes_9 : decode cJl_reverseBytes 9 = .ok (.bipush 8, 2) := by decide +kernel
theorem dJl_reverseBytes_11 : decode cJl_reverseBytes 11 = .ok (.lushr, 1) := by decide +kernel
theorem dJl_reverseBytes_12 : decode cJl_reverseBytes 12 = .ok (.ldc2_w 327, 3) := by decide +kernel
theorem dJl_reverseBytes_15 : decode cJl_reverseBytes 15 = .ok (.land, 1) := by decide +kernel
theorem dJl_reverseBytes_16 : decode cJl_reverseBytes 16 = .ok (.lor, 1) := by decide +kernel
theorem dJl_reverseBytes_17 : decode cJl_reverseBytes 17 = .ok (.lstore_n 0, 1) := by decide +kernel
theorem dJl_reverseBytes_18 : decode cJl_reverseBytes 18 = .ok (.lload_n 0, 1) := by decide +kernel
theorem dJl_reverseBytes_19 : decode cJl_reverseBytes 19 = .ok (.bipush 48, 2) := by decide +kernel
theorem dJl_reverseBytes_21 : decode cJl_reverseBytes 21 = .ok (.lshl, 1) := by decide +kernel
theorem dJl_reverseBytes_22 : decode cJl_reverseBytes 22 = .ok (.lload_n 0, 1) := by decide +kernel
theorem dJl_reverseBytes_23 : decode cJl_reverseBytes 23 = .ok (.ldc2_w 329, 3) := by decide +kernel
theorem dJl_reverseBytes_26 : decode cJl_reverseBytes 26 = .ok (.land, 1) := by decide +kernel
theorem dJl_reverseBytes_27 : decode cJl_reverseBytes 27 = .ok (.bipush 16, 2) := by decide +kernel
theorem dJl_reverseBytes_29 : decode cJl_reverseBytes 29 = .ok (.lshl, 1) := by decide +kernel
theorem dJl_reverseBytes_30 : decode cJl_reverseBytes 30 = .ok (.lor, 1) := by decide +kernel
theorem dJl_reverseBytes_31 : decode cJl_reverseBytes 31 = .ok (.lload_n 0, 1) := by decide +kernel
theorem dJl_reverseBytes_32 : decode cJl_reverseBytes 32 = .ok (.bipush 16, 2) := by decide +kernel
theorem dJl_reverseBytes_34 : decode cJl_reverseBytes 34 = .ok (.lushr, 1) := by decide +kernel
theorem dJl_reverseBytes_35 : decode cJl_reverseBytes 35 = .ok (.ldc2_w 329, 3) := by decide +kernel
theorem dJl_reverseBytes_38 : decode cJl_reverseBytes 38 = .ok (.land, 1) := by decide +kernel
theorem dJl_reverseBytes_39 : decode cJl_reverseBytes 39 = .ok (.lor, 1) := by decide +kernel
theorem dJl_reverseBytes_40 : decode cJl_reverseBytes 40 = .ok (.lload_n 0, 1) := by decide +kernel
theorem dJl_reverseBytes_41 : decode cJl_reverseBytes 41 = .ok (.bipush 48, 2) := by decide +kernel
theorem dJl_reverseBytes_43 : decode cJl_reverseBytes 43 = .ok (.lushr, 1) := by decide +kernel
theorem dJl_reverseBytes_44 : decode cJl_reverseBytes 44 = .ok (.lor, 1) := by decide +kernel
theorem dJl_reverseBytes_45 : decode cJl_reverseBytes 45 = .ok (.lreturn, 1) := by decide +kernel
end
section
theorem dJm_max_0 : decode cJm_max 0 = .ok (.iload_n 0, 1) := by decide +kernel
theorem dJm_max_1 : decode cJm_max 1 = .ok (.iload_n 1, 1) := by decide +kernel
theorem dJm_max_2 : decode cJm_max 2 = .ok (.if_icmp .lt 7, 3) := by decide +kernel
theorem dJm_max_5 : decode cJm_max 5 = .ok (.iload_n 0, 1) := by decide +kernel
theorem dJm_max_6 : decode cJm_max 6 = .ok (.goto 4, 3) := by decide +kernel
theorem dJm_max_9 : decode cJm_max 9 = .ok (.iload_n 1, 1) := by decide +kernel
theorem dJm_max_10 : decode cJm_max 10 = .ok (.ireturn, 1) := by decide +kernel
theorem dJm_min_0 : decode cJm_min 0 = .ok (.iload_n 0, 1) := by decide +kernel
theorem dJm_min_1 : decode cJm_min 1 = .ok (.iload_n 1, 1) := by decide +kernel
theorem dJm_min_2 : decode cJm_min 2 = .ok (.if_icmp .gt 7, 3) := by decide +kernel
theorem dJm_min_5 : decode cJm_min 5 = .ok (.iload_n 0, 1) := by decide +kernel
theorem dJm_min_6 : decode cJm_min 6 = .ok (.goto 4, 3) := by decide +kernel
theorem dJm_min_9 : decode cJm_min 9 = .ok (.iload_n 1, 1) := by decide +kernel
theorem dJm_min_10 : decode cJm_min 10 = .ok (.ireturn, 1) := by decide +kernel
end
section
theorem dLa_feed_0 : decode cLa_feed 0 = .ok (.aload 6, 2) := by decide +kernel
theorem dLa_feed_2 : decode cLa_feed 2 = .ok (.iconst 0, 1) := by decide +kernel
theorem dLa_feed_3 : decode cLa_feed 3 = .ok (.aload_n 0, 1) := by decide +kernel
theorem dLa_feed_4 : decode cLa_feed 4 = .ok (.iload_n 1, 1) := by decide +kernel
theorem dLa_feed_5 : decode cLa_feed 5 = .ok (.iload_n 2, 1) := by decide +kernel
theorem dLa_feed_6 : decode cLa_feed 6 = .ok (.iload_n 3, 1) := by decide +kernel
theorem dLa_feed_7 : decode cLa_feed 7 = .ok (.iload 4, 2) := by decide +kernel
theorem dLa_feed_9 : decode cLa_feed 9 = .ok (.iload 5, 2) := by decide +kernel
theorem dLa_feed_11 : decode cLa_feed 11 = .ok (.invokevirtual 7, 3) := by decide +kernel
theorem dLa_feed_14 : decode cLa_feed 14 = .ok (.i2l, 1) := by decide +kernel
theorem dLa_feed_15 : decode cLa_feed 15 = .ok (.lastore, 1) := by decide +kernel
theorem dLa_feed_16 : decode cLa_feed 16 = .ok (.goto 7, 3) := by decide +kernel
theorem dLa_feed_19 : decode cLa_feed 19 = .ok (.astore 7, 2) := by decide +kernel
theorem dLa_feed_21 : decode cLa_feed 21 = .ok (.iconst 1, 1) := by decide +kernel
theorem dLa_feed_22 : decode cLa_feed 22 = .ok (.ireturn, 1) := by decide +kernel
theorem dLa_feed_23 : decode cLa_feed 23 = .ok (.iconst 0, 1) := by decide +kernel
theorem dLa_feed_24 : decode cLa_feed 24 = .ok (.ireturn, 1) := by decide +kernel
theorem dLa_end_0 : decode cLa_end 0 = .ok (.aload_n 0, 1) := by decide +kernel
theorem dLa_end_1 : decode cLa_end 1 = .ok (.iload_n 1, 1) := by decide +kernel
theorem dLa_end_2 : decode cLa_end 2 = .ok (.invokevirtual 15, 3) := by decide +kernel
theorem dLa_end_5 : decode cLa_end 5 = .ok (.goto 6, 3) := by decide +kernel
theorem dLa_end_8 : decode cLa_end 8 = .ok (.astore_n 2, 1) := by decide +kernel
theorem dLa_end_9 : decode cLa_end 9 = .ok (.iconst 1, 1) := by decide +kernel
theorem dLa_end_10 : decode cLa_end 10 = .ok (.ireturn, 1) := by decide +kernel
theorem dLa_end_11 : decode cLa_end 11 = .ok (.iconst 0, 1) := by decide +kernel
theorem dLa_end_12 : decode cLa_end 12 = .ok (.ireturn, 1) := by decide +kernel
theorem dLa_set_0 : decode cLa_set 0 = .ok (.aload_n 0, 1) := by decide +kernel
theorem dLa_set_1 : decode cLa_set 1 = .ok (.iload_n 1, 1) := by decide +kernel
theorem dLa_set_2 : decode cLa_set 2 = .ok (.lload_n 2, 1) := by decide +kernel
theorem dLa_set_3 : decode cLa_set 3 = .ok (.invokevirtual 21, 3) := by decide +kernel
theorem dLa_set_6 : decode cLa_set 6 = .ok (.goto 7, 3) := by decide +kernel
theorem dLa_set_9 : decode cLa_set 9 = .ok (.astore 4, 2) := by decide +kernel
theorem dLa_set_11 : decode cLa_set 11 = .ok (.iconst 1, 1) := by decide +kernel
theorem dLa_set_12 : decode cLa_set 12 = .ok (.ireturn, 1) := by decide +kernel
theorem dLa_set_13 : decode cLa_set 13 = .ok (.iconst 0, 1) := by decide +kernel
theorem dLa_set_14 : decode cLa_set 14 = .ok (.ireturn, 1) := by decide +kernel
theorem dLa_get_0 : decode cLa_get 0 = .ok (.aload_n 2, 1) := by decide +kernel
theorem dLa_get_1 : decode cLa_get 1 = .ok (.iconst 0, 1) := by decide +kernel
theorem dLa_get_2 : decode cLa_get 2 = .ok (.aload_n 0, 1) := by decide +kernel
theorem dLa_get_3 : decode cLa_get 3 = .ok (.iload_n 1, 1) := by decide +kernel
theorem dLa_get_4 : decode cLa_get 4 = .ok (.invokevirtual 27, 3) := by decide +kernel
theorem dLa_get_7 : decode cLa_get 7 = .ok (.lastore, 1) := by decide +kernel
theorem dLa_get_8 : decode cLa_get 8 = .ok (.goto 6, 3) := by decide +kernel
theorem dLa_get_11 : decode cLa_get 11 = .ok (.astore_n 3, 1) := by decide +kernel
theorem dLa_get_12 : decode cLa_get 12 = .ok (.iconst 1, 1) := by decide +kernel
theorem dLa_get_13 : decode cLa_get 13 = .ok (.ireturn, 1) := by decide +kernel
theorem dLa_get_14 : decode cLa_get 14 = .ok (.iconst 0, 1) := by decide +kernel
theorem dLa_get_15 : decode cLa_get 15 = .ok (.ireturn, 1) := by decide +kernel
theorem dLa_put_0 : decode cLa_put 0 = .ok (.aload_n 0, 1) := by decide +kernel
theorem dLa_put_1 : decode cLa_put 1 = .ok (.lload_n 1, 1) := by decide +kernel
theorem dLa_put_2 : decode cLa_put 2 = .ok (.lload_n 3, 1) := by decide +kernel
theorem dLa_put_3 : decode cLa_put 3 = .ok (.invokevirtual 31, 3) := by decide +kernel
theorem dLa_put_6 : decode cLa_put 6 = .ok (.goto 7, 3) := by decide +kernel
theorem dLa_put_9 : decode cLa_put 9 = .ok (.astore 5, 2) := by decide +kernel
theorem dLa_put_11 : decode cLa_put 11 = .ok (.iconst 1, 1) := by decide +kernel
theorem dLa_put_12 : decode cLa_put 12 = .ok (.ireturn, 1) := by decide +kernel
theorem dLa_put_13 : decode cLa_put 13 = .ok (.iconst 0, 1) := by decide +kernel
theorem dLa_put_14 : decode cLa_put 14 = .ok (.ireturn, 1) := by decide +kernel
theorem dLa_word_0 : decode cLa_word 0 = .ok (.aload_n 3, 1) := by decide +kernel
theorem dLa_word_1 : decode cLa_word 1 = .ok (.iconst 0, 1) := by decide +kernel
theorem dLa_word_2 : decode cLa_word 2 = .ok (.aload_n 0, 1) := by decide +kernel
theorem dLa_word_3 : decode cLa_word 3 = .ok (.lload_n 1, 1) := by decide +kernel
theorem dLa_word_4 : decode cLa_word 4 = .ok (.invokevirtual 35, 3) := by decide +kernel
theorem dLa_word_7 : decode cLa_word 7 = .ok (.lastore, 1) := by decide +kernel
theorem dLa_word_8 : decode cLa_word 8 = .ok (.goto 7, 3) := by decide +kernel
theorem dLa_word_11 : decode cLa_word 11 = .ok (.astore 4, 2) := by decide +kernel
theorem dLa_word_13 : decode cLa_word 13 = .ok (.iconst 1, 1) := by decide +kernel
theorem dLa_word_14 : decode cLa_word 14 = .ok (.ireturn, 1) := by decide +kernel
theorem dLa_word_15 : decode cLa_word 15 = .ok (.iconst 0, 1) := by decide +kernel
theorem dLa_word_16 : decode cLa_word 16 = .ok (.ireturn, 1) := by decide +kernel
theorem dLa_run_0 : decode cLa_run 0 = .ok (.aload_n 2, 1) := by decide +kernel
theorem dLa_run_1 : decode cLa_run 1 = .ok (.iconst 0, 1) := by decide +kernel
theorem dLa_run_2 : decode cLa_run 2 = .ok (.aload_n 0, 1) := by decide +kernel
theorem dLa_run_3 : decode cLa_run 3 = .ok (.iload_n 1, 1) := by decide +kernel
theorem dLa_run_4 : decode cLa_run 4 = .ok (.invokevirtual 39, 3) := by decide +kernel
theorem dLa_run_7 : decode cLa_run 7 = .ok (.i2l, 1) := by decide +kernel
theorem dLa_run_8 : decode cLa_run 8 = .ok (.lastore, 1) := by decide +kernel
theorem dLa_run_9 : decode cLa_run 9 = .ok (.goto 9, 3) := by decide +kernel
theorem dLa_run_12 : decode cLa_run 12 = .ok (.astore_n 3, 1) := by decide +kernel
theorem dLa_run_13 : decode cLa_run 13 = .ok (.iconst 1, 1) := by decide +kernel
theorem dLa_run_14 : decode cLa_run 14 = .ok (.ireturn, 1) := by decide +kernel
theorem dLa_run_15 : decode cLa_run 15 = .ok (.astore_n 3, 1) := by decide +kernel
theorem dLa_run_16 : decode cLa_run 16 = .ok (.iconst 2, 1) := by decide +kernel
theorem dLa_run_17 : decode cLa_run 17 = .ok (.ireturn, 1) := by decide +kernel
theorem dLa_run_18 : decode cLa_run 18 = .ok (.iconst 0, 1) := by decide +kernel
theorem dLa_run_19 : decode cLa_run 19 = .ok (.ireturn, 1) := by decide +kernel
end
section
theorem dMa_init_0 : decode cMa_init 0 = .ok (.aload_n 0, 1) := by decide +kernel
theorem dMa_init_1 : decode cMa_init 1 = .ok (.invokespecial 1, 3) := by decide +kernel
theorem dMa_init_4 : decode cMa_init 4 = .ok (.aload_n 0, 1) := by decide +kernel
theorem dMa_init_5 : decode cMa_init 5 = .ok (.bipush 16, 2) := by decide +kernel
theorem dMa_init_7 : decode cMa_init 7 = .ok (.newarray .long, 2) := by decide +kernel
theorem dMa_init_9 : decode cMa_init 9 = .ok (.putfield 7, 3) := by decide +kernel
theorem dMa_init_12 : decode cMa_init 12 = .ok (.aload_n 0, 1) := by decide +kernel
theorem dMa_init_13 : decode cMa_init 13 = .ok (.new 13, 3) := by decide +kernel
theorem dMa_init_16 : decode cMa_init 16 = .ok (.dup, 1) := by decide +kernel
theorem dMa_init_17 : decode cMa_init 17 = .ok (.invokespecial 15, 3) := by decide +kernel
theorem dMa_init_20 : decode cMa_init 20 = .ok (.putfield 16, 3) := by decide +kernel
theorem dMa_init_23 : decode cMa_init 23 = .ok (.return_, 1) := by decide +kernel
theorem dMa_follow_0 : decode cMa_follow 0 = .ok (.aload_n 1, 1) := by decide +kernel
theorem dMa_follow_1 : decode cMa_follow 1 = .ok (.iload_n 2, 1) := by decide +kernel
theorem dMa_follow_2 : decode cMa_follow 2 = .ok (.invokevirtual 20, 3) := by decide +kernel
theorem dMa_follow_5 : decode cMa_follow 5 = .ok (.lstore_n 3, 1) := by decide +kernel
theorem dMa_follow_6 : decode cMa_follow 6 = .ok (.lload_n 3, 1) := by decide +kernel
theorem dMa_follow_7 : decode cMa_follow 7 = .ok (.invokestatic 26, 3) := by decide +kernel
theorem dMa_follow_10 : decode cMa_follow 10 = .ok (.tableswitch 146 0 6 #[42, 58, 75, 97, 146, 139, 139], 42) := by decide +kernel
theorem dMa_follow_52 : decode cMa_follow 52 = .ok (.aload_n 0, 1) := by decide +kernel
theorem dMa_follow_53 : decode cMa_follow 53 = .ok (.lload_n 3, 1) := by decide +kernel
theorem dMa_follow_54 : decode cMa_follow 54 = .ok (.aload_n 1, 1) := by decide +kernel
theorem dMa_follow_55 : decode cMa_follow 55 = .ok (.iload_n 2, 1) := by decide +kernel
theorem dMa_follow_56 : decode cMa_follow 56 = .ok (.iconst 1, 1) := by decide +kernel
theorem dMa_follow_57 : decode cMa_follow 57 = .ok (.iadd, 1) := by decide +kernel
theorem dMa_follow_58 : decode cMa_follow 58 = .ok (.invokevirtual 20, 3) := by decide +kernel
theorem dMa_follow_61 : decode cMa_follow 61 = .ok (.invokevirtual 32, 3) := by decide +kernel
theorem dMa_follow_64 : decode cMa_follow 64 = .ok (.iload_n 2, 1) := by decide +kernel
theorem dMa_follow_65 : decode cMa_follow 65 = .ok (.iconst 2, 1) := by decide +kernel
theorem dMa_follow_66 : decode cMa_follow 66 = .ok (.iadd, 1) := by decide +kernel
theorem dMa_follow_67 : decode cMa_follow 67 = .ok (.ireturn, 1) := by decide +kernel
theorem dMa_follow_68 : decode cMa_follow 68 = .ok (.aload_n 0, 1) := by decide +kernel
theorem dMa_follow_69 : decode cMa_follow 69 = .ok (.lload_n 3, 1) := by decide +kernel
theorem dMa_follow_70 : decode cMa_follow 70 = .ok (.invokevirtual 36, 3) := by decide +kernel
theorem dMa_follow_73 : decode cMa_follow 73 = .ok (.ifCond .eq 9, 3) := by decide +kernel
theorem dMa_follow_76 : decode cMa_follow 76 = .ok (.iload_n 2, 1) := by decide +kernel
theorem dMa_follow_77 : decode cMa_follow 77 = .ok (.iconst 1, 1) := by decide +kernel
theorem dMa_follow_78 : decode cMa_follow 78 = .ok (.iadd, 1) := by decide +kernel
theorem dMa_follow_79 : decode cMa_follow 79 = .ok (.goto 5, 3) := by decide +kernel
theorem dMa_follow_82 : decode cMa_follow 82 = .ok (.bipush (-2), 2) := by decide +kernel
theorem dMa_follow_84 : decode cMa_follow 84 = .ok (.ireturn, 1) := by decide +kernel
theorem dMa_follow_85 : decode cMa_follow 85 = .ok (.aload_n 0, 1) := by decide +kernel
theorem dMa_follow_86 : decode cMa_follow 86 = .ok (.lload_n 3, 1) := by decide +kernel
theorem dMa_follow_87 : decode cMa_follow 87 = .ok (.lload_n 3, 1) := by decide +kernel
theorem dMa_follow_88 : decode cMa_follow 88 = .ok (.invokestatic 40, 3) := by decide +kernel
theorem dMa_follow_91 : decode cMa_follow 91 = .ok (.i2l, 1) := by decide +kernel
theorem dMa_follow_92 : decode cMa_follow 92 = .ok (.invokevirtual 43, 3) := by decide +kernel
theorem dMa_follow_95 : decode cMa_follow 95 = .ok (.ifCond .eq 9, 3) := by decide +kernel
theorem dMa_follow_98 : decode cMa_follow 98 = .ok (.iload_n 2, 1) := by decide +kernel
theorem dMa_follow_99 : decode cMa_follow 99 = .ok (.iconst 1, 1) := by decide +kernel
theorem dMa_follow_100 : decode cMa_follow 100 = .ok (.iadd, 1) := by decide +kernel
theorem dMa_follow_101 : decode cMa_follow 101 = .ok (.goto 5, 3) := by decide +kernel
theorem dMa_follow_104 : decode cMa_follow 104 = .ok (.bipush (-2), 2) := by decide +kernel
theorem dMa_follow_106 : decode cMa_follow 106 = .ok (.ireturn, 1) := by decide +kernel
theorem dMa_follow_107 : decode cMa_follow 107 = .ok (.lload_n 3, 1) := by decide +kernel
theorem dMa_follow_108 : decode cMa_follow 108 = .ok (.invokestatic 47, 3) := by decide +kernel
theorem dMa_follow_111 : decode cMa_follow 111 = .ok (.bipush 6, 2) := by decide +kernel
theorem dMa_follow_113 : decode cMa_follow 113 = .ok (.if_icmp .ne 14, 3) := by decide +kernel
theorem dMa_follow_116 : decode cMa_follow 116 = .ok (.aload_n 0, 1) := by decide +kernel
theorem dMa_follow_117 : decode cMa_follow 117 = .ok (.lload_n 3, 1) := by decide +kernel
theorem dMa_follow_118 : decode cMa_follow 118 = .ok (.invokevirtual 50, 3) := by decide +kernel
theorem dMa_follow_121 : decode cMa_follow 121 = .ok (.ifCond .eq 25, 3) := by decide +kernel
theorem dMa_follow_124 : decode cMa_follow 124 = .ok (.goto 16, 3) := by decide +kernel
theorem dMa_follow_127 : decode cMa_follow 127 = .ok (.aload_n 0, 1) := by decide +kernel
theorem dMa_follow_128 : decode cMa_follow 128 = .ok (.lload_n 3, 1) := by decide +kernel
theorem dMa_follow_129 : decode cMa_follow 129 = .ok (.aload_n 0, 1) := by decide +kernel
theorem dMa_follow_130 : decode cMa_follow 130 = .ok (.lload_n 3, 1) := by decide +kernel
theorem dMa_follow_131 : decode cMa_follow 131 = .ok (.invokevirtual 53, 3) := by decide +kernel
theorem dMa_follow_134 : decode cMa_follow 134 = .ok (.invokevirtual 43, 3) := by decide +kernel
theorem dMa_follow_137 : decode cMa_follow 137 = .ok (.ifCond .eq 9, 3) := by decide +kernel
theorem dMa_follow_140 : decode cMa_follow 140 = .ok (.iload_n 2, 1) := by decide +kernel
theorem dMa_follow_141 : decode cMa_follow 141 = .ok (.iconst 1, 1) := by decide +kernel
theorem dMa_follow_142 : decode cMa_follow 142 = .ok (.iadd, 1) := by decide +kernel
theorem dMa_follow_143 : decode cMa_follow 143 = .ok (.goto 5, 3) := by decide +kernel
theorem dMa_follow_146 : decode cMa_follow 146 = .ok (.bipush (-2), 2) := by decide +kernel
theorem dMa_follow_148 : decode cMa_follow 148 = .ok (.ireturn, 1) := by decide +kernel
theorem dMa_follow_149 : decode cMa_follow 149 = .ok (.aload_n 0, 1) := by decide +kernel
theorem dMa_follow_150 : decode cMa_follow 150 = .ok (.iload_n 2, 1) := by decide +kernel
theorem dMa_follow_151 : decode cMa_follow 151 = .ok (.lload_n 3, 1) := by decide +kernel
theorem dMa_follow_152 : decode cMa_follow 152 = .ok (.invokevirtual 57, 3) := by decide +kernel
theorem dMa_follow_155 : decode cMa_follow 155 = .ok (.ireturn, 1) := by decide +kernel
theorem dMa_follow_156 : decode cMa_follow 156 = .ok (.aload_n 0, 1) := by decide +kernel
theorem dMa_follow_157 : decode cMa_follow 157 = .ok (.getfield 7, 3) := by decide +kernel
theorem dMa_follow_160 : decode cMa_follow 160 = .ok (.lload_n 3, 1) := by decide +kernel
theorem dMa_follow_161 : decode cMa_follow 161 = .ok (.invokestatic 61, 3) := by decide +kernel
theorem dMa_follow_164 : decode cMa_follow 164 = .ok (.aload_n 0, 1) := by decide +kernel
theorem dMa_follow_165 : decode cMa_follow 165 = .ok (.lload_n 3, 1) := by decide +kernel
theorem dMa_follow_166 : decode cMa_follow 166 = .ok (.invokevirtual 64, 3) := by decide +kernel
theorem dMa_follow_169 : decode cMa_follow 169 = .ok (.lastore, 1) := by decide +kernel
theorem dMa_follow_170 : decode cMa_follow 170 = .ok (.iload_n 2, 1) := by decide +kernel
theorem dMa_follow_171 : decode cMa_follow 171 = .ok (.iconst 1, 1) := by decide +kernel
theorem dMa_follow_172 : decode cMa_follow 172 = .ok (.iadd, 1) := by decide +kernel
theorem dMa_follow_173 : decode cMa_follow 173 = .ok (.ireturn, 1) := by decide +kernel
theorem dMa_x_0 : decode cMa_x 0 = .ok (.aload_n 0, 1) := by decide +kernel
theorem dMa_x_1 : decode cMa_x 1 = .ok (.getfield 7, 3) := by decide +kernel
theorem dMa_x_4 : decode cMa_x 4 = .ok (.lload_n 1, 1) := by decide +kernel
theorem dMa_x_5 : decode cMa_x 5 = .ok (.invokestatic 61, 3) := by decide +kernel
theorem dMa_x_8 : decode cMa_x 8 = .ok (.laload, 1) := by decide +kernel
theorem dMa_x_9 : decode cMa_x 9 = .ok (.lreturn, 1) := by decide +kernel
theorem dMa_y_0 : decode cMa_y 0 = .ok (.aload_n 0, 1) := by decide +kernel
theorem dMa_y_1 : decode cMa_y 1 = .ok (.getfield 7, 3) := by decide +kernel
theorem dMa_y_4 : decode cMa_y 4 = .ok (.lload_n 1, 1) := by decide +kernel
theorem dMa_y_5 : decode cMa_y 5 = .ok (.invokestatic 67, 3) := by decide +kernel
theorem dMa_y_8 : decode cMa_y 8 = .ok (.laload, 1) := by decide +kernel
theorem dMa_y_9 : decode cMa_y 9 = .ok (.lreturn, 1) := by decide +kernel
theorem dMa_operand_0 : decode cMa_operand 0 = .ok (.lload_n 1, 1) := by decide +kernel
theorem dMa_operand_1 : decode cMa_operand 1 = .ok (.invokestatic 70, 3) := by decide +kernel
theorem dMa_operand_4 : decode cMa_operand 4 = .ok (.ifCond .eq 11, 3) := by decide +kernel
theorem dMa_operand_7 : decode cMa_operand 7 = .ok (.aload_n 0, 1) := by decide +kernel
theorem dMa_operand_8 : decode cMa_operand 8 = .ok (.lload_n 1, 1) := by decide +kernel
theorem dMa_operand_9 : decode cMa_operand 9 = .ok (.invokevirtual 53, 3) := by decide +kernel
theorem dMa_operand_12 : decode cMa_operand 12 = .ok (.goto 8, 3) := by decide +kernel
theorem dMa_operand_15 : decode cMa_operand 15 = .ok (.lload_n 1, 1) := by decide +kernel
theorem dMa_operand_16 : decode cMa_operand 16 = .ok (.invokestatic 40, 3) := by decide +kernel
theorem dMa_operand_19 : decode cMa_operand 19 = .ok (.i2l, 1) := by decide +kernel
theorem dMa_operand_20 : decode cMa_operand 20 = .ok (.lreturn, 1) := by decide +kernel
theorem dMa_takeTwoPlaces_0 : decode cMa_takeTwoPlaces 0 = .ok (.lload_n 3, 1) := by decide +kernel
theorem dMa_takeTwoPlaces_1 : decode cMa_takeTwoPlaces 1 = .ok (.invokestatic 40, 3) := by decide +kernel
theorem dMa_takeTwoPlaces_4 : decode cMa_takeTwoPlaces 4 = .ok (.i2l, 1) := by decide +kernel
theorem dMa_takeTwoPlaces_5 : decode cMa_takeTwoPlaces 5 = .ok (.lstore 5, 2) := by decide +kernel
theorem dMa_takeTwoPlaces_7 : decode cMa_takeTwoPlaces 7 = .ok (.aload_n 0, 1) := by decide +kernel
theorem dMa_takeTwoPlaces_8 : decode cMa_takeTwoPlaces 8 = .ok (.getfield 7, 3) := by decide +kernel
theorem dMa_takeTwoPlaces_11 : decode cMa_takeTwoPlaces 11 = .ok (.lload_n 1, 1) := by decide +kernel
theorem dMa_takeTwoPlaces_12 : decode cMa_takeTwoPlaces 12 = .ok (.invokestatic 61, 3) := by decide +kernel
theorem dMa_takeTwoPlaces_15 : decode cMa_takeTwoPlaces 15 = .ok (.lload 5, 2) := by decide +kernel
theorem dMa_takeTwoPlaces_17 : decode cMa_takeTwoPlaces 17 = .ok (.bipush 32, 2) := by decide +kernel
theorem dMa_takeTwoPlaces_19 : decode cMa_takeTwoPlaces 19 = .ok (.lshl, 1) := by decide +kernel
theorem dMa_takeTwoPlaces_20 : decode cMa_takeTwoPlaces 20 = .ok (.lload_n 1, 1) := by decide +kernel
theorem dMa_takeTwoPlaces_21 : decode cMa_takeTwoPlaces 21 = .ok (.invokestatic 40, 3) := by decide +kernel
theorem dMa_takeTwoPlaces_24 : decode cMa_takeTwoPlaces 24 = .ok (.i2l, 1) := by decide +kernel
theorem dMa_takeTwoPlaces_25 : decode cMa_takeTwoPlaces 25 = .ok (.bipush 32, 2) := by decide +kernel
theorem dMa_takeTwoPlaces_27 : decode cMa_takeTwoPlaces 27 = .ok (.invokestatic 73, 3) := by decide +kernel
theorem dMa_takeTwoPlaces_30 : decode cMa_takeTwoPlaces 30 = .ok (.lor, 1) := by decide +kernel
theorem dMa_takeTwoPlaces_31 : decode cMa_takeTwoPlaces 31 = .ok (.lastore, 1) := by decide +kernel
theorem dMa_takeTwoPlaces_32 : decode cMa_takeTwoPlaces 32 = .ok (.return_, 1) := by decide +kernel
theorem dMa_read_0 : decode cMa_read 0 = .ok (.lload_n 1, 1) := by decide +kernel
theorem dMa_read_1 : decode cMa_read 1 = .ok (.invokestatic 79, 3) := by decide +kernel
theorem dMa_read_4 : decode cMa_read 4 = .ok (.istore_n 3, 1) := by decide +kernel
theorem dMa_read_5 : decode cMa_read 5 = .ok (.aload_n 0, 1) := by decide +kernel
theorem dMa_read_6 : decode cMa_read 6 = .ok (.lload_n 1, 1) := by decide +kernel
theorem dMa_read_7 : decode cMa_read 7 = .ok (.invokevirtual 53, 3) := by decide +kernel
theorem dMa_read_10 : decode cMa_read 10 = .ok (.lload_n 1, 1) := by decide +kernel
theorem dMa_read_11 : decode cMa_read 11 = .ok (.invokestatic 82, 3) := by decide +kernel
theorem dMa_read_14 : decode cMa_read 14 = .ok (.i2l, 1) := by decide +kernel
theorem dMa_read_15 : decode cMa_read 15 = .ok (.ladd, 1) := by decide +kernel
theorem dMa_read_16 : decode cMa_read 16 = .ok (.lstore 4, 2) := by decide +kernel
theorem dMa_read_18 : decode cMa_read 18 = .ok (.aload_n 0, 1) := by decide +kernel
theorem dMa_read_19 : decode cMa_read 19 = .ok (.getfield 16, 3) := by decide +kernel
theorem dMa_read_22 : decode cMa_read 22 = .ok (.lload 4, 2) := by decide +kernel
theorem dMa_read_24 : decode cMa_read 24 = .ok (.iload_n 3, 1) := by decide +kernel
theorem dMa_read_25 : decode cMa_read 25 = .ok (.invokevirtual 85, 3) := by decide +kernel
theorem dMa_read_28 : decode cMa_read 28 = .ok (.ifCond .ne 5, 3) := by decide +kernel
theorem dMa_read_31 : decode cMa_read 31 = .ok (.iconst 0, 1) := by decide +kernel
theorem dMa_read_32 : decode cMa_read 32 = .ok (.ireturn, 1) := by decide +kernel
theorem dMa_read_33 : decode cMa_read 33 = .ok (.aload_n 0, 1) := by decide +kernel
theorem dMa_read_34 : decode cMa_read 34 = .ok (.getfield 16, 3) := by decide +kernel
theorem dMa_read_37 : decode cMa_read 37 = .ok (.lload 4, 2) := by decide +kernel
theorem dMa_read_39 : decode cMa_read 39 = .ok (.iload_n 3, 1) := by decide +kernel
theorem dMa_read_40 : decode cMa_read 40 = .ok (.invokevirtual 89, 3) := by decide +kernel
theorem dMa_read_43 : decode cMa_read 43 = .ok (.lstore 6, 2) := by decide +kernel
theorem dMa_read_45 : decode cMa_read 45 = .ok (.aload_n 0, 1) := by decide +kernel
theorem dMa_read_46 : decode cMa_read 46 = .ok (.getfield 7, 3) := by decide +kernel
theorem dMa_read_49 : decode cMa_read 49 = .ok (.lload_n 1, 1) := by decide +kernel
theorem dMa_read_50 : decode cMa_read 50 = .ok (.invokestatic 61, 3) := by decide +kernel
theorem dMa_read_53 : decode cMa_read 53 = .ok (.lload_n 1, 1) := by decide +kernel
theorem dMa_read_54 : decode cMa_read 54 = .ok (.invokestatic 47, 3) := by decide +kernel
theorem dMa_read_57 : decode cMa_read 57 = .ok (.iconst 4, 1) := by decide +kernel
theorem dMa_read_58 : decode cMa_read 58 = .ok (.if_icmp .ne 15, 3) := by decide +kernel
theorem dMa_read_61 : decode cMa_read 61 = .ok (.lload 6, 2) := by decide +kernel
theorem dMa_read_63 : decode cMa_read 63 = .ok (.bipush 8, 2) := by decide +kernel
theorem dMa_read_65 : decode cMa_read 65 = .ok (.iload_n 3, 1) := by decide +kernel
theorem dMa_read_66 : decode cMa_read 66 = .ok (.imul, 1) := by decide +kernel
theorem dMa_read_67 : decode cMa_read 67 = .ok (.invokestatic 91, 3) := by decide +kernel
theorem dMa_read_70 : decode cMa_read 70 = .ok (.goto 5, 3) := by decide +kernel
theorem dMa_read_73 : decode cMa_read 73 = .ok (.lload 6, 2) := by decide +kernel
theorem dMa_read_75 : decode cMa_read 75 = .ok (.lastore, 1) := by decide +kernel
theorem dMa_read_76 : decode cMa_read 76 = .ok (.iconst 1, 1) := by decide +kernel
theorem dMa_read_77 : decode cMa_read 77 = .ok (.ireturn, 1) := by decide +kernel
theorem dMa_write_0 : decode cMa_write 0 = .ok (.lload_n 1, 1) := by decide +kernel
theorem dMa_write_1 : decode cMa_write 1 = .ok (.invokestatic 79, 3) := by decide +kernel
theorem dMa_write_4 : decode cMa_write 4 = .ok (.istore 5, 2) := by decide +kernel
theorem dMa_write_6 : decode cMa_write 6 = .ok (.aload_n 0, 1) := by decide +kernel
theorem dMa_write_7 : decode cMa_write 7 = .ok (.lload_n 1, 1) := by decide +kernel
theorem dMa_write_8 : decode cMa_write 8 = .ok (.invokevirtual 94, 3) := by decide +kernel
theorem dMa_write_11 : decode cMa_write 11 = .ok (.lload_n 1, 1) := by decide +kernel
theorem dMa_write_12 : decode cMa_write 12 = .ok (.invokestatic 82, 3) := by decide +kernel
theorem dMa_write_15 : decode cMa_write 15 = .ok (.i2l, 1) := by decide +kernel
theorem dMa_write_16 : decode cMa_write 16 = .ok (.ladd, 1) := by decide +kernel
theorem dMa_write_17 : decode cMa_write 17 = .ok (.lstore 6, 2) := by decide +kernel
theorem dMa_write_19 : decode cMa_write 19 = .ok (.aload_n 0, 1) := by decide +kernel
theorem dMa_write_20 : decode cMa_write 20 = .ok (.getfield 16, 3) := by decide +kernel
theorem dMa_write_23 : decode cMa_write 23 = .ok (.lload 6, 2) := by decide +kernel
theorem dMa_write_25 : decode cMa_write 25 = .ok (.iload 5, 2) := by decide +kernel
theorem dMa_write_27 : decode cMa_write 27 = .ok (.invokevirtual 85, 3) := by decide +kernel
theorem dMa_write_30 : decode cMa_write 30 = .ok (.ifCond .ne 5, 3) := by decide +kernel
theorem dMa_write_33 : decode cMa_write 33 = .ok (.iconst 0, 1) := by decide +kernel
theorem dMa_write_34 : decode cMa_write 34 = .ok (.ireturn, 1) := by decide +kernel
theorem dMa_write_35 : decode cMa_write 35 = .ok (.aload_n 0, 1) := by decide +kernel
theorem dMa_write_36 : decode cMa_write 36 = .ok (.getfield 16, 3) := by decide +kernel
theorem dMa_write_39 : decode cMa_write 39 = .ok (.lload 6, 2) := by decide +kernel
theorem dMa_write_41 : decode cMa_write 41 = .ok (.iload 5, 2) := by decide +kernel
theorem dMa_write_43 : decode cMa_write 43 = .ok (.lload_n 3, 1) := by decide +kernel
theorem dMa_write_44 : decode cMa_write 44 = .ok (.invokevirtual 97, 3) := by decide +kernel
theorem dMa_write_47 : decode cMa_write 47 = .ok (.iconst 1, 1) := by decide +kernel
theorem dMa_write_48 : decode cMa_write 48 = .ok (.ireturn, 1) := by decide +kernel
theorem dMa_exchange_0 : decode cMa_exchange 0 = .ok (.lload_n 1, 1) := by decide +kernel
theorem dMa_exchange_1 : decode cMa_exchange 1 = .ok (.invokestatic 79, 3) := by decide +kernel
theorem dMa_exchange_4 : decode cMa_exchange 4 = .ok (.istore_n 3, 1) := by decide +kernel
theorem dMa_exchange_5 : decode cMa_exchange 5 = .ok (.lload_n 1, 1) := by decide +kernel
theorem dMa_exchange_6 : decode cMa_exchange 6 = .ok (.invokestatic 40, 3) := by decide +kernel
theorem dMa_exchange_9 : decode cMa_exchange 9 = .ok (.istore 4, 2) := by decide +kernel
theorem dMa_exchange_11 : decode cMa_exchange 11 = .ok (.aload_n 0, 1) := by decide +kernel
theorem dMa_exchange_12 : decode cMa_exchange 12 = .ok (.lload_n 1, 1) := by decide +kernel
theorem dMa_exchange_13 : decode cMa_exchange 13 = .ok (.invokevirtual 94, 3) := by decide +kernel
theorem dMa_exchange_16 : decode cMa_exchange 16 = .ok (.lload_n 1, 1) := by decide +kernel
theorem dMa_exchange_17 : decode cMa_exchange 17 = .ok (.invokestatic 82, 3) := by decide +kernel
theorem dMa_exchange_20 : decode cMa_exchange 20 = .ok (.i2l, 1) := by decide +kernel
theorem dMa_exchange_21 : decode cMa_exchange 21 = .ok (.ladd, 1) := by decide +kernel
theorem dMa_exchange_22 : decode cMa_exchange 22 = .ok (.lstore 5, 2) := by decide +kernel
theorem dMa_exchange_24 : decode cMa_exchange 24 = .ok (.aload_n 0, 1) := by decide +kernel
theorem dMa_exchange_25 : decode cMa_exchange 25 = .ok (.getfield 16, 3) := by decide +kernel
theorem dMa_exchange_28 : decode cMa_exchange 28 = .ok (.lload 5, 2) := by decide +kernel
theorem dMa_exchange_30 : decode cMa_exchange 30 = .ok (.iload_n 3, 1) := by decide +kernel
theorem dMa_exchange_31 : decode cMa_exchange 31 = .ok (.invokevirtual 85, 3) := by decide +kernel
theorem dMa_exchange_34 : decode cMa_exchange 34 = .ok (.ifCond .eq 15, 3) := by decide +kernel
theorem dMa_exchange_37 : decode cMa_exchange 37 = .ok (.lload 5, 2) := by decide +kernel
theorem dMa_exchange_39 : decode cMa_exchange 39 = .ok (.iload_n 3, 1) := by decide +kernel
theorem dMa_exchange_40 : decode cMa_exchange 40 = .ok (.iconst 1, 1) := by decide +kernel
theorem dMa_exchange_41 : decode cMa_exchange 41 = .ok (.isub, 1) := by decide +kernel
theorem dMa_exchange_42 : decode cMa_exchange 42 = .ok (.i2l, 1) := by decide +kernel
theorem dMa_exchange_43 : decode cMa_exchange 43 = .ok (.land, 1) := by decide +kernel
theorem dMa_exchange_44 : decode cMa_exchange 44 = .ok (.lconst 0, 1) := by decide +kernel
theorem dMa_exchange_45 : decode cMa_exchange 45 = .ok (.lcmp, 1) := by decide +kernel
theorem dMa_exchange_46 : decode cMa_exchange 46 = .ok (.ifCond .eq 5, 3) := by decide +kernel
theorem dMa_exchange_49 : decode cMa_exchange 49 = .ok (.iconst 0, 1) := by decide +kernel
theorem dMa_exchange_50 : decode cMa_exchange 50 = .ok (.ireturn, 1) := by decide +kernel
theorem dMa_exchange_51 : decode cMa_exchange 51 = .ok (.aload_n 0, 1) := by decide +kernel
theorem dMa_exchange_52 : decode cMa_exchange 52 = .ok (.getfield 16, 3) := by decide +kernel
theorem dMa_exchange_55 : decode cMa_exchange 55 = .ok (.lload 5, 2) := by decide +kernel
theorem dMa_exchange_57 : decode cMa_exchange 57 = .ok (.iload_n 3, 1) := by decide +kernel
theorem dMa_exchange_58 : decode cMa_exchange 58 = .ok (.invokevirtual 89, 3) := by decide +kernel
theorem dMa_exchange_61 : decode cMa_exchange 61 = .ok (.lstore 7, 2) := by decide +kernel
theorem dMa_exchange_63 : decode cMa_exchange 63 = .ok (.lload 7, 2) := by decide +kernel
theorem dMa_exchange_65 : decode cMa_exchange 65 = .ok (.aload_n 0, 1) := by decide +kernel
theorem dMa_exchange_66 : decode cMa_exchange 66 = .ok (.getfield 7, 3) := by decide +kernel
theorem dMa_exchange_69 : decode cMa_exchange 69 = .ok (.iconst 0, 1) := by decide +kernel
theorem dMa_exchange_70 : decode cMa_exchange 70 = .ok (.laload, 1) := by decide +kernel
theorem dMa_exchange_71 : decode cMa_exchange 71 = .ok (.bipush 8, 2) := by decide +kernel
theorem dMa_exchange_73 : decode cMa_exchange 73 = .ok (.iload_n 3, 1) := by decide +kernel
theorem dMa_exchange_74 : decode cMa_exchange 74 = .ok (.imul, 1) := by decide +kernel
theorem dMa_exchange_75 : decode cMa_exchange 75 = .ok (.invokestatic 73, 3) := by decide +kernel
theorem dMa_exchange_78 : decode cMa_exchange 78 = .ok (.lcmp, 1) := by decide +kernel
theorem dMa_exchange_79 : decode cMa_exchange 79 = .ok (.ifCond .ne 7, 3) := by decide +kernel
theorem dMa_exchange_82 : decode cMa_exchange 82 = .ok (.iconst 1, 1) := by decide +kernel
theorem dMa_exchange_83 : decode cMa_exchange 83 = .ok (.goto 4, 3) := by decide +kernel
theorem dMa_exchange_86 : decode cMa_exchange 86 = .ok (.iconst 0, 1) := by decide +kernel
theorem dMa_exchange_87 : decode cMa_exchange 87 = .ok (.istore 9, 2) := by decide +kernel
theorem dMa_exchange_89 : decode cMa_exchange 89 = .ok (.aload_n 0, 1) := by decide +kernel
theorem dMa_exchange_90 : decode cMa_exchange 90 = .ok (.getfield 16, 3) := by decide +kernel
theorem dMa_exchange_93 : decode cMa_exchange 93 = .ok (.lload 5, 2) := by decide +kernel
theorem dMa_exchange_95 : decode cMa_exchange 95 = .ok (.iload_n 3, 1) := by decide +kernel
theorem dMa_exchange_96 : decode cMa_exchange 96 = .ok (.iload 4, 2) := by decide +kernel
theorem dMa_exchange_98 : decode cMa_exchange 98 = .ok (.lload 7, 2) := by decide +kernel
theorem dMa_exchange_100 : decode cMa_exchange 100 = .ok (.aload_n 0, 1) := by decide +kernel
theorem dMa_exchange_101 : decode cMa_exchange 101 = .ok (.lload_n 1, 1) := by decide +kernel
theorem dMa_exchange_102 : decode cMa_exchange 102 = .ok (.invokevirtual 53, 3) := by decide +kernel
theorem dMa_exchange_105 : decode cMa_exchange 105 = .ok (.iload 9, 2) := by decide +kernel
theorem dMa_exchange_107 : decode cMa_exchange 107 = .ok (.invokestatic 100, 3) := by decide +kernel
theorem dMa_exchange_110 : decode cMa_exchange 110 = .ok (.invokevirtual 97, 3) := by decide +kernel
theorem dMa_exchange_113 : decode cMa_exchange 113 = .ok (.iload 4, 2) := by decide +kernel
theorem dMa_exchange_115 : decode cMa_exchange 115 = .ok (.sipush 241, 3) := by decide +kernel
theorem dMa_exchange_118 : decode cMa_exchange 118 = .ok (.if_icmp .ne 14, 3) := by decide +kernel
theorem dMa_exchange_121 : decode cMa_exchange 121 = .ok (.aload_n 0, 1) := by decide +kernel
theorem dMa_exchange_122 : decode cMa_exchange 122 = .ok (.getfield 7, 3) := by decide +kernel
theorem dMa_exchange_125 : decode cMa_exchange 125 = .ok (.iconst 0, 1) := by decide +kernel
theorem dMa_exchange_126 : decode cMa_exchange 126 = .ok (.lload 7, 2) := by decide +kernel
theorem dMa_exchange_128 : decode cMa_exchange 128 = .ok (.lastore, 1) := by decide +kernel
theorem dMa_exchange_129 : decode cMa_exchange 129 = .ok (.goto 22, 3) := by decide +kernel
theorem dMa_exchange_132 : decode cMa_exchange 132 = .ok (.iload 4, 2) := by decide +kernel
theorem dMa_exchange_134 : decode cMa_exchange 134 = .ok (.invokestatic 106, 3) := by decide +kernel
theorem dMa_exchange_137 : decode cMa_exchange 137 = .ok (.ifCond .eq 14, 3) := by decide +kernel
theorem dMa_exchange_140 : decode cMa_exchange 140 = .ok (.aload_n 0, 1) := by decide +kernel
theorem dMa_exchange_141 : decode cMa_exchange 141 = .ok (.getfield 7, 3) := by decide +kernel
theorem dMa_exchange_144 : decode cMa_exchange 144 = .ok (.lload_n 1, 1) := by decide +kernel
theorem dMa_exchange_145 : decode cMa_exchange 145 = .ok (.invokestatic 67, 3) := by decide +kernel
theorem dMa_exchange_148 : decode cMa_exchange 148 = .ok (.lload 7, 2) := by decide +kernel
theorem dMa_exchange_150 : decode cMa_exchange 150 = .ok (.lastore, 1) := by decide +kernel
theorem dMa_exchange_151 : decode cMa_exchange 151 = .ok (.iconst 1, 1) := by decide +kernel
theorem dMa_exchange_152 : decode cMa_exchange 152 = .ok (.ireturn, 1) := by decide +kernel
theorem dMa_jump_0 : decode cMa_jump 0 = .ok (.lload_n 2, 1) := by decide +kernel
theorem dMa_jump_1 : decode cMa_jump 1 = .ok (.invokestatic 110, 3) := by decide +kernel
theorem dMa_jump_4 : decode cMa_jump 4 = .ok (.ifCond .eq 5, 3) := by decide +kernel
theorem dMa_jump_7 : decode cMa_jump 7 = .ok (.iconst (-1), 1) := by decide +kernel
theorem dMa_jump_8 : decode cMa_jump 8 = .ok (.ireturn, 1) := by decide +kernel
theorem dMa_jump_9 : decode cMa_jump 9 = .ok (.lload_n 2, 1) := by decide +kernel
theorem dMa_jump_10 : decode cMa_jump 10 = .ok (.invokestatic 113, 3) := by decide +kernel
theorem dMa_jump_13 : decode cMa_jump 13 = .ok (.ifCond .eq 15, 3) := by decide +kernel
theorem dMa_jump_16 : decode cMa_jump 16 = .ok (.aload_n 0, 1) := by decide +kernel
theorem dMa_jump_17 : decode cMa_jump 17 = .ok (.lload_n 2, 1) := by decide +kernel
theorem dMa_jump_18 : decode cMa_jump 18 = .ok (.invokestatic 40, 3) := by decide +kernel
theorem dMa_jump_21 : decode cMa_jump 21 = .ok (.invokevirtual 116, 3) := by decide +kernel
theorem dMa_jump_24 : decode cMa_jump 24 = .ok (.iload_n 1, 1) := by decide +kernel
theorem dMa_jump_25 : decode cMa_jump 25 = .ok (.iconst 1, 1) := by decide +kernel
theorem dMa_jump_26 : decode cMa_jump 26 = .ok (.iadd, 1) := by decide +kernel
theorem dMa_jump_27 : decode cMa_jump 27 = .ok (.ireturn, 1) := by decide +kernel
theorem dMa_jump_28 : decode cMa_jump 28 = .ok (.lload_n 2, 1) := by decide +kernel
theorem dMa_jump_29 : decode cMa_jump 29 = .ok (.invokestatic 120, 3) := by decide +kernel
theorem dMa_jump_32 : decode cMa_jump 32 = .ok (.ifCond .ne 11, 3) := by decide +kernel
theorem dMa_jump_35 : decode cMa_jump 35 = .ok (.aload_n 0, 1) := by decide +kernel
theorem dMa_jump_36 : decode cMa_jump 36 = .ok (.lload_n 2, 1) := by decide +kernel
theorem dMa_jump_37 : decode cMa_jump 37 = .ok (.invokevirtual 123, 3) := by decide +kernel
theorem dMa_jump_40 : decode cMa_jump 40 = .ok (.ifCond .eq 12, 3) := by decide +kernel
theorem dMa_jump_43 : decode cMa_jump 43 = .ok (.iload_n 1, 1) := by decide +kernel
theorem dMa_jump_44 : decode cMa_jump 44 = .ok (.lload_n 2, 1) := by decide +kernel
theorem dMa_jump_45 : decode cMa_jump 45 = .ok (.invokestatic 126, 3) := by decide +kernel
theorem dMa_jump_48 : decode cMa_jump 48 = .ok (.l2i, 1) := by decide +kernel
theorem dMa_jump_49 : decode cMa_jump 49 = .ok (.goto 6, 3) := by decide +kernel
theorem dMa_jump_52 : decode cMa_jump 52 = .ok (.iload_n 1, 1) := by decide +kernel
theorem dMa_jump_53 : decode cMa_jump 53 = .ok (.iconst 1, 1) := by decide +kernel
theorem dMa_jump_54 : decode cMa_jump 54 = .ok (.iadd, 1) := by decide +kernel
theorem dMa_jump_55 : decode cMa_jump 55 = .ok (.ireturn, 1) := by decide +kernel
theorem dMa_takesJump_0 : decode cMa_takesJump 0 = .ok (.aload_n 0, 1) := by decide +kernel
theorem dMa_takesJump_1 : decode cMa_takesJump 1 = .ok (.lload_n 1, 1) := by decide +kernel
theorem dMa_takesJump_2 : decode cMa_takesJump 2 = .ok (.invokevirtual 94, 3) := by decide +kernel
theorem dMa_takesJump_5 : decode cMa_takesJump 5 = .ok (.lstore_n 3, 1) := by decide +kernel
theorem dMa_takesJump_6 : decode cMa_takesJump 6 = .ok (.aload_n 0, 1) := by decide +kernel
theorem dMa_takesJump_7 : decode cMa_takesJump 7 = .ok (.lload_n 1, 1) := by decide +kernel
theorem dMa_takesJump_8 : decode cMa_takesJump 8 = .ok (.invokevirtual 130, 3) := by decide +kernel
theorem dMa_takesJump_11 : decode cMa_takesJump 11 = .ok (.lstore 5, 2) := by decide +kernel
theorem dMa_takesJump_13 : decode cMa_takesJump 13 = .ok (.lload_n 1, 1) := by decide +kernel
theorem dMa_takesJump_14 : decode cMa_takesJump 14 = .ok (.invokestatic 26, 3) := by decide +kernel
theorem dMa_takesJump_17 : decode cMa_takesJump 17 = .ok (.bipush 6, 2) := by decide +kernel
theorem dMa_takesJump_19 : decode cMa_takesJump 19 = .ok (.if_icmp .ne 20, 3) := by decide +kernel
theorem dMa_takesJump_22 : decode cMa_takesJump 22 = .ok (.lload_n 1, 1) := by decide +kernel
theorem dMa_takesJump_23 : decode cMa_takesJump 23 = .ok (.invokestatic 133, 3) := by decide +kernel
theorem dMa_takesJump_26 : decode cMa_takesJump 26 = .ok (.lload_n 3, 1) := by decide +kernel
theorem dMa_takesJump_27 : decode cMa_takesJump 27 = .ok (.l2i, 1) := by decide +kernel
theorem dMa_takesJump_28 : decode cMa_takesJump 28 = .ok (.i2l, 1) := by decide +kernel
theorem dMa_takesJump_29 : decode cMa_takesJump 29 = .ok (.lload 5, 2) := by decide +kernel
theorem dMa_takesJump_31 : decode cMa_takesJump 31 = .ok (.l2i, 1) := by decide +kernel
theorem dMa_takesJump_32 : decode cMa_takesJump 32 = .ok (.i2l, 1) := by decide +kernel
theorem dMa_takesJump_33 : decode cMa_takesJump 33 = .ok (.invokestatic 136, 3) := by decide +kernel
theorem dMa_takesJump_36 : decode cMa_takesJump 36 = .ok (.goto 13, 3) := by decide +kernel
theorem dMa_takesJump_39 : decode cMa_takesJump 39 = .ok (.lload_n 1, 1) := by decide +kernel
theorem dMa_takesJump_40 : decode cMa_takesJump 40 = .ok (.invokestatic 133, 3) := by decide +kernel
theorem dMa_takesJump_43 : decode cMa_takesJump 43 = .ok (.lload_n 3, 1) := by decide +kernel
theorem dMa_takesJump_44 : decode cMa_takesJump 44 = .ok (.lload 5, 2) := by decide +kernel
theorem dMa_takesJump_46 : decode cMa_takesJump 46 = .ok (.invokestatic 136, 3) := by decide +kernel
theorem dMa_takesJump_49 : decode cMa_takesJump 49 = .ok (.ireturn, 1) := by decide +kernel
theorem dMa_answerCall_0 : decode cMa_answerCall 0 = .ok (.iload_n 1, 1) := by decide +kernel
theorem dMa_answerCall_1 : decode cMa_answerCall 1 = .ok (.i2l, 1) := by decide +kernel
theorem dMa_answerCall_2 : decode cMa_answerCall 2 = .ok (.lstore_n 2, 1) := by decide +kernel
theorem dMa_answerCall_3 : decode cMa_answerCall 3 = .ok (.iconst 1, 1) := by decide +kernel
theorem dMa_answerCall_4 : decode cMa_answerCall 4 = .ok (.istore 4, 2) := by decide +kernel
theorem dMa_answerCall_6 : decode cMa_answerCall 6 = .ok (.iload 4, 2) := by decide +kernel
theorem dMa_answerCall_8 : decode cMa_answerCall 8 = .ok (.iconst 5, 1) := by decide +kernel
theorem dMa_answerCall_9 : decode cMa_answerCall 9 = .ok (.if_icmp .gt 31, 3) := by decide +kernel
theorem dMa_answerCall_12 : decode cMa_answerCall 12 = .ok (.ldc2_w 140, 3) := by decide +kernel
theorem dMa_answerCall_15 : decode cMa_answerCall 15 = .ok (.lload_n 2, 1) := by decide +kernel
theorem dMa_answerCall_16 : decode cMa_answerCall 16 = .ok (.lmul, 1) := by decide +kernel
theorem dMa_answerCall_17 : decode cMa_answerCall 17 = .ok (.aload_n 0, 1) := by decide +kernel
theorem dMa_answerCall_18 : decode cMa_answerCall 18 = .ok (.getfield 7, 3) := by decide +kernel
theorem dMa_answerCall_21 : decode cMa_answerCall 21 = .ok (.iload 4, 2) := by decide +kernel
theorem dMa_answerCall_23 : decode cMa_answerCall 23 = .ok (.laload, 1) := by decide +kernel
theorem dMa_answerCall_24 : decode cMa_answerCall 24 = .ok (.ladd, 1) := by decide +kernel
theorem dMa_answerCall_25 : decode cMa_answerCall 25 = .ok (.lstore_n 2, 1) := by decide +kernel
theorem dMa_answerCall_26 : decode cMa_answerCall 26 = .ok (.aload_n 0, 1) := by decide +kernel
theorem dMa_answerCall_27 : decode cMa_answerCall 27 = .ok (.getfield 7, 3) := by decide +kernel
theorem dMa_answerCall_30 : decode cMa_answerCall 30 = .ok (.iload 4, 2) := by decide +kernel
theorem dMa_answerCall_32 : decode cMa_answerCall 32 = .ok (.lconst 0, 1) := by decide +kernel
theorem dMa_answerCall_33 : decode cMa_answerCall 33 = .ok (.lastore, 1) := by decide +kernel
theorem dMa_answerCall_34 : decode cMa_answerCall 34 = .ok (.iinc 4 1, 3) := by decide +kernel
theorem dMa_answerCall_37 : decode cMa_answerCall 37 = .ok (.goto (-31), 3) := by decide +kernel
theorem dMa_answerCall_40 : decode cMa_answerCall 40 = .ok (.aload_n 0, 1) := by decide +kernel
theorem dMa_answerCall_41 : decode cMa_answerCall 41 = .ok (.getfield 7, 3) := by decide +kernel
theorem dMa_answerCall_44 : decode cMa_answerCall 44 = .ok (.iconst 0, 1) := by decide +kernel
theorem dMa_answerCall_45 : decode cMa_answerCall 45 = .ok (.lload_n 2, 1) := by decide +kernel
theorem dMa_answerCall_46 : decode cMa_answerCall 46 = .ok (.lastore, 1) := by decide +kernel
theorem dMa_answerCall_47 : decode cMa_answerCall 47 = .ok (.return_, 1) := by decide +kernel
theorem dMa_computed_0 : decode cMa_computed 0 = .ok (.lload_n 1, 1) := by decide +kernel
theorem dMa_computed_1 : decode cMa_computed 1 = .ok (.invokestatic 133, 3) := by decide +kernel
theorem dMa_computed_4 : decode cMa_computed 4 = .ok (.istore_n 3, 1) := by decide +kernel
theorem dMa_computed_5 : decode cMa_computed 5 = .ok (.iload_n 3, 1) := by decide +kernel
theorem dMa_computed_6 : decode cMa_computed 6 = .ok (.bipush 13, 2) := by decide +kernel
theorem dMa_computed_8 : decode cMa_computed 8 = .ok (.if_icmp .ne 9, 3) := by decide +kernel
theorem dMa_computed_11 : decode cMa_computed 11 = .ok (.aload_n 0, 1) := by decide +kernel
theorem dMa_computed_12 : decode cMa_computed 12 = .ok (.lload_n 1, 1) := by decide +kernel
theorem dMa_computed_13 : decode cMa_computed 13 = .ok (.invokevirtual 142, 3) := by decide +kernel
theorem dMa_computed_16 : decode cMa_computed 16 = .ok (.lreturn, 1) := by decide +kernel
theorem dMa_computed_17 : decode cMa_computed 17 = .ok (.lload_n 1, 1) := by decide +kernel
theorem dMa_computed_18 : decode cMa_computed 18 = .ok (.invokestatic 26, 3) := by decide +kernel
theorem dMa_computed_21 : decode cMa_computed 21 = .ok (.bipush 7, 2) := by decide +kernel
theorem dMa_computed_23 : decode cMa_computed 23 = .ok (.if_icmp .ne 24, 3) := by decide +kernel
theorem dMa_computed_26 : decode cMa_computed 26 = .ok (.iload_n 3, 1) := by decide +kernel
theorem dMa_computed_27 : decode cMa_computed 27 = .ok (.lload_n 1, 1) := by decide +kernel
theorem dMa_computed_28 : decode cMa_computed 28 = .ok (.invokestatic 82, 3) := by decide +kernel
theorem dMa_computed_31 : decode cMa_computed 31 = .ok (.aload_n 0, 1) := by decide +kernel
theorem dMa_computed_32 : decode cMa_computed 32 = .ok (.lload_n 1, 1) := by decide +kernel
theorem dMa_computed_33 : decode cMa_computed 33 = .ok (.invokevirtual 94, 3) := by decide +kernel
theorem dMa_computed_36 : decode cMa_computed 36 = .ok (.aload_n 0, 1) := by decide +kernel
theorem dMa_computed_37 : decode cMa_computed 37 = .ok (.lload_n 1, 1) := by decide +kernel
theorem dMa_computed_38 : decode cMa_computed 38 = .ok (.invokevirtual 130, 3) := by decide +kernel
theorem dMa_computed_41 : decode cMa_computed 41 = .ok (.invokestatic 145, 3) := by decide +kernel
theorem dMa_computed_44 : decode cMa_computed 44 = .ok (.goto 23, 3) := by decide +kernel
theorem dMa_computed_47 : decode cMa_computed 47 = .ok (.iload_n 3, 1) := by decide +kernel
theorem dMa_computed_48 : decode cMa_computed 48 = .ok (.lload_n 1, 1) := by decide +kernel
theorem dMa_computed_49 : decode cMa_computed 49 = .ok (.invokestatic 82, 3) := by decide +kernel
theorem dMa_computed_52 : decode cMa_computed 52 = .ok (.aload_n 0, 1) := by decide +kernel
theorem dMa_computed_53 : decode cMa_computed 53 = .ok (.lload_n 1, 1) := by decide +kernel
theorem dMa_computed_54 : decode cMa_computed 54 = .ok (.invokevirtual 94, 3) := by decide +kernel
theorem dMa_computed_57 : decode cMa_computed 57 = .ok (.l2i, 1) := by decide +kernel
theorem dMa_computed_58 : decode cMa_computed 58 = .ok (.aload_n 0, 1) := by decide +kernel
theorem dMa_computed_59 : decode cMa_computed 59 = .ok (.lload_n 1, 1) := by decide +kernel
theorem dMa_computed_60 : decode cMa_computed 60 = .ok (.invokevirtual 130, 3) := by decide +kernel
theorem dMa_computed_63 : decode cMa_computed 63 = .ok (.l2i, 1) := by decide +kernel
theorem dMa_computed_64 : decode cMa_computed 64 = .ok (.invokestatic 149, 3) := by decide +kernel
theorem dMa_computed_67 : decode cMa_computed 67 = .ok (.lreturn, 1) := by decide +kernel
theorem dMa_turnedOrCut_0 : decode cMa_turnedOrCut 0 = .ok (.lload_n 1, 1) := by decide +kernel
theorem dMa_turnedOrCut_1 : decode cMa_turnedOrCut 1 = .ok (.invokestatic 40, 3) := by decide +kernel
theorem dMa_turnedOrCut_4 : decode cMa_turnedOrCut 4 = .ok (.istore_n 3, 1) := by decide +kernel
theorem dMa_turnedOrCut_5 : decode cMa_turnedOrCut 5 = .ok (.lload_n 1, 1) := by decide +kernel
theorem dMa_turnedOrCut_6 : decode cMa_turnedOrCut 6 = .ok (.invokestatic 26, 3) := by decide +kernel
theorem dMa_turnedOrCut_9 : decode cMa_turnedOrCut 9 = .ok (.bipush 7, 2) := by decide +kernel
theorem dMa_turnedOrCut_11 : decode cMa_turnedOrCut 11 = .ok (.if_icmp .eq 10, 3) := by decide +kernel
theorem dMa_turnedOrCut_14 : decode cMa_turnedOrCut 14 = .ok (.lload_n 1, 1) := by decide +kernel
theorem dMa_turnedOrCut_15 : decode cMa_turnedOrCut 15 = .ok (.invokestatic 70, 3) := by decide +kernel
theorem dMa_turnedOrCut_18 : decode cMa_turnedOrCut 18 = .ok (.ifCond .eq 7, 3) := by decide +kernel
theorem dMa_turnedOrCut_21 : decode cMa_turnedOrCut 21 = .ok (.iconst 1, 1) := by decide +kernel
theorem dMa_turnedOrCut_22 : decode cMa_turnedOrCut 22 = .ok (.goto 4, 3) := by decide +kernel
theorem dMa_turnedOrCut_25 : decode cMa_turnedOrCut 25 = .ok (.iconst 0, 1) := by decide +kernel
theorem dMa_turnedOrCut_26 : decode cMa_turnedOrCut 26 = .ok (.istore 4, 2) := by decide +kernel
theorem dMa_turnedOrCut_28 : decode cMa_turnedOrCut 28 = .ok (.iload 4, 2) := by decide +kernel
theorem dMa_turnedOrCut_30 : decode cMa_turnedOrCut 30 = .ok (.ifCond .eq 15, 3) := by decide +kernel
theorem dMa_turnedOrCut_33 : decode cMa_turnedOrCut 33 = .ok (.aload_n 0, 1) := by decide +kernel
theorem dMa_turnedOrCut_34 : decode cMa_turnedOrCut 34 = .ok (.lload_n 1, 1) := by decide +kernel
theorem dMa_turnedOrCut_35 : decode cMa_turnedOrCut 35 = .ok (.invokevirtual 94, 3) := by decide +kernel
theorem dMa_turnedOrCut_38 : decode cMa_turnedOrCut 38 = .ok (.iload_n 3, 1) := by decide +kernel
theorem dMa_turnedOrCut_39 : decode cMa_turnedOrCut 39 = .ok (.invokestatic 153, 3) := by decide +kernel
theorem dMa_turnedOrCut_42 : decode cMa_turnedOrCut 42 = .ok (.goto 12, 3) := by decide +kernel
theorem dMa_turnedOrCut_45 : decode cMa_turnedOrCut 45 = .ok (.aload_n 0, 1) := by decide +kernel
theorem dMa_turnedOrCut_46 : decode cMa_turnedOrCut 46 = .ok (.lload_n 1, 1) := by decide +kernel
theorem dMa_turnedOrCut_47 : decode cMa_turnedOrCut 47 = .ok (.invokevirtual 94, 3) := by decide +kernel
theorem dMa_turnedOrCut_50 : decode cMa_turnedOrCut 50 = .ok (.iload_n 3, 1) := by decide +kernel
theorem dMa_turnedOrCut_51 : decode cMa_turnedOrCut 51 = .ok (.invokestatic 73, 3) := by decide +kernel
theorem dMa_turnedOrCut_54 : decode cMa_turnedOrCut 54 = .ok (.lreturn, 1) := by decide +kernel
end
section
theorem dMe_init_0 : decode cMe_init 0 = .ok (.aload_n 0, 1) := by decide +kernel
theorem dMe_init_1 : decode cMe_init 1 = .ok (.invokespecial 1, 3) := by decide +kernel
theorem dMe_init_4 : decode cMe_init 4 = .ok (.aload_n 0, 1) := by decide +kernel
theorem dMe_init_5 : decode cMe_init 5 = .ok (.sipush 4096, 3) := by decide +kernel
theorem dMe_init_8 : decode cMe_init 8 = .ok (.newarray .byte, 2) := by decide +kernel
theorem dMe_init_10 : decode cMe_init 10 = .ok (.putfield 9, 3) := by decide +kernel
theorem dMe_init_13 : decode cMe_init 13 = .ok (.return_, 1) := by decide +kernel
theorem dMe_holds_0 : decode cMe_holds 0 = .ok (.lload_n 1, 1) := by decide +kernel
theorem dMe_holds_1 : decode cMe_holds 1 = .ok (.ldc2_w 13, 3) := by decide +kernel
theorem dMe_holds_4 : decode cMe_holds 4 = .ok (.lsub, 1) := by decide +kernel
theorem dMe_holds_5 : decode cMe_holds 5 = .ok (.lstore 4, 2) := by decide +kernel
theorem dMe_holds_7 : decode cMe_holds 7 = .ok (.lload 4, 2) := by decide +kernel
theorem dMe_holds_9 : decode cMe_holds 9 = .ok (.lconst 0, 1) := by decide +kernel
theorem dMe_holds_10 : decode cMe_holds 10 = .ok (.lcmp, 1) := by decide +kernel
theorem dMe_holds_11 : decode cMe_holds 11 = .ok (.ifCond .lt 19, 3) := by decide +kernel
theorem dMe_holds_14 : decode cMe_holds 14 = .ok (.lload 4, 2) := by decide +kernel
theorem dMe_holds_16 : decode cMe_holds 16 = .ok (.sipush 4096, 3) := by decide +kernel
theorem dMe_holds_19 : decode cMe_holds 19 = .ok (.iload_n 3, 1) := by decide +kernel
theorem dMe_holds_20 : decode cMe_holds 20 = .ok (.isub, 1) := by decide +kernel
theorem dMe_holds_21 : decode cMe_holds 21 = .ok (.i2l, 1) := by decide +kernel
theorem dMe_holds_22 : decode cMe_holds 22 = .ok (.lcmp, 1) := by decide +kernel
theorem dMe_holds_23 : decode cMe_holds 23 = .ok (.ifCond .gt 7, 3) := by decide +kernel
theorem dMe_holds_26 : decode cMe_holds 26 = .ok (.iconst 1, 1) := by decide +kernel
theorem dMe_holds_27 : decode cMe_holds 27 = .ok (.goto 4, 3) := by decide +kernel
theorem dMe_holds_30 : decode cMe_holds 30 = .ok (.iconst 0, 1) := by decide +kernel
theorem dMe_holds_31 : decode cMe_holds 31 = .ok (.ireturn, 1) := by decide +kernel
theorem dMe_read_0 : decode cMe_read 0 = .ok (.aload_n 0, 1) := by decide +kernel
theorem dMe_read_1 : decode cMe_read 1 = .ok (.lload_n 1, 1) := by decide +kernel
theorem dMe_read_2 : decode cMe_read 2 = .ok (.iload_n 3, 1) := by decide +kernel
theorem dMe_read_3 : decode cMe_read 3 = .ok (.invokevirtual 15, 3) := by decide +kernel
theorem dMe_read_6 : decode cMe_read 6 = .ok (.ifCond .ne 5, 3) := by decide +kernel
theorem dMe_read_9 : decode cMe_read 9 = .ok (.lconst 0, 1) := by decide +kernel
theorem dMe_read_10 : decode cMe_read 10 = .ok (.lreturn, 1) := by decide +kernel
theorem dMe_read_11 : decode cMe_read 11 = .ok (.lload_n 1, 1) := by decide +kernel
theorem dMe_read_12 : decode cMe_read 12 = .ok (.ldc2_w 13, 3) := by decide +kernel
theorem dMe_read_15 : decode cMe_read 15 = .ok (.lsub, 1) := by decide +kernel
theorem dMe_read_16 : decode cMe_read 16 = .ok (.l2i, 1) := by decide +kernel
theorem dMe_read_17 : decode cMe_read 17 = .ok (.istore 4, 2) := by decide +kernel
theorem dMe_read_19 : decode cMe_read 19 = .ok (.lconst 0, 1) := by decide +kernel
theorem dMe_read_20 : decode cMe_read 20 = .ok (.lstore 5, 2) := by decide +kernel
theorem dMe_read_22 : decode cMe_read 22 = .ok (.iload_n 3, 1) := by decide +kernel
theorem dMe_read_23 : decode cMe_read 23 = .ok (.iconst 1, 1) := by decide +kernel
theorem dMe_read_24 : decode cMe_read 24 = .ok (.isub, 1) := by decide +kernel
theorem dMe_read_25 : decode cMe_read 25 = .ok (.istore 7, 2) := by decide +kernel
theorem dMe_read_27 : decode cMe_read 27 = .ok (.iload 7, 2) := by decide +kernel
theorem dMe_read_29 : decode cMe_read 29 = .ok (.ifCond .lt 32, 3) := by decide +kernel
theorem dMe_read_32 : decode cMe_read 32 = .ok (.lload 5, 2) := by decide +kernel
theorem dMe_read_34 : decode cMe_read 34 = .ok (.bipush 8, 2) := by decide +kernel
theorem dMe_read_36 : decode cMe_read 36 = .ok (.lshl, 1) := by decide +kernel
theorem dMe_read_37 : decode cMe_read 37 = .ok (.aload_n 0, 1) := by decide +kernel
theorem dMe_read_38 : decode cMe_read 38 = .ok (.getfield 9, 3) := by decide +kernel
theorem dMe_read_41 : decode cMe_read 41 = .ok (.iload 4, 2) := by decide +kernel
theorem dMe_read_43 : decode cMe_read 43 = .ok (.iload 7, 2) := by decide +kernel
theorem dMe_read_45 : decode cMe_read 45 = .ok (.iadd, 1) := by decide +kernel
theorem dMe_read_46 : decode cMe_read 46 = .ok (.baload, 1) := by decide +kernel
theorem dMe_read_47 : decode cMe_read 47 = .ok (.sipush 255, 3) := by decide +kernel
theorem dMe_read_50 : decode cMe_read 50 = .ok (.iand, 1) := by decide +kernel
theorem dMe_read_51 : decode cMe_read 51 = .ok (.i2l, 1) := by decide +kernel
theorem dMe_read_52 : decode cMe_read 52 = .ok (.lor, 1) := by decide +kernel
theorem dMe_read_53 : decode cMe_read 53 = .ok (.lstore 5, 2) := by decide +kernel
theorem dMe_read_55 : decode cMe_read 55 = .ok (.iinc 7 (-1), 3) := by decide +kernel
theorem dMe_read_58 : decode cMe_read 58 = .ok (.goto (-31), 3) := by decide +kernel
theorem dMe_read_61 : decode cMe_read 61 = .ok (.lload 5, 2) := by decide +kernel
theorem dMe_read_63 : decode cMe_read 63 = .ok (.lreturn, 1) := by decide +kernel
theorem dMe_write_0 : decode cMe_write 0 = .ok (.aload_n 0, 1) := by decide +kernel
theorem dMe_write_1 : decode cMe_write 1 = .ok (.lload_n 1, 1) := by decide +kernel
theorem dMe_write_2 : decode cMe_write 2 = .ok (.iload_n 3, 1) := by decide +kernel
theorem dMe_write_3 : decode cMe_write 3 = .ok (.invokevirtual 15, 3) := by decide +kernel
theorem dMe_write_6 : decode cMe_write 6 = .ok (.ifCond .ne 4, 3) := by decide +kernel
theorem dMe_write_9 : decode cMe_write 9 = .ok (.return_, 1) := by decide +kernel
theorem dMe_write_10 : decode cMe_write 10 = .ok (.lload_n 1, 1) := by decide +kernel
theorem dMe_write_11 : decode cMe_write 11 = .ok (.ldc2_w 13, 3) := by decide +kernel
theorem dMe_write_14 : decode cMe_write 14 = .ok (.lsub, 1) := by decide +kernel
theorem dMe_write_15 : decode cMe_write 15 = .ok (.l2i, 1) := by decide +kernel
theorem dMe_write_16 : decode cMe_write 16 = .ok (.istore 6, 2) := by decide +kernel
theorem dMe_write_18 : decode cMe_write 18 = .ok (.iconst 0, 1) := by decide +kernel
theorem dMe_write_19 : decode cMe_write 19 = .ok (.istore 7, 2) := by decide +kernel
theorem dMe_write_21 : decode cMe_write 21 = .ok (.iload 7, 2) := by decide +kernel
theorem dMe_write_23 : decode cMe_write 23 = .ok (.iload_n 3, 1) := by decide +kernel
theorem dMe_write_24 : decode cMe_write 24 = .ok (.if_icmp .ge 29, 3) := by decide +kernel
theorem dMe_write_27 : decode cMe_write 27 = .ok (.aload_n 0, 1) := by decide +kernel
theorem dMe_write_28 : decode cMe_write 28 = .ok (.getfield 9, 3) := by decide +kernel
theorem dMe_write_31 : decode cMe_write 31 = .ok (.iload 6, 2) := by decide +kernel
theorem dMe_write_33 : decode cMe_write 33 = .ok (.iload 7, 2) := by decide +kernel
theorem dMe_write_35 : decode cMe_write 35 = .ok (.iadd, 1) := by decide +kernel
theorem dMe_write_36 : decode cMe_write 36 = .ok (.lload 4, 2) := by decide +kernel
theorem dMe_write_38 : decode cMe_write 38 = .ok (.bipush 8, 2) := by decide +kernel
theorem dMe_write_40 : decode cMe_write 40 = .ok (.iload 7, 2) := by decide +kernel
theorem dMe_write_42 : decode cMe_write 42 = .ok (.imul, 1) := by decide +kernel
theorem dMe_write_43 : decode cMe_write 43 = .ok (.lshr, 1) := by decide +kernel
theorem dMe_write_44 : decode cMe_write 44 = .ok (.l2i, 1) := by decide +kernel
theorem dMe_write_45 : decode cMe_write 45 = .ok (.i2b, 1) := by decide +kernel
theorem dMe_write_46 : decode cMe_write 46 = .ok (.bastore, 1) := by decide +kernel
theorem dMe_write_47 : decode cMe_write 47 = .ok (.iinc 7 1, 3) := by decide +kernel
theorem dMe_write_50 : decode cMe_write 50 = .ok (.goto (-29), 3) := by decide +kernel
theorem dMe_write_53 : decode cMe_write 53 = .ok (.return_, 1) := by decide +kernel
end
section
theorem dPr_init_0 : decode cPr_init 0 = .ok (.aload_n 0, 1) := by decide +kernel
theorem dPr_init_1 : decode cPr_init 1 = .ok (.invokespecial 1, 3) := by decide +kernel
theorem dPr_init_4 : decode cPr_init 4 = .ok (.aload_n 0, 1) := by decide +kernel
theorem dPr_init_5 : decode cPr_init 5 = .ok (.bipush 64, 2) := by decide +kernel
theorem dPr_init_7 : decode cPr_init 7 = .ok (.newarray .long, 2) := by decide +kernel
theorem dPr_init_9 : decode cPr_init 9 = .ok (.putfield 7, 3) := by decide +kernel
theorem dPr_init_12 : decode cPr_init 12 = .ok (.aload_n 0, 1) := by decide +kernel
theorem dPr_init_13 : decode cPr_init 13 = .ok (.iconst 0, 1) := by decide +kernel
theorem dPr_init_14 : decode cPr_init 14 = .ok (.putfield 13, 3) := by decide +kernel
theorem dPr_init_17 : decode cPr_init 17 = .ok (.return_, 1) := by decide +kernel
theorem dPr_takeFrom_0 : decode cPr_takeFrom 0 = .ok (.aload_n 0, 1) := by decide +kernel
theorem dPr_takeFrom_1 : decode cPr_takeFrom 1 = .ok (.aload_n 1, 1) := by decide +kernel
theorem dPr_takeFrom_2 : decode cPr_takeFrom 2 = .ok (.getfield 17, 3) := by decide +kernel
theorem dPr_takeFrom_5 : decode cPr_takeFrom 5 = .ok (.bipush 8, 2) := by decide +kernel
theorem dPr_takeFrom_7 : decode cPr_takeFrom 7 = .ok (.idiv, 1) := by decide +kernel
theorem dPr_takeFrom_8 : decode cPr_takeFrom 8 = .ok (.putfield 13, 3) := by decide +kernel
theorem dPr_takeFrom_11 : decode cPr_takeFrom 11 = .ok (.aload_n 0, 1) := by decide +kernel
theorem dPr_takeFrom_12 : decode cPr_takeFrom 12 = .ok (.getfield 13, 3) := by decide +kernel
theorem dPr_takeFrom_15 : decode cPr_takeFrom 15 = .ok (.aload_n 0, 1) := by decide +kernel
theorem dPr_takeFrom_16 : decode cPr_takeFrom 16 = .ok (.getfield 7, 3) := by decide +kernel
theorem dPr_takeFrom_19 : decode cPr_takeFrom 19 = .ok (.arraylength, 1) := by decide +kernel
theorem dPr_takeFrom_20 : decode cPr_takeFrom 20 = .ok (.if_icmp .le 23, 3) := by decide +kernel
theorem dPr_takeFrom_23 : decode cPr_takeFrom 23 = .ok (.aload_n 0, 1) := by decide +kernel
theorem dPr_takeFrom_24 : decode cPr_takeFrom 24 = .ok (.aload_n 0, 1) := by decide +kernel
theorem dPr_takeFrom_25 : decode cPr_takeFrom 25 = .ok (.getfield 13, 3) := by decide +kernel
theorem dPr_takeFrom_28 : decode cPr_takeFrom 28 = .ok (.iconst 2, 1) := by decide +kernel
theorem dPr_takeFrom_29 : decode cPr_takeFrom 29 = .ok (.aload_n 0, 1) := by decide +kernel
theorem dPr_takeFrom_30 : decode cPr_takeFrom 30 = .ok (.getfield 7, 3) := by decide +kernel
theorem dPr_takeFrom_33 : decode cPr_takeFrom 33 = .ok (.arraylength, 1) := by decide +kernel
theorem dPr_takeFrom_34 : decode cPr_takeFrom 34 = .ok (.imul, 1) := by decide +kernel
theorem dPr_takeFrom_35 : decode cPr_takeFrom 35 = .ok (.invokestatic 22, 3) := by decide +kernel
theorem dPr_takeFrom_38 : decode cPr_takeFrom 38 = .ok (.newarray .long, 2) := by decide +kernel
theorem dPr_takeFrom_40 : decode cPr_takeFrom 40 = .ok (.putfield 7, 3) := by decide +kernel
theorem dPr_takeFrom_43 : decode cPr_takeFrom 43 = .ok (.iconst 0, 1) := by decide +kernel
theorem dPr_takeFrom_44 : decode cPr_takeFrom 44 = .ok (.istore_n 2, 1) := by decide +kernel
theorem dPr_takeFrom_45 : decode cPr_takeFrom 45 = .ok (.iload_n 2, 1) := by decide +kernel
theorem dPr_takeFrom_46 : decode cPr_takeFrom 46 = .ok (.aload_n 0, 1) := by decide +kernel
theorem dPr_takeFrom_47 : decode cPr_takeFrom 47 = .ok (.getfield 13, 3) := by decide +kernel
theorem dPr_takeFrom_50 : decode cPr_takeFrom 50 = .ok (.if_icmp .ge 20, 3) := by decide +kernel
theorem dPr_takeFrom_53 : decode cPr_takeFrom 53 = .ok (.aload_n 0, 1) := by decide +kernel
theorem dPr_takeFrom_54 : decode cPr_takeFrom 54 = .ok (.getfield 7, 3) := by decide +kernel
theorem dPr_takeFrom_57 : decode cPr_takeFrom 57 = .ok (.iload_n 2, 1) := by decide +kernel
theorem dPr_takeFrom_58 : decode cPr_takeFrom 58 = .ok (.aload_n 1, 1) := by decide +kernel
theorem dPr_takeFrom_59 : decode cPr_takeFrom 59 = .ok (.iload_n 2, 1) := by decide +kernel
theorem dPr_takeFrom_60 : decode cPr_takeFrom 60 = .ok (.invokevirtual 28, 3) := by decide +kernel
theorem dPr_takeFrom_63 : decode cPr_takeFrom 63 = .ok (.lastore, 1) := by decide +kernel
theorem dPr_takeFrom_64 : decode cPr_takeFrom 64 = .ok (.iinc 2 1, 3) := by decide +kernel
theorem dPr_takeFrom_67 : decode cPr_takeFrom 67 = .ok (.goto (-22), 3) := by decide +kernel
theorem dPr_takeFrom_70 : decode cPr_takeFrom 70 = .ok (.return_, 1) := by decide +kernel
theorem dPr_has_0 : decode cPr_has 0 = .ok (.lload_n 1, 1) := by decide +kernel
theorem dPr_has_1 : decode cPr_has 1 = .ok (.lconst 0, 1) := by decide +kernel
theorem dPr_has_2 : decode cPr_has 2 = .ok (.lcmp, 1) := by decide +kernel
theorem dPr_has_3 : decode cPr_has 3 = .ok (.ifCond .lt 17, 3) := by decide +kernel
theorem dPr_has_6 : decode cPr_has 6 = .ok (.lload_n 1, 1) := by decide +kernel
theorem dPr_has_7 : decode cPr_has 7 = .ok (.aload_n 0, 1) := by decide +kernel
theorem dPr_has_8 : decode cPr_has 8 = .ok (.getfield 13, 3) := by decide +kernel
theorem dPr_has_11 : decode cPr_has 11 = .ok (.i2l, 1) := by decide +kernel
theorem dPr_has_12 : decode cPr_has 12 = .ok (.lcmp, 1) := by decide +kernel
theorem dPr_has_13 : decode cPr_has 13 = .ok (.ifCond .ge 7, 3) := by decide +kernel
theorem dPr_has_16 : decode cPr_has 16 = .ok (.iconst 1, 1) := by decide +kernel
theorem dPr_has_17 : decode cPr_has 17 = .ok (.goto 4, 3) := by decide +kernel
theorem dPr_has_20 : decode cPr_has 20 = .ok (.iconst 0, 1) := by decide +kernel
theorem dPr_has_21 : decode cPr_has 21 = .ok (.ireturn, 1) := by decide +kernel
theorem dPr_at_0 : decode cPr_at 0 = .ok (.aload_n 0, 1) := by decide +kernel
theorem dPr_at_1 : decode cPr_at 1 = .ok (.iload_n 1, 1) := by decide +kernel
theorem dPr_at_2 : decode cPr_at 2 = .ok (.i2l, 1) := by decide +kernel
theorem dPr_at_3 : decode cPr_at 3 = .ok (.invokevirtual 32, 3) := by decide +kernel
theorem dPr_at_6 : decode cPr_at 6 = .ok (.ifCond .eq 12, 3) := by decide +kernel
theorem dPr_at_9 : decode cPr_at 9 = .ok (.aload_n 0, 1) := by decide +kernel
theorem dPr_at_10 : decode cPr_at 10 = .ok (.getfield 7, 3) := by decide +kernel
theorem dPr_at_13 : decode cPr_at 13 = .ok (.iload_n 1, 1) := by decide +kernel
theorem dPr_at_14 : decode cPr_at 14 = .ok (.laload, 1) := by decide +kernel
theorem dPr_at_15 : decode cPr_at 15 = .ok (.goto 4, 3) := by decide +kernel
theorem dPr_at_18 : decode cPr_at 18 = .ok (.lconst 0, 1) := by decide +kernel
theorem dPr_at_19 : decode cPr_at 19 = .ok (.lreturn, 1) := by decide +kernel
end
section
theorem dTa_init_0 : decode cTa_init 0 = .ok (.aload_n 0, 1) := by decide +kernel
theorem dTa_init_1 : decode cTa_init 1 = .ok (.invokespecial 1, 3) := by decide +kernel
theorem dTa_init_4 : decode cTa_init 4 = .ok (.aload_n 0, 1) := by decide +kernel
theorem dTa_init_5 : decode cTa_init 5 = .ok (.sipush 512, 3) := by decide +kernel
theorem dTa_init_8 : decode cTa_init 8 = .ok (.newarray .byte, 2) := by decide +kernel
theorem dTa_init_10 : decode cTa_init 10 = .ok (.putfield 7, 3) := by decide +kernel
theorem dTa_init_13 : decode cTa_init 13 = .ok (.aload_n 0, 1) := by decide +kernel
theorem dTa_init_14 : decode cTa_init 14 = .ok (.iconst 0, 1) := by decide +kernel
theorem dTa_init_15 : decode cTa_init 15 = .ok (.putfield 13, 3) := by decide +kernel
theorem dTa_init_18 : decode cTa_init 18 = .ok (.return_, 1) := by decide +kernel
theorem dTa_hasRoom_0 : decode cTa_hasRoom 0 = .ok (.aload_n 0, 1) := by decide +kernel
theorem dTa_hasRoom_1 : decode cTa_hasRoom 1 = .ok (.getfield 13, 3) := by decide +kernel
theorem dTa_hasRoom_4 : decode cTa_hasRoom 4 = .ok (.bipush 20, 2) := by decide +kernel
theorem dTa_hasRoom_6 : decode cTa_hasRoom 6 = .ok (.iadd, 1) := by decide +kernel
theorem dTa_hasRoom_7 : decode cTa_hasRoom 7 = .ok (.ldc 17, 2) := by decide +kernel
theorem dTa_hasRoom_9 : decode cTa_hasRoom 9 = .ok (.if_icmp .gt 7, 3) := by decide +kernel
theorem dTa_hasRoom_12 : decode cTa_hasRoom 12 = .ok (.iconst 1, 1) := by decide +kernel
theorem dTa_hasRoom_13 : decode cTa_hasRoom 13 = .ok (.goto 4, 3) := by decide +kernel
theorem dTa_hasRoom_16 : decode cTa_hasRoom 16 = .ok (.iconst 0, 1) := by decide +kernel
theorem dTa_hasRoom_17 : decode cTa_hasRoom 17 = .ok (.ireturn, 1) := by decide +kernel
theorem dTa_makeRoom_0 : decode cTa_makeRoom 0 = .ok (.aload_n 0, 1) := by decide +kernel
theorem dTa_makeRoom_1 : decode cTa_makeRoom 1 = .ok (.getfield 13, 3) := by decide +kernel
theorem dTa_makeRoom_4 : decode cTa_makeRoom 4 = .ok (.bipush 20, 2) := by decide +kernel
theorem dTa_makeRoom_6 : decode cTa_makeRoom 6 = .ok (.iadd, 1) := by decide +kernel
theorem dTa_makeRoom_7 : decode cTa_makeRoom 7 = .ok (.aload_n 0, 1) := by decide +kernel
theorem dTa_makeRoom_8 : decode cTa_makeRoom 8 = .ok (.getfield 7, 3) := by decide +kernel
theorem dTa_makeRoom_11 : decode cTa_makeRoom 11 = .ok (.arraylength, 1) := by decide +kernel
theorem dTa_makeRoom_12 : decode cTa_makeRoom 12 = .ok (.if_icmp .le 26, 3) := by decide +kernel
theorem dTa_makeRoom_15 : decode cTa_makeRoom 15 = .ok (.aload_n 0, 1) := by decide +kernel
theorem dTa_makeRoom_16 : decode cTa_makeRoom 16 = .ok (.aload_n 0, 1) := by decide +kernel
theorem dTa_makeRoom_17 : decode cTa_makeRoom 17 = .ok (.getfield 7, 3) := by decide +kernel
theorem dTa_makeRoom_20 : decode cTa_makeRoom 20 = .ok (.ldc 17, 2) := by decide +kernel
theorem dTa_makeRoom_22 : decode cTa_makeRoom 22 = .ok (.iconst 2, 1) := by decide +kernel
theorem dTa_makeRoom_23 : decode cTa_makeRoom 23 = .ok (.aload_n 0, 1) := by decide +kernel
theorem dTa_makeRoom_24 : decode cTa_makeRoom 24 = .ok (.getfield 7, 3) := by decide +kernel
theorem dTa_makeRoom_27 : decode cTa_makeRoom 27 = .ok (.arraylength, 1) := by decide +kernel
theorem dTa_makeRoom_28 : decode cTa_makeRoom 28 = .ok (.imul, 1) := by decide +kernel
theorem dTa_makeRoom_29 : decode cTa_makeRoom 29 = .ok (.invokestatic 18, 3) := by decide +kernel
theorem dTa_makeRoom_32 : decode cTa_makeRoom 32 = .ok (.invokestatic 24, 3) := by decide +kernel
theorem dTa_makeRoom_35 : decode cTa_makeRoom 35 = .ok (.putfield 7, 3) := by decide +kernel
theorem dTa_makeRoom_38 : decode cTa_makeRoom 38 = .ok (.return_, 1) := by decide +kernel
theorem dTa_type_0 : decode cTa_type 0 = .ok (.aload_n 0, 1) := by decide +kernel
theorem dTa_type_1 : decode cTa_type 1 = .ok (.getfield 13, 3) := by decide +kernel
theorem dTa_type_4 : decode cTa_type 4 = .ok (.iconst 4, 1) := by decide +kernel
theorem dTa_type_5 : decode cTa_type 5 = .ok (.iadd, 1) := by decide +kernel
theorem dTa_type_6 : decode cTa_type 6 = .ok (.aload_n 0, 1) := by decide +kernel
theorem dTa_type_7 : decode cTa_type 7 = .ok (.getfield 7, 3) := by decide +kernel
theorem dTa_type_10 : decode cTa_type 10 = .ok (.arraylength, 1) := by decide +kernel
theorem dTa_type_11 : decode cTa_type 11 = .ok (.if_icmp .le 4, 3) := by decide +kernel
theorem dTa_type_14 : decode cTa_type 14 = .ok (.return_, 1) := by decide +kernel
theorem dTa_type_15 : decode cTa_type 15 = .ok (.aload_n 0, 1) := by decide +kernel
theorem dTa_type_16 : decode cTa_type 16 = .ok (.getfield 7, 3) := by decide +kernel
theorem dTa_type_19 : decode cTa_type 19 = .ok (.aload_n 0, 1) := by decide +kernel
theorem dTa_type_20 : decode cTa_type 20 = .ok (.getfield 13, 3) := by decide +kernel
theorem dTa_type_23 : decode cTa_type 23 = .ok (.iload_n 1, 1) := by decide +kernel
theorem dTa_type_24 : decode cTa_type 24 = .ok (.bipush 24, 2) := by decide +kernel
theorem dTa_type_26 : decode cTa_type 26 = .ok (.ishr, 1) := by decide +kernel
theorem dTa_type_27 : decode cTa_type 27 = .ok (.i2b, 1) := by decide +kernel
theorem dTa_type_28 : decode cTa_type 28 = .ok (.bastore, 1) := by decide +kernel
theorem dTa_type_29 : decode cTa_type 29 = .ok (.aload_n 0, 1) := by decide +kernel
theorem dTa_type_30 : decode cTa_type 30 = .ok (.getfield 7, 3) := by decide +kernel
theorem dTa_type_33 : decode cTa_type 33 = .ok (.aload_n 0, 1) := by decide +kernel
theorem dTa_type_34 : decode cTa_type 34 = .ok (.getfield 13, 3) := by decide +kernel
theorem dTa_type_37 : decode cTa_type 37 = .ok (.iconst 1, 1) := by decide +kernel
theorem dTa_type_38 : decode cTa_type 38 = .ok (.iadd, 1) := by decide +kernel
theorem dTa_type_39 : decode cTa_type 39 = .ok (.iload_n 1, 1) := by decide +kernel
theorem dTa_type_40 : decode cTa_type 40 = .ok (.bipush 16, 2) := by decide +kernel
theorem dTa_type_42 : decode cTa_type 42 = .ok (.ishr, 1) := by decide +kernel
theorem dTa_type_43 : decode cTa_type 43 = .ok (.i2b, 1) := by decide +kernel
theorem dTa_type_44 : decode cTa_type 44 = .ok (.bastore, 1) := by decide +kernel
theorem dTa_type_45 : decode cTa_type 45 = .ok (.aload_n 0, 1) := by decide +kernel
theorem dTa_type_46 : decode cTa_type 46 = .ok (.getfield 7, 3) := by decide +kernel
theorem dTa_type_49 : decode cTa_type 49 = .ok (.aload_n 0, 1) := by decide +kernel
theorem dTa_type_50 : decode cTa_type 50 = .ok (.getfield 13, 3) := by decide +kernel
theorem dTa_type_53 : decode cTa_type 53 = .ok (.iconst 2, 1) := by decide +kernel
theorem dTa_type_54 : decode cTa_type 54 = .ok (.iadd, 1) := by decide +kernel
theorem dTa_type_55 : decode cTa_type 55 = .ok (.iload_n 1, 1) := by decide +kernel
theorem dTa_type_56 : decode cTa_type 56 = .ok (.bipush 8, 2) := by decide +kernel
theorem dTa_type_58 : decode cTa_type 58 = .ok (.ishr, 1) := by decide +kernel
theorem dTa_type_59 : decode cTa_type 59 = .ok (.i2b, 1) := by decide +kernel
theorem dTa_type_60 : decode cTa_type 60 = .ok (.bastore, 1) := by decide +kernel
theorem dTa_type_61 : decode cTa_type 61 = .ok (.aload_n 0, 1) := by decide +kernel
theorem dTa_type_62 : decode cTa_type 62 = .ok (.getfield 7, 3) := by decide +kernel
theorem dTa_type_65 : decode cTa_type 65 = .ok (.aload_n 0, 1) := by decide +kernel
theorem dTa_type_66 : decode cTa_type 66 = .ok (.getfield 13, 3) := by decide +kernel
theorem dTa_type_69 : decode cTa_type 69 = .ok (.iconst 3, 1) := by decide +kernel
theorem dTa_type_70 : decode cTa_type 70 = .ok (.iadd, 1) := by decide +kernel
theorem dTa_type_71 : decode cTa_type 71 = .ok (.iload_n 1, 1) := by decide +kernel
theorem dTa_type_72 : decode cTa_type 72 = .ok (.i2b, 1) := by decide +kernel
theorem dTa_type_73 : decode cTa_type 73 = .ok (.bastore, 1) := by decide +kernel
theorem dTa_type_74 : decode cTa_type 74 = .ok (.aload_n 0, 1) := by decide +kernel
theorem dTa_type_75 : decode cTa_type 75 = .ok (.dup, 1) := by decide +kernel
theorem dTa_type_76 : decode cTa_type 76 = .ok (.getfield 13, 3) := by decide +kernel
theorem dTa_type_79 : decode cTa_type 79 = .ok (.iconst 4, 1) := by decide +kernel
theorem dTa_type_80 : decode cTa_type 80 = .ok (.iadd, 1) := by decide +kernel
theorem dTa_type_81 : decode cTa_type 81 = .ok (.putfield 13, 3) := by decide +kernel
theorem dTa_type_84 : decode cTa_type 84 = .ok (.return_, 1) := by decide +kernel
theorem dTa_placeAt_0 : decode cTa_placeAt 0 = .ok (.iload_n 1, 1) := by decide +kernel
theorem dTa_placeAt_1 : decode cTa_placeAt 1 = .ok (.bipush 8, 2) := by decide +kernel
theorem dTa_placeAt_3 : decode cTa_placeAt 3 = .ok (.imul, 1) := by decide +kernel
theorem dTa_placeAt_4 : decode cTa_placeAt 4 = .ok (.istore_n 2, 1) := by decide +kernel
theorem dTa_placeAt_5 : decode cTa_placeAt 5 = .ok (.iload_n 1, 1) := by decide +kernel
theorem dTa_placeAt_6 : decode cTa_placeAt 6 = .ok (.ifCond .lt 14, 3) := by decide +kernel
theorem dTa_placeAt_9 : decode cTa_placeAt 9 = .ok (.iload_n 2, 1) := by decide +kernel
theorem dTa_placeAt_10 : decode cTa_placeAt 10 = .ok (.bipush 8, 2) := by decide +kernel
theorem dTa_placeAt_12 : decode cTa_placeAt 12 = .ok (.iadd, 1) := by decide +kernel
theorem dTa_placeAt_13 : decode cTa_placeAt 13 = .ok (.aload_n 0, 1) := by decide +kernel
theorem dTa_placeAt_14 : decode cTa_placeAt 14 = .ok (.getfield 13, 3) := by decide +kernel
theorem dTa_placeAt_17 : decode cTa_placeAt 17 = .ok (.if_icmp .le 5, 3) := by decide +kernel
theorem dTa_placeAt_20 : decode cTa_placeAt 20 = .ok (.lconst 0, 1) := by decide +kernel
theorem dTa_placeAt_21 : decode cTa_placeAt 21 = .ok (.lreturn, 1) := by decide +kernel
theorem dTa_placeAt_22 : decode cTa_placeAt 22 = .ok (.lconst 0, 1) := by decide +kernel
theorem dTa_placeAt_23 : decode cTa_placeAt 23 = .ok (.lstore_n 3, 1) := by decide +kernel
theorem dTa_placeAt_24 : decode cTa_placeAt 24 = .ok (.bipush 7, 2) := by decide +kernel
theorem dTa_placeAt_26 : decode cTa_placeAt 26 = .ok (.istore 5, 2) := by decide +kernel
theorem dTa_placeAt_28 : decode cTa_placeAt 28 = .ok (.iload 5, 2) := by decide +kernel
theorem dTa_placeAt_30 : decode cTa_placeAt 30 = .ok (.ifCond .lt 29, 3) := by decide +kernel
theorem dTa_placeAt_33 : decode cTa_placeAt 33 = .ok (.lload_n 3, 1) := by decide +kernel
theorem dTa_placeAt_34 : decode cTa_placeAt 34 = .ok (.bipush 8, 2) := by decide +kernel
theorem dTa_placeAt_36 : decode cTa_placeAt 36 = .ok (.lshl, 1) := by decide +kernel
theorem dTa_placeAt_37 : decode cTa_placeAt 37 = .ok (.aload_n 0, 1) := by decide +kernel
theorem dTa_placeAt_38 : decode cTa_placeAt 38 = .ok (.getfield 7, 3) := by decide +kernel
theorem dTa_placeAt_41 : decode cTa_placeAt 41 = .ok (.iload_n 2, 1) := by decide +kernel
theorem dTa_placeAt_42 : decode cTa_placeAt 42 = .ok (.iload 5, 2) := by decide +kernel
theorem dTa_placeAt_44 : decode cTa_placeAt 44 = .ok (.iadd, 1) := by decide +kernel
theorem dTa_placeAt_45 : decode cTa_placeAt 45 = .ok (.baload, 1) := by decide +kernel
theorem dTa_placeAt_46 : decode cTa_placeAt 46 = .ok (.sipush 255, 3) := by decide +kernel
theorem dTa_placeAt_49 : decode cTa_placeAt 49 = .ok (.iand, 1) := by decide +kernel
theorem dTa_placeAt_50 : decode cTa_placeAt 50 = .ok (.i2l, 1) := by decide +kernel
theorem dTa_placeAt_51 : decode cTa_placeAt 51 = .ok (.lor, 1) := by decide +kernel
theorem dTa_placeAt_52 : decode cTa_placeAt 52 = .ok (.lstore_n 3, 1) := by decide +kernel
theorem dTa_placeAt_53 : decode cTa_placeAt 53 = .ok (.iinc 5 (-1), 3) := by decide +kernel
theorem dTa_placeAt_56 : decode cTa_placeAt 56 = .ok (.goto (-28), 3) := by decide +kernel
theorem dTa_placeAt_59 : decode cTa_placeAt 59 = .ok (.lload_n 3, 1) := by decide +kernel
theorem dTa_placeAt_60 : decode cTa_placeAt 60 = .ok (.lreturn, 1) := by decide +kernel
end
section
theorem dMo_init_0 : decode cMo_init 0 = .ok (.aload_n 0, 1) := by decide +kernel
theorem dMo_init_1 : decode cMo_init 1 = .ok (.invokespecial 1, 3) := by decide +kernel
theorem dMo_init_4 : decode cMo_init 4 = .ok (.aload_n 0, 1) := by decide +kernel
theorem dMo_init_5 : decode cMo_init 5 = .ok (.ldc 7, 2) := by decide +kernel
theorem dMo_init_7 : decode cMo_init 7 = .ok (.newarray .int, 2) := by decide +kernel
theorem dMo_init_9 : decode cMo_init 9 = .ok (.putfield 8, 3) := by decide +kernel
theorem dMo_init_12 : decode cMo_init 12 = .ok (.aload_n 0, 1) := by decide +kernel
theorem dMo_init_13 : decode cMo_init 13 = .ok (.ldc 7, 2) := by decide +kernel
theorem dMo_init_15 : decode cMo_init 15 = .ok (.newarray .int, 2) := by decide +kernel
theorem dMo_init_17 : decode cMo_init 17 = .ok (.putfield 14, 3) := by decide +kernel
theorem dMo_init_20 : decode cMo_init 20 = .ok (.aload_n 0, 1) := by decide +kernel
theorem dMo_init_21 : decode cMo_init 21 = .ok (.bipush 11, 2) := by decide +kernel
theorem dMo_init_23 : decode cMo_init 23 = .ok (.newarray .long, 2) := by decide +kernel
theorem dMo_init_25 : decode cMo_init 25 = .ok (.putfield 17, 3) := by decide +kernel
theorem dMo_init_28 : decode cMo_init 28 = .ok (.aload_n 0, 1) := by decide +kernel
theorem dMo_init_29 : decode cMo_init 29 = .ok (.sipush 4096, 3) := by decide +kernel
theorem dMo_init_32 : decode cMo_init 32 = .ok (.newarray .int, 2) := by decide +kernel
theorem dMo_init_34 : decode cMo_init 34 = .ok (.putfield 21, 3) := by decide +kernel
theorem dMo_init_37 : decode cMo_init 37 = .ok (.aload_n 0, 1) := by decide +kernel
theorem dMo_init_38 : decode cMo_init 38 = .ok (.iconst (-1), 1) := by decide +kernel
theorem dMo_init_39 : decode cMo_init 39 = .ok (.putfield 24, 3) := by decide +kernel
theorem dMo_init_42 : decode cMo_init 42 = .ok (.return_, 1) := by decide +kernel
theorem dMo_thrown_0 : decode cMo_thrown 0 = .ok (.aload_n 0, 1) := by decide +kernel
theorem dMo_thrown_1 : decode cMo_thrown 1 = .ok (.getfield 28, 3) := by decide +kernel
theorem dMo_thrown_4 : decode cMo_thrown 4 = .ok (.ireturn, 1) := by decide +kernel
theorem dMo_feed_0 : decode cMo_feed 0 = .ok (.aload_n 0, 1) := by decide +kernel
theorem dMo_feed_1 : decode cMo_feed 1 = .ok (.aload_n 0, 1) := by decide +kernel
theorem dMo_feed_2 : decode cMo_feed 2 = .ok (.getfield 31, 3) := by decide +kernel
theorem dMo_feed_5 : decode cMo_feed 5 = .ok (.bipush 20, 2) := by decide +kernel
theorem dMo_feed_7 : decode cMo_feed 7 = .ok (.iadd, 1) := by decide +kernel
theorem dMo_feed_8 : decode cMo_feed 8 = .ok (.ldc 7, 2) := by decide +kernel
theorem dMo_feed_10 : decode cMo_feed 10 = .ok (.if_icmp .le 7, 3) := by decide +kernel
theorem dMo_feed_13 : decode cMo_feed 13 = .ok (.iconst 1, 1) := by decide +kernel
theorem dMo_feed_14 : decode cMo_feed 14 = .ok (.goto 4, 3) := by decide +kernel
theorem dMo_feed_17 : decode cMo_feed 17 = .ok (.iconst 0, 1) := by decide +kernel
theorem dMo_feed_18 : decode cMo_feed 18 = .ok (.putfield 28, 3) := by decide +kernel
theorem dMo_feed_21 : decode cMo_feed 21 = .ok (.aload_n 0, 1) := by decide +kernel
theorem dMo_feed_22 : decode cMo_feed 22 = .ok (.getfield 28, 3) := by decide +kernel
theorem dMo_feed_25 : decode cMo_feed 25 = .ok (.ifCond .le 5, 3) := by decide +kernel
theorem dMo_feed_28 : decode cMo_feed 28 = .ok (.iconst 0, 1) := by decide +kernel
theorem dMo_feed_29 : decode cMo_feed 29 = .ok (.ireturn, 1) := by decide +kernel
theorem dMo_feed_30 : decode cMo_feed 30 = .ok (.iconst 0, 1) := by decide +kernel
theorem dMo_feed_31 : decode cMo_feed 31 = .ok (.istore 6, 2) := by decide +kernel
theorem dMo_feed_33 : decode cMo_feed 33 = .ok (.iload 6, 2) := by decide +kernel
theorem dMo_feed_35 : decode cMo_feed 35 = .ok (.bipush 20, 2) := by decide +kernel
theorem dMo_feed_37 : decode cMo_feed 37 = .ok (.if_icmp .ge 93, 3) := by decide +kernel
theorem dMo_feed_40 : decode cMo_feed 40 = .ok (.iload 6, 2) := by decide +kernel
theorem dMo_feed_42 : decode cMo_feed 42 = .ok (.iconst 4, 1) := by decide +kernel
theorem dMo_feed_43 : decode cMo_feed 43 = .ok (.if_icmp .ge 7, 3) := by decide +kernel
theorem dMo_feed_46 : decode cMo_feed 46 = .ok (.iload_n 1, 1) := by decide +kernel
theorem dMo_feed_47 : decode cMo_feed 47 = .ok (.goto 39, 3) := by decide +kernel
theorem dMo_feed_50 : decode cMo_feed 50 = .ok (.iload 6, 2) := by decide +kernel
theorem dMo_feed_52 : decode cMo_feed 52 = .ok (.bipush 8, 2) := by decide +kernel
theorem dMo_feed_54 : decode cMo_feed 54 = .ok (.if_icmp .ge 7, 3) := by decide +kernel
theorem dMo_feed_57 : decode cMo_feed 57 = .ok (.iload_n 2, 1) := by decide +kernel
theorem dMo_feed_58 : decode cMo_feed 58 = .ok (.goto 28, 3) := by decide +kernel
theorem dMo_feed_61 : decode cMo_feed 61 = .ok (.iload 6, 2) := by decide +kernel
theorem dMo_feed_63 : decode cMo_feed 63 = .ok (.bipush 12, 2) := by decide +kernel
theorem dMo_feed_65 : decode cMo_feed 65 = .ok (.if_icmp .ge 7, 3) := by decide +kernel
theorem dMo_feed_68 : decode cMo_feed 68 = .ok (.iload_n 3, 1) := by decide +kernel
theorem dMo_feed_69 : decode cMo_feed 69 = .ok (.goto 17, 3) := by decide +kernel
theorem dMo_feed_72 : decode cMo_feed 72 = .ok (.iload 6, 2) := by decide +kernel
theorem dMo_feed_74 : decode cMo_feed 74 = .ok (.bipush 16, 2) := by decide +kernel
theorem dMo_feed_76 : decode cMo_feed 76 = .ok (.if_icmp .ge 8, 3) := by decide +kernel
theorem dMo_feed_79 : decode cMo_feed 79 = .ok (.iload 4, 2) := by decide +kernel
theorem dMo_feed_81 : decode cMo_feed 81 = .ok (.goto 5, 3) := by decide +kernel
theorem dMo_feed_84 : decode cMo_feed 84 = .ok (.iload 5, 2) := by decide +kernel
theorem dMo_feed_86 : decode cMo_feed 86 = .ok (.istore 7, 2) := by decide +kernel
theorem dMo_feed_88 : decode cMo_feed 88 = .ok (.aload_n 0, 1) := by decide +kernel
theorem dMo_feed_89 : decode cMo_feed 89 = .ok (.getfield 8, 3) := by decide +kernel
theorem dMo_feed_92 : decode cMo_feed 92 = .ok (.aload_n 0, 1) := by decide +kernel
theorem dMo_feed_93 : decode cMo_feed 93 = .ok (.getfield 31, 3) := by decide +kernel
theorem dMo_feed_96 : decode cMo_feed 96 = .ok (.iload 7, 2) := by decide +kernel
theorem dMo_feed_98 : decode cMo_feed 98 = .ok (.bipush 24, 2) := by decide +kernel
theorem dMo_feed_100 : decode cMo_feed 100 = .ok (.bipush 8, 2) := by decide +kernel
theorem dMo_feed_102 : decode cMo_feed 102 = .ok (.iload 6, 2) := by decide +kernel
theorem dMo_feed_104 : decode cMo_feed 104 = .ok (.iconst 4, 1) := by decide +kernel
theorem dMo_feed_105 : decode cMo_feed 105 = .ok (.irem, 1) := by decide +kernel
theorem dMo_feed_106 : decode cMo_feed 106 = .ok (.imul, 1) := by decide +kernel
theorem dMo_feed_107 : decode cMo_feed 107 = .ok (.isub, 1) := by decide +kernel
theorem dMo_feed_108 : decode cMo_feed 108 = .ok (.ishr, 1) := by decide +kernel
theorem dMo_feed_109 : decode cMo_feed 109 = .ok (.sipush 255, 3) := by decide +kernel
theorem dMo_feed_112 : decode cMo_feed 112 = .ok (.iand, 1) := by decide +kernel
theorem dMo_feed_113 : decode cMo_feed 113 = .ok (.iastore, 1) := by decide +kernel
theorem dMo_feed_114 : decode cMo_feed 114 = .ok (.aload_n 0, 1) := by decide +kernel
theorem dMo_feed_115 : decode cMo_feed 115 = .ok (.dup, 1) := by decide +kernel
theorem dMo_feed_116 : decode cMo_feed 116 = .ok (.getfield 31, 3) := by decide +kernel
theorem dMo_feed_119 : decode cMo_feed 119 = .ok (.iconst 1, 1) := by decide +kernel
theorem dMo_feed_120 : decode cMo_feed 120 = .ok (.iadd, 1) := by decide +kernel
theorem dMo_feed_121 : decode cMo_feed 121 = .ok (.putfield 31, 3) := by decide +kernel
theorem dMo_feed_124 : decode cMo_feed 124 = .ok (.iinc 6 1, 3) := by decide +kernel
theorem dMo_feed_127 : decode cMo_feed 127 = .ok (.goto (-94), 3) := by decide +kernel
theorem dMo_feed_130 : decode cMo_feed 130 = .ok (.aload_n 0, 1) := by decide +kernel
theorem dMo_feed_131 : decode cMo_feed 131 = .ok (.getfield 31, 3) := by decide +kernel
theorem dMo_feed_134 : decode cMo_feed 134 = .ok (.ireturn, 1) := by decide +kernel
theorem dMo_end_0 : decode cMo_end 0 = .ok (.aload_n 0, 1) := by decide +kernel
theorem dMo_end_1 : decode cMo_end 1 = .ok (.iload_n 1, 1) := by decide +kernel
theorem dMo_end_2 : decode cMo_end 2 = .ok (.ifCond .lt 11, 3) := by decide +kernel
theorem dMo_end_5 : decode cMo_end 5 = .ok (.iload_n 1, 1) := by decide +kernel
theorem dMo_end_6 : decode cMo_end 6 = .ok (.aload_n 0, 1) := by decide +kernel
theorem dMo_end_7 : decode cMo_end 7 = .ok (.getfield 31, 3) := by decide +kernel
theorem dMo_end_10 : decode cMo_end 10 = .ok (.if_icmp .le 7, 3) := by decide +kernel
theorem dMo_end_13 : decode cMo_end 13 = .ok (.iconst 1, 1) := by decide +kernel
theorem dMo_end_14 : decode cMo_end 14 = .ok (.goto 4, 3) := by decide +kernel
theorem dMo_end_17 : decode cMo_end 17 = .ok (.iconst 0, 1) := by decide +kernel
theorem dMo_end_18 : decode cMo_end 18 = .ok (.putfield 28, 3) := by decide +kernel
theorem dMo_end_21 : decode cMo_end 21 = .ok (.aload_n 0, 1) := by decide +kernel
theorem dMo_end_22 : decode cMo_end 22 = .ok (.aload_n 0, 1) := by decide +kernel
theorem dMo_end_23 : decode cMo_end 23 = .ok (.getfield 28, 3) := by decide +kernel
theorem dMo_end_26 : decode cMo_end 26 = .ok (.ifCond .le 10, 3) := by decide +kernel
theorem dMo_end_29 : decode cMo_end 29 = .ok (.aload_n 0, 1) := by decide +kernel
theorem dMo_end_30 : decode cMo_end 30 = .ok (.getfield 31, 3) := by decide +kernel
theorem dMo_end_33 : decode cMo_end 33 = .ok (.goto 4, 3) := by decide +kernel
theorem dMo_end_36 : decode cMo_end 36 = .ok (.iload_n 1, 1) := by decide +kernel
theorem dMo_end_37 : decode cMo_end 37 = .ok (.putfield 31, 3) := by decide +kernel
theorem dMo_end_40 : decode cMo_end 40 = .ok (.return_, 1) := by decide +kernel
theorem dMo_number_0 : decode cMo_number 0 = .ok (.iconst 0, 1) := by decide +kernel
theorem dMo_number_1 : decode cMo_number 1 = .ok (.istore_n 3, 1) := by decide +kernel
theorem dMo_number_2 : decode cMo_number 2 = .ok (.iload_n 2, 1) := by decide +kernel
theorem dMo_number_3 : decode cMo_number 3 = .ok (.iconst 1, 1) := by decide +kernel
theorem dMo_number_4 : decode cMo_number 4 = .ok (.isub, 1) := by decide +kernel
theorem dMo_number_5 : decode cMo_number 5 = .ok (.istore 4, 2) := by decide +kernel
theorem dMo_number_7 : decode cMo_number 7 = .ok (.iload 4, 2) := by decide +kernel
theorem dMo_number_9 : decode cMo_number 9 = .ok (.ifCond .lt 21, 3) := by decide +kernel
theorem dMo_number_12 : decode cMo_number 12 = .ok (.iload_n 3, 1) := by decide +kernel
theorem dMo_number_13 : decode cMo_number 13 = .ok (.bipush 8, 2) := by decide +kernel
theorem dMo_number_15 : decode cMo_number 15 = .ok (.ishl, 1) := by decide +kernel
theorem dMo_number_16 : decode cMo_number 16 = .ok (.aload_n 0, 1) := by decide +kernel
theorem dMo_number_17 : decode cMo_number 17 = .ok (.iload_n 1, 1) := by decide +kernel
theorem dMo_number_18 : decode cMo_number 18 = .ok (.iload 4, 2) := by decide +kernel
theorem dMo_number_20 : decode cMo_number 20 = .ok (.iadd, 1) := by decide +kernel
theorem dMo_number_21 : decode cMo_number 21 = .ok (.iaload, 1) := by decide +kernel
theorem dMo_number_22 : decode cMo_number 22 = .ok (.ior, 1) := by decide +kernel
theorem dMo_number_23 : decode cMo_number 23 = .ok (.istore_n 3, 1) := by decide +kernel
theorem dMo_number_24 : decode cMo_number 24 = .ok (.iinc 4 (-1), 3) := by decide +kernel
theorem dMo_number_27 : decode cMo_number 27 = .ok (.goto (-20), 3) := by decide +kernel
theorem dMo_number_30 : decode cMo_number 30 = .ok (.iload_n 3, 1) := by decide +kernel
theorem dMo_number_31 : decode cMo_number 31 = .ok (.ireturn, 1) := by decide +kernel
theorem dMo_take_0 : decode cMo_take 0 = .ok (.aload_n 0, 1) := by decide +kernel
theorem dMo_take_1 : decode cMo_take 1 = .ok (.aload_n 1, 1) := by decide +kernel
theorem dMo_take_2 : decode cMo_take 2 = .ok (.bipush 8, 2) := by decide +kernel
theorem dMo_take_4 : decode cMo_take 4 = .ok (.iload_n 2, 1) := by decide +kernel
theorem dMo_take_5 : decode cMo_take 5 = .ok (.imul, 1) := by decide +kernel
theorem dMo_take_6 : decode cMo_take 6 = .ok (.iaload, 1) := by decide +kernel
theorem dMo_take_7 : decode cMo_take 7 = .ok (.putfield 34, 3) := by decide +kernel
theorem dMo_take_10 : decode cMo_take 10 = .ok (.aload_n 0, 1) := by decide +kernel
theorem dMo_take_11 : decode cMo_take 11 = .ok (.aload_n 1, 1) := by decide +kernel
theorem dMo_take_12 : decode cMo_take 12 = .ok (.bipush 8, 2) := by decide +kernel
theorem dMo_take_14 : decode cMo_take 14 = .ok (.iload_n 2, 1) := by decide +kernel
theorem dMo_take_15 : decode cMo_take 15 = .ok (.imul, 1) := by decide +kernel
theorem dMo_take_16 : decode cMo_take 16 = .ok (.iconst 1, 1) := by decide +kernel
theorem dMo_take_17 : decode cMo_take 17 = .ok (.iadd, 1) := by decide +kernel
theorem dMo_take_18 : decode cMo_take 18 = .ok (.iaload, 1) := by decide +kernel
theorem dMo_take_19 : decode cMo_take 19 = .ok (.bipush 15, 2) := by decide +kernel
theorem dMo_take_21 : decode cMo_take 21 = .ok (.iand, 1) := by decide +kernel
theorem dMo_take_22 : decode cMo_take 22 = .ok (.putfield 37, 3) := by decide +kernel
theorem dMo_take_25 : decode cMo_take 25 = .ok (.aload_n 0, 1) := by decide +kernel
theorem dMo_take_26 : decode cMo_take 26 = .ok (.aload_n 1, 1) := by decide +kernel
theorem dMo_take_27 : decode cMo_take 27 = .ok (.bipush 8, 2) := by decide +kernel
theorem dMo_take_29 : decode cMo_take 29 = .ok (.iload_n 2, 1) := by decide +kernel
theorem dMo_take_30 : decode cMo_take 30 = .ok (.imul, 1) := by decide +kernel
theorem dMo_take_31 : decode cMo_take 31 = .ok (.iconst 1, 1) := by decide +kernel
theorem dMo_take_32 : decode cMo_take 32 = .ok (.iadd, 1) := by decide +kernel
theorem dMo_take_33 : decode cMo_take 33 = .ok (.iaload, 1) := by decide +kernel
theorem dMo_take_34 : decode cMo_take 34 = .ok (.iconst 4, 1) := by decide +kernel
theorem dMo_take_35 : decode cMo_take 35 = .ok (.ishr, 1) := by decide +kernel
theorem dMo_take_36 : decode cMo_take 36 = .ok (.putfield 40, 3) := by decide +kernel
theorem dMo_take_39 : decode cMo_take 39 = .ok (.aload_n 0, 1) := by decide +kernel
theorem dMo_take_40 : decode cMo_take 40 = .ok (.aload_n 1, 1) := by decide +kernel
theorem dMo_take_41 : decode cMo_take 41 = .ok (.bipush 8, 2) := by decide +kernel
theorem dMo_take_43 : decode cMo_take 43 = .ok (.iload_n 2, 1) := by decide +kernel
theorem dMo_take_44 : decode cMo_take 44 = .ok (.imul, 1) := by decide +kernel
theorem dMo_take_45 : decode cMo_take 45 = .ok (.iconst 2, 1) := by decide +kernel
theorem dMo_take_46 : decode cMo_take 46 = .ok (.iadd, 1) := by decide +kernel
theorem dMo_take_47 : decode cMo_take 47 = .ok (.iconst 2, 1) := by decide +kernel
theorem dMo_take_48 : decode cMo_take 48 = .ok (.invokestatic 43, 3) := by decide +kernel
theorem dMo_take_51 : decode cMo_take 51 = .ok (.i2s, 1) := by decide +kernel
theorem dMo_take_52 : decode cMo_take 52 = .ok (.putfield 47, 3) := by decide +kernel
theorem dMo_take_55 : decode cMo_take 55 = .ok (.aload_n 0, 1) := by decide +kernel
theorem dMo_take_56 : decode cMo_take 56 = .ok (.aload_n 1, 1) := by decide +kernel
theorem dMo_take_57 : decode cMo_take 57 = .ok (.bipush 8, 2) := by decide +kernel
theorem dMo_take_59 : decode cMo_take 59 = .ok (.iload_n 2, 1) := by decide +kernel
theorem dMo_take_60 : decode cMo_take 60 = .ok (.imul, 1) := by decide +kernel
theorem dMo_take_61 : decode cMo_take 61 = .ok (.iconst 4, 1) := by decide +kernel
theorem dMo_take_62 : decode cMo_take 62 = .ok (.iadd, 1) := by decide +kernel
theorem dMo_take_63 : decode cMo_take 63 = .ok (.iconst 4, 1) := by decide +kernel
theorem dMo_take_64 : decode cMo_take 64 = .ok (.invokestatic 43, 3) := by decide +kernel
theorem dMo_take_67 : decode cMo_take 67 = .ok (.putfield 50, 3) := by decide +kernel
theorem dMo_take_70 : decode cMo_take 70 = .ok (.return_, 1) := by decide +kernel
end
section
theorem dMo_kind_0 : decode cMo_kind 0 = .ok (.aload_n 0, 1) := by decide +kernel
theorem dMo_kind_1 : decode cMo_kind 1 = .ok (.getfield 34, 3) := by decide +kernel
theorem dMo_kind_4 : decode cMo_kind 4 = .ok (.bipush 7, 2) := by decide +kernel
theorem dMo_kind_6 : decode cMo_kind 6 = .ok (.iand, 1) := by decide +kernel
theorem dMo_kind_7 : decode cMo_kind 7 = .ok (.ireturn, 1) := by decide +kernel
theorem dMo_n_0 : decode cMo_n 0 = .ok (.aload_n 0, 1) := by decide +kernel
theorem dMo_n_1 : decode cMo_n 1 = .ok (.getfield 34, 3) := by decide +kernel
theorem dMo_n_4 : decode cMo_n 4 = .ok (.iconst 4, 1) := by decide +kernel
theorem dMo_n_5 : decode cMo_n 5 = .ok (.ishr, 1) := by decide +kernel
theorem dMo_n_6 : decode cMo_n 6 = .ok (.ireturn, 1) := by decide +kernel
theorem dMo_bit3_0 : decode cMo_bit3 0 = .ok (.aload_n 0, 1) := by decide +kernel
theorem dMo_bit3_1 : decode cMo_bit3 1 = .ok (.getfield 34, 3) := by decide +kernel
theorem dMo_bit3_4 : decode cMo_bit3 4 = .ok (.iconst 3, 1) := by decide +kernel
theorem dMo_bit3_5 : decode cMo_bit3 5 = .ok (.ishr, 1) := by decide +kernel
theorem dMo_bit3_6 : decode cMo_bit3 6 = .ok (.iconst 1, 1) := by decide +kernel
theorem dMo_bit3_7 : decode cMo_bit3 7 = .ok (.iand, 1) := by decide +kernel
theorem dMo_bit3_8 : decode cMo_bit3 8 = .ok (.iconst 1, 1) := by decide +kernel
theorem dMo_bit3_9 : decode cMo_bit3 9 = .ok (.if_icmp .ne 7, 3) := by decide +kernel
theorem dMo_bit3_12 : decode cMo_bit3 12 = .ok (.iconst 1, 1) := by decide +kernel
theorem dMo_bit3_13 : decode cMo_bit3 13 = .ok (.goto 4, 3) := by decide +kernel
theorem dMo_bit3_16 : decode cMo_bit3 16 = .ok (.iconst 0, 1) := by decide +kernel
theorem dMo_bit3_17 : decode cMo_bit3 17 = .ok (.ireturn, 1) := by decide +kernel
theorem dMo_size_0 : decode cMo_size 0 = .ok (.aload_n 0, 1) := by decide +kernel
theorem dMo_size_1 : decode cMo_size 1 = .ok (.getfield 34, 3) := by decide +kernel
theorem dMo_size_4 : decode cMo_size 4 = .ok (.iconst 3, 1) := by decide +kernel
theorem dMo_size_5 : decode cMo_size 5 = .ok (.ishr, 1) := by decide +kernel
theorem dMo_size_6 : decode cMo_size 6 = .ok (.iconst 3, 1) := by decide +kernel
theorem dMo_size_7 : decode cMo_size 7 = .ok (.iand, 1) := by decide +kernel
theorem dMo_size_8 : decode cMo_size 8 = .ok (.istore_n 1, 1) := by decide +kernel
theorem dMo_size_9 : decode cMo_size 9 = .ok (.iload_n 1, 1) := by decide +kernel
theorem dMo_size_10 : decode cMo_size 10 = .ok (.ifCond .ne 7, 3) := by decide +kernel
theorem dMo_size_13 : decode cMo_size 13 = .ok (.iconst 4, 1) := by decide +kernel
theorem dMo_size_14 : decode cMo_size 14 = .ok (.goto 23, 3) := by decide +kernel
theorem dMo_size_17 : decode cMo_size 17 = .ok (.iload_n 1, 1) := by decide +kernel
theorem dMo_size_18 : decode cMo_size 18 = .ok (.iconst 1, 1) := by decide +kernel
theorem dMo_size_19 : decode cMo_size 19 = .ok (.if_icmp .ne 7, 3) := by decide +kernel
theorem dMo_size_22 : decode cMo_size 22 = .ok (.iconst 2, 1) := by decide +kernel
theorem dMo_size_23 : decode cMo_size 23 = .ok (.goto 14, 3) := by decide +kernel
theorem dMo_size_26 : decode cMo_size 26 = .ok (.iload_n 1, 1) := by decide +kernel
theorem dMo_size_27 : decode cMo_size 27 = .ok (.iconst 2, 1) := by decide +kernel
theorem dMo_size_28 : decode cMo_size 28 = .ok (.if_icmp .ne 7, 3) := by decide +kernel
theorem dMo_size_31 : decode cMo_size 31 = .ok (.iconst 1, 1) := by decide +kernel
theorem dMo_size_32 : decode cMo_size 32 = .ok (.goto 5, 3) := by decide +kernel
theorem dMo_size_35 : decode cMo_size 35 = .ok (.bipush 8, 2) := by decide +kernel
theorem dMo_size_37 : decode cMo_size 37 = .ok (.ireturn, 1) := by decide +kernel
theorem dMo_mode_0 : decode cMo_mode 0 = .ok (.aload_n 0, 1) := by decide +kernel
theorem dMo_mode_1 : decode cMo_mode 1 = .ok (.getfield 34, 3) := by decide +kernel
theorem dMo_mode_4 : decode cMo_mode 4 = .ok (.iconst 5, 1) := by decide +kernel
theorem dMo_mode_5 : decode cMo_mode 5 = .ok (.ishr, 1) := by decide +kernel
theorem dMo_mode_6 : decode cMo_mode 6 = .ok (.ireturn, 1) := by decide +kernel
theorem dMo_isWide_0 : decode cMo_isWide 0 = .ok (.aload_n 0, 1) := by decide +kernel
theorem dMo_isWide_1 : decode cMo_isWide 1 = .ok (.getfield 34, 3) := by decide +kernel
theorem dMo_isWide_4 : decode cMo_isWide 4 = .ok (.bipush 24, 2) := by decide +kernel
theorem dMo_isWide_6 : decode cMo_isWide 6 = .ok (.if_icmp .ne 7, 3) := by decide +kernel
theorem dMo_isWide_9 : decode cMo_isWide 9 = .ok (.iconst 1, 1) := by decide +kernel
theorem dMo_isWide_10 : decode cMo_isWide 10 = .ok (.goto 4, 3) := by decide +kernel
theorem dMo_isWide_13 : decode cMo_isWide 13 = .ok (.iconst 0, 1) := by decide +kernel
theorem dMo_isWide_14 : decode cMo_isWide 14 = .ok (.ireturn, 1) := by decide +kernel
end
section
theorem dMo_hasSource_0 : decode cMo_hasSource 0 = .ok (.aload_n 0, 1) := by decide +kernel
theorem dMo_hasSource_1 : decode cMo_hasSource 1 = .ok (.invokevirtual 53, 3) := by decide +kernel
theorem dMo_hasSource_4 : decode cMo_hasSource 4 = .ok (.ifCond .eq 27, 3) := by decide +kernel
theorem dMo_hasSource_7 : decode cMo_hasSource 7 = .ok (.aload_n 0, 1) := by decide +kernel
theorem dMo_hasSource_8 : decode cMo_hasSource 8 = .ok (.getfield 40, 3) := by decide +kernel
theorem dMo_hasSource_11 : decode cMo_hasSource 11 = .ok (.bipush 11, 2) := by decide +kernel
theorem dMo_hasSource_13 : decode cMo_hasSource 13 = .ok (.if_icmp .ge 14, 3) := by decide +kernel
theorem dMo_hasSource_16 : decode cMo_hasSource 16 = .ok (.aload_n 0, 1) := by decide +kernel
theorem dMo_hasSource_17 : decode cMo_hasSource 17 = .ok (.getfield 50, 3) := by decide +kernel
theorem dMo_hasSource_20 : decode cMo_hasSource 20 = .ok (.ifCond .ne 7, 3) := by decide +kernel
theorem dMo_hasSource_23 : decode cMo_hasSource 23 = .ok (.iconst 1, 1) := by decide +kernel
theorem dMo_hasSource_24 : decode cMo_hasSource 24 = .ok (.goto 19, 3) := by decide +kernel
theorem dMo_hasSource_27 : decode cMo_hasSource 27 = .ok (.iconst 0, 1) := by decide +kernel
theorem dMo_hasSource_28 : decode cMo_hasSource 28 = .ok (.goto 15, 3) := by decide +kernel
theorem dMo_hasSource_31 : decode cMo_hasSource 31 = .ok (.aload_n 0, 1) := by decide +kernel
theorem dMo_hasSource_32 : decode cMo_hasSource 32 = .ok (.getfield 40, 3) := by decide +kernel
theorem dMo_hasSource_35 : decode cMo_hasSource 35 = .ok (.ifCond .ne 7, 3) := by decide +kernel
theorem dMo_hasSource_38 : decode cMo_hasSource 38 = .ok (.iconst 1, 1) := by decide +kernel
theorem dMo_hasSource_39 : decode cMo_hasSource 39 = .ok (.goto 4, 3) := by decide +kernel
theorem dMo_hasSource_42 : decode cMo_hasSource 42 = .ok (.iconst 0, 1) := by decide +kernel
theorem dMo_hasSource_43 : decode cMo_hasSource 43 = .ok (.ireturn, 1) := by decide +kernel
theorem dMo_isArithmetic_0 : decode cMo_isArithmetic 0 = .ok (.aload_n 0, 1) := by decide +kernel
theorem dMo_isArithmetic_1 : decode cMo_isArithmetic 1 = .ok (.invokevirtual 57, 3) := by decide +kernel
theorem dMo_isArithmetic_4 : decode cMo_isArithmetic 4 = .ok (.bipush 7, 2) := by decide +kernel
theorem dMo_isArithmetic_6 : decode cMo_isArithmetic 6 = .ok (.if_icmp .ne 7, 3) := by decide +kernel
theorem dMo_isArithmetic_9 : decode cMo_isArithmetic 9 = .ok (.iconst 1, 1) := by decide +kernel
theorem dMo_isArithmetic_10 : decode cMo_isArithmetic 10 = .ok (.goto 4, 3) := by decide +kernel
theorem dMo_isArithmetic_13 : decode cMo_isArithmetic 13 = .ok (.iconst 0, 1) := by decide +kernel
theorem dMo_isArithmetic_14 : decode cMo_isArithmetic 14 = .ok (.istore_n 1, 1) := by decide +kernel
theorem dMo_isArithmetic_15 : decode cMo_isArithmetic 15 = .ok (.aload_n 0, 1) := by decide +kernel
theorem dMo_isArithmetic_16 : decode cMo_isArithmetic 16 = .ok (.getfield 37, 3) := by decide +kernel
theorem dMo_isArithmetic_19 : decode cMo_isArithmetic 19 = .ok (.bipush 9, 2) := by decide +kernel
theorem dMo_isArithmetic_21 : decode cMo_isArithmetic 21 = .ok (.if_icmp .le 5, 3) := by decide +kernel
theorem dMo_isArithmetic_24 : decode cMo_isArithmetic 24 = .ok (.iconst 0, 1) := by decide +kernel
theorem dMo_isArithmetic_25 : decode cMo_isArithmetic 25 = .ok (.ireturn, 1) := by decide +kernel
theorem dMo_isArithmetic_26 : decode cMo_isArithmetic 26 = .ok (.aload_n 0, 1) := by decide +kernel
theorem dMo_isArithmetic_27 : decode cMo_isArithmetic 27 = .ok (.getfield 40, 3) := by decide +kernel
theorem dMo_isArithmetic_30 : decode cMo_isArithmetic 30 = .ok (.ifCond .ne 41, 3) := by decide +kernel
theorem dMo_isArithmetic_33 : decode cMo_isArithmetic 33 = .ok (.aload_n 0, 1) := by decide +kernel
theorem dMo_isArithmetic_34 : decode cMo_isArithmetic 34 = .ok (.getfield 47, 3) := by decide +kernel
theorem dMo_isArithmetic_37 : decode cMo_isArithmetic 37 = .ok (.ifCond .ne 34, 3) := by decide +kernel
theorem dMo_isArithmetic_40 : decode cMo_isArithmetic 40 = .ok (.aload_n 0, 1) := by decide +kernel
theorem dMo_isArithmetic_41 : decode cMo_isArithmetic 41 = .ok (.getfield 50, 3) := by decide +kernel
theorem dMo_isArithmetic_44 : decode cMo_isArithmetic 44 = .ok (.bipush 16, 2) := by decide +kernel
theorem dMo_isArithmetic_46 : decode cMo_isArithmetic 46 = .ok (.if_icmp .eq 21, 3) := by decide +kernel
theorem dMo_isArithmetic_49 : decode cMo_isArithmetic 49 = .ok (.aload_n 0, 1) := by decide +kernel
theorem dMo_isArithmetic_50 : decode cMo_isArithmetic 50 = .ok (.getfield 50, 3) := by decide +kernel
theorem dMo_isArithmetic_53 : decode cMo_isArithmetic 53 = .ok (.bipush 32, 2) := by decide +kernel
theorem dMo_isArithmetic_55 : decode cMo_isArithmetic 55 = .ok (.if_icmp .eq 12, 3) := by decide +kernel
theorem dMo_isArithmetic_58 : decode cMo_isArithmetic 58 = .ok (.aload_n 0, 1) := by decide +kernel
theorem dMo_isArithmetic_59 : decode cMo_isArithmetic 59 = .ok (.getfield 50, 3) := by decide +kernel
theorem dMo_isArithmetic_62 : decode cMo_isArithmetic 62 = .ok (.bipush 64, 2) := by decide +kernel
theorem dMo_isArithmetic_64 : decode cMo_isArithmetic 64 = .ok (.if_icmp .ne 7, 3) := by decide +kernel
theorem dMo_isArithmetic_67 : decode cMo_isArithmetic 67 = .ok (.iconst 1, 1) := by decide +kernel
theorem dMo_isArithmetic_68 : decode cMo_isArithmetic 68 = .ok (.goto 4, 3) := by decide +kernel
theorem dMo_isArithmetic_71 : decode cMo_isArithmetic 71 = .ok (.iconst 0, 1) := by decide +kernel
theorem dMo_isArithmetic_72 : decode cMo_isArithmetic 72 = .ok (.istore_n 2, 1) := by decide +kernel
theorem dMo_isArithmetic_73 : decode cMo_isArithmetic 73 = .ok (.aload_n 0, 1) := by decide +kernel
theorem dMo_isArithmetic_74 : decode cMo_isArithmetic 74 = .ok (.invokevirtual 61, 3) := by decide +kernel
theorem dMo_isArithmetic_77 : decode cMo_isArithmetic 77 = .ok (.tableswitch 200 3 13 #[114, 200, 200, 200, 200, 59, 114, 200, 142, 200, 93], 59) := by decide +kernel
theorem dMo_isArithmetic_136 : decode cMo_isArithmetic 136 = .ok (.aload_n 0, 1) := by decide +kernel
theorem dMo_isArithmetic_137 : decode cMo_isArithmetic 137 = .ok (.invokevirtual 53, 3) := by decide +kernel
theorem dMo_isArithmetic_140 : decode cMo_isArithmetic 140 = .ok (.ifCond .ne 28, 3) := by decide +kernel
theorem dMo_isArithmetic_143 : decode cMo_isArithmetic 143 = .ok (.aload_n 0, 1) := by decide +kernel
theorem dMo_isArithmetic_144 : decode cMo_isArithmetic 144 = .ok (.getfield 50, 3) := by decide +kernel
theorem dMo_isArithmetic_147 : decode cMo_isArithmetic 147 = .ok (.ifCond .ne 21, 3) := by decide +kernel
theorem dMo_isArithmetic_150 : decode cMo_isArithmetic 150 = .ok (.aload_n 0, 1) := by decide +kernel
theorem dMo_isArithmetic_151 : decode cMo_isArithmetic 151 = .ok (.getfield 40, 3) := by decide +kernel
theorem dMo_isArithmetic_154 : decode cMo_isArithmetic 154 = .ok (.ifCond .ne 14, 3) := by decide +kernel
theorem dMo_isArithmetic_157 : decode cMo_isArithmetic 157 = .ok (.aload_n 0, 1) := by decide +kernel
theorem dMo_isArithmetic_158 : decode cMo_isArithmetic 158 = .ok (.getfield 47, 3) := by decide +kernel
theorem dMo_isArithmetic_161 : decode cMo_isArithmetic 161 = .ok (.ifCond .ne 7, 3) := by decide +kernel
theorem dMo_isArithmetic_164 : decode cMo_isArithmetic 164 = .ok (.iconst 1, 1) := by decide +kernel
theorem dMo_isArithmetic_165 : decode cMo_isArithmetic 165 = .ok (.goto 4, 3) := by decide +kernel
theorem dMo_isArithmetic_168 : decode cMo_isArithmetic 168 = .ok (.iconst 0, 1) := by decide +kernel
theorem dMo_isArithmetic_169 : decode cMo_isArithmetic 169 = .ok (.ireturn, 1) := by decide +kernel
theorem dMo_isArithmetic_170 : decode cMo_isArithmetic 170 = .ok (.iload_n 2, 1) := by decide +kernel
theorem dMo_isArithmetic_171 : decode cMo_isArithmetic 171 = .ok (.ifCond .eq 18, 3) := by decide +kernel
theorem dMo_isArithmetic_174 : decode cMo_isArithmetic 174 = .ok (.iload_n 1, 1) := by decide +kernel
theorem dMo_isArithmetic_175 : decode cMo_isArithmetic 175 = .ok (.ifCond .eq 10, 3) := by decide +kernel
theorem dMo_isArithmetic_178 : decode cMo_isArithmetic 178 = .ok (.aload_n 0, 1) := by decide +kernel
theorem dMo_isArithmetic_179 : decode cMo_isArithmetic 179 = .ok (.invokevirtual 53, 3) := by decide +kernel
theorem dMo_isArithmetic_182 : decode cMo_isArithmetic 182 = .ok (.ifCond .ne 7, 3) := by decide +kernel
theorem dMo_isArithmetic_185 : decode cMo_isArithmetic 185 = .ok (.iconst 1, 1) := by decide +kernel
theorem dMo_isArithmetic_186 : decode cMo_isArithmetic 186 = .ok (.goto 4, 3) := by decide +kernel
theorem dMo_isArithmetic_189 : decode cMo_isArithmetic 189 = .ok (.iconst 0, 1) := by decide +kernel
theorem dMo_isArithmetic_190 : decode cMo_isArithmetic 190 = .ok (.ireturn, 1) := by decide +kernel
theorem dMo_isArithmetic_191 : decode cMo_isArithmetic 191 = .ok (.aload_n 0, 1) := by decide +kernel
theorem dMo_isArithmetic_192 : decode cMo_isArithmetic 192 = .ok (.invokevirtual 64, 3) := by decide +kernel
theorem dMo_isArithmetic_195 : decode cMo_isArithmetic 195 = .ok (.ifCond .eq 22, 3) := by decide +kernel
theorem dMo_isArithmetic_198 : decode cMo_isArithmetic 198 = .ok (.aload_n 0, 1) := by decide +kernel
theorem dMo_isArithmetic_199 : decode cMo_isArithmetic 199 = .ok (.getfield 47, 3) := by decide +kernel
theorem dMo_isArithmetic_202 : decode cMo_isArithmetic 202 = .ok (.ifCond .eq 11, 3) := by decide +kernel
theorem dMo_isArithmetic_205 : decode cMo_isArithmetic 205 = .ok (.aload_n 0, 1) := by decide +kernel
theorem dMo_isArithmetic_206 : decode cMo_isArithmetic 206 = .ok (.getfield 47, 3) := by decide +kernel
theorem dMo_isArithmetic_209 : decode cMo_isArithmetic 209 = .ok (.iconst 1, 1) := by decide +kernel
theorem dMo_isArithmetic_210 : decode cMo_isArithmetic 210 = .ok (.if_icmp .ne 7, 3) := by decide +kernel
theorem dMo_isArithmetic_213 : decode cMo_isArithmetic 213 = .ok (.iconst 1, 1) := by decide +kernel
theorem dMo_isArithmetic_214 : decode cMo_isArithmetic 214 = .ok (.goto 4, 3) := by decide +kernel
theorem dMo_isArithmetic_217 : decode cMo_isArithmetic 217 = .ok (.iconst 0, 1) := by decide +kernel
theorem dMo_isArithmetic_218 : decode cMo_isArithmetic 218 = .ok (.ireturn, 1) := by decide +kernel
theorem dMo_isArithmetic_219 : decode cMo_isArithmetic 219 = .ok (.aload_n 0, 1) := by decide +kernel
theorem dMo_isArithmetic_220 : decode cMo_isArithmetic 220 = .ok (.invokevirtual 64, 3) := by decide +kernel
theorem dMo_isArithmetic_223 : decode cMo_isArithmetic 223 = .ok (.ifCond .eq 52, 3) := by decide +kernel
theorem dMo_isArithmetic_226 : decode cMo_isArithmetic 226 = .ok (.aload_n 0, 1) := by decide +kernel
theorem dMo_isArithmetic_227 : decode cMo_isArithmetic 227 = .ok (.getfield 47, 3) := by decide +kernel
theorem dMo_isArithmetic_230 : decode cMo_isArithmetic 230 = .ok (.ifCond .eq 41, 3) := by decide +kernel
theorem dMo_isArithmetic_233 : decode cMo_isArithmetic 233 = .ok (.aload_n 0, 1) := by decide +kernel
theorem dMo_isArithmetic_234 : decode cMo_isArithmetic 234 = .ok (.invokevirtual 53, 3) := by decide +kernel
theorem dMo_isArithmetic_237 : decode cMo_isArithmetic 237 = .ok (.ifCond .eq 38, 3) := by decide +kernel
theorem dMo_isArithmetic_240 : decode cMo_isArithmetic 240 = .ok (.aload_n 0, 1) := by decide +kernel
theorem dMo_isArithmetic_241 : decode cMo_isArithmetic 241 = .ok (.getfield 47, 3) := by decide +kernel
theorem dMo_isArithmetic_244 : decode cMo_isArithmetic 244 = .ok (.bipush 8, 2) := by decide +kernel
theorem dMo_isArithmetic_246 : decode cMo_isArithmetic 246 = .ok (.if_icmp .eq 25, 3) := by decide +kernel
theorem dMo_isArithmetic_249 : decode cMo_isArithmetic 249 = .ok (.aload_n 0, 1) := by decide +kernel
theorem dMo_isArithmetic_250 : decode cMo_isArithmetic 250 = .ok (.getfield 47, 3) := by decide +kernel
theorem dMo_isArithmetic_253 : decode cMo_isArithmetic 253 = .ok (.bipush 16, 2) := by decide +kernel
theorem dMo_isArithmetic_255 : decode cMo_isArithmetic 255 = .ok (.if_icmp .eq 16, 3) := by decide +kernel
theorem dMo_isArithmetic_258 : decode cMo_isArithmetic 258 = .ok (.iload_n 1, 1) := by decide +kernel
theorem dMo_isArithmetic_259 : decode cMo_isArithmetic 259 = .ok (.ifCond .eq 16, 3) := by decide +kernel
theorem dMo_isArithmetic_262 : decode cMo_isArithmetic 262 = .ok (.aload_n 0, 1) := by decide +kernel
theorem dMo_isArithmetic_263 : decode cMo_isArithmetic 263 = .ok (.getfield 47, 3) := by decide +kernel
theorem dMo_isArithmetic_266 : decode cMo_isArithmetic 266 = .ok (.bipush 32, 2) := by decide +kernel
theorem dMo_isArithmetic_268 : decode cMo_isArithmetic 268 = .ok (.if_icmp .ne 7, 3) := by decide +kernel
theorem dMo_isArithmetic_271 : decode cMo_isArithmetic 271 = .ok (.iconst 1, 1) := by decide +kernel
theorem dMo_isArithmetic_272 : decode cMo_isArithmetic 272 = .ok (.goto 4, 3) := by decide +kernel
theorem dMo_isArithmetic_275 : decode cMo_isArithmetic 275 = .ok (.iconst 0, 1) := by decide +kernel
theorem dMo_isArithmetic_276 : decode cMo_isArithmetic 276 = .ok (.ireturn, 1) := by decide +kernel
theorem dMo_isArithmetic_277 : decode cMo_isArithmetic 277 = .ok (.aload_n 0, 1) := by decide +kernel
theorem dMo_isArithmetic_278 : decode cMo_isArithmetic 278 = .ok (.invokevirtual 61, 3) := by decide +kernel
theorem dMo_isArithmetic_281 : decode cMo_isArithmetic 281 = .ok (.bipush 13, 2) := by decide +kernel
theorem dMo_isArithmetic_283 : decode cMo_isArithmetic 283 = .ok (.if_icmp .ge 21, 3) := by decide +kernel
theorem dMo_isArithmetic_286 : decode cMo_isArithmetic 286 = .ok (.aload_n 0, 1) := by decide +kernel
theorem dMo_isArithmetic_287 : decode cMo_isArithmetic 287 = .ok (.invokevirtual 64, 3) := by decide +kernel
theorem dMo_isArithmetic_290 : decode cMo_isArithmetic 290 = .ok (.ifCond .eq 14, 3) := by decide +kernel
theorem dMo_isArithmetic_293 : decode cMo_isArithmetic 293 = .ok (.aload_n 0, 1) := by decide +kernel
theorem dMo_isArithmetic_294 : decode cMo_isArithmetic 294 = .ok (.getfield 47, 3) := by decide +kernel
theorem dMo_isArithmetic_297 : decode cMo_isArithmetic 297 = .ok (.ifCond .ne 7, 3) := by decide +kernel
theorem dMo_isArithmetic_300 : decode cMo_isArithmetic 300 = .ok (.iconst 1, 1) := by decide +kernel
theorem dMo_isArithmetic_301 : decode cMo_isArithmetic 301 = .ok (.goto 4, 3) := by decide +kernel
theorem dMo_isArithmetic_304 : decode cMo_isArithmetic 304 = .ok (.iconst 0, 1) := by decide +kernel
theorem dMo_isArithmetic_305 : decode cMo_isArithmetic 305 = .ok (.ireturn, 1) := by decide +kernel
theorem dMo_isJump_0 : decode cMo_isJump 0 = .ok (.aload_n 0, 1) := by decide +kernel
theorem dMo_isJump_1 : decode cMo_isJump 1 = .ok (.invokevirtual 57, 3) := by decide +kernel
theorem dMo_isJump_4 : decode cMo_isJump 4 = .ok (.bipush 6, 2) := by decide +kernel
theorem dMo_isJump_6 : decode cMo_isJump 6 = .ok (.if_icmp .ne 7, 3) := by decide +kernel
theorem dMo_isJump_9 : decode cMo_isJump 9 = .ok (.iconst 1, 1) := by decide +kernel
theorem dMo_isJump_10 : decode cMo_isJump 10 = .ok (.goto 4, 3) := by decide +kernel
theorem dMo_isJump_13 : decode cMo_isJump 13 = .ok (.iconst 0, 1) := by decide +kernel
theorem dMo_isJump_14 : decode cMo_isJump 14 = .ok (.istore_n 1, 1) := by decide +kernel
theorem dMo_isJump_15 : decode cMo_isJump 15 = .ok (.aload_n 0, 1) := by decide +kernel
theorem dMo_isJump_16 : decode cMo_isJump 16 = .ok (.invokevirtual 61, 3) := by decide +kernel
theorem dMo_isJump_19 : decode cMo_isJump 19 = .ok (.lookupswitch 170 #[(0, 33), (8, 81), (9, 122)], 33) := by decide +kernel
theorem dMo_isJump_52 : decode cMo_isJump 52 = .ok (.aload_n 0, 1) := by decide +kernel
theorem dMo_isJump_53 : decode cMo_isJump 53 = .ok (.invokevirtual 53, 3) := by decide +kernel
theorem dMo_isJump_56 : decode cMo_isJump 56 = .ok (.ifCond .ne 42, 3) := by decide +kernel
theorem dMo_isJump_59 : decode cMo_isJump 59 = .ok (.aload_n 0, 1) := by decide +kernel
theorem dMo_isJump_60 : decode cMo_isJump 60 = .ok (.getfield 37, 3) := by decide +kernel
theorem dMo_isJump_63 : decode cMo_isJump 63 = .ok (.ifCond .ne 35, 3) := by decide +kernel
theorem dMo_isJump_66 : decode cMo_isJump 66 = .ok (.aload_n 0, 1) := by decide +kernel
theorem dMo_isJump_67 : decode cMo_isJump 67 = .ok (.getfield 40, 3) := by decide +kernel
theorem dMo_isJump_70 : decode cMo_isJump 70 = .ok (.ifCond .ne 28, 3) := by decide +kernel
theorem dMo_isJump_73 : decode cMo_isJump 73 = .ok (.iload_n 1, 1) := by decide +kernel
theorem dMo_isJump_74 : decode cMo_isJump 74 = .ok (.ifCond .eq 13, 3) := by decide +kernel
theorem dMo_isJump_77 : decode cMo_isJump 77 = .ok (.aload_n 0, 1) := by decide +kernel
theorem dMo_isJump_78 : decode cMo_isJump 78 = .ok (.getfield 47, 3) := by decide +kernel
theorem dMo_isJump_81 : decode cMo_isJump 81 = .ok (.ifCond .ne 17, 3) := by decide +kernel
theorem dMo_isJump_84 : decode cMo_isJump 84 = .ok (.goto 10, 3) := by decide +kernel
theorem dMo_isJump_87 : decode cMo_isJump 87 = .ok (.aload_n 0, 1) := by decide +kernel
theorem dMo_isJump_88 : decode cMo_isJump 88 = .ok (.getfield 50, 3) := by decide +kernel
theorem dMo_isJump_91 : decode cMo_isJump 91 = .ok (.ifCond .ne 7, 3) := by decide +kernel
theorem dMo_isJump_94 : decode cMo_isJump 94 = .ok (.iconst 1, 1) := by decide +kernel
theorem dMo_isJump_95 : decode cMo_isJump 95 = .ok (.goto 4, 3) := by decide +kernel
theorem dMo_isJump_98 : decode cMo_isJump 98 = .ok (.iconst 0, 1) := by decide +kernel
theorem dMo_isJump_99 : decode cMo_isJump 99 = .ok (.ireturn, 1) := by decide +kernel
theorem dMo_isJump_100 : decode cMo_isJump 100 = .ok (.iload_n 1, 1) := by decide +kernel
theorem dMo_isJump_101 : decode cMo_isJump 101 = .ok (.ifCond .ne 38, 3) := by decide +kernel
theorem dMo_isJump_104 : decode cMo_isJump 104 = .ok (.aload_n 0, 1) := by decide +kernel
theorem dMo_isJump_105 : decode cMo_isJump 105 = .ok (.getfield 34, 3) := by decide +kernel
theorem dMo_isJump_108 : decode cMo_isJump 108 = .ok (.sipush 133, 3) := by decide +kernel
theorem dMo_isJump_111 : decode cMo_isJump 111 = .ok (.if_icmp .ne 28, 3) := by decide +kernel
theorem dMo_isJump_114 : decode cMo_isJump 114 = .ok (.aload_n 0, 1) := by decide +kernel
theorem dMo_isJump_115 : decode cMo_isJump 115 = .ok (.getfield 37, 3) := by decide +kernel
theorem dMo_isJump_118 : decode cMo_isJump 118 = .ok (.ifCond .ne 21, 3) := by decide +kernel
theorem dMo_isJump_121 : decode cMo_isJump 121 = .ok (.aload_n 0, 1) := by decide +kernel
theorem dMo_isJump_122 : decode cMo_isJump 122 = .ok (.getfield 40, 3) := by decide +kernel
theorem dMo_isJump_125 : decode cMo_isJump 125 = .ok (.ifCond .ne 14, 3) := by decide +kernel
theorem dMo_isJump_128 : decode cMo_isJump 128 = .ok (.aload_n 0, 1) := by decide +kernel
theorem dMo_isJump_129 : decode cMo_isJump 129 = .ok (.getfield 47, 3) := by decide +kernel
theorem dMo_isJump_132 : decode cMo_isJump 132 = .ok (.ifCond .ne 7, 3) := by decide +kernel
theorem dMo_isJump_135 : decode cMo_isJump 135 = .ok (.iconst 1, 1) := by decide +kernel
theorem dMo_isJump_136 : decode cMo_isJump 136 = .ok (.goto 4, 3) := by decide +kernel
theorem dMo_isJump_139 : decode cMo_isJump 139 = .ok (.iconst 0, 1) := by decide +kernel
theorem dMo_isJump_140 : decode cMo_isJump 140 = .ok (.ireturn, 1) := by decide +kernel
theorem dMo_isJump_141 : decode cMo_isJump 141 = .ok (.iload_n 1, 1) := by decide +kernel
theorem dMo_isJump_142 : decode cMo_isJump 142 = .ok (.ifCond .ne 45, 3) := by decide +kernel
theorem dMo_isJump_145 : decode cMo_isJump 145 = .ok (.aload_n 0, 1) := by decide +kernel
theorem dMo_isJump_146 : decode cMo_isJump 146 = .ok (.getfield 34, 3) := by decide +kernel
theorem dMo_isJump_149 : decode cMo_isJump 149 = .ok (.sipush 149, 3) := by decide +kernel
theorem dMo_isJump_152 : decode cMo_isJump 152 = .ok (.if_icmp .ne 35, 3) := by decide +kernel
theorem dMo_isJump_155 : decode cMo_isJump 155 = .ok (.aload_n 0, 1) := by decide +kernel
theorem dMo_isJump_156 : decode cMo_isJump 156 = .ok (.getfield 37, 3) := by decide +kernel
theorem dMo_isJump_159 : decode cMo_isJump 159 = .ok (.ifCond .ne 28, 3) := by decide +kernel
theorem dMo_isJump_162 : decode cMo_isJump 162 = .ok (.aload_n 0, 1) := by decide +kernel
theorem dMo_isJump_163 : decode cMo_isJump 163 = .ok (.getfield 40, 3) := by decide +kernel
theorem dMo_isJump_166 : decode cMo_isJump 166 = .ok (.ifCond .ne 21, 3) := by decide +kernel
theorem dMo_isJump_169 : decode cMo_isJump 169 = .ok (.aload_n 0, 1) := by decide +kernel
theorem dMo_isJump_170 : decode cMo_isJump 170 = .ok (.getfield 50, 3) := by decide +kernel
theorem dMo_isJump_173 : decode cMo_isJump 173 = .ok (.ifCond .ne 14, 3) := by decide +kernel
theorem dMo_isJump_176 : decode cMo_isJump 176 = .ok (.aload_n 0, 1) := by decide +kernel
theorem dMo_isJump_177 : decode cMo_isJump 177 = .ok (.getfield 47, 3) := by decide +kernel
theorem dMo_isJump_180 : decode cMo_isJump 180 = .ok (.ifCond .ne 7, 3) := by decide +kernel
theorem dMo_isJump_183 : decode cMo_isJump 183 = .ok (.iconst 1, 1) := by decide +kernel
theorem dMo_isJump_184 : decode cMo_isJump 184 = .ok (.goto 4, 3) := by decide +kernel
theorem dMo_isJump_187 : decode cMo_isJump 187 = .ok (.iconst 0, 1) := by decide +kernel
theorem dMo_isJump_188 : decode cMo_isJump 188 = .ok (.ireturn, 1) := by decide +kernel
theorem dMo_isJump_189 : decode cMo_isJump 189 = .ok (.aload_n 0, 1) := by decide +kernel
theorem dMo_isJump_190 : decode cMo_isJump 190 = .ok (.invokevirtual 61, 3) := by decide +kernel
theorem dMo_isJump_193 : decode cMo_isJump 193 = .ok (.bipush 14, 2) := by decide +kernel
theorem dMo_isJump_195 : decode cMo_isJump 195 = .ok (.if_icmp .ge 23, 3) := by decide +kernel
theorem dMo_isJump_198 : decode cMo_isJump 198 = .ok (.aload_n 0, 1) := by decide +kernel
theorem dMo_isJump_199 : decode cMo_isJump 199 = .ok (.getfield 37, 3) := by decide +kernel
theorem dMo_isJump_202 : decode cMo_isJump 202 = .ok (.bipush 11, 2) := by decide +kernel
theorem dMo_isJump_204 : decode cMo_isJump 204 = .ok (.if_icmp .ge 14, 3) := by decide +kernel
theorem dMo_isJump_207 : decode cMo_isJump 207 = .ok (.aload_n 0, 1) := by decide +kernel
theorem dMo_isJump_208 : decode cMo_isJump 208 = .ok (.invokevirtual 64, 3) := by decide +kernel
theorem dMo_isJump_211 : decode cMo_isJump 211 = .ok (.ifCond .eq 7, 3) := by decide +kernel
theorem dMo_isJump_214 : decode cMo_isJump 214 = .ok (.iconst 1, 1) := by decide +kernel
theorem dMo_isJump_215 : decode cMo_isJump 215 = .ok (.goto 4, 3) := by decide +kernel
theorem dMo_isJump_218 : decode cMo_isJump 218 = .ok (.iconst 0, 1) := by decide +kernel
theorem dMo_isJump_219 : decode cMo_isJump 219 = .ok (.ireturn, 1) := by decide +kernel
theorem dMo_isAtomic_0 : decode cMo_isAtomic 0 = .ok (.aload_n 0, 1) := by decide +kernel
theorem dMo_isAtomic_1 : decode cMo_isAtomic 1 = .ok (.getfield 50, 3) := by decide +kernel
theorem dMo_isAtomic_4 : decode cMo_isAtomic 4 = .ok (.iconst 1, 1) := by decide +kernel
theorem dMo_isAtomic_5 : decode cMo_isAtomic 5 = .ok (.if_icmp .eq 41, 3) := by decide +kernel
theorem dMo_isAtomic_8 : decode cMo_isAtomic 8 = .ok (.aload_n 0, 1) := by decide +kernel
theorem dMo_isAtomic_9 : decode cMo_isAtomic 9 = .ok (.getfield 50, 3) := by decide +kernel
theorem dMo_isAtomic_12 : decode cMo_isAtomic 12 = .ok (.bipush 65, 2) := by decide +kernel
theorem dMo_isAtomic_14 : decode cMo_isAtomic 14 = .ok (.if_icmp .eq 32, 3) := by decide +kernel
theorem dMo_isAtomic_17 : decode cMo_isAtomic 17 = .ok (.aload_n 0, 1) := by decide +kernel
theorem dMo_isAtomic_18 : decode cMo_isAtomic 18 = .ok (.getfield 50, 3) := by decide +kernel
theorem dMo_isAtomic_21 : decode cMo_isAtomic 21 = .ok (.bipush 81, 2) := by decide +kernel
theorem dMo_isAtomic_23 : decode cMo_isAtomic 23 = .ok (.if_icmp .eq 23, 3) := by decide +kernel
theorem dMo_isAtomic_26 : decode cMo_isAtomic 26 = .ok (.aload_n 0, 1) := by decide +kernel
theorem dMo_isAtomic_27 : decode cMo_isAtomic 27 = .ok (.getfield 50, 3) := by decide +kernel
theorem dMo_isAtomic_30 : decode cMo_isAtomic 30 = .ok (.sipush 161, 3) := by decide +kernel
theorem dMo_isAtomic_33 : decode cMo_isAtomic 33 = .ok (.if_icmp .eq 13, 3) := by decide +kernel
theorem dMo_isAtomic_36 : decode cMo_isAtomic 36 = .ok (.aload_n 0, 1) := by decide +kernel
theorem dMo_isAtomic_37 : decode cMo_isAtomic 37 = .ok (.getfield 50, 3) := by decide +kernel
theorem dMo_isAtomic_40 : decode cMo_isAtomic 40 = .ok (.sipush 225, 3) := by decide +kernel
theorem dMo_isAtomic_43 : decode cMo_isAtomic 43 = .ok (.if_icmp .ne 7, 3) := by decide +kernel
theorem dMo_isAtomic_46 : decode cMo_isAtomic 46 = .ok (.iconst 1, 1) := by decide +kernel
theorem dMo_isAtomic_47 : decode cMo_isAtomic 47 = .ok (.goto 4, 3) := by decide +kernel
theorem dMo_isAtomic_50 : decode cMo_isAtomic 50 = .ok (.iconst 0, 1) := by decide +kernel
theorem dMo_isAtomic_51 : decode cMo_isAtomic 51 = .ok (.istore_n 1, 1) := by decide +kernel
theorem dMo_isAtomic_52 : decode cMo_isAtomic 52 = .ok (.aload_n 0, 1) := by decide +kernel
theorem dMo_isAtomic_53 : decode cMo_isAtomic 53 = .ok (.getfield 50, 3) := by decide +kernel
theorem dMo_isAtomic_56 : decode cMo_isAtomic 56 = .ok (.ifCond .eq 41, 3) := by decide +kernel
theorem dMo_isAtomic_59 : decode cMo_isAtomic 59 = .ok (.aload_n 0, 1) := by decide +kernel
theorem dMo_isAtomic_60 : decode cMo_isAtomic 60 = .ok (.getfield 50, 3) := by decide +kernel
theorem dMo_isAtomic_63 : decode cMo_isAtomic 63 = .ok (.bipush 64, 2) := by decide +kernel
theorem dMo_isAtomic_65 : decode cMo_isAtomic 65 = .ok (.if_icmp .eq 32, 3) := by decide +kernel
theorem dMo_isAtomic_68 : decode cMo_isAtomic 68 = .ok (.aload_n 0, 1) := by decide +kernel
theorem dMo_isAtomic_69 : decode cMo_isAtomic 69 = .ok (.getfield 50, 3) := by decide +kernel
theorem dMo_isAtomic_72 : decode cMo_isAtomic 72 = .ok (.bipush 80, 2) := by decide +kernel
theorem dMo_isAtomic_74 : decode cMo_isAtomic 74 = .ok (.if_icmp .eq 23, 3) := by decide +kernel
theorem dMo_isAtomic_77 : decode cMo_isAtomic 77 = .ok (.aload_n 0, 1) := by decide +kernel
theorem dMo_isAtomic_78 : decode cMo_isAtomic 78 = .ok (.getfield 50, 3) := by decide +kernel
theorem dMo_isAtomic_81 : decode cMo_isAtomic 81 = .ok (.sipush 160, 3) := by decide +kernel
theorem dMo_isAtomic_84 : decode cMo_isAtomic 84 = .ok (.if_icmp .eq 13, 3) := by decide +kernel
theorem dMo_isAtomic_87 : decode cMo_isAtomic 87 = .ok (.aload_n 0, 1) := by decide +kernel
theorem dMo_isAtomic_88 : decode cMo_isAtomic 88 = .ok (.getfield 50, 3) := by decide +kernel
theorem dMo_isAtomic_91 : decode cMo_isAtomic 91 = .ok (.sipush 241, 3) := by decide +kernel
theorem dMo_isAtomic_94 : decode cMo_isAtomic 94 = .ok (.if_icmp .ne 7, 3) := by decide +kernel
theorem dMo_isAtomic_97 : decode cMo_isAtomic 97 = .ok (.iconst 1, 1) := by decide +kernel
theorem dMo_isAtomic_98 : decode cMo_isAtomic 98 = .ok (.goto 4, 3) := by decide +kernel
theorem dMo_isAtomic_101 : decode cMo_isAtomic 101 = .ok (.iconst 0, 1) := by decide +kernel
theorem dMo_isAtomic_102 : decode cMo_isAtomic 102 = .ok (.istore_n 2, 1) := by decide +kernel
theorem dMo_isAtomic_103 : decode cMo_isAtomic 103 = .ok (.aload_n 0, 1) := by decide +kernel
theorem dMo_isAtomic_104 : decode cMo_isAtomic 104 = .ok (.invokevirtual 67, 3) := by decide +kernel
theorem dMo_isAtomic_107 : decode cMo_isAtomic 107 = .ok (.iconst 2, 1) := by decide +kernel
theorem dMo_isAtomic_108 : decode cMo_isAtomic 108 = .ok (.if_icmp .le 42, 3) := by decide +kernel
theorem dMo_isAtomic_111 : decode cMo_isAtomic 111 = .ok (.aload_n 0, 1) := by decide +kernel
theorem dMo_isAtomic_112 : decode cMo_isAtomic 112 = .ok (.getfield 37, 3) := by decide +kernel
theorem dMo_isAtomic_115 : decode cMo_isAtomic 115 = .ok (.bipush 11, 2) := by decide +kernel
theorem dMo_isAtomic_117 : decode cMo_isAtomic 117 = .ok (.if_icmp .ge 33, 3) := by decide +kernel
theorem dMo_isAtomic_120 : decode cMo_isAtomic 120 = .ok (.iload_n 1, 1) := by decide +kernel
theorem dMo_isAtomic_121 : decode cMo_isAtomic 121 = .ok (.ifCond .eq 12, 3) := by decide +kernel
theorem dMo_isAtomic_124 : decode cMo_isAtomic 124 = .ok (.aload_n 0, 1) := by decide +kernel
theorem dMo_isAtomic_125 : decode cMo_isAtomic 125 = .ok (.getfield 40, 3) := by decide +kernel
theorem dMo_isAtomic_128 : decode cMo_isAtomic 128 = .ok (.bipush 10, 2) := by decide +kernel
theorem dMo_isAtomic_130 : decode cMo_isAtomic 130 = .ok (.if_icmp .lt 16, 3) := by decide +kernel
theorem dMo_isAtomic_133 : decode cMo_isAtomic 133 = .ok (.iload_n 2, 1) := by decide +kernel
theorem dMo_isAtomic_134 : decode cMo_isAtomic 134 = .ok (.ifCond .eq 16, 3) := by decide +kernel
theorem dMo_isAtomic_137 : decode cMo_isAtomic 137 = .ok (.aload_n 0, 1) := by decide +kernel
theorem dMo_isAtomic_138 : decode cMo_isAtomic 138 = .ok (.getfield 40, 3) := by decide +kernel
theorem dMo_isAtomic_141 : decode cMo_isAtomic 141 = .ok (.bipush 11, 2) := by decide +kernel
theorem dMo_isAtomic_143 : decode cMo_isAtomic 143 = .ok (.if_icmp .ge 7, 3) := by decide +kernel
theorem dMo_isAtomic_146 : decode cMo_isAtomic 146 = .ok (.iconst 1, 1) := by decide +kernel
theorem dMo_isAtomic_147 : decode cMo_isAtomic 147 = .ok (.goto 4, 3) := by decide +kernel
theorem dMo_isAtomic_150 : decode cMo_isAtomic 150 = .ok (.iconst 0, 1) := by decide +kernel
theorem dMo_isAtomic_151 : decode cMo_isAtomic 151 = .ok (.ireturn, 1) := by decide +kernel
theorem dMo_isInstruction_0 : decode cMo_isInstruction 0 = .ok (.aload_n 0, 1) := by decide +kernel
theorem dMo_isInstruction_1 : decode cMo_isInstruction 1 = .ok (.aload_n 1, 1) := by decide +kernel
theorem dMo_isInstruction_2 : decode cMo_isInstruction 2 = .ok (.iload_n 2, 1) := by decide +kernel
theorem dMo_isInstruction_3 : decode cMo_isInstruction 3 = .ok (.invokevirtual 70, 3) := by decide +kernel
theorem dMo_isInstruction_6 : decode cMo_isInstruction 6 = .ok (.aload_n 0, 1) := by decide +kernel
theorem dMo_isInstruction_7 : decode cMo_isInstruction 7 = .ok (.invokevirtual 57, 3) := by decide +kernel
theorem dMo_isInstruction_10 : decode cMo_isInstruction 10 = .ok (.tableswitch 201 1 7 #[52, 108, 138, 42, 47, 47, 42], 42) := by decide +kernel
theorem dMo_isInstruction_52 : decode cMo_isInstruction 52 = .ok (.aload_n 0, 1) := by decide +kernel
theorem dMo_isInstruction_53 : decode cMo_isInstruction 53 = .ok (.invokevirtual 74, 3) := by decide +kernel
theorem dMo_isInstruction_56 : decode cMo_isInstruction 56 = .ok (.ireturn, 1) := by decide +kernel
theorem dMo_isInstruction_57 : decode cMo_isInstruction 57 = .ok (.aload_n 0, 1) := by decide +kernel
theorem dMo_isInstruction_58 : decode cMo_isInstruction 58 = .ok (.invokevirtual 77, 3) := by decide +kernel
theorem dMo_isInstruction_61 : decode cMo_isInstruction 61 = .ok (.ireturn, 1) := by decide +kernel
theorem dMo_isInstruction_62 : decode cMo_isInstruction 62 = .ok (.aload_n 0, 1) := by decide +kernel
theorem dMo_isInstruction_63 : decode cMo_isInstruction 63 = .ok (.getfield 50, 3) := by decide +kernel
theorem dMo_isInstruction_66 : decode cMo_isInstruction 66 = .ok (.ifCond .ne 50, 3) := by decide +kernel
theorem dMo_isInstruction_69 : decode cMo_isInstruction 69 = .ok (.aload_n 0, 1) := by decide +kernel
theorem dMo_isInstruction_70 : decode cMo_isInstruction 70 = .ok (.getfield 37, 3) := by decide +kernel
theorem dMo_isInstruction_73 : decode cMo_isInstruction 73 = .ok (.bipush 10, 2) := by decide +kernel
theorem dMo_isInstruction_75 : decode cMo_isInstruction 75 = .ok (.if_icmp .ge 41, 3) := by decide +kernel
theorem dMo_isInstruction_78 : decode cMo_isInstruction 78 = .ok (.aload_n 0, 1) := by decide +kernel
theorem dMo_isInstruction_79 : decode cMo_isInstruction 79 = .ok (.getfield 40, 3) := by decide +kernel
theorem dMo_isInstruction_82 : decode cMo_isInstruction 82 = .ok (.bipush 11, 2) := by decide +kernel
theorem dMo_isInstruction_84 : decode cMo_isInstruction 84 = .ok (.if_icmp .ge 32, 3) := by decide +kernel
theorem dMo_isInstruction_87 : decode cMo_isInstruction 87 = .ok (.aload_n 0, 1) := by decide +kernel
theorem dMo_isInstruction_88 : decode cMo_isInstruction 88 = .ok (.invokevirtual 80, 3) := by decide +kernel
theorem dMo_isInstruction_91 : decode cMo_isInstruction 91 = .ok (.iconst 3, 1) := by decide +kernel
theorem dMo_isInstruction_92 : decode cMo_isInstruction 92 = .ok (.if_icmp .eq 20, 3) := by decide +kernel
theorem dMo_isInstruction_95 : decode cMo_isInstruction 95 = .ok (.aload_n 0, 1) := by decide +kernel
theorem dMo_isInstruction_96 : decode cMo_isInstruction 96 = .ok (.invokevirtual 80, 3) := by decide +kernel
theorem dMo_isInstruction_99 : decode cMo_isInstruction 99 = .ok (.iconst 4, 1) := by decide +kernel
theorem dMo_isInstruction_100 : decode cMo_isInstruction 100 = .ok (.if_icmp .ne 16, 3) := by decide +kernel
theorem dMo_isInstruction_103 : decode cMo_isInstruction 103 = .ok (.aload_n 0, 1) := by decide +kernel
theorem dMo_isInstruction_104 : decode cMo_isInstruction 104 = .ok (.invokevirtual 67, 3) := by decide +kernel
theorem dMo_isInstruction_107 : decode cMo_isInstruction 107 = .ok (.bipush 8, 2) := by decide +kernel
theorem dMo_isInstruction_109 : decode cMo_isInstruction 109 = .ok (.if_icmp .ge 7, 3) := by decide +kernel
theorem dMo_isInstruction_112 : decode cMo_isInstruction 112 = .ok (.iconst 1, 1) := by decide +kernel
theorem dMo_isInstruction_113 : decode cMo_isInstruction 113 = .ok (.goto 4, 3) := by decide +kernel
theorem dMo_isInstruction_116 : decode cMo_isInstruction 116 = .ok (.iconst 0, 1) := by decide +kernel
theorem dMo_isInstruction_117 : decode cMo_isInstruction 117 = .ok (.ireturn, 1) := by decide +kernel
theorem dMo_isInstruction_118 : decode cMo_isInstruction 118 = .ok (.aload_n 0, 1) := by decide +kernel
theorem dMo_isInstruction_119 : decode cMo_isInstruction 119 = .ok (.getfield 40, 3) := by decide +kernel
theorem dMo_isInstruction_122 : decode cMo_isInstruction 122 = .ok (.ifCond .ne 24, 3) := by decide +kernel
theorem dMo_isInstruction_125 : decode cMo_isInstruction 125 = .ok (.aload_n 0, 1) := by decide +kernel
theorem dMo_isInstruction_126 : decode cMo_isInstruction 126 = .ok (.getfield 37, 3) := by decide +kernel
theorem dMo_isInstruction_129 : decode cMo_isInstruction 129 = .ok (.bipush 11, 2) := by decide +kernel
theorem dMo_isInstruction_131 : decode cMo_isInstruction 131 = .ok (.if_icmp .ge 15, 3) := by decide +kernel
theorem dMo_isInstruction_134 : decode cMo_isInstruction 134 = .ok (.aload_n 0, 1) := by decide +kernel
theorem dMo_isInstruction_135 : decode cMo_isInstruction 135 = .ok (.invokevirtual 80, 3) := by decide +kernel
theorem dMo_isInstruction_138 : decode cMo_isInstruction 138 = .ok (.iconst 3, 1) := by decide +kernel
theorem dMo_isInstruction_139 : decode cMo_isInstruction 139 = .ok (.if_icmp .ne 7, 3) := by decide +kernel
theorem dMo_isInstruction_142 : decode cMo_isInstruction 142 = .ok (.iconst 1, 1) := by decide +kernel
theorem dMo_isInstruction_143 : decode cMo_isInstruction 143 = .ok (.goto 4, 3) := by decide +kernel
theorem dMo_isInstruction_146 : decode cMo_isInstruction 146 = .ok (.iconst 0, 1) := by decide +kernel
theorem dMo_isInstruction_147 : decode cMo_isInstruction 147 = .ok (.ireturn, 1) := by decide +kernel
theorem dMo_isInstruction_148 : decode cMo_isInstruction 148 = .ok (.aload_n 0, 1) := by decide +kernel
theorem dMo_isInstruction_149 : decode cMo_isInstruction 149 = .ok (.invokevirtual 80, 3) := by decide +kernel
theorem dMo_isInstruction_152 : decode cMo_isInstruction 152 = .ok (.iconst 3, 1) := by decide +kernel
theorem dMo_isInstruction_153 : decode cMo_isInstruction 153 = .ok (.if_icmp .ne 36, 3) := by decide +kernel
theorem dMo_isInstruction_156 : decode cMo_isInstruction 156 = .ok (.aload_n 0, 1) := by decide +kernel
theorem dMo_isInstruction_157 : decode cMo_isInstruction 157 = .ok (.getfield 50, 3) := by decide +kernel
theorem dMo_isInstruction_160 : decode cMo_isInstruction 160 = .ok (.ifCond .ne 25, 3) := by decide +kernel
theorem dMo_isInstruction_163 : decode cMo_isInstruction 163 = .ok (.aload_n 0, 1) := by decide +kernel
theorem dMo_isInstruction_164 : decode cMo_isInstruction 164 = .ok (.getfield 37, 3) := by decide +kernel
theorem dMo_isInstruction_167 : decode cMo_isInstruction 167 = .ok (.bipush 11, 2) := by decide +kernel
theorem dMo_isInstruction_169 : decode cMo_isInstruction 169 = .ok (.if_icmp .ge 16, 3) := by decide +kernel
theorem dMo_isInstruction_172 : decode cMo_isInstruction 172 = .ok (.aload_n 0, 1) := by decide +kernel
theorem dMo_isInstruction_173 : decode cMo_isInstruction 173 = .ok (.getfield 40, 3) := by decide +kernel
theorem dMo_isInstruction_176 : decode cMo_isInstruction 176 = .ok (.bipush 11, 2) := by decide +kernel
theorem dMo_isInstruction_178 : decode cMo_isInstruction 178 = .ok (.if_icmp .ge 7, 3) := by decide +kernel
theorem dMo_isInstruction_181 : decode cMo_isInstruction 181 = .ok (.iconst 1, 1) := by decide +kernel
theorem dMo_isInstruction_182 : decode cMo_isInstruction 182 = .ok (.goto 28, 3) := by decide +kernel
theorem dMo_isInstruction_185 : decode cMo_isInstruction 185 = .ok (.iconst 0, 1) := by decide +kernel
theorem dMo_isInstruction_186 : decode cMo_isInstruction 186 = .ok (.goto 24, 3) := by decide +kernel
theorem dMo_isInstruction_189 : decode cMo_isInstruction 189 = .ok (.aload_n 0, 1) := by decide +kernel
theorem dMo_isInstruction_190 : decode cMo_isInstruction 190 = .ok (.invokevirtual 80, 3) := by decide +kernel
theorem dMo_isInstruction_193 : decode cMo_isInstruction 193 = .ok (.bipush 6, 2) := by decide +kernel
theorem dMo_isInstruction_195 : decode cMo_isInstruction 195 = .ok (.if_icmp .ne 14, 3) := by decide +kernel
theorem dMo_isInstruction_198 : decode cMo_isInstruction 198 = .ok (.aload_n 0, 1) := by decide +kernel
theorem dMo_isInstruction_199 : decode cMo_isInstruction 199 = .ok (.invokevirtual 83, 3) := by decide +kernel
theorem dMo_isInstruction_202 : decode cMo_isInstruction 202 = .ok (.ifCond .eq 7, 3) := by decide +kernel
theorem dMo_isInstruction_205 : decode cMo_isInstruction 205 = .ok (.iconst 1, 1) := by decide +kernel
theorem dMo_isInstruction_206 : decode cMo_isInstruction 206 = .ok (.goto 4, 3) := by decide +kernel
theorem dMo_isInstruction_209 : decode cMo_isInstruction 209 = .ok (.iconst 0, 1) := by decide +kernel
theorem dMo_isInstruction_210 : decode cMo_isInstruction 210 = .ok (.ireturn, 1) := by decide +kernel
theorem dMo_isInstruction_211 : decode cMo_isInstruction 211 = .ok (.aload_n 0, 1) := by decide +kernel
theorem dMo_isInstruction_212 : decode cMo_isInstruction 212 = .ok (.invokevirtual 86, 3) := by decide +kernel
theorem dMo_isInstruction_215 : decode cMo_isInstruction 215 = .ok (.ifCond .eq 38, 3) := by decide +kernel
theorem dMo_isInstruction_218 : decode cMo_isInstruction 218 = .ok (.aload_n 0, 1) := by decide +kernel
theorem dMo_isInstruction_219 : decode cMo_isInstruction 219 = .ok (.getfield 37, 3) := by decide +kernel
theorem dMo_isInstruction_222 : decode cMo_isInstruction 222 = .ok (.bipush 10, 2) := by decide +kernel
theorem dMo_isInstruction_224 : decode cMo_isInstruction 224 = .ok (.if_icmp .ge 29, 3) := by decide +kernel
theorem dMo_isInstruction_227 : decode cMo_isInstruction 227 = .ok (.aload_n 0, 1) := by decide +kernel
theorem dMo_isInstruction_228 : decode cMo_isInstruction 228 = .ok (.getfield 40, 3) := by decide +kernel
theorem dMo_isInstruction_231 : decode cMo_isInstruction 231 = .ok (.iconst 2, 1) := by decide +kernel
theorem dMo_isInstruction_232 : decode cMo_isInstruction 232 = .ok (.if_icmp .ge 21, 3) := by decide +kernel
theorem dMo_isInstruction_235 : decode cMo_isInstruction 235 = .ok (.aload_n 0, 1) := by decide +kernel
theorem dMo_isInstruction_236 : decode cMo_isInstruction 236 = .ok (.getfield 47, 3) := by decide +kernel
theorem dMo_isInstruction_239 : decode cMo_isInstruction 239 = .ok (.ifCond .ne 14, 3) := by decide +kernel
theorem dMo_isInstruction_242 : decode cMo_isInstruction 242 = .ok (.iload_n 2, 1) := by decide +kernel
theorem dMo_isInstruction_243 : decode cMo_isInstruction 243 = .ok (.iconst 1, 1) := by decide +kernel
theorem dMo_isInstruction_244 : decode cMo_isInstruction 244 = .ok (.iadd, 1) := by decide +kernel
theorem dMo_isInstruction_245 : decode cMo_isInstruction 245 = .ok (.iload_n 3, 1) := by decide +kernel
theorem dMo_isInstruction_246 : decode cMo_isInstruction 246 = .ok (.if_icmp .ge 7, 3) := by decide +kernel
theorem dMo_isInstruction_249 : decode cMo_isInstruction 249 = .ok (.iconst 1, 1) := by decide +kernel
theorem dMo_isInstruction_250 : decode cMo_isInstruction 250 = .ok (.goto 4, 3) := by decide +kernel
theorem dMo_isInstruction_253 : decode cMo_isInstruction 253 = .ok (.iconst 0, 1) := by decide +kernel
theorem dMo_isInstruction_254 : decode cMo_isInstruction 254 = .ok (.istore 4, 2) := by decide +kernel
theorem dMo_isInstruction_256 : decode cMo_isInstruction 256 = .ok (.iload 4, 2) := by decide +kernel
theorem dMo_isInstruction_258 : decode cMo_isInstruction 258 = .ok (.ifCond .eq 22, 3) := by decide +kernel
theorem dMo_isInstruction_261 : decode cMo_isInstruction 261 = .ok (.aload_n 1, 1) := by decide +kernel
theorem dMo_isInstruction_262 : decode cMo_isInstruction 262 = .ok (.bipush 8, 2) := by decide +kernel
theorem dMo_isInstruction_264 : decode cMo_isInstruction 264 = .ok (.iload_n 2, 1) := by decide +kernel
theorem dMo_isInstruction_265 : decode cMo_isInstruction 265 = .ok (.imul, 1) := by decide +kernel
theorem dMo_isInstruction_266 : decode cMo_isInstruction 266 = .ok (.bipush 8, 2) := by decide +kernel
theorem dMo_isInstruction_268 : decode cMo_isInstruction 268 = .ok (.iadd, 1) := by decide +kernel
theorem dMo_isInstruction_269 : decode cMo_isInstruction 269 = .ok (.iconst 4, 1) := by decide +kernel
theorem dMo_isInstruction_270 : decode cMo_isInstruction 270 = .ok (.invokestatic 43, 3) := by decide +kernel
theorem dMo_isInstruction_273 : decode cMo_isInstruction 273 = .ok (.ifCond .ne 7, 3) := by decide +kernel
theorem dMo_isInstruction_276 : decode cMo_isInstruction 276 = .ok (.iconst 1, 1) := by decide +kernel
theorem dMo_isInstruction_277 : decode cMo_isInstruction 277 = .ok (.goto 4, 3) := by decide +kernel
theorem dMo_isInstruction_280 : decode cMo_isInstruction 280 = .ok (.iconst 0, 1) := by decide +kernel
theorem dMo_isInstruction_281 : decode cMo_isInstruction 281 = .ok (.istore 5, 2) := by decide +kernel
theorem dMo_isInstruction_283 : decode cMo_isInstruction 283 = .ok (.iload 5, 2) := by decide +kernel
theorem dMo_isInstruction_285 : decode cMo_isInstruction 285 = .ok (.ifCond .eq 36, 3) := by decide +kernel
theorem dMo_isInstruction_288 : decode cMo_isInstruction 288 = .ok (.aload_n 0, 1) := by decide +kernel
theorem dMo_isInstruction_289 : decode cMo_isInstruction 289 = .ok (.getfield 40, 3) := by decide +kernel
theorem dMo_isInstruction_292 : decode cMo_isInstruction 292 = .ok (.ifCond .eq 25, 3) := by decide +kernel
theorem dMo_isInstruction_295 : decode cMo_isInstruction 295 = .ok (.aload_n 0, 1) := by decide +kernel
theorem dMo_isInstruction_296 : decode cMo_isInstruction 296 = .ok (.getfield 50, 3) := by decide +kernel
theorem dMo_isInstruction_299 : decode cMo_isInstruction 299 = .ok (.ifCond .lt 22, 3) := by decide +kernel
theorem dMo_isInstruction_302 : decode cMo_isInstruction 302 = .ok (.aload_n 1, 1) := by decide +kernel
theorem dMo_isInstruction_303 : decode cMo_isInstruction 303 = .ok (.bipush 8, 2) := by decide +kernel
theorem dMo_isInstruction_305 : decode cMo_isInstruction 305 = .ok (.iload_n 2, 1) := by decide +kernel
theorem dMo_isInstruction_306 : decode cMo_isInstruction 306 = .ok (.imul, 1) := by decide +kernel
theorem dMo_isInstruction_307 : decode cMo_isInstruction 307 = .ok (.bipush 12, 2) := by decide +kernel
theorem dMo_isInstruction_309 : decode cMo_isInstruction 309 = .ok (.iadd, 1) := by decide +kernel
theorem dMo_isInstruction_310 : decode cMo_isInstruction 310 = .ok (.iconst 4, 1) := by decide +kernel
theorem dMo_isInstruction_311 : decode cMo_isInstruction 311 = .ok (.invokestatic 43, 3) := by decide +kernel
theorem dMo_isInstruction_314 : decode cMo_isInstruction 314 = .ok (.ifCond .ne 7, 3) := by decide +kernel
theorem dMo_isInstruction_317 : decode cMo_isInstruction 317 = .ok (.iconst 1, 1) := by decide +kernel
theorem dMo_isInstruction_318 : decode cMo_isInstruction 318 = .ok (.goto 4, 3) := by decide +kernel
theorem dMo_isInstruction_321 : decode cMo_isInstruction 321 = .ok (.iconst 0, 1) := by decide +kernel
theorem dMo_isInstruction_322 : decode cMo_isInstruction 322 = .ok (.ireturn, 1) := by decide +kernel
theorem dMo_wrongPlace_0 : decode cMo_wrongPlace 0 = .ok (.iconst 0, 1) := by decide +kernel
theorem dMo_wrongPlace_1 : decode cMo_wrongPlace 1 = .ok (.istore_n 2, 1) := by decide +kernel
theorem dMo_wrongPlace_2 : decode cMo_wrongPlace 2 = .ok (.iload_n 2, 1) := by decide +kernel
theorem dMo_wrongPlace_3 : decode cMo_wrongPlace 3 = .ok (.iload_n 1, 1) := by decide +kernel
theorem dMo_wrongPlace_4 : decode cMo_wrongPlace 4 = .ok (.if_icmp .ge 38, 3) := by decide +kernel
theorem dMo_wrongPlace_7 : decode cMo_wrongPlace 7 = .ok (.aload_n 0, 1) := by decide +kernel
theorem dMo_wrongPlace_8 : decode cMo_wrongPlace 8 = .ok (.aload_n 0, 1) := by decide +kernel
theorem dMo_wrongPlace_9 : decode cMo_wrongPlace 9 = .ok (.getfield 8, 3) := by decide +kernel
theorem dMo_wrongPlace_12 : decode cMo_wrongPlace 12 = .ok (.iload_n 2, 1) := by decide +kernel
theorem dMo_wrongPlace_13 : decode cMo_wrongPlace 13 = .ok (.iload_n 1, 1) := by decide +kernel
theorem dMo_wrongPlace_14 : decode cMo_wrongPlace 14 = .ok (.invokevirtual 89, 3) := by decide +kernel
theorem dMo_wrongPlace_17 : decode cMo_wrongPlace 17 = .ok (.ifCond .ne 5, 3) := by decide +kernel
theorem dMo_wrongPlace_20 : decode cMo_wrongPlace 20 = .ok (.iload_n 2, 1) := by decide +kernel
theorem dMo_wrongPlace_21 : decode cMo_wrongPlace 21 = .ok (.ireturn, 1) := by decide +kernel
theorem dMo_wrongPlace_22 : decode cMo_wrongPlace 22 = .ok (.aload_n 0, 1) := by decide +kernel
theorem dMo_wrongPlace_23 : decode cMo_wrongPlace 23 = .ok (.invokevirtual 86, 3) := by decide +kernel
theorem dMo_wrongPlace_26 : decode cMo_wrongPlace 26 = .ok (.ifCond .eq 9, 3) := by decide +kernel
theorem dMo_wrongPlace_29 : decode cMo_wrongPlace 29 = .ok (.iload_n 2, 1) := by decide +kernel
theorem dMo_wrongPlace_30 : decode cMo_wrongPlace 30 = .ok (.iconst 2, 1) := by decide +kernel
theorem dMo_wrongPlace_31 : decode cMo_wrongPlace 31 = .ok (.iadd, 1) := by decide +kernel
theorem dMo_wrongPlace_32 : decode cMo_wrongPlace 32 = .ok (.goto 6, 3) := by decide +kernel
theorem dMo_wrongPlace_35 : decode cMo_wrongPlace 35 = .ok (.iload_n 2, 1) := by decide +kernel
theorem dMo_wrongPlace_36 : decode cMo_wrongPlace 36 = .ok (.iconst 1, 1) := by decide +kernel
theorem dMo_wrongPlace_37 : decode cMo_wrongPlace 37 = .ok (.iadd, 1) := by decide +kernel
theorem dMo_wrongPlace_38 : decode cMo_wrongPlace 38 = .ok (.istore_n 2, 1) := by decide +kernel
theorem dMo_wrongPlace_39 : decode cMo_wrongPlace 39 = .ok (.goto (-37), 3) := by decide +kernel
theorem dMo_wrongPlace_42 : decode cMo_wrongPlace 42 = .ok (.aload_n 0, 1) := by decide +kernel
theorem dMo_wrongPlace_43 : decode cMo_wrongPlace 43 = .ok (.getfield 31, 3) := by decide +kernel
theorem dMo_wrongPlace_46 : decode cMo_wrongPlace 46 = .ok (.bipush 8, 2) := by decide +kernel
theorem dMo_wrongPlace_48 : decode cMo_wrongPlace 48 = .ok (.irem, 1) := by decide +kernel
theorem dMo_wrongPlace_49 : decode cMo_wrongPlace 49 = .ok (.ifCond .ne 7, 3) := by decide +kernel
theorem dMo_wrongPlace_52 : decode cMo_wrongPlace 52 = .ok (.iload_n 1, 1) := by decide +kernel
theorem dMo_wrongPlace_53 : decode cMo_wrongPlace 53 = .ok (.ifCond .ne 7, 3) := by decide +kernel
theorem dMo_wrongPlace_56 : decode cMo_wrongPlace 56 = .ok (.iload_n 1, 1) := by decide +kernel
theorem dMo_wrongPlace_57 : decode cMo_wrongPlace 57 = .ok (.goto 4, 3) := by decide +kernel
theorem dMo_wrongPlace_60 : decode cMo_wrongPlace 60 = .ok (.iconst (-1), 1) := by decide +kernel
theorem dMo_wrongPlace_61 : decode cMo_wrongPlace 61 = .ok (.ireturn, 1) := by decide +kernel
end
section
theorem dMo_isGoal_0 : decode cMo_isGoal 0 = .ok (.iconst 0, 1) := by decide +kernel
theorem dMo_isGoal_1 : decode cMo_isGoal 1 = .ok (.istore 4, 2) := by decide +kernel
theorem dMo_isGoal_3 : decode cMo_isGoal 3 = .ok (.iload 4, 2) := by decide +kernel
theorem dMo_isGoal_5 : decode cMo_isGoal 5 = .ok (.iload_n 3, 1) := by decide +kernel
theorem dMo_isGoal_6 : decode cMo_isGoal 6 = .ok (.if_icmp .ge 42, 3) := by decide +kernel
theorem dMo_isGoal_9 : decode cMo_isGoal 9 = .ok (.iload 4, 2) := by decide +kernel
theorem dMo_isGoal_11 : decode cMo_isGoal 11 = .ok (.i2l, 1) := by decide +kernel
theorem dMo_isGoal_12 : decode cMo_isGoal 12 = .ok (.lload_n 1, 1) := by decide +kernel
theorem dMo_isGoal_13 : decode cMo_isGoal 13 = .ok (.lcmp, 1) := by decide +kernel
theorem dMo_isGoal_14 : decode cMo_isGoal 14 = .ok (.ifCond .ge 34, 3) := by decide +kernel
theorem dMo_isGoal_17 : decode cMo_isGoal 17 = .ok (.aload_n 0, 1) := by decide +kernel
theorem dMo_isGoal_18 : decode cMo_isGoal 18 = .ok (.getfield 8, 3) := by decide +kernel
theorem dMo_isGoal_21 : decode cMo_isGoal 21 = .ok (.bipush 8, 2) := by decide +kernel
theorem dMo_isGoal_23 : decode cMo_isGoal 23 = .ok (.iload 4, 2) := by decide +kernel
theorem dMo_isGoal_25 : decode cMo_isGoal 25 = .ok (.imul, 1) := by decide +kernel
theorem dMo_isGoal_26 : decode cMo_isGoal 26 = .ok (.iaload, 1) := by decide +kernel
theorem dMo_isGoal_27 : decode cMo_isGoal 27 = .ok (.bipush 24, 2) := by decide +kernel
theorem dMo_isGoal_29 : decode cMo_isGoal 29 = .ok (.if_icmp .ne 10, 3) := by decide +kernel
theorem dMo_isGoal_32 : decode cMo_isGoal 32 = .ok (.iload 4, 2) := by decide +kernel
theorem dMo_isGoal_34 : decode cMo_isGoal 34 = .ok (.iconst 2, 1) := by decide +kernel
theorem dMo_isGoal_35 : decode cMo_isGoal 35 = .ok (.iadd, 1) := by decide +kernel
theorem dMo_isGoal_36 : decode cMo_isGoal 36 = .ok (.goto 7, 3) := by decide +kernel
theorem dMo_isGoal_39 : decode cMo_isGoal 39 = .ok (.iload 4, 2) := by decide +kernel
theorem dMo_isGoal_41 : decode cMo_isGoal 41 = .ok (.iconst 1, 1) := by decide +kernel
theorem dMo_isGoal_42 : decode cMo_isGoal 42 = .ok (.iadd, 1) := by decide +kernel
theorem dMo_isGoal_43 : decode cMo_isGoal 43 = .ok (.istore 4, 2) := by decide +kernel
theorem dMo_isGoal_45 : decode cMo_isGoal 45 = .ok (.goto (-42), 3) := by decide +kernel
theorem dMo_isGoal_48 : decode cMo_isGoal 48 = .ok (.lload_n 1, 1) := by decide +kernel
theorem dMo_isGoal_49 : decode cMo_isGoal 49 = .ok (.lconst 0, 1) := by decide +kernel
theorem dMo_isGoal_50 : decode cMo_isGoal 50 = .ok (.lcmp, 1) := by decide +kernel
theorem dMo_isGoal_51 : decode cMo_isGoal 51 = .ok (.ifCond .lt 22, 3) := by decide +kernel
theorem dMo_isGoal_54 : decode cMo_isGoal 54 = .ok (.lload_n 1, 1) := by decide +kernel
theorem dMo_isGoal_55 : decode cMo_isGoal 55 = .ok (.iload_n 3, 1) := by decide +kernel
theorem dMo_isGoal_56 : decode cMo_isGoal 56 = .ok (.i2l, 1) := by decide +kernel
theorem dMo_isGoal_57 : decode cMo_isGoal 57 = .ok (.lcmp, 1) := by decide +kernel
theorem dMo_isGoal_58 : decode cMo_isGoal 58 = .ok (.ifCond .ge 15, 3) := by decide +kernel
theorem dMo_isGoal_61 : decode cMo_isGoal 61 = .ok (.iload 4, 2) := by decide +kernel
theorem dMo_isGoal_63 : decode cMo_isGoal 63 = .ok (.i2l, 1) := by decide +kernel
theorem dMo_isGoal_64 : decode cMo_isGoal 64 = .ok (.lload_n 1, 1) := by decide +kernel
theorem dMo_isGoal_65 : decode cMo_isGoal 65 = .ok (.lcmp, 1) := by decide +kernel
theorem dMo_isGoal_66 : decode cMo_isGoal 66 = .ok (.ifCond .ne 7, 3) := by decide +kernel
theorem dMo_isGoal_69 : decode cMo_isGoal 69 = .ok (.iconst 1, 1) := by decide +kernel
theorem dMo_isGoal_70 : decode cMo_isGoal 70 = .ok (.goto 4, 3) := by decide +kernel
theorem dMo_isGoal_73 : decode cMo_isGoal 73 = .ok (.iconst 0, 1) := by decide +kernel
theorem dMo_isGoal_74 : decode cMo_isGoal 74 = .ok (.ireturn, 1) := by decide +kernel
theorem dMo_wrongWay_0 : decode cMo_wrongWay 0 = .ok (.iconst 0, 1) := by decide +kernel
theorem dMo_wrongWay_1 : decode cMo_wrongWay 1 = .ok (.istore_n 2, 1) := by decide +kernel
theorem dMo_wrongWay_2 : decode cMo_wrongWay 2 = .ok (.iload_n 2, 1) := by decide +kernel
theorem dMo_wrongWay_3 : decode cMo_wrongWay 3 = .ok (.iload_n 1, 1) := by decide +kernel
theorem dMo_wrongWay_4 : decode cMo_wrongWay 4 = .ok (.if_icmp .ge 171, 3) := by decide +kernel
theorem dMo_wrongWay_7 : decode cMo_wrongWay 7 = .ok (.aload_n 0, 1) := by decide +kernel
theorem dMo_wrongWay_8 : decode cMo_wrongWay 8 = .ok (.aload_n 0, 1) := by decide +kernel
theorem dMo_wrongWay_9 : decode cMo_wrongWay 9 = .ok (.getfield 8, 3) := by decide +kernel
theorem dMo_wrongWay_12 : decode cMo_wrongWay 12 = .ok (.iload_n 2, 1) := by decide +kernel
theorem dMo_wrongWay_13 : decode cMo_wrongWay 13 = .ok (.invokevirtual 70, 3) := by decide +kernel
theorem dMo_wrongWay_16 : decode cMo_wrongWay 16 = .ok (.aload_n 0, 1) := by decide +kernel
theorem dMo_wrongWay_17 : decode cMo_wrongWay 17 = .ok (.invokevirtual 86, 3) := by decide +kernel
theorem dMo_wrongWay_20 : decode cMo_wrongWay 20 = .ok (.ifCond .eq 9, 3) := by decide +kernel
theorem dMo_wrongWay_23 : decode cMo_wrongWay 23 = .ok (.iload_n 2, 1) := by decide +kernel
theorem dMo_wrongWay_24 : decode cMo_wrongWay 24 = .ok (.iconst 2, 1) := by decide +kernel
theorem dMo_wrongWay_25 : decode cMo_wrongWay 25 = .ok (.iadd, 1) := by decide +kernel
theorem dMo_wrongWay_26 : decode cMo_wrongWay 26 = .ok (.goto 6, 3) := by decide +kernel
theorem dMo_wrongWay_29 : decode cMo_wrongWay 29 = .ok (.iload_n 2, 1) := by decide +kernel
theorem dMo_wrongWay_30 : decode cMo_wrongWay 30 = .ok (.iconst 1, 1) := by decide +kernel
theorem dMo_wrongWay_31 : decode cMo_wrongWay 31 = .ok (.iadd, 1) := by decide +kernel
theorem dMo_wrongWay_32 : decode cMo_wrongWay 32 = .ok (.istore_n 3, 1) := by decide +kernel
theorem dMo_wrongWay_33 : decode cMo_wrongWay 33 = .ok (.aload_n 0, 1) := by decide +kernel
theorem dMo_wrongWay_34 : decode cMo_wrongWay 34 = .ok (.invokevirtual 57, 3) := by decide +kernel
theorem dMo_wrongWay_37 : decode cMo_wrongWay 37 = .ok (.iconst 5, 1) := by decide +kernel
theorem dMo_wrongWay_38 : decode cMo_wrongWay 38 = .ok (.if_icmp .eq 12, 3) := by decide +kernel
theorem dMo_wrongWay_41 : decode cMo_wrongWay 41 = .ok (.aload_n 0, 1) := by decide +kernel
theorem dMo_wrongWay_42 : decode cMo_wrongWay 42 = .ok (.invokevirtual 57, 3) := by decide +kernel
theorem dMo_wrongWay_45 : decode cMo_wrongWay 45 = .ok (.bipush 6, 2) := by decide +kernel
theorem dMo_wrongWay_47 : decode cMo_wrongWay 47 = .ok (.if_icmp .ne 25, 3) := by decide +kernel
theorem dMo_wrongWay_50 : decode cMo_wrongWay 50 = .ok (.aload_n 0, 1) := by decide +kernel
theorem dMo_wrongWay_51 : decode cMo_wrongWay 51 = .ok (.invokevirtual 61, 3) := by decide +kernel
theorem dMo_wrongWay_54 : decode cMo_wrongWay 54 = .ok (.bipush 8, 2) := by decide +kernel
theorem dMo_wrongWay_56 : decode cMo_wrongWay 56 = .ok (.if_icmp .eq 16, 3) := by decide +kernel
theorem dMo_wrongWay_59 : decode cMo_wrongWay 59 = .ok (.aload_n 0, 1) := by decide +kernel
theorem dMo_wrongWay_60 : decode cMo_wrongWay 60 = .ok (.invokevirtual 61, 3) := by decide +kernel
theorem dMo_wrongWay_63 : decode cMo_wrongWay 63 = .ok (.bipush 9, 2) := by decide +kernel
theorem dMo_wrongWay_65 : decode cMo_wrongWay 65 = .ok (.if_icmp .eq 7, 3) := by decide +kernel
theorem dMo_wrongWay_68 : decode cMo_wrongWay 68 = .ok (.iconst 1, 1) := by decide +kernel
theorem dMo_wrongWay_69 : decode cMo_wrongWay 69 = .ok (.goto 4, 3) := by decide +kernel
theorem dMo_wrongWay_72 : decode cMo_wrongWay 72 = .ok (.iconst 0, 1) := by decide +kernel
theorem dMo_wrongWay_73 : decode cMo_wrongWay 73 = .ok (.istore 4, 2) := by decide +kernel
theorem dMo_wrongWay_75 : decode cMo_wrongWay 75 = .ok (.aload_n 0, 1) := by decide +kernel
theorem dMo_wrongWay_76 : decode cMo_wrongWay 76 = .ok (.getfield 34, 3) := by decide +kernel
theorem dMo_wrongWay_79 : decode cMo_wrongWay 79 = .ok (.iconst 5, 1) := by decide +kernel
theorem dMo_wrongWay_80 : decode cMo_wrongWay 80 = .ok (.if_icmp .eq 12, 3) := by decide +kernel
theorem dMo_wrongWay_83 : decode cMo_wrongWay 83 = .ok (.aload_n 0, 1) := by decide +kernel
theorem dMo_wrongWay_84 : decode cMo_wrongWay 84 = .ok (.getfield 34, 3) := by decide +kernel
theorem dMo_wrongWay_87 : decode cMo_wrongWay 87 = .ok (.bipush 6, 2) := by decide +kernel
theorem dMo_wrongWay_89 : decode cMo_wrongWay 89 = .ok (.if_icmp .ne 7, 3) := by decide +kernel
theorem dMo_wrongWay_92 : decode cMo_wrongWay 92 = .ok (.iconst 1, 1) := by decide +kernel
theorem dMo_wrongWay_93 : decode cMo_wrongWay 93 = .ok (.goto 4, 3) := by decide +kernel
theorem dMo_wrongWay_96 : decode cMo_wrongWay 96 = .ok (.iconst 0, 1) := by decide +kernel
theorem dMo_wrongWay_97 : decode cMo_wrongWay 97 = .ok (.istore 5, 2) := by decide +kernel
theorem dMo_wrongWay_99 : decode cMo_wrongWay 99 = .ok (.aload_n 0, 1) := by decide +kernel
theorem dMo_wrongWay_100 : decode cMo_wrongWay 100 = .ok (.getfield 34, 3) := by decide +kernel
theorem dMo_wrongWay_103 : decode cMo_wrongWay 103 = .ok (.bipush 6, 2) := by decide +kernel
theorem dMo_wrongWay_105 : decode cMo_wrongWay 105 = .ok (.if_icmp .ne 16, 3) := by decide +kernel
theorem dMo_wrongWay_108 : decode cMo_wrongWay 108 = .ok (.iload_n 2, 1) := by decide +kernel
theorem dMo_wrongWay_109 : decode cMo_wrongWay 109 = .ok (.i2l, 1) := by decide +kernel
theorem dMo_wrongWay_110 : decode cMo_wrongWay 110 = .ok (.lconst 1, 1) := by decide +kernel
theorem dMo_wrongWay_111 : decode cMo_wrongWay 111 = .ok (.ladd, 1) := by decide +kernel
theorem dMo_wrongWay_112 : decode cMo_wrongWay 112 = .ok (.aload_n 0, 1) := by decide +kernel
theorem dMo_wrongWay_113 : decode cMo_wrongWay 113 = .ok (.getfield 50, 3) := by decide +kernel
theorem dMo_wrongWay_116 : decode cMo_wrongWay 116 = .ok (.i2l, 1) := by decide +kernel
theorem dMo_wrongWay_117 : decode cMo_wrongWay 117 = .ok (.ladd, 1) := by decide +kernel
theorem dMo_wrongWay_118 : decode cMo_wrongWay 118 = .ok (.goto 13, 3) := by decide +kernel
theorem dMo_wrongWay_121 : decode cMo_wrongWay 121 = .ok (.iload_n 2, 1) := by decide +kernel
theorem dMo_wrongWay_122 : decode cMo_wrongWay 122 = .ok (.i2l, 1) := by decide +kernel
theorem dMo_wrongWay_123 : decode cMo_wrongWay 123 = .ok (.lconst 1, 1) := by decide +kernel
theorem dMo_wrongWay_124 : decode cMo_wrongWay 124 = .ok (.ladd, 1) := by decide +kernel
theorem dMo_wrongWay_125 : decode cMo_wrongWay 125 = .ok (.aload_n 0, 1) := by decide +kernel
theorem dMo_wrongWay_126 : decode cMo_wrongWay 126 = .ok (.getfield 47, 3) := by decide +kernel
theorem dMo_wrongWay_129 : decode cMo_wrongWay 129 = .ok (.i2l, 1) := by decide +kernel
theorem dMo_wrongWay_130 : decode cMo_wrongWay 130 = .ok (.ladd, 1) := by decide +kernel
theorem dMo_wrongWay_131 : decode cMo_wrongWay 131 = .ok (.lstore 6, 2) := by decide +kernel
theorem dMo_wrongWay_133 : decode cMo_wrongWay 133 = .ok (.iload 4, 2) := by decide +kernel
theorem dMo_wrongWay_135 : decode cMo_wrongWay 135 = .ok (.ifCond .eq 13, 3) := by decide +kernel
theorem dMo_wrongWay_138 : decode cMo_wrongWay 138 = .ok (.aload_n 0, 1) := by decide +kernel
theorem dMo_wrongWay_139 : decode cMo_wrongWay 139 = .ok (.lload 6, 2) := by decide +kernel
theorem dMo_wrongWay_141 : decode cMo_wrongWay 141 = .ok (.iload_n 1, 1) := by decide +kernel
theorem dMo_wrongWay_142 : decode cMo_wrongWay 142 = .ok (.invokevirtual 93, 3) := by decide +kernel
theorem dMo_wrongWay_145 : decode cMo_wrongWay 145 = .ok (.ifCond .eq 23, 3) := by decide +kernel
theorem dMo_wrongWay_148 : decode cMo_wrongWay 148 = .ok (.iload 5, 2) := by decide +kernel
theorem dMo_wrongWay_150 : decode cMo_wrongWay 150 = .ok (.ifCond .ne 20, 3) := by decide +kernel
theorem dMo_wrongWay_153 : decode cMo_wrongWay 153 = .ok (.aload_n 0, 1) := by decide +kernel
theorem dMo_wrongWay_154 : decode cMo_wrongWay 154 = .ok (.getfield 34, 3) := by decide +kernel
theorem dMo_wrongWay_157 : decode cMo_wrongWay 157 = .ok (.sipush 149, 3) := by decide +kernel
theorem dMo_wrongWay_160 : decode cMo_wrongWay 160 = .ok (.if_icmp .eq 10, 3) := by decide +kernel
theorem dMo_wrongWay_163 : decode cMo_wrongWay 163 = .ok (.iload_n 3, 1) := by decide +kernel
theorem dMo_wrongWay_164 : decode cMo_wrongWay 164 = .ok (.iload_n 1, 1) := by decide +kernel
theorem dMo_wrongWay_165 : decode cMo_wrongWay 165 = .ok (.if_icmp .lt 5, 3) := by decide +kernel
theorem dMo_wrongWay_168 : decode cMo_wrongWay 168 = .ok (.iload_n 2, 1) := by decide +kernel
theorem dMo_wrongWay_169 : decode cMo_wrongWay 169 = .ok (.ireturn, 1) := by decide +kernel
theorem dMo_wrongWay_170 : decode cMo_wrongWay 170 = .ok (.iload_n 3, 1) := by decide +kernel
theorem dMo_wrongWay_171 : decode cMo_wrongWay 171 = .ok (.istore_n 2, 1) := by decide +kernel
theorem dMo_wrongWay_172 : decode cMo_wrongWay 172 = .ok (.goto (-170), 3) := by decide +kernel
theorem dMo_wrongWay_175 : decode cMo_wrongWay 175 = .ok (.iconst (-1), 1) := by decide +kernel
theorem dMo_wrongWay_176 : decode cMo_wrongWay 176 = .ok (.ireturn, 1) := by decide +kernel
theorem dMo_load_0 : decode cMo_load 0 = .ok (.aload_n 0, 1) := by decide +kernel
theorem dMo_load_1 : decode cMo_load 1 = .ok (.iconst 0, 1) := by decide +kernel
theorem dMo_load_2 : decode cMo_load 2 = .ok (.putfield 28, 3) := by decide +kernel
theorem dMo_load_5 : decode cMo_load 5 = .ok (.aload_n 0, 1) := by decide +kernel
theorem dMo_load_6 : decode cMo_load 6 = .ok (.getfield 31, 3) := by decide +kernel
theorem dMo_load_9 : decode cMo_load 9 = .ok (.bipush 8, 2) := by decide +kernel
theorem dMo_load_11 : decode cMo_load 11 = .ok (.idiv, 1) := by decide +kernel
theorem dMo_load_12 : decode cMo_load 12 = .ok (.istore_n 1, 1) := by decide +kernel
theorem dMo_load_13 : decode cMo_load 13 = .ok (.aload_n 0, 1) := by decide +kernel
theorem dMo_load_14 : decode cMo_load 14 = .ok (.iload_n 1, 1) := by decide +kernel
theorem dMo_load_15 : decode cMo_load 15 = .ok (.invokevirtual 97, 3) := by decide +kernel
theorem dMo_load_18 : decode cMo_load 18 = .ok (.istore_n 2, 1) := by decide +kernel
theorem dMo_load_19 : decode cMo_load 19 = .ok (.iload_n 2, 1) := by decide +kernel
theorem dMo_load_20 : decode cMo_load 20 = .ok (.iconst (-1), 1) := by decide +kernel
theorem dMo_load_21 : decode cMo_load 21 = .ok (.if_icmp .ne 11, 3) := by decide +kernel
theorem dMo_load_24 : decode cMo_load 24 = .ok (.aload_n 0, 1) := by decide +kernel
theorem dMo_load_25 : decode cMo_load 25 = .ok (.iload_n 1, 1) := by decide +kernel
theorem dMo_load_26 : decode cMo_load 26 = .ok (.invokevirtual 101, 3) := by decide +kernel
theorem dMo_load_29 : decode cMo_load 29 = .ok (.goto 4, 3) := by decide +kernel
theorem dMo_load_32 : decode cMo_load 32 = .ok (.iload_n 2, 1) := by decide +kernel
theorem dMo_load_33 : decode cMo_load 33 = .ok (.istore_n 2, 1) := by decide +kernel
theorem dMo_load_34 : decode cMo_load 34 = .ok (.aload_n 0, 1) := by decide +kernel
theorem dMo_load_35 : decode cMo_load 35 = .ok (.iload_n 2, 1) := by decide +kernel
theorem dMo_load_36 : decode cMo_load 36 = .ok (.iconst (-1), 1) := by decide +kernel
theorem dMo_load_37 : decode cMo_load 37 = .ok (.if_icmp .ne 7, 3) := by decide +kernel
theorem dMo_load_40 : decode cMo_load 40 = .ok (.iload_n 1, 1) := by decide +kernel
theorem dMo_load_41 : decode cMo_load 41 = .ok (.goto 4, 3) := by decide +kernel
theorem dMo_load_44 : decode cMo_load 44 = .ok (.iconst 0, 1) := by decide +kernel
theorem dMo_load_45 : decode cMo_load 45 = .ok (.putfield 104, 3) := by decide +kernel
theorem dMo_load_48 : decode cMo_load 48 = .ok (.iconst 0, 1) := by decide +kernel
theorem dMo_load_49 : decode cMo_load 49 = .ok (.istore_n 3, 1) := by decide +kernel
theorem dMo_load_50 : decode cMo_load 50 = .ok (.iload_n 3, 1) := by decide +kernel
theorem dMo_load_51 : decode cMo_load 51 = .ok (.bipush 8, 2) := by decide +kernel
theorem dMo_load_53 : decode cMo_load 53 = .ok (.aload_n 0, 1) := by decide +kernel
theorem dMo_load_54 : decode cMo_load 54 = .ok (.getfield 104, 3) := by decide +kernel
theorem dMo_load_57 : decode cMo_load 57 = .ok (.imul, 1) := by decide +kernel
theorem dMo_load_58 : decode cMo_load 58 = .ok (.if_icmp .ge 21, 3) := by decide +kernel
theorem dMo_load_61 : decode cMo_load 61 = .ok (.aload_n 0, 1) := by decide +kernel
theorem dMo_load_62 : decode cMo_load 62 = .ok (.getfield 14, 3) := by decide +kernel
theorem dMo_load_65 : decode cMo_load 65 = .ok (.iload_n 3, 1) := by decide +kernel
theorem dMo_load_66 : decode cMo_load 66 = .ok (.aload_n 0, 1) := by decide +kernel
theorem dMo_load_67 : decode cMo_load 67 = .ok (.getfield 8, 3) := by decide +kernel
theorem dMo_load_70 : decode cMo_load 70 = .ok (.iload_n 3, 1) := by decide +kernel
theorem dMo_load_71 : decode cMo_load 71 = .ok (.iaload, 1) := by decide +kernel
theorem dMo_load_72 : decode cMo_load 72 = .ok (.iastore, 1) := by decide +kernel
theorem dMo_load_73 : decode cMo_load 73 = .ok (.iinc 3 1, 3) := by decide +kernel
theorem dMo_load_76 : decode cMo_load 76 = .ok (.goto (-26), 3) := by decide +kernel
theorem dMo_load_79 : decode cMo_load 79 = .ok (.aload_n 0, 1) := by decide +kernel
theorem dMo_load_80 : decode cMo_load 80 = .ok (.iconst 0, 1) := by decide +kernel
theorem dMo_load_81 : decode cMo_load 81 = .ok (.putfield 31, 3) := by decide +kernel
theorem dMo_load_84 : decode cMo_load 84 = .ok (.iload_n 2, 1) := by decide +kernel
theorem dMo_load_85 : decode cMo_load 85 = .ok (.ireturn, 1) := by decide +kernel
theorem dMo_places_0 : decode cMo_places 0 = .ok (.aload_n 0, 1) := by decide +kernel
theorem dMo_places_1 : decode cMo_places 1 = .ok (.iconst 0, 1) := by decide +kernel
theorem dMo_places_2 : decode cMo_places 2 = .ok (.putfield 28, 3) := by decide +kernel
theorem dMo_places_5 : decode cMo_places 5 = .ok (.aload_n 0, 1) := by decide +kernel
theorem dMo_places_6 : decode cMo_places 6 = .ok (.getfield 104, 3) := by decide +kernel
theorem dMo_places_9 : decode cMo_places 9 = .ok (.ireturn, 1) := by decide +kernel
theorem dMo_set_0 : decode cMo_set 0 = .ok (.aload_n 0, 1) := by decide +kernel
theorem dMo_set_1 : decode cMo_set 1 = .ok (.iload_n 1, 1) := by decide +kernel
theorem dMo_set_2 : decode cMo_set 2 = .ok (.ifCond .lt 9, 3) := by decide +kernel
theorem dMo_set_5 : decode cMo_set 5 = .ok (.iload_n 1, 1) := by decide +kernel
theorem dMo_set_6 : decode cMo_set 6 = .ok (.bipush 10, 2) := by decide +kernel
theorem dMo_set_8 : decode cMo_set 8 = .ok (.if_icmp .le 7, 3) := by decide +kernel
theorem dMo_set_11 : decode cMo_set 11 = .ok (.iconst 1, 1) := by decide +kernel
theorem dMo_set_12 : decode cMo_set 12 = .ok (.goto 4, 3) := by decide +kernel
theorem dMo_set_15 : decode cMo_set 15 = .ok (.iconst 0, 1) := by decide +kernel
theorem dMo_set_16 : decode cMo_set 16 = .ok (.putfield 28, 3) := by decide +kernel
theorem dMo_set_19 : decode cMo_set 19 = .ok (.aload_n 0, 1) := by decide +kernel
theorem dMo_set_20 : decode cMo_set 20 = .ok (.getfield 28, 3) := by decide +kernel
theorem dMo_set_23 : decode cMo_set 23 = .ok (.ifCond .ne 10, 3) := by decide +kernel
theorem dMo_set_26 : decode cMo_set 26 = .ok (.aload_n 0, 1) := by decide +kernel
theorem dMo_set_27 : decode cMo_set 27 = .ok (.getfield 17, 3) := by decide +kernel
theorem dMo_set_30 : decode cMo_set 30 = .ok (.iload_n 1, 1) := by decide +kernel
theorem dMo_set_31 : decode cMo_set 31 = .ok (.lload_n 2, 1) := by decide +kernel
theorem dMo_set_32 : decode cMo_set 32 = .ok (.lastore, 1) := by decide +kernel
theorem dMo_set_33 : decode cMo_set 33 = .ok (.return_, 1) := by decide +kernel
theorem dMo_get_0 : decode cMo_get 0 = .ok (.aload_n 0, 1) := by decide +kernel
theorem dMo_get_1 : decode cMo_get 1 = .ok (.iload_n 1, 1) := by decide +kernel
theorem dMo_get_2 : decode cMo_get 2 = .ok (.ifCond .lt 9, 3) := by decide +kernel
theorem dMo_get_5 : decode cMo_get 5 = .ok (.iload_n 1, 1) := by decide +kernel
theorem dMo_get_6 : decode cMo_get 6 = .ok (.bipush 10, 2) := by decide +kernel
theorem dMo_get_8 : decode cMo_get 8 = .ok (.if_icmp .le 7, 3) := by decide +kernel
theorem dMo_get_11 : decode cMo_get 11 = .ok (.iconst 1, 1) := by decide +kernel
theorem dMo_get_12 : decode cMo_get 12 = .ok (.goto 4, 3) := by decide +kernel
theorem dMo_get_15 : decode cMo_get 15 = .ok (.iconst 0, 1) := by decide +kernel
theorem dMo_get_16 : decode cMo_get 16 = .ok (.putfield 28, 3) := by decide +kernel
theorem dMo_get_19 : decode cMo_get 19 = .ok (.aload_n 0, 1) := by decide +kernel
theorem dMo_get_20 : decode cMo_get 20 = .ok (.getfield 28, 3) := by decide +kernel
theorem dMo_get_23 : decode cMo_get 23 = .ok (.ifCond .le 7, 3) := by decide +kernel
theorem dMo_get_26 : decode cMo_get 26 = .ok (.lconst 0, 1) := by decide +kernel
theorem dMo_get_27 : decode cMo_get 27 = .ok (.goto 9, 3) := by decide +kernel
theorem dMo_get_30 : decode cMo_get 30 = .ok (.aload_n 0, 1) := by decide +kernel
theorem dMo_get_31 : decode cMo_get 31 = .ok (.getfield 17, 3) := by decide +kernel
theorem dMo_get_34 : decode cMo_get 34 = .ok (.iload_n 1, 1) := by decide +kernel
theorem dMo_get_35 : decode cMo_get 35 = .ok (.laload, 1) := by decide +kernel
theorem dMo_get_36 : decode cMo_get 36 = .ok (.lreturn, 1) := by decide +kernel
end
section
theorem dMo_isThere_0 : decode cMo_isThere 0 = .ok (.lload_n 0, 1) := by decide +kernel
theorem dMo_isThere_1 : decode cMo_isThere 1 = .ok (.ldc2_w 107, 3) := by decide +kernel
theorem dMo_isThere_4 : decode cMo_isThere 4 = .ok (.lcmp, 1) := by decide +kernel
theorem dMo_isThere_5 : decode cMo_isThere 5 = .ok (.ifCond .lt 18, 3) := by decide +kernel
theorem dMo_isThere_8 : decode cMo_isThere 8 = .ok (.lload_n 0, 1) := by decide +kernel
theorem dMo_isThere_9 : decode cMo_isThere 9 = .ok (.ldc2_w 109, 3) := by decide +kernel
theorem dMo_isThere_12 : decode cMo_isThere 12 = .ok (.iload_n 2, 1) := by decide +kernel
theorem dMo_isThere_13 : decode cMo_isThere 13 = .ok (.i2l, 1) := by decide +kernel
theorem dMo_isThere_14 : decode cMo_isThere 14 = .ok (.lsub, 1) := by decide +kernel
theorem dMo_isThere_15 : decode cMo_isThere 15 = .ok (.lcmp, 1) := by decide +kernel
theorem dMo_isThere_16 : decode cMo_isThere 16 = .ok (.ifCond .gt 7, 3) := by decide +kernel
theorem dMo_isThere_19 : decode cMo_isThere 19 = .ok (.iconst 1, 1) := by decide +kernel
theorem dMo_isThere_20 : decode cMo_isThere 20 = .ok (.goto 4, 3) := by decide +kernel
theorem dMo_isThere_23 : decode cMo_isThere 23 = .ok (.iconst 0, 1) := by decide +kernel
theorem dMo_isThere_24 : decode cMo_isThere 24 = .ok (.ireturn, 1) := by decide +kernel
theorem dMo_loadJ_0 : decode cMo_loadJ 0 = .ok (.lconst 0, 1) := by decide +kernel
theorem dMo_loadJ_1 : decode cMo_loadJ 1 = .ok (.lstore 4, 2) := by decide +kernel
theorem dMo_loadJ_3 : decode cMo_loadJ 3 = .ok (.iload_n 3, 1) := by decide +kernel
theorem dMo_loadJ_4 : decode cMo_loadJ 4 = .ok (.iconst 1, 1) := by decide +kernel
theorem dMo_loadJ_5 : decode cMo_loadJ 5 = .ok (.isub, 1) := by decide +kernel
theorem dMo_loadJ_6 : decode cMo_loadJ 6 = .ok (.istore 6, 2) := by decide +kernel
theorem dMo_loadJ_8 : decode cMo_loadJ 8 = .ok (.iload 6, 2) := by decide +kernel
theorem dMo_loadJ_10 : decode cMo_loadJ 10 = .ok (.ifCond .lt 33, 3) := by decide +kernel
theorem dMo_loadJ_13 : decode cMo_loadJ 13 = .ok (.ldc2_w 111, 3) := by decide +kernel
theorem dMo_loadJ_16 : decode cMo_loadJ 16 = .ok (.lload 4, 2) := by decide +kernel
theorem dMo_loadJ_18 : decode cMo_loadJ 18 = .ok (.lmul, 1) := by decide +kernel
theorem dMo_loadJ_19 : decode cMo_loadJ 19 = .ok (.aload_n 0, 1) := by decide +kernel
theorem dMo_loadJ_20 : decode cMo_loadJ 20 = .ok (.getfield 21, 3) := by decide +kernel
theorem dMo_loadJ_23 : decode cMo_loadJ 23 = .ok (.lload_n 1, 1) := by decide +kernel
theorem dMo_loadJ_24 : decode cMo_loadJ 24 = .ok (.ldc2_w 107, 3) := by decide +kernel
theorem dMo_loadJ_27 : decode cMo_loadJ 27 = .ok (.lsub, 1) := by decide +kernel
theorem dMo_loadJ_28 : decode cMo_loadJ 28 = .ok (.l2i, 1) := by decide +kernel
theorem dMo_loadJ_29 : decode cMo_loadJ 29 = .ok (.iload 6, 2) := by decide +kernel
theorem dMo_loadJ_31 : decode cMo_loadJ 31 = .ok (.iadd, 1) := by decide +kernel
theorem dMo_loadJ_32 : decode cMo_loadJ 32 = .ok (.iaload, 1) := by decide +kernel
theorem dMo_loadJ_33 : decode cMo_loadJ 33 = .ok (.i2l, 1) := by decide +kernel
theorem dMo_loadJ_34 : decode cMo_loadJ 34 = .ok (.ladd, 1) := by decide +kernel
theorem dMo_loadJ_35 : decode cMo_loadJ 35 = .ok (.lstore 4, 2) := by decide +kernel
theorem dMo_loadJ_37 : decode cMo_loadJ 37 = .ok (.iinc 6 (-1), 3) := by decide +kernel
theorem dMo_loadJ_40 : decode cMo_loadJ 40 = .ok (.goto (-32), 3) := by decide +kernel
theorem dMo_loadJ_43 : decode cMo_loadJ 43 = .ok (.lload 4, 2) := by decide +kernel
theorem dMo_loadJ_45 : decode cMo_loadJ 45 = .ok (.lreturn, 1) := by decide +kernel
theorem dMo_store_0 : decode cMo_store 0 = .ok (.iconst 0, 1) := by decide +kernel
theorem dMo_store_1 : decode cMo_store 1 = .ok (.istore 6, 2) := by decide +kernel
theorem dMo_store_3 : decode cMo_store 3 = .ok (.iload 6, 2) := by decide +kernel
theorem dMo_store_5 : decode cMo_store 5 = .ok (.iload_n 3, 1) := by decide +kernel
theorem dMo_store_6 : decode cMo_store 6 = .ok (.if_icmp .ge 36, 3) := by decide +kernel
theorem dMo_store_9 : decode cMo_store 9 = .ok (.aload_n 0, 1) := by decide +kernel
theorem dMo_store_10 : decode cMo_store 10 = .ok (.getfield 21, 3) := by decide +kernel
theorem dMo_store_13 : decode cMo_store 13 = .ok (.lload_n 1, 1) := by decide +kernel
theorem dMo_store_14 : decode cMo_store 14 = .ok (.ldc2_w 107, 3) := by decide +kernel
theorem dMo_store_17 : decode cMo_store 17 = .ok (.lsub, 1) := by decide +kernel
theorem dMo_store_18 : decode cMo_store 18 = .ok (.l2i, 1) := by decide +kernel
theorem dMo_store_19 : decode cMo_store 19 = .ok (.iload 6, 2) := by decide +kernel
theorem dMo_store_21 : decode cMo_store 21 = .ok (.iadd, 1) := by decide +kernel
theorem dMo_store_22 : decode cMo_store 22 = .ok (.lload 4, 2) := by decide +kernel
theorem dMo_store_24 : decode cMo_store 24 = .ok (.bipush 8, 2) := by decide +kernel
theorem dMo_store_26 : decode cMo_store 26 = .ok (.iload 6, 2) := by decide +kernel
theorem dMo_store_28 : decode cMo_store 28 = .ok (.imul, 1) := by decide +kernel
theorem dMo_store_29 : decode cMo_store 29 = .ok (.lushr, 1) := by decide +kernel
theorem dMo_store_30 : decode cMo_store 30 = .ok (.l2i, 1) := by decide +kernel
theorem dMo_store_31 : decode cMo_store 31 = .ok (.sipush 255, 3) := by decide +kernel
theorem dMo_store_34 : decode cMo_store 34 = .ok (.iand, 1) := by decide +kernel
theorem dMo_store_35 : decode cMo_store 35 = .ok (.iastore, 1) := by decide +kernel
theorem dMo_store_36 : decode cMo_store 36 = .ok (.iinc 6 1, 3) := by decide +kernel
theorem dMo_store_39 : decode cMo_store 39 = .ok (.goto (-36), 3) := by decide +kernel
theorem dMo_store_42 : decode cMo_store 42 = .ok (.return_, 1) := by decide +kernel
theorem dMo_put_0 : decode cMo_put 0 = .ok (.aload_n 0, 1) := by decide +kernel
theorem dMo_put_1 : decode cMo_put 1 = .ok (.lload_n 1, 1) := by decide +kernel
theorem dMo_put_2 : decode cMo_put 2 = .ok (.bipush 8, 2) := by decide +kernel
theorem dMo_put_4 : decode cMo_put 4 = .ok (.invokestatic 113, 3) := by decide +kernel
theorem dMo_put_7 : decode cMo_put 7 = .ok (.ifCond .eq 7, 3) := by decide +kernel
theorem dMo_put_10 : decode cMo_put 10 = .ok (.iconst 0, 1) := by decide +kernel
theorem dMo_put_11 : decode cMo_put 11 = .ok (.goto 4, 3) := by decide +kernel
theorem dMo_put_14 : decode cMo_put 14 = .ok (.iconst 1, 1) := by decide +kernel
theorem dMo_put_15 : decode cMo_put 15 = .ok (.putfield 28, 3) := by decide +kernel
theorem dMo_put_18 : decode cMo_put 18 = .ok (.aload_n 0, 1) := by decide +kernel
theorem dMo_put_19 : decode cMo_put 19 = .ok (.getfield 28, 3) := by decide +kernel
theorem dMo_put_22 : decode cMo_put 22 = .ok (.ifCond .ne 11, 3) := by decide +kernel
theorem dMo_put_25 : decode cMo_put 25 = .ok (.aload_n 0, 1) := by decide +kernel
theorem dMo_put_26 : decode cMo_put 26 = .ok (.lload_n 1, 1) := by decide +kernel
theorem dMo_put_27 : decode cMo_put 27 = .ok (.bipush 8, 2) := by decide +kernel
theorem dMo_put_29 : decode cMo_put 29 = .ok (.lload_n 3, 1) := by decide +kernel
theorem dMo_put_30 : decode cMo_put 30 = .ok (.invokevirtual 116, 3) := by decide +kernel
theorem dMo_put_33 : decode cMo_put 33 = .ok (.return_, 1) := by decide +kernel
theorem dMo_word_0 : decode cMo_word 0 = .ok (.aload_n 0, 1) := by decide +kernel
theorem dMo_word_1 : decode cMo_word 1 = .ok (.lload_n 1, 1) := by decide +kernel
theorem dMo_word_2 : decode cMo_word 2 = .ok (.bipush 8, 2) := by decide +kernel
theorem dMo_word_4 : decode cMo_word 4 = .ok (.invokestatic 113, 3) := by decide +kernel
theorem dMo_word_7 : decode cMo_word 7 = .ok (.ifCond .eq 7, 3) := by decide +kernel
theorem dMo_word_10 : decode cMo_word 10 = .ok (.iconst 0, 1) := by decide +kernel
theorem dMo_word_11 : decode cMo_word 11 = .ok (.goto 4, 3) := by decide +kernel
theorem dMo_word_14 : decode cMo_word 14 = .ok (.iconst 1, 1) := by decide +kernel
theorem dMo_word_15 : decode cMo_word 15 = .ok (.putfield 28, 3) := by decide +kernel
theorem dMo_word_18 : decode cMo_word 18 = .ok (.aload_n 0, 1) := by decide +kernel
theorem dMo_word_19 : decode cMo_word 19 = .ok (.getfield 28, 3) := by decide +kernel
theorem dMo_word_22 : decode cMo_word 22 = .ok (.ifCond .le 7, 3) := by decide +kernel
theorem dMo_word_25 : decode cMo_word 25 = .ok (.lconst 0, 1) := by decide +kernel
theorem dMo_word_26 : decode cMo_word 26 = .ok (.goto 10, 3) := by decide +kernel
theorem dMo_word_29 : decode cMo_word 29 = .ok (.aload_n 0, 1) := by decide +kernel
theorem dMo_word_30 : decode cMo_word 30 = .ok (.lload_n 1, 1) := by decide +kernel
theorem dMo_word_31 : decode cMo_word 31 = .ok (.bipush 8, 2) := by decide +kernel
theorem dMo_word_33 : decode cMo_word 33 = .ok (.invokevirtual 120, 3) := by decide +kernel
theorem dMo_word_36 : decode cMo_word 36 = .ok (.lreturn, 1) := by decide +kernel
theorem dMo_isLess_0 : decode cMo_isLess 0 = .ok (.lload_n 0, 1) := by decide +kernel
theorem dMo_isLess_1 : decode cMo_isLess 1 = .ok (.lconst 0, 1) := by decide +kernel
theorem dMo_isLess_2 : decode cMo_isLess 2 = .ok (.lcmp, 1) := by decide +kernel
theorem dMo_isLess_3 : decode cMo_isLess 3 = .ok (.ifCond .ge 7, 3) := by decide +kernel
theorem dMo_isLess_6 : decode cMo_isLess 6 = .ok (.iconst 1, 1) := by decide +kernel
theorem dMo_isLess_7 : decode cMo_isLess 7 = .ok (.goto 4, 3) := by decide +kernel
theorem dMo_isLess_10 : decode cMo_isLess 10 = .ok (.iconst 0, 1) := by decide +kernel
theorem dMo_isLess_11 : decode cMo_isLess 11 = .ok (.lload_n 2, 1) := by decide +kernel
theorem dMo_isLess_12 : decode cMo_isLess 12 = .ok (.lconst 0, 1) := by decide +kernel
theorem dMo_isLess_13 : decode cMo_isLess 13 = .ok (.lcmp, 1) := by decide +kernel
theorem dMo_isLess_14 : decode cMo_isLess 14 = .ok (.ifCond .ge 7, 3) := by decide +kernel
theorem dMo_isLess_17 : decode cMo_isLess 17 = .ok (.iconst 1, 1) := by decide +kernel
theorem dMo_isLess_18 : decode cMo_isLess 18 = .ok (.goto 4, 3) := by decide +kernel
theorem dMo_isLess_21 : decode cMo_isLess 21 = .ok (.iconst 0, 1) := by decide +kernel
theorem dMo_isLess_22 : decode cMo_isLess 22 = .ok (.if_icmp .ne 17, 3) := by decide +kernel
theorem dMo_isLess_25 : decode cMo_isLess 25 = .ok (.lload_n 0, 1) := by decide +kernel
theorem dMo_isLess_26 : decode cMo_isLess 26 = .ok (.lload_n 2, 1) := by decide +kernel
theorem dMo_isLess_27 : decode cMo_isLess 27 = .ok (.lcmp, 1) := by decide +kernel
theorem dMo_isLess_28 : decode cMo_isLess 28 = .ok (.ifCond .ge 7, 3) := by decide +kernel
theorem dMo_isLess_31 : decode cMo_isLess 31 = .ok (.iconst 1, 1) := by decide +kernel
theorem dMo_isLess_32 : decode cMo_isLess 32 = .ok (.goto 18, 3) := by decide +kernel
theorem dMo_isLess_35 : decode cMo_isLess 35 = .ok (.iconst 0, 1) := by decide +kernel
theorem dMo_isLess_36 : decode cMo_isLess 36 = .ok (.goto 14, 3) := by decide +kernel
theorem dMo_isLess_39 : decode cMo_isLess 39 = .ok (.lload_n 2, 1) := by decide +kernel
theorem dMo_isLess_40 : decode cMo_isLess 40 = .ok (.lconst 0, 1) := by decide +kernel
theorem dMo_isLess_41 : decode cMo_isLess 41 = .ok (.lcmp, 1) := by decide +kernel
theorem dMo_isLess_42 : decode cMo_isLess 42 = .ok (.ifCond .ge 7, 3) := by decide +kernel
theorem dMo_isLess_45 : decode cMo_isLess 45 = .ok (.iconst 1, 1) := by decide +kernel
theorem dMo_isLess_46 : decode cMo_isLess 46 = .ok (.goto 4, 3) := by decide +kernel
theorem dMo_isLess_49 : decode cMo_isLess 49 = .ok (.iconst 0, 1) := by decide +kernel
theorem dMo_isLess_50 : decode cMo_isLess 50 = .ok (.ireturn, 1) := by decide +kernel
end
section
theorem dMo_divided_0 : decode cMo_divided 0 = .ok (.lconst 0, 1) := by decide +kernel
theorem dMo_divided_1 : decode cMo_divided 1 = .ok (.lstore 4, 2) := by decide +kernel
theorem dMo_divided_3 : decode cMo_divided 3 = .ok (.lconst 0, 1) := by decide +kernel
theorem dMo_divided_4 : decode cMo_divided 4 = .ok (.lstore 6, 2) := by decide +kernel
theorem dMo_divided_6 : decode cMo_divided 6 = .ok (.bipush 63, 2) := by decide +kernel
theorem dMo_divided_8 : decode cMo_divided 8 = .ok (.istore 8, 2) := by decide +kernel
theorem dMo_divided_10 : decode cMo_divided 10 = .ok (.iload 8, 2) := by decide +kernel
theorem dMo_divided_12 : decode cMo_divided 12 = .ok (.ifCond .lt 78, 3) := by decide +kernel
theorem dMo_divided_15 : decode cMo_divided 15 = .ok (.lload_n 2, 1) := by decide +kernel
theorem dMo_divided_16 : decode cMo_divided 16 = .ok (.lconst 0, 1) := by decide +kernel
theorem dMo_divided_17 : decode cMo_divided 17 = .ok (.lcmp, 1) := by decide +kernel
theorem dMo_divided_18 : decode cMo_divided 18 = .ok (.ifCond .eq 72, 3) := by decide +kernel
theorem dMo_divided_21 : decode cMo_divided 21 = .ok (.lload 6, 2) := by decide +kernel
theorem dMo_divided_23 : decode cMo_divided 23 = .ok (.lconst 0, 1) := by decide +kernel
theorem dMo_divided_24 : decode cMo_divided 24 = .ok (.lcmp, 1) := by decide +kernel
theorem dMo_divided_25 : decode cMo_divided 25 = .ok (.ifCond .ge 7, 3) := by decide +kernel
theorem dMo_divided_28 : decode cMo_divided 28 = .ok (.iconst 1, 1) := by decide +kernel
theorem dMo_divided_29 : decode cMo_divided 29 = .ok (.goto 4, 3) := by decide +kernel
theorem dMo_divided_32 : decode cMo_divided 32 = .ok (.iconst 0, 1) := by decide +kernel
theorem dMo_divided_33 : decode cMo_divided 33 = .ok (.istore 9, 2) := by decide +kernel
theorem dMo_divided_35 : decode cMo_divided 35 = .ok (.ldc2_w 124, 3) := by decide +kernel
theorem dMo_divided_38 : decode cMo_divided 38 = .ok (.lload 6, 2) := by decide +kernel
theorem dMo_divided_40 : decode cMo_divided 40 = .ok (.lmul, 1) := by decide +kernel
theorem dMo_divided_41 : decode cMo_divided 41 = .ok (.lload_n 0, 1) := by decide +kernel
theorem dMo_divided_42 : decode cMo_divided 42 = .ok (.iload 8, 2) := by decide +kernel
theorem dMo_divided_44 : decode cMo_divided 44 = .ok (.lshr, 1) := by decide +kernel
theorem dMo_divided_45 : decode cMo_divided 45 = .ok (.lconst 1, 1) := by decide +kernel
theorem dMo_divided_46 : decode cMo_divided 46 = .ok (.land, 1) := by decide +kernel
theorem dMo_divided_47 : decode cMo_divided 47 = .ok (.ladd, 1) := by decide +kernel
theorem dMo_divided_48 : decode cMo_divided 48 = .ok (.lstore 6, 2) := by decide +kernel
theorem dMo_divided_50 : decode cMo_divided 50 = .ok (.ldc2_w 124, 3) := by decide +kernel
theorem dMo_divided_53 : decode cMo_divided 53 = .ok (.lload 4, 2) := by decide +kernel
theorem dMo_divided_55 : decode cMo_divided 55 = .ok (.lmul, 1) := by decide +kernel
theorem dMo_divided_56 : decode cMo_divided 56 = .ok (.lstore 4, 2) := by decide +kernel
theorem dMo_divided_58 : decode cMo_divided 58 = .ok (.iload 9, 2) := by decide +kernel
theorem dMo_divided_60 : decode cMo_divided 60 = .ok (.ifCond .ne 12, 3) := by decide +kernel
theorem dMo_divided_63 : decode cMo_divided 63 = .ok (.lload 6, 2) := by decide +kernel
theorem dMo_divided_65 : decode cMo_divided 65 = .ok (.lload_n 2, 1) := by decide +kernel
theorem dMo_divided_66 : decode cMo_divided 66 = .ok (.invokestatic 126, 3) := by decide +kernel
theorem dMo_divided_69 : decode cMo_divided 69 = .ok (.ifCond .ne 15, 3) := by decide +kernel
theorem dMo_divided_72 : decode cMo_divided 72 = .ok (.lload 6, 2) := by decide +kernel
theorem dMo_divided_74 : decode cMo_divided 74 = .ok (.lload_n 2, 1) := by decide +kernel
theorem dMo_divided_75 : decode cMo_divided 75 = .ok (.lsub, 1) := by decide +kernel
theorem dMo_divided_76 : decode cMo_divided 76 = .ok (.lstore 6, 2) := by decide +kernel
theorem dMo_divided_78 : decode cMo_divided 78 = .ok (.lload 4, 2) := by decide +kernel
theorem dMo_divided_80 : decode cMo_divided 80 = .ok (.lconst 1, 1) := by decide +kernel
theorem dMo_divided_81 : decode cMo_divided 81 = .ok (.ladd, 1) := by decide +kernel
theorem dMo_divided_82 : decode cMo_divided 82 = .ok (.lstore 4, 2) := by decide +kernel
theorem dMo_divided_84 : decode cMo_divided 84 = .ok (.iinc 8 (-1), 3) := by decide +kernel
theorem dMo_divided_87 : decode cMo_divided 87 = .ok (.goto (-77), 3) := by decide +kernel
theorem dMo_divided_90 : decode cMo_divided 90 = .ok (.lload 4, 2) := by decide +kernel
theorem dMo_divided_92 : decode cMo_divided 92 = .ok (.lreturn, 1) := by decide +kernel
theorem dMo_quotient_0 : decode cMo_quotient 0 = .ok (.iload 4, 2) := by decide +kernel
theorem dMo_quotient_2 : decode cMo_quotient 2 = .ok (.ifCond .eq 13, 3) := by decide +kernel
theorem dMo_quotient_5 : decode cMo_quotient 5 = .ok (.lload_n 0, 1) := by decide +kernel
theorem dMo_quotient_6 : decode cMo_quotient 6 = .ok (.lconst 0, 1) := by decide +kernel
theorem dMo_quotient_7 : decode cMo_quotient 7 = .ok (.lcmp, 1) := by decide +kernel
theorem dMo_quotient_8 : decode cMo_quotient 8 = .ok (.ifCond .ge 7, 3) := by decide +kernel
theorem dMo_quotient_11 : decode cMo_quotient 11 = .ok (.iconst 1, 1) := by decide +kernel
theorem dMo_quotient_12 : decode cMo_quotient 12 = .ok (.goto 4, 3) := by decide +kernel
theorem dMo_quotient_15 : decode cMo_quotient 15 = .ok (.iconst 0, 1) := by decide +kernel
theorem dMo_quotient_16 : decode cMo_quotient 16 = .ok (.istore 5, 2) := by decide +kernel
theorem dMo_quotient_18 : decode cMo_quotient 18 = .ok (.iload 4, 2) := by decide +kernel
theorem dMo_quotient_20 : decode cMo_quotient 20 = .ok (.ifCond .eq 13, 3) := by decide +kernel
theorem dMo_quotient_23 : decode cMo_quotient 23 = .ok (.lload_n 2, 1) := by decide +kernel
theorem dMo_quotient_24 : decode cMo_quotient 24 = .ok (.lconst 0, 1) := by decide +kernel
theorem dMo_quotient_25 : decode cMo_quotient 25 = .ok (.lcmp, 1) := by decide +kernel
theorem dMo_quotient_26 : decode cMo_quotient 26 = .ok (.ifCond .ge 7, 3) := by decide +kernel
theorem dMo_quotient_29 : decode cMo_quotient 29 = .ok (.iconst 1, 1) := by decide +kernel
theorem dMo_quotient_30 : decode cMo_quotient 30 = .ok (.goto 4, 3) := by decide +kernel
theorem dMo_quotient_33 : decode cMo_quotient 33 = .ok (.iconst 0, 1) := by decide +kernel
theorem dMo_quotient_34 : decode cMo_quotient 34 = .ok (.istore 6, 2) := by decide +kernel
theorem dMo_quotient_36 : decode cMo_quotient 36 = .ok (.iload 5, 2) := by decide +kernel
theorem dMo_quotient_38 : decode cMo_quotient 38 = .ok (.ifCond .eq 8, 3) := by decide +kernel
theorem dMo_quotient_41 : decode cMo_quotient 41 = .ok (.lload_n 0, 1) := by decide +kernel
theorem dMo_quotient_42 : decode cMo_quotient 42 = .ok (.lneg, 1) := by decide +kernel
theorem dMo_quotient_43 : decode cMo_quotient 43 = .ok (.goto 4, 3) := by decide +kernel
theorem dMo_quotient_46 : decode cMo_quotient 46 = .ok (.lload_n 0, 1) := by decide +kernel
theorem dMo_quotient_47 : decode cMo_quotient 47 = .ok (.iload 6, 2) := by decide +kernel
theorem dMo_quotient_49 : decode cMo_quotient 49 = .ok (.ifCond .eq 8, 3) := by decide +kernel
theorem dMo_quotient_52 : decode cMo_quotient 52 = .ok (.lload_n 2, 1) := by decide +kernel
theorem dMo_quotient_53 : decode cMo_quotient 53 = .ok (.lneg, 1) := by decide +kernel
theorem dMo_quotient_54 : decode cMo_quotient 54 = .ok (.goto 4, 3) := by decide +kernel
theorem dMo_quotient_57 : decode cMo_quotient 57 = .ok (.lload_n 2, 1) := by decide +kernel
theorem dMo_quotient_58 : decode cMo_quotient 58 = .ok (.invokestatic 130, 3) := by decide +kernel
theorem dMo_quotient_61 : decode cMo_quotient 61 = .ok (.lstore 7, 2) := by decide +kernel
theorem dMo_quotient_63 : decode cMo_quotient 63 = .ok (.iload 5, 2) := by decide +kernel
theorem dMo_quotient_65 : decode cMo_quotient 65 = .ok (.iload 6, 2) := by decide +kernel
theorem dMo_quotient_67 : decode cMo_quotient 67 = .ok (.if_icmp .eq 9, 3) := by decide +kernel
theorem dMo_quotient_70 : decode cMo_quotient 70 = .ok (.lload 7, 2) := by decide +kernel
theorem dMo_quotient_72 : decode cMo_quotient 72 = .ok (.lneg, 1) := by decide +kernel
theorem dMo_quotient_73 : decode cMo_quotient 73 = .ok (.goto 5, 3) := by decide +kernel
theorem dMo_quotient_76 : decode cMo_quotient 76 = .ok (.lload 7, 2) := by decide +kernel
theorem dMo_quotient_78 : decode cMo_quotient 78 = .ok (.lreturn, 1) := by decide +kernel
theorem dMo_turned_0 : decode cMo_turned 0 = .ok (.lconst 0, 1) := by decide +kernel
theorem dMo_turned_1 : decode cMo_turned 1 = .ok (.lstore_n 3, 1) := by decide +kernel
theorem dMo_turned_2 : decode cMo_turned 2 = .ok (.iconst 0, 1) := by decide +kernel
theorem dMo_turned_3 : decode cMo_turned 3 = .ok (.istore 5, 2) := by decide +kernel
theorem dMo_turned_5 : decode cMo_turned 5 = .ok (.iload 5, 2) := by decide +kernel
theorem dMo_turned_7 : decode cMo_turned 7 = .ok (.iload_n 2, 1) := by decide +kernel
theorem dMo_turned_8 : decode cMo_turned 8 = .ok (.if_icmp .ge 28, 3) := by decide +kernel
theorem dMo_turned_11 : decode cMo_turned 11 = .ok (.ldc2_w 111, 3) := by decide +kernel
theorem dMo_turned_14 : decode cMo_turned 14 = .ok (.lload_n 3, 1) := by decide +kernel
theorem dMo_turned_15 : decode cMo_turned 15 = .ok (.lmul, 1) := by decide +kernel
theorem dMo_turned_16 : decode cMo_turned 16 = .ok (.lload_n 0, 1) := by decide +kernel
theorem dMo_turned_17 : decode cMo_turned 17 = .ok (.iload 5, 2) := by decide +kernel
theorem dMo_turned_19 : decode cMo_turned 19 = .ok (.lushr, 1) := by decide +kernel
theorem dMo_turned_20 : decode cMo_turned 20 = .ok (.ldc2_w 134, 3) := by decide +kernel
theorem dMo_turned_23 : decode cMo_turned 23 = .ok (.land, 1) := by decide +kernel
theorem dMo_turned_24 : decode cMo_turned 24 = .ok (.ladd, 1) := by decide +kernel
theorem dMo_turned_25 : decode cMo_turned 25 = .ok (.lstore_n 3, 1) := by decide +kernel
theorem dMo_turned_26 : decode cMo_turned 26 = .ok (.iload 5, 2) := by decide +kernel
theorem dMo_turned_28 : decode cMo_turned 28 = .ok (.bipush 8, 2) := by decide +kernel
theorem dMo_turned_30 : decode cMo_turned 30 = .ok (.iadd, 1) := by decide +kernel
theorem dMo_turned_31 : decode cMo_turned 31 = .ok (.istore 5, 2) := by decide +kernel
theorem dMo_turned_33 : decode cMo_turned 33 = .ok (.goto (-28), 3) := by decide +kernel
theorem dMo_turned_36 : decode cMo_turned 36 = .ok (.lload_n 3, 1) := by decide +kernel
theorem dMo_turned_37 : decode cMo_turned 37 = .ok (.lreturn, 1) := by decide +kernel
theorem dMo_signed_0 : decode cMo_signed 0 = .ok (.lconst 1, 1) := by decide +kernel
theorem dMo_signed_1 : decode cMo_signed 1 = .ok (.iload_n 2, 1) := by decide +kernel
theorem dMo_signed_2 : decode cMo_signed 2 = .ok (.iconst 1, 1) := by decide +kernel
theorem dMo_signed_3 : decode cMo_signed 3 = .ok (.isub, 1) := by decide +kernel
theorem dMo_signed_4 : decode cMo_signed 4 = .ok (.lshl, 1) := by decide +kernel
theorem dMo_signed_5 : decode cMo_signed 5 = .ok (.lstore_n 3, 1) := by decide +kernel
theorem dMo_signed_6 : decode cMo_signed 6 = .ok (.iload_n 2, 1) := by decide +kernel
theorem dMo_signed_7 : decode cMo_signed 7 = .ok (.bipush 64, 2) := by decide +kernel
theorem dMo_signed_9 : decode cMo_signed 9 = .ok (.if_icmp .ne 7, 3) := by decide +kernel
theorem dMo_signed_12 : decode cMo_signed 12 = .ok (.lload_n 0, 1) := by decide +kernel
theorem dMo_signed_13 : decode cMo_signed 13 = .ok (.goto 12, 3) := by decide +kernel
theorem dMo_signed_16 : decode cMo_signed 16 = .ok (.lload_n 0, 1) := by decide +kernel
theorem dMo_signed_17 : decode cMo_signed 17 = .ok (.ldc2_w 124, 3) := by decide +kernel
theorem dMo_signed_20 : decode cMo_signed 20 = .ok (.lload_n 3, 1) := by decide +kernel
theorem dMo_signed_21 : decode cMo_signed 21 = .ok (.lmul, 1) := by decide +kernel
theorem dMo_signed_22 : decode cMo_signed 22 = .ok (.lconst 1, 1) := by decide +kernel
theorem dMo_signed_23 : decode cMo_signed 23 = .ok (.lsub, 1) := by decide +kernel
theorem dMo_signed_24 : decode cMo_signed 24 = .ok (.land, 1) := by decide +kernel
theorem dMo_signed_25 : decode cMo_signed 25 = .ok (.lstore 5, 2) := by decide +kernel
theorem dMo_signed_27 : decode cMo_signed 27 = .ok (.iload_n 2, 1) := by decide +kernel
theorem dMo_signed_28 : decode cMo_signed 28 = .ok (.bipush 64, 2) := by decide +kernel
theorem dMo_signed_30 : decode cMo_signed 30 = .ok (.if_icmp .ge 21, 3) := by decide +kernel
theorem dMo_signed_33 : decode cMo_signed 33 = .ok (.lload 5, 2) := by decide +kernel
theorem dMo_signed_35 : decode cMo_signed 35 = .ok (.lload_n 3, 1) := by decide +kernel
theorem dMo_signed_36 : decode cMo_signed 36 = .ok (.lcmp, 1) := by decide +kernel
theorem dMo_signed_37 : decode cMo_signed 37 = .ok (.ifCond .lt 14, 3) := by decide +kernel
theorem dMo_signed_40 : decode cMo_signed 40 = .ok (.lload 5, 2) := by decide +kernel
theorem dMo_signed_42 : decode cMo_signed 42 = .ok (.ldc2_w 124, 3) := by decide +kernel
theorem dMo_signed_45 : decode cMo_signed 45 = .ok (.lload_n 3, 1) := by decide +kernel
theorem dMo_signed_46 : decode cMo_signed 46 = .ok (.lmul, 1) := by decide +kernel
theorem dMo_signed_47 : decode cMo_signed 47 = .ok (.lsub, 1) := by decide +kernel
theorem dMo_signed_48 : decode cMo_signed 48 = .ok (.goto 5, 3) := by decide +kernel
theorem dMo_signed_51 : decode cMo_signed 51 = .ok (.lload 5, 2) := by decide +kernel
theorem dMo_signed_53 : decode cMo_signed 53 = .ok (.lreturn, 1) := by decide +kernel
theorem dMo_lowest_0 : decode cMo_lowest 0 = .ok (.iload_n 2, 1) := by decide +kernel
theorem dMo_lowest_1 : decode cMo_lowest 1 = .ok (.bipush 64, 2) := by decide +kernel
theorem dMo_lowest_3 : decode cMo_lowest 3 = .ok (.if_icmp .ne 7, 3) := by decide +kernel
theorem dMo_lowest_6 : decode cMo_lowest 6 = .ok (.lload_n 0, 1) := by decide +kernel
theorem dMo_lowest_7 : decode cMo_lowest 7 = .ok (.goto 10, 3) := by decide +kernel
theorem dMo_lowest_10 : decode cMo_lowest 10 = .ok (.lload_n 0, 1) := by decide +kernel
theorem dMo_lowest_11 : decode cMo_lowest 11 = .ok (.lconst 1, 1) := by decide +kernel
theorem dMo_lowest_12 : decode cMo_lowest 12 = .ok (.iload_n 2, 1) := by decide +kernel
theorem dMo_lowest_13 : decode cMo_lowest 13 = .ok (.lshl, 1) := by decide +kernel
theorem dMo_lowest_14 : decode cMo_lowest 14 = .ok (.lconst 1, 1) := by decide +kernel
theorem dMo_lowest_15 : decode cMo_lowest 15 = .ok (.lsub, 1) := by decide +kernel
theorem dMo_lowest_16 : decode cMo_lowest 16 = .ok (.land, 1) := by decide +kernel
theorem dMo_lowest_17 : decode cMo_lowest 17 = .ok (.lreturn, 1) := by decide +kernel
theorem dMo_reckoned_0 : decode cMo_reckoned 0 = .ok (.aload_n 0, 1) := by decide +kernel
theorem dMo_reckoned_1 : decode cMo_reckoned 1 = .ok (.getfield 47, 3) := by decide +kernel
theorem dMo_reckoned_4 : decode cMo_reckoned 4 = .ok (.iconst 1, 1) := by decide +kernel
theorem dMo_reckoned_5 : decode cMo_reckoned 5 = .ok (.if_icmp .ne 7, 3) := by decide +kernel
theorem dMo_reckoned_8 : decode cMo_reckoned 8 = .ok (.iconst 1, 1) := by decide +kernel
theorem dMo_reckoned_9 : decode cMo_reckoned 9 = .ok (.goto 4, 3) := by decide +kernel
theorem dMo_reckoned_12 : decode cMo_reckoned 12 = .ok (.iconst 0, 1) := by decide +kernel
theorem dMo_reckoned_13 : decode cMo_reckoned 13 = .ok (.istore 6, 2) := by decide +kernel
theorem dMo_reckoned_15 : decode cMo_reckoned 15 = .ok (.iload 6, 2) := by decide +kernel
theorem dMo_reckoned_17 : decode cMo_reckoned 17 = .ok (.ifCond .eq 7, 3) := by decide +kernel
theorem dMo_reckoned_20 : decode cMo_reckoned 20 = .ok (.lload_n 1, 1) := by decide +kernel
theorem dMo_reckoned_21 : decode cMo_reckoned 21 = .ok (.goto 9, 3) := by decide +kernel
theorem dMo_reckoned_24 : decode cMo_reckoned 24 = .ok (.lload_n 1, 1) := by decide +kernel
theorem dMo_reckoned_25 : decode cMo_reckoned 25 = .ok (.iload 5, 2) := by decide +kernel
theorem dMo_reckoned_27 : decode cMo_reckoned 27 = .ok (.invokestatic 136, 3) := by decide +kernel
theorem dMo_reckoned_30 : decode cMo_reckoned 30 = .ok (.lstore 7, 2) := by decide +kernel
theorem dMo_reckoned_32 : decode cMo_reckoned 32 = .ok (.iload 6, 2) := by decide +kernel
theorem dMo_reckoned_34 : decode cMo_reckoned 34 = .ok (.ifCond .eq 7, 3) := by decide +kernel
theorem dMo_reckoned_37 : decode cMo_reckoned 37 = .ok (.lload_n 3, 1) := by decide +kernel
theorem dMo_reckoned_38 : decode cMo_reckoned 38 = .ok (.goto 9, 3) := by decide +kernel
theorem dMo_reckoned_41 : decode cMo_reckoned 41 = .ok (.lload_n 3, 1) := by decide +kernel
theorem dMo_reckoned_42 : decode cMo_reckoned 42 = .ok (.iload 5, 2) := by decide +kernel
theorem dMo_reckoned_44 : decode cMo_reckoned 44 = .ok (.invokestatic 136, 3) := by decide +kernel
theorem dMo_reckoned_47 : decode cMo_reckoned 47 = .ok (.lstore 9, 2) := by decide +kernel
theorem dMo_reckoned_49 : decode cMo_reckoned 49 = .ok (.lload_n 3, 1) := by decide +kernel
theorem dMo_reckoned_50 : decode cMo_reckoned 50 = .ok (.iload 5, 2) := by decide +kernel
theorem dMo_reckoned_52 : decode cMo_reckoned 52 = .ok (.iconst 1, 1) := by decide +kernel
theorem dMo_reckoned_53 : decode cMo_reckoned 53 = .ok (.isub, 1) := by decide +kernel
theorem dMo_reckoned_54 : decode cMo_reckoned 54 = .ok (.i2l, 1) := by decide +kernel
theorem dMo_reckoned_55 : decode cMo_reckoned 55 = .ok (.land, 1) := by decide +kernel
theorem dMo_reckoned_56 : decode cMo_reckoned 56 = .ok (.l2i, 1) := by decide +kernel
theorem dMo_reckoned_57 : decode cMo_reckoned 57 = .ok (.istore 11, 2) := by decide +kernel
theorem dMo_reckoned_59 : decode cMo_reckoned 59 = .ok (.aload_n 0, 1) := by decide +kernel
theorem dMo_reckoned_60 : decode cMo_reckoned 60 = .ok (.invokevirtual 61, 3) := by decide +kernel
theorem dMo_reckoned_63 : decode cMo_reckoned 63 = .ok (.tableswitch 149 0 11 #[61, 65, 69, 73, 83, 87, 91, 96, 106, 109, 125, 129], 61) := by decide +kernel
theorem dMo_reckoned_124 : decode cMo_reckoned 124 = .ok (.lload_n 1, 1) := by decide +kernel
theorem dMo_reckoned_125 : decode cMo_reckoned 125 = .ok (.lload_n 3, 1) := by decide +kernel
theorem dMo_reckoned_126 : decode cMo_reckoned 126 = .ok (.ladd, 1) := by decide +kernel
theorem dMo_reckoned_127 : decode cMo_reckoned 127 = .ok (.lreturn, 1) := by decide +kernel
theorem dMo_reckoned_128 : decode cMo_reckoned 128 = .ok (.lload_n 1, 1) := by decide +kernel
theorem dMo_reckoned_129 : decode cMo_reckoned 129 = .ok (.lload_n 3, 1) := by decide +kernel
theorem dMo_reckoned_130 : decode cMo_reckoned 130 = .ok (.lsub, 1) := by decide +kernel
theorem dMo_reckoned_131 : decode cMo_reckoned 131 = .ok (.lreturn, 1) := by decide +kernel
theorem dMo_reckoned_132 : decode cMo_reckoned 132 = .ok (.lload_n 1, 1) := by decide +kernel
theorem dMo_reckoned_133 : decode cMo_reckoned 133 = .ok (.lload_n 3, 1) := by decide +kernel
theorem dMo_reckoned_134 : decode cMo_reckoned 134 = .ok (.lmul, 1) := by decide +kernel
theorem dMo_reckoned_135 : decode cMo_reckoned 135 = .ok (.lreturn, 1) := by decide +kernel
theorem dMo_reckoned_136 : decode cMo_reckoned 136 = .ok (.lload 7, 2) := by decide +kernel
theorem dMo_reckoned_138 : decode cMo_reckoned 138 = .ok (.lload 9, 2) := by decide +kernel
theorem dMo_reckoned_140 : decode cMo_reckoned 140 = .ok (.iload 6, 2) := by decide +kernel
theorem dMo_reckoned_142 : decode cMo_reckoned 142 = .ok (.invokestatic 139, 3) := by decide +kernel
theorem dMo_reckoned_145 : decode cMo_reckoned 145 = .ok (.lreturn, 1) := by decide +kernel
theorem dMo_reckoned_146 : decode cMo_reckoned 146 = .ok (.lload_n 1, 1) := by decide +kernel
theorem dMo_reckoned_147 : decode cMo_reckoned 147 = .ok (.lload_n 3, 1) := by decide +kernel
theorem dMo_reckoned_148 : decode cMo_reckoned 148 = .ok (.lor, 1) := by decide +kernel
theorem dMo_reckoned_149 : decode cMo_reckoned 149 = .ok (.lreturn, 1) := by decide +kernel
theorem dMo_reckoned_150 : decode cMo_reckoned 150 = .ok (.lload_n 1, 1) := by decide +kernel
theorem dMo_reckoned_151 : decode cMo_reckoned 151 = .ok (.lload_n 3, 1) := by decide +kernel
theorem dMo_reckoned_152 : decode cMo_reckoned 152 = .ok (.land, 1) := by decide +kernel
theorem dMo_reckoned_153 : decode cMo_reckoned 153 = .ok (.lreturn, 1) := by decide +kernel
theorem dMo_reckoned_154 : decode cMo_reckoned 154 = .ok (.lload_n 1, 1) := by decide +kernel
theorem dMo_reckoned_155 : decode cMo_reckoned 155 = .ok (.iload 11, 2) := by decide +kernel
theorem dMo_reckoned_157 : decode cMo_reckoned 157 = .ok (.lshl, 1) := by decide +kernel
theorem dMo_reckoned_158 : decode cMo_reckoned 158 = .ok (.lreturn, 1) := by decide +kernel
theorem dMo_reckoned_159 : decode cMo_reckoned 159 = .ok (.lload_n 1, 1) := by decide +kernel
theorem dMo_reckoned_160 : decode cMo_reckoned 160 = .ok (.iload 5, 2) := by decide +kernel
theorem dMo_reckoned_162 : decode cMo_reckoned 162 = .ok (.invokestatic 136, 3) := by decide +kernel
theorem dMo_reckoned_165 : decode cMo_reckoned 165 = .ok (.iload 11, 2) := by decide +kernel
theorem dMo_reckoned_167 : decode cMo_reckoned 167 = .ok (.lushr, 1) := by decide +kernel
theorem dMo_reckoned_168 : decode cMo_reckoned 168 = .ok (.lreturn, 1) := by decide +kernel
theorem dMo_reckoned_169 : decode cMo_reckoned 169 = .ok (.lload_n 1, 1) := by decide +kernel
theorem dMo_reckoned_170 : decode cMo_reckoned 170 = .ok (.lneg, 1) := by decide +kernel
theorem dMo_reckoned_171 : decode cMo_reckoned 171 = .ok (.lreturn, 1) := by decide +kernel
theorem dMo_reckoned_172 : decode cMo_reckoned 172 = .ok (.lload 7, 2) := by decide +kernel
theorem dMo_reckoned_174 : decode cMo_reckoned 174 = .ok (.lload 7, 2) := by decide +kernel
theorem dMo_reckoned_176 : decode cMo_reckoned 176 = .ok (.lload 9, 2) := by decide +kernel
theorem dMo_reckoned_178 : decode cMo_reckoned 178 = .ok (.iload 6, 2) := by decide +kernel
theorem dMo_reckoned_180 : decode cMo_reckoned 180 = .ok (.invokestatic 139, 3) := by decide +kernel
theorem dMo_reckoned_183 : decode cMo_reckoned 183 = .ok (.lload 9, 2) := by decide +kernel
theorem dMo_reckoned_185 : decode cMo_reckoned 185 = .ok (.lmul, 1) := by decide +kernel
theorem dMo_reckoned_186 : decode cMo_reckoned 186 = .ok (.lsub, 1) := by decide +kernel
theorem dMo_reckoned_187 : decode cMo_reckoned 187 = .ok (.lreturn, 1) := by decide +kernel
theorem dMo_reckoned_188 : decode cMo_reckoned 188 = .ok (.lload_n 1, 1) := by decide +kernel
theorem dMo_reckoned_189 : decode cMo_reckoned 189 = .ok (.lload_n 3, 1) := by decide +kernel
theorem dMo_reckoned_190 : decode cMo_reckoned 190 = .ok (.lxor, 1) := by decide +kernel
theorem dMo_reckoned_191 : decode cMo_reckoned 191 = .ok (.lreturn, 1) := by decide +kernel
theorem dMo_reckoned_192 : decode cMo_reckoned 192 = .ok (.aload_n 0, 1) := by decide +kernel
theorem dMo_reckoned_193 : decode cMo_reckoned 193 = .ok (.getfield 47, 3) := by decide +kernel
theorem dMo_reckoned_196 : decode cMo_reckoned 196 = .ok (.ifCond .ne 7, 3) := by decide +kernel
theorem dMo_reckoned_199 : decode cMo_reckoned 199 = .ok (.lload_n 3, 1) := by decide +kernel
theorem dMo_reckoned_200 : decode cMo_reckoned 200 = .ok (.goto 11, 3) := by decide +kernel
theorem dMo_reckoned_203 : decode cMo_reckoned 203 = .ok (.lload_n 3, 1) := by decide +kernel
theorem dMo_reckoned_204 : decode cMo_reckoned 204 = .ok (.aload_n 0, 1) := by decide +kernel
theorem dMo_reckoned_205 : decode cMo_reckoned 205 = .ok (.getfield 47, 3) := by decide +kernel
theorem dMo_reckoned_208 : decode cMo_reckoned 208 = .ok (.invokestatic 143, 3) := by decide +kernel
theorem dMo_reckoned_211 : decode cMo_reckoned 211 = .ok (.lreturn, 1) := by decide +kernel
theorem dMo_reckoned_212 : decode cMo_reckoned 212 = .ok (.lload_n 1, 1) := by decide +kernel
theorem dMo_reckoned_213 : decode cMo_reckoned 213 = .ok (.iload 11, 2) := by decide +kernel
theorem dMo_reckoned_215 : decode cMo_reckoned 215 = .ok (.lshr, 1) := by decide +kernel
theorem dMo_reckoned_216 : decode cMo_reckoned 216 = .ok (.lreturn, 1) := by decide +kernel
end
section
theorem dMo_arithmetic_0 : decode cMo_arithmetic 0 = .ok (.aload_n 0, 1) := by decide +kernel
theorem dMo_arithmetic_1 : decode cMo_arithmetic 1 = .ok (.invokevirtual 57, 3) := by decide +kernel
theorem dMo_arithmetic_4 : decode cMo_arithmetic 4 = .ok (.bipush 7, 2) := by decide +kernel
theorem dMo_arithmetic_6 : decode cMo_arithmetic 6 = .ok (.if_icmp .ne 7, 3) := by decide +kernel
theorem dMo_arithmetic_9 : decode cMo_arithmetic 9 = .ok (.iconst 1, 1) := by decide +kernel
theorem dMo_arithmetic_10 : decode cMo_arithmetic 10 = .ok (.goto 4, 3) := by decide +kernel
theorem dMo_arithmetic_13 : decode cMo_arithmetic 13 = .ok (.iconst 0, 1) := by decide +kernel
theorem dMo_arithmetic_14 : decode cMo_arithmetic 14 = .ok (.istore_n 1, 1) := by decide +kernel
theorem dMo_arithmetic_15 : decode cMo_arithmetic 15 = .ok (.aload_n 0, 1) := by decide +kernel
theorem dMo_arithmetic_16 : decode cMo_arithmetic 16 = .ok (.getfield 17, 3) := by decide +kernel
theorem dMo_arithmetic_19 : decode cMo_arithmetic 19 = .ok (.aload_n 0, 1) := by decide +kernel
theorem dMo_arithmetic_20 : decode cMo_arithmetic 20 = .ok (.getfield 37, 3) := by decide +kernel
theorem dMo_arithmetic_23 : decode cMo_arithmetic 23 = .ok (.laload, 1) := by decide +kernel
theorem dMo_arithmetic_24 : decode cMo_arithmetic 24 = .ok (.lstore_n 2, 1) := by decide +kernel
theorem dMo_arithmetic_25 : decode cMo_arithmetic 25 = .ok (.aload_n 0, 1) := by decide +kernel
theorem dMo_arithmetic_26 : decode cMo_arithmetic 26 = .ok (.invokevirtual 53, 3) := by decide +kernel
theorem dMo_arithmetic_29 : decode cMo_arithmetic 29 = .ok (.ifCond .eq 15, 3) := by decide +kernel
theorem dMo_arithmetic_32 : decode cMo_arithmetic 32 = .ok (.aload_n 0, 1) := by decide +kernel
theorem dMo_arithmetic_33 : decode cMo_arithmetic 33 = .ok (.getfield 17, 3) := by decide +kernel
theorem dMo_arithmetic_36 : decode cMo_arithmetic 36 = .ok (.aload_n 0, 1) := by decide +kernel
theorem dMo_arithmetic_37 : decode cMo_arithmetic 37 = .ok (.getfield 40, 3) := by decide +kernel
theorem dMo_arithmetic_40 : decode cMo_arithmetic 40 = .ok (.laload, 1) := by decide +kernel
theorem dMo_arithmetic_41 : decode cMo_arithmetic 41 = .ok (.goto 8, 3) := by decide +kernel
theorem dMo_arithmetic_44 : decode cMo_arithmetic 44 = .ok (.aload_n 0, 1) := by decide +kernel
theorem dMo_arithmetic_45 : decode cMo_arithmetic 45 = .ok (.getfield 50, 3) := by decide +kernel
theorem dMo_arithmetic_48 : decode cMo_arithmetic 48 = .ok (.i2l, 1) := by decide +kernel
theorem dMo_arithmetic_49 : decode cMo_arithmetic 49 = .ok (.lstore 4, 2) := by decide +kernel
theorem dMo_arithmetic_51 : decode cMo_arithmetic 51 = .ok (.aload_n 0, 1) := by decide +kernel
theorem dMo_arithmetic_52 : decode cMo_arithmetic 52 = .ok (.invokevirtual 61, 3) := by decide +kernel
theorem dMo_arithmetic_55 : decode cMo_arithmetic 55 = .ok (.bipush 13, 2) := by decide +kernel
theorem dMo_arithmetic_57 : decode cMo_arithmetic 57 = .ok (.if_icmp .ne 45, 3) := by decide +kernel
theorem dMo_arithmetic_60 : decode cMo_arithmetic 60 = .ok (.aload_n 0, 1) := by decide +kernel
theorem dMo_arithmetic_61 : decode cMo_arithmetic 61 = .ok (.getfield 17, 3) := by decide +kernel
theorem dMo_arithmetic_64 : decode cMo_arithmetic 64 = .ok (.aload_n 0, 1) := by decide +kernel
theorem dMo_arithmetic_65 : decode cMo_arithmetic 65 = .ok (.getfield 37, 3) := by decide +kernel
theorem dMo_arithmetic_68 : decode cMo_arithmetic 68 = .ok (.iload_n 1, 1) := by decide +kernel
theorem dMo_arithmetic_69 : decode cMo_arithmetic 69 = .ok (.ifCond .ne 10, 3) := by decide +kernel
theorem dMo_arithmetic_72 : decode cMo_arithmetic 72 = .ok (.aload_n 0, 1) := by decide +kernel
theorem dMo_arithmetic_73 : decode cMo_arithmetic 73 = .ok (.invokevirtual 53, 3) := by decide +kernel
theorem dMo_arithmetic_76 : decode cMo_arithmetic 76 = .ok (.ifCond .eq 14, 3) := by decide +kernel
theorem dMo_arithmetic_79 : decode cMo_arithmetic 79 = .ok (.lload_n 2, 1) := by decide +kernel
theorem dMo_arithmetic_80 : decode cMo_arithmetic 80 = .ok (.aload_n 0, 1) := by decide +kernel
theorem dMo_arithmetic_81 : decode cMo_arithmetic 81 = .ok (.getfield 50, 3) := by decide +kernel
theorem dMo_arithmetic_84 : decode cMo_arithmetic 84 = .ok (.invokestatic 146, 3) := by decide +kernel
theorem dMo_arithmetic_87 : decode cMo_arithmetic 87 = .ok (.goto 11, 3) := by decide +kernel
theorem dMo_arithmetic_90 : decode cMo_arithmetic 90 = .ok (.lload_n 2, 1) := by decide +kernel
theorem dMo_arithmetic_91 : decode cMo_arithmetic 91 = .ok (.aload_n 0, 1) := by decide +kernel
theorem dMo_arithmetic_92 : decode cMo_arithmetic 92 = .ok (.getfield 50, 3) := by decide +kernel
theorem dMo_arithmetic_95 : decode cMo_arithmetic 95 = .ok (.invokestatic 136, 3) := by decide +kernel
theorem dMo_arithmetic_98 : decode cMo_arithmetic 98 = .ok (.lastore, 1) := by decide +kernel
theorem dMo_arithmetic_99 : decode cMo_arithmetic 99 = .ok (.goto 61, 3) := by decide +kernel
theorem dMo_arithmetic_102 : decode cMo_arithmetic 102 = .ok (.iload_n 1, 1) := by decide +kernel
theorem dMo_arithmetic_103 : decode cMo_arithmetic 103 = .ok (.ifCond .eq 24, 3) := by decide +kernel
theorem dMo_arithmetic_106 : decode cMo_arithmetic 106 = .ok (.aload_n 0, 1) := by decide +kernel
theorem dMo_arithmetic_107 : decode cMo_arithmetic 107 = .ok (.getfield 17, 3) := by decide +kernel
theorem dMo_arithmetic_110 : decode cMo_arithmetic 110 = .ok (.aload_n 0, 1) := by decide +kernel
theorem dMo_arithmetic_111 : decode cMo_arithmetic 111 = .ok (.getfield 37, 3) := by decide +kernel
theorem dMo_arithmetic_114 : decode cMo_arithmetic 114 = .ok (.aload_n 0, 1) := by decide +kernel
theorem dMo_arithmetic_115 : decode cMo_arithmetic 115 = .ok (.lload_n 2, 1) := by decide +kernel
theorem dMo_arithmetic_116 : decode cMo_arithmetic 116 = .ok (.lload 4, 2) := by decide +kernel
theorem dMo_arithmetic_118 : decode cMo_arithmetic 118 = .ok (.bipush 64, 2) := by decide +kernel
theorem dMo_arithmetic_120 : decode cMo_arithmetic 120 = .ok (.invokevirtual 149, 3) := by decide +kernel
theorem dMo_arithmetic_123 : decode cMo_arithmetic 123 = .ok (.lastore, 1) := by decide +kernel
theorem dMo_arithmetic_124 : decode cMo_arithmetic 124 = .ok (.goto 36, 3) := by decide +kernel
theorem dMo_arithmetic_127 : decode cMo_arithmetic 127 = .ok (.aload_n 0, 1) := by decide +kernel
theorem dMo_arithmetic_128 : decode cMo_arithmetic 128 = .ok (.getfield 17, 3) := by decide +kernel
theorem dMo_arithmetic_131 : decode cMo_arithmetic 131 = .ok (.aload_n 0, 1) := by decide +kernel
theorem dMo_arithmetic_132 : decode cMo_arithmetic 132 = .ok (.getfield 37, 3) := by decide +kernel
theorem dMo_arithmetic_135 : decode cMo_arithmetic 135 = .ok (.aload_n 0, 1) := by decide +kernel
theorem dMo_arithmetic_136 : decode cMo_arithmetic 136 = .ok (.lload_n 2, 1) := by decide +kernel
theorem dMo_arithmetic_137 : decode cMo_arithmetic 137 = .ok (.bipush 32, 2) := by decide +kernel
theorem dMo_arithmetic_139 : decode cMo_arithmetic 139 = .ok (.invokestatic 143, 3) := by decide +kernel
theorem dMo_arithmetic_142 : decode cMo_arithmetic 142 = .ok (.lload 4, 2) := by decide +kernel
theorem dMo_arithmetic_144 : decode cMo_arithmetic 144 = .ok (.bipush 32, 2) := by decide +kernel
theorem dMo_arithmetic_146 : decode cMo_arithmetic 146 = .ok (.invokestatic 143, 3) := by decide +kernel
theorem dMo_arithmetic_149 : decode cMo_arithmetic 149 = .ok (.bipush 32, 2) := by decide +kernel
theorem dMo_arithmetic_151 : decode cMo_arithmetic 151 = .ok (.invokevirtual 149, 3) := by decide +kernel
theorem dMo_arithmetic_154 : decode cMo_arithmetic 154 = .ok (.bipush 32, 2) := by decide +kernel
theorem dMo_arithmetic_156 : decode cMo_arithmetic 156 = .ok (.invokestatic 136, 3) := by decide +kernel
theorem dMo_arithmetic_159 : decode cMo_arithmetic 159 = .ok (.lastore, 1) := by decide +kernel
theorem dMo_arithmetic_160 : decode cMo_arithmetic 160 = .ok (.return_, 1) := by decide +kernel
theorem dMo_isSo_0 : decode cMo_isSo 0 = .ok (.aload_n 0, 1) := by decide +kernel
theorem dMo_isSo_1 : decode cMo_isSo 1 = .ok (.invokevirtual 61, 3) := by decide +kernel
theorem dMo_isSo_4 : decode cMo_isSo 4 = .ok (.tableswitch 178 1 12 #[64, 76, 82, 96, 110, 122, 134, 178, 178, 146, 152, 166], 64) := by decide +kernel
theorem dMo_isSo_68 : decode cMo_isSo 68 = .ok (.lload_n 1, 1) := by decide +kernel
theorem dMo_isSo_69 : decode cMo_isSo 69 = .ok (.lload_n 3, 1) := by decide +kernel
theorem dMo_isSo_70 : decode cMo_isSo 70 = .ok (.lcmp, 1) := by decide +kernel
theorem dMo_isSo_71 : decode cMo_isSo 71 = .ok (.ifCond .ne 7, 3) := by decide +kernel
theorem dMo_isSo_74 : decode cMo_isSo 74 = .ok (.iconst 1, 1) := by decide +kernel
theorem dMo_isSo_75 : decode cMo_isSo 75 = .ok (.goto 4, 3) := by decide +kernel
theorem dMo_isSo_78 : decode cMo_isSo 78 = .ok (.iconst 0, 1) := by decide +kernel
theorem dMo_isSo_79 : decode cMo_isSo 79 = .ok (.ireturn, 1) := by decide +kernel
theorem dMo_isSo_80 : decode cMo_isSo 80 = .ok (.lload_n 3, 1) := by decide +kernel
theorem dMo_isSo_81 : decode cMo_isSo 81 = .ok (.lload_n 1, 1) := by decide +kernel
theorem dMo_isSo_82 : decode cMo_isSo 82 = .ok (.invokestatic 126, 3) := by decide +kernel
theorem dMo_isSo_85 : decode cMo_isSo 85 = .ok (.ireturn, 1) := by decide +kernel
theorem dMo_isSo_86 : decode cMo_isSo 86 = .ok (.lload_n 1, 1) := by decide +kernel
theorem dMo_isSo_87 : decode cMo_isSo 87 = .ok (.lload_n 3, 1) := by decide +kernel
theorem dMo_isSo_88 : decode cMo_isSo 88 = .ok (.invokestatic 126, 3) := by decide +kernel
theorem dMo_isSo_91 : decode cMo_isSo 91 = .ok (.ifCond .ne 7, 3) := by decide +kernel
theorem dMo_isSo_94 : decode cMo_isSo 94 = .ok (.iconst 1, 1) := by decide +kernel
theorem dMo_isSo_95 : decode cMo_isSo 95 = .ok (.goto 4, 3) := by decide +kernel
theorem dMo_isSo_98 : decode cMo_isSo 98 = .ok (.iconst 0, 1) := by decide +kernel
theorem dMo_isSo_99 : decode cMo_isSo 99 = .ok (.ireturn, 1) := by decide +kernel
theorem dMo_isSo_100 : decode cMo_isSo 100 = .ok (.lload_n 1, 1) := by decide +kernel
theorem dMo_isSo_101 : decode cMo_isSo 101 = .ok (.lload_n 3, 1) := by decide +kernel
theorem dMo_isSo_102 : decode cMo_isSo 102 = .ok (.land, 1) := by decide +kernel
theorem dMo_isSo_103 : decode cMo_isSo 103 = .ok (.lconst 0, 1) := by decide +kernel
theorem dMo_isSo_104 : decode cMo_isSo 104 = .ok (.lcmp, 1) := by decide +kernel
theorem dMo_isSo_105 : decode cMo_isSo 105 = .ok (.ifCond .eq 7, 3) := by decide +kernel
theorem dMo_isSo_108 : decode cMo_isSo 108 = .ok (.iconst 1, 1) := by decide +kernel
theorem dMo_isSo_109 : decode cMo_isSo 109 = .ok (.goto 4, 3) := by decide +kernel
theorem dMo_isSo_112 : decode cMo_isSo 112 = .ok (.iconst 0, 1) := by decide +kernel
theorem dMo_isSo_113 : decode cMo_isSo 113 = .ok (.ireturn, 1) := by decide +kernel
theorem dMo_isSo_114 : decode cMo_isSo 114 = .ok (.lload_n 1, 1) := by decide +kernel
theorem dMo_isSo_115 : decode cMo_isSo 115 = .ok (.lload_n 3, 1) := by decide +kernel
theorem dMo_isSo_116 : decode cMo_isSo 116 = .ok (.lcmp, 1) := by decide +kernel
theorem dMo_isSo_117 : decode cMo_isSo 117 = .ok (.ifCond .eq 7, 3) := by decide +kernel
theorem dMo_isSo_120 : decode cMo_isSo 120 = .ok (.iconst 1, 1) := by decide +kernel
theorem dMo_isSo_121 : decode cMo_isSo 121 = .ok (.goto 4, 3) := by decide +kernel
theorem dMo_isSo_124 : decode cMo_isSo 124 = .ok (.iconst 0, 1) := by decide +kernel
theorem dMo_isSo_125 : decode cMo_isSo 125 = .ok (.ireturn, 1) := by decide +kernel
theorem dMo_isSo_126 : decode cMo_isSo 126 = .ok (.lload_n 1, 1) := by decide +kernel
theorem dMo_isSo_127 : decode cMo_isSo 127 = .ok (.lload_n 3, 1) := by decide +kernel
theorem dMo_isSo_128 : decode cMo_isSo 128 = .ok (.lcmp, 1) := by decide +kernel
theorem dMo_isSo_129 : decode cMo_isSo 129 = .ok (.ifCond .le 7, 3) := by decide +kernel
theorem dMo_isSo_132 : decode cMo_isSo 132 = .ok (.iconst 1, 1) := by decide +kernel
theorem dMo_isSo_133 : decode cMo_isSo 133 = .ok (.goto 4, 3) := by decide +kernel
theorem dMo_isSo_136 : decode cMo_isSo 136 = .ok (.iconst 0, 1) := by decide +kernel
theorem dMo_isSo_137 : decode cMo_isSo 137 = .ok (.ireturn, 1) := by decide +kernel
theorem dMo_isSo_138 : decode cMo_isSo 138 = .ok (.lload_n 1, 1) := by decide +kernel
theorem dMo_isSo_139 : decode cMo_isSo 139 = .ok (.lload_n 3, 1) := by decide +kernel
theorem dMo_isSo_140 : decode cMo_isSo 140 = .ok (.lcmp, 1) := by decide +kernel
theorem dMo_isSo_141 : decode cMo_isSo 141 = .ok (.ifCond .lt 7, 3) := by decide +kernel
theorem dMo_isSo_144 : decode cMo_isSo 144 = .ok (.iconst 1, 1) := by decide +kernel
theorem dMo_isSo_145 : decode cMo_isSo 145 = .ok (.goto 4, 3) := by decide +kernel
theorem dMo_isSo_148 : decode cMo_isSo 148 = .ok (.iconst 0, 1) := by decide +kernel
theorem dMo_isSo_149 : decode cMo_isSo 149 = .ok (.ireturn, 1) := by decide +kernel
theorem dMo_isSo_150 : decode cMo_isSo 150 = .ok (.lload_n 1, 1) := by decide +kernel
theorem dMo_isSo_151 : decode cMo_isSo 151 = .ok (.lload_n 3, 1) := by decide +kernel
theorem dMo_isSo_152 : decode cMo_isSo 152 = .ok (.invokestatic 126, 3) := by decide +kernel
theorem dMo_isSo_155 : decode cMo_isSo 155 = .ok (.ireturn, 1) := by decide +kernel
theorem dMo_isSo_156 : decode cMo_isSo 156 = .ok (.lload_n 3, 1) := by decide +kernel
theorem dMo_isSo_157 : decode cMo_isSo 157 = .ok (.lload_n 1, 1) := by decide +kernel
theorem dMo_isSo_158 : decode cMo_isSo 158 = .ok (.invokestatic 126, 3) := by decide +kernel
theorem dMo_isSo_161 : decode cMo_isSo 161 = .ok (.ifCond .ne 7, 3) := by decide +kernel
theorem dMo_isSo_164 : decode cMo_isSo 164 = .ok (.iconst 1, 1) := by decide +kernel
theorem dMo_isSo_165 : decode cMo_isSo 165 = .ok (.goto 4, 3) := by decide +kernel
theorem dMo_isSo_168 : decode cMo_isSo 168 = .ok (.iconst 0, 1) := by decide +kernel
theorem dMo_isSo_169 : decode cMo_isSo 169 = .ok (.ireturn, 1) := by decide +kernel
theorem dMo_isSo_170 : decode cMo_isSo 170 = .ok (.lload_n 1, 1) := by decide +kernel
theorem dMo_isSo_171 : decode cMo_isSo 171 = .ok (.lload_n 3, 1) := by decide +kernel
theorem dMo_isSo_172 : decode cMo_isSo 172 = .ok (.lcmp, 1) := by decide +kernel
theorem dMo_isSo_173 : decode cMo_isSo 173 = .ok (.ifCond .ge 7, 3) := by decide +kernel
theorem dMo_isSo_176 : decode cMo_isSo 176 = .ok (.iconst 1, 1) := by decide +kernel
theorem dMo_isSo_177 : decode cMo_isSo 177 = .ok (.goto 4, 3) := by decide +kernel
theorem dMo_isSo_180 : decode cMo_isSo 180 = .ok (.iconst 0, 1) := by decide +kernel
theorem dMo_isSo_181 : decode cMo_isSo 181 = .ok (.ireturn, 1) := by decide +kernel
theorem dMo_isSo_182 : decode cMo_isSo 182 = .ok (.lload_n 1, 1) := by decide +kernel
theorem dMo_isSo_183 : decode cMo_isSo 183 = .ok (.lload_n 3, 1) := by decide +kernel
theorem dMo_isSo_184 : decode cMo_isSo 184 = .ok (.lcmp, 1) := by decide +kernel
theorem dMo_isSo_185 : decode cMo_isSo 185 = .ok (.ifCond .gt 7, 3) := by decide +kernel
theorem dMo_isSo_188 : decode cMo_isSo 188 = .ok (.iconst 1, 1) := by decide +kernel
theorem dMo_isSo_189 : decode cMo_isSo 189 = .ok (.goto 4, 3) := by decide +kernel
theorem dMo_isSo_192 : decode cMo_isSo 192 = .ok (.iconst 0, 1) := by decide +kernel
theorem dMo_isSo_193 : decode cMo_isSo 193 = .ok (.ireturn, 1) := by decide +kernel
theorem dMo_call_0 : decode cMo_call 0 = .ok (.aload_n 0, 1) := by decide +kernel
theorem dMo_call_1 : decode cMo_call 1 = .ok (.getfield 50, 3) := by decide +kernel
theorem dMo_call_4 : decode cMo_call 4 = .ok (.i2l, 1) := by decide +kernel
theorem dMo_call_5 : decode cMo_call 5 = .ok (.lstore_n 1, 1) := by decide +kernel
theorem dMo_call_6 : decode cMo_call 6 = .ok (.iconst 1, 1) := by decide +kernel
theorem dMo_call_7 : decode cMo_call 7 = .ok (.istore_n 3, 1) := by decide +kernel
theorem dMo_call_8 : decode cMo_call 8 = .ok (.iload_n 3, 1) := by decide +kernel
theorem dMo_call_9 : decode cMo_call 9 = .ok (.bipush 6, 2) := by decide +kernel
theorem dMo_call_11 : decode cMo_call 11 = .ok (.if_icmp .ge 29, 3) := by decide +kernel
theorem dMo_call_14 : decode cMo_call 14 = .ok (.ldc2_w 153, 3) := by decide +kernel
theorem dMo_call_17 : decode cMo_call 17 = .ok (.lload_n 1, 1) := by decide +kernel
theorem dMo_call_18 : decode cMo_call 18 = .ok (.lmul, 1) := by decide +kernel
theorem dMo_call_19 : decode cMo_call 19 = .ok (.aload_n 0, 1) := by decide +kernel
theorem dMo_call_20 : decode cMo_call 20 = .ok (.getfield 17, 3) := by decide +kernel
theorem dMo_call_23 : decode cMo_call 23 = .ok (.iload_n 3, 1) := by decide +kernel
theorem dMo_call_24 : decode cMo_call 24 = .ok (.laload, 1) := by decide +kernel
theorem dMo_call_25 : decode cMo_call 25 = .ok (.ladd, 1) := by decide +kernel
theorem dMo_call_26 : decode cMo_call 26 = .ok (.lstore_n 1, 1) := by decide +kernel
theorem dMo_call_27 : decode cMo_call 27 = .ok (.aload_n 0, 1) := by decide +kernel
theorem dMo_call_28 : decode cMo_call 28 = .ok (.getfield 17, 3) := by decide +kernel
theorem dMo_call_31 : decode cMo_call 31 = .ok (.iload_n 3, 1) := by decide +kernel
theorem dMo_call_32 : decode cMo_call 32 = .ok (.lconst 0, 1) := by decide +kernel
theorem dMo_call_33 : decode cMo_call 33 = .ok (.lastore, 1) := by decide +kernel
theorem dMo_call_34 : decode cMo_call 34 = .ok (.iinc 3 1, 3) := by decide +kernel
theorem dMo_call_37 : decode cMo_call 37 = .ok (.goto (-29), 3) := by decide +kernel
theorem dMo_call_40 : decode cMo_call 40 = .ok (.aload_n 0, 1) := by decide +kernel
theorem dMo_call_41 : decode cMo_call 41 = .ok (.getfield 17, 3) := by decide +kernel
theorem dMo_call_44 : decode cMo_call 44 = .ok (.iconst 0, 1) := by decide +kernel
theorem dMo_call_45 : decode cMo_call 45 = .ok (.lload_n 1, 1) := by decide +kernel
theorem dMo_call_46 : decode cMo_call 46 = .ok (.lastore, 1) := by decide +kernel
theorem dMo_call_47 : decode cMo_call 47 = .ok (.return_, 1) := by decide +kernel
theorem dMo_jump_0 : decode cMo_jump 0 = .ok (.aload_n 0, 1) := by decide +kernel
theorem dMo_jump_1 : decode cMo_jump 1 = .ok (.invokevirtual 61, 3) := by decide +kernel
theorem dMo_jump_4 : decode cMo_jump 4 = .ok (.bipush 8, 2) := by decide +kernel
theorem dMo_jump_6 : decode cMo_jump 6 = .ok (.if_icmp .ne 8, 3) := by decide +kernel
theorem dMo_jump_9 : decode cMo_jump 9 = .ok (.aload_n 0, 1) := by decide +kernel
theorem dMo_jump_10 : decode cMo_jump 10 = .ok (.invokevirtual 155, 3) := by decide +kernel
theorem dMo_jump_13 : decode cMo_jump 13 = .ok (.return_, 1) := by decide +kernel
theorem dMo_jump_14 : decode cMo_jump 14 = .ok (.aload_n 0, 1) := by decide +kernel
theorem dMo_jump_15 : decode cMo_jump 15 = .ok (.invokevirtual 61, 3) := by decide +kernel
theorem dMo_jump_18 : decode cMo_jump 18 = .ok (.ifCond .ne 32, 3) := by decide +kernel
theorem dMo_jump_21 : decode cMo_jump 21 = .ok (.aload_n 0, 1) := by decide +kernel
theorem dMo_jump_22 : decode cMo_jump 22 = .ok (.iload_n 1, 1) := by decide +kernel
theorem dMo_jump_23 : decode cMo_jump 23 = .ok (.iconst 1, 1) := by decide +kernel
theorem dMo_jump_24 : decode cMo_jump 24 = .ok (.iadd, 1) := by decide +kernel
theorem dMo_jump_25 : decode cMo_jump 25 = .ok (.aload_n 0, 1) := by decide +kernel
theorem dMo_jump_26 : decode cMo_jump 26 = .ok (.invokevirtual 57, 3) := by decide +kernel
theorem dMo_jump_29 : decode cMo_jump 29 = .ok (.bipush 6, 2) := by decide +kernel
theorem dMo_jump_31 : decode cMo_jump 31 = .ok (.if_icmp .ne 10, 3) := by decide +kernel
theorem dMo_jump_34 : decode cMo_jump 34 = .ok (.aload_n 0, 1) := by decide +kernel
theorem dMo_jump_35 : decode cMo_jump 35 = .ok (.getfield 50, 3) := by decide +kernel
theorem dMo_jump_38 : decode cMo_jump 38 = .ok (.goto 7, 3) := by decide +kernel
theorem dMo_jump_41 : decode cMo_jump 41 = .ok (.aload_n 0, 1) := by decide +kernel
theorem dMo_jump_42 : decode cMo_jump 42 = .ok (.getfield 47, 3) := by decide +kernel
theorem dMo_jump_45 : decode cMo_jump 45 = .ok (.iadd, 1) := by decide +kernel
theorem dMo_jump_46 : decode cMo_jump 46 = .ok (.putfield 158, 3) := by decide +kernel
theorem dMo_jump_49 : decode cMo_jump 49 = .ok (.return_, 1) := by decide +kernel
theorem dMo_jump_50 : decode cMo_jump 50 = .ok (.aload_n 0, 1) := by decide +kernel
theorem dMo_jump_51 : decode cMo_jump 51 = .ok (.invokevirtual 57, 3) := by decide +kernel
theorem dMo_jump_54 : decode cMo_jump 54 = .ok (.iconst 5, 1) := by decide +kernel
theorem dMo_jump_55 : decode cMo_jump 55 = .ok (.if_icmp .ne 8, 3) := by decide +kernel
theorem dMo_jump_58 : decode cMo_jump 58 = .ok (.bipush 64, 2) := by decide +kernel
theorem dMo_jump_60 : decode cMo_jump 60 = .ok (.goto 5, 3) := by decide +kernel
theorem dMo_jump_63 : decode cMo_jump 63 = .ok (.bipush 32, 2) := by decide +kernel
theorem dMo_jump_65 : decode cMo_jump 65 = .ok (.istore_n 2, 1) := by decide +kernel
theorem dMo_jump_66 : decode cMo_jump 66 = .ok (.aload_n 0, 1) := by decide +kernel
theorem dMo_jump_67 : decode cMo_jump 67 = .ok (.getfield 17, 3) := by decide +kernel
theorem dMo_jump_70 : decode cMo_jump 70 = .ok (.aload_n 0, 1) := by decide +kernel
theorem dMo_jump_71 : decode cMo_jump 71 = .ok (.getfield 37, 3) := by decide +kernel
theorem dMo_jump_74 : decode cMo_jump 74 = .ok (.laload, 1) := by decide +kernel
theorem dMo_jump_75 : decode cMo_jump 75 = .ok (.iload_n 2, 1) := by decide +kernel
theorem dMo_jump_76 : decode cMo_jump 76 = .ok (.invokestatic 143, 3) := by decide +kernel
theorem dMo_jump_79 : decode cMo_jump 79 = .ok (.lstore_n 3, 1) := by decide +kernel
theorem dMo_jump_80 : decode cMo_jump 80 = .ok (.aload_n 0, 1) := by decide +kernel
theorem dMo_jump_81 : decode cMo_jump 81 = .ok (.invokevirtual 53, 3) := by decide +kernel
theorem dMo_jump_84 : decode cMo_jump 84 = .ok (.ifCond .eq 15, 3) := by decide +kernel
theorem dMo_jump_87 : decode cMo_jump 87 = .ok (.aload_n 0, 1) := by decide +kernel
theorem dMo_jump_88 : decode cMo_jump 88 = .ok (.getfield 17, 3) := by decide +kernel
theorem dMo_jump_91 : decode cMo_jump 91 = .ok (.aload_n 0, 1) := by decide +kernel
theorem dMo_jump_92 : decode cMo_jump 92 = .ok (.getfield 40, 3) := by decide +kernel
theorem dMo_jump_95 : decode cMo_jump 95 = .ok (.laload, 1) := by decide +kernel
theorem dMo_jump_96 : decode cMo_jump 96 = .ok (.goto 8, 3) := by decide +kernel
theorem dMo_jump_99 : decode cMo_jump 99 = .ok (.aload_n 0, 1) := by decide +kernel
theorem dMo_jump_100 : decode cMo_jump 100 = .ok (.getfield 50, 3) := by decide +kernel
theorem dMo_jump_103 : decode cMo_jump 103 = .ok (.i2l, 1) := by decide +kernel
theorem dMo_jump_104 : decode cMo_jump 104 = .ok (.iload_n 2, 1) := by decide +kernel
theorem dMo_jump_105 : decode cMo_jump 105 = .ok (.invokestatic 143, 3) := by decide +kernel
theorem dMo_jump_108 : decode cMo_jump 108 = .ok (.lstore 5, 2) := by decide +kernel
theorem dMo_jump_110 : decode cMo_jump 110 = .ok (.aload_n 0, 1) := by decide +kernel
theorem dMo_jump_111 : decode cMo_jump 111 = .ok (.aload_n 0, 1) := by decide +kernel
theorem dMo_jump_112 : decode cMo_jump 112 = .ok (.lload_n 3, 1) := by decide +kernel
theorem dMo_jump_113 : decode cMo_jump 113 = .ok (.lload 5, 2) := by decide +kernel
theorem dMo_jump_115 : decode cMo_jump 115 = .ok (.invokevirtual 161, 3) := by decide +kernel
theorem dMo_jump_118 : decode cMo_jump 118 = .ok (.ifCond .eq 14, 3) := by decide +kernel
theorem dMo_jump_121 : decode cMo_jump 121 = .ok (.iload_n 1, 1) := by decide +kernel
theorem dMo_jump_122 : decode cMo_jump 122 = .ok (.iconst 1, 1) := by decide +kernel
theorem dMo_jump_123 : decode cMo_jump 123 = .ok (.iadd, 1) := by decide +kernel
theorem dMo_jump_124 : decode cMo_jump 124 = .ok (.aload_n 0, 1) := by decide +kernel
theorem dMo_jump_125 : decode cMo_jump 125 = .ok (.getfield 47, 3) := by decide +kernel
theorem dMo_jump_128 : decode cMo_jump 128 = .ok (.iadd, 1) := by decide +kernel
theorem dMo_jump_129 : decode cMo_jump 129 = .ok (.goto 7, 3) := by decide +kernel
theorem dMo_jump_132 : decode cMo_jump 132 = .ok (.aload_n 0, 1) := by decide +kernel
theorem dMo_jump_133 : decode cMo_jump 133 = .ok (.getfield 158, 3) := by decide +kernel
theorem dMo_jump_136 : decode cMo_jump 136 = .ok (.putfield 158, 3) := by decide +kernel
theorem dMo_jump_139 : decode cMo_jump 139 = .ok (.return_, 1) := by decide +kernel
theorem dMo_atomic_0 : decode cMo_atomic 0 = .ok (.lload_n 1, 1) := by decide +kernel
theorem dMo_atomic_1 : decode cMo_atomic 1 = .ok (.iload_n 3, 1) := by decide +kernel
theorem dMo_atomic_2 : decode cMo_atomic 2 = .ok (.invokestatic 113, 3) := by decide +kernel
theorem dMo_atomic_5 : decode cMo_atomic 5 = .ok (.ifCond .eq 12, 3) := by decide +kernel
theorem dMo_atomic_8 : decode cMo_atomic 8 = .ok (.lload_n 1, 1) := by decide +kernel
theorem dMo_atomic_9 : decode cMo_atomic 9 = .ok (.iload_n 3, 1) := by decide +kernel
theorem dMo_atomic_10 : decode cMo_atomic 10 = .ok (.i2l, 1) := by decide +kernel
theorem dMo_atomic_11 : decode cMo_atomic 11 = .ok (.lrem, 1) := by decide +kernel
theorem dMo_atomic_12 : decode cMo_atomic 12 = .ok (.lconst 0, 1) := by decide +kernel
theorem dMo_atomic_13 : decode cMo_atomic 13 = .ok (.lcmp, 1) := by decide +kernel
theorem dMo_atomic_14 : decode cMo_atomic 14 = .ok (.ifCond .eq 5, 3) := by decide +kernel
theorem dMo_atomic_17 : decode cMo_atomic 17 = .ok (.iconst 0, 1) := by decide +kernel
theorem dMo_atomic_18 : decode cMo_atomic 18 = .ok (.ireturn, 1) := by decide +kernel
theorem dMo_atomic_19 : decode cMo_atomic 19 = .ok (.aload_n 0, 1) := by decide +kernel
theorem dMo_atomic_20 : decode cMo_atomic 20 = .ok (.lload_n 1, 1) := by decide +kernel
theorem dMo_atomic_21 : decode cMo_atomic 21 = .ok (.iload_n 3, 1) := by decide +kernel
theorem dMo_atomic_22 : decode cMo_atomic 22 = .ok (.invokevirtual 120, 3) := by decide +kernel
theorem dMo_atomic_25 : decode cMo_atomic 25 = .ok (.lstore 4, 2) := by decide +kernel
theorem dMo_atomic_27 : decode cMo_atomic 27 = .ok (.aload_n 0, 1) := by decide +kernel
theorem dMo_atomic_28 : decode cMo_atomic 28 = .ok (.getfield 17, 3) := by decide +kernel
theorem dMo_atomic_31 : decode cMo_atomic 31 = .ok (.aload_n 0, 1) := by decide +kernel
theorem dMo_atomic_32 : decode cMo_atomic 32 = .ok (.getfield 40, 3) := by decide +kernel
theorem dMo_atomic_35 : decode cMo_atomic 35 = .ok (.laload, 1) := by decide +kernel
theorem dMo_atomic_36 : decode cMo_atomic 36 = .ok (.lstore 6, 2) := by decide +kernel
theorem dMo_atomic_38 : decode cMo_atomic 38 = .ok (.aload_n 0, 1) := by decide +kernel
theorem dMo_atomic_39 : decode cMo_atomic 39 = .ok (.getfield 50, 3) := by decide +kernel
theorem dMo_atomic_42 : decode cMo_atomic 42 = .ok (.bipush (-2), 2) := by decide +kernel
theorem dMo_atomic_44 : decode cMo_atomic 44 = .ok (.iand, 1) := by decide +kernel
theorem dMo_atomic_45 : decode cMo_atomic 45 = .ok (.istore 8, 2) := by decide +kernel
theorem dMo_atomic_47 : decode cMo_atomic 47 = .ok (.aload_n 0, 1) := by decide +kernel
theorem dMo_atomic_48 : decode cMo_atomic 48 = .ok (.getfield 50, 3) := by decide +kernel
theorem dMo_atomic_51 : decode cMo_atomic 51 = .ok (.sipush 225, 3) := by decide +kernel
theorem dMo_atomic_54 : decode cMo_atomic 54 = .ok (.if_icmp .ne 8, 3) := by decide +kernel
theorem dMo_atomic_57 : decode cMo_atomic 57 = .ok (.lload 6, 2) := by decide +kernel
theorem dMo_atomic_59 : decode cMo_atomic 59 = .ok (.goto 90, 3) := by decide +kernel
theorem dMo_atomic_62 : decode cMo_atomic 62 = .ok (.aload_n 0, 1) := by decide +kernel
theorem dMo_atomic_63 : decode cMo_atomic 63 = .ok (.getfield 50, 3) := by decide +kernel
theorem dMo_atomic_66 : decode cMo_atomic 66 = .ok (.sipush 241, 3) := by decide +kernel
theorem dMo_atomic_69 : decode cMo_atomic 69 = .ok (.if_icmp .ne 32, 3) := by decide +kernel
theorem dMo_atomic_72 : decode cMo_atomic 72 = .ok (.lload 4, 2) := by decide +kernel
theorem dMo_atomic_74 : decode cMo_atomic 74 = .ok (.aload_n 0, 1) := by decide +kernel
theorem dMo_atomic_75 : decode cMo_atomic 75 = .ok (.getfield 17, 3) := by decide +kernel
theorem dMo_atomic_78 : decode cMo_atomic 78 = .ok (.iconst 0, 1) := by decide +kernel
theorem dMo_atomic_79 : decode cMo_atomic 79 = .ok (.laload, 1) := by decide +kernel
theorem dMo_atomic_80 : decode cMo_atomic 80 = .ok (.bipush 8, 2) := by decide +kernel
theorem dMo_atomic_82 : decode cMo_atomic 82 = .ok (.iload_n 3, 1) := by decide +kernel
theorem dMo_atomic_83 : decode cMo_atomic 83 = .ok (.imul, 1) := by decide +kernel
theorem dMo_atomic_84 : decode cMo_atomic 84 = .ok (.invokestatic 136, 3) := by decide +kernel
theorem dMo_atomic_87 : decode cMo_atomic 87 = .ok (.lcmp, 1) := by decide +kernel
theorem dMo_atomic_88 : decode cMo_atomic 88 = .ok (.ifCond .ne 8, 3) := by decide +kernel
theorem dMo_atomic_91 : decode cMo_atomic 91 = .ok (.lload 6, 2) := by decide +kernel
theorem dMo_atomic_93 : decode cMo_atomic 93 = .ok (.goto 56, 3) := by decide +kernel
theorem dMo_atomic_96 : decode cMo_atomic 96 = .ok (.lload 4, 2) := by decide +kernel
theorem dMo_atomic_98 : decode cMo_atomic 98 = .ok (.goto 51, 3) := by decide +kernel
theorem dMo_atomic_101 : decode cMo_atomic 101 = .ok (.iload 8, 2) := by decide +kernel
theorem dMo_atomic_103 : decode cMo_atomic 103 = .ok (.ifCond .ne 11, 3) := by decide +kernel
theorem dMo_atomic_106 : decode cMo_atomic 106 = .ok (.lload 4, 2) := by decide +kernel
theorem dMo_atomic_108 : decode cMo_atomic 108 = .ok (.lload 6, 2) := by decide +kernel
theorem dMo_atomic_110 : decode cMo_atomic 110 = .ok (.ladd, 1) := by decide +kernel
theorem dMo_atomic_111 : decode cMo_atomic 111 = .ok (.goto 38, 3) := by decide +kernel
theorem dMo_atomic_114 : decode cMo_atomic 114 = .ok (.iload 8, 2) := by decide +kernel
theorem dMo_atomic_116 : decode cMo_atomic 116 = .ok (.bipush 64, 2) := by decide +kernel
theorem dMo_atomic_118 : decode cMo_atomic 118 = .ok (.if_icmp .ne 11, 3) := by decide +kernel
theorem dMo_atomic_121 : decode cMo_atomic 121 = .ok (.lload 4, 2) := by decide +kernel
theorem dMo_atomic_123 : decode cMo_atomic 123 = .ok (.lload 6, 2) := by decide +kernel
theorem dMo_atomic_125 : decode cMo_atomic 125 = .ok (.lor, 1) := by decide +kernel
theorem dMo_atomic_126 : decode cMo_atomic 126 = .ok (.goto 23, 3) := by decide +kernel
theorem dMo_atomic_129 : decode cMo_atomic 129 = .ok (.iload 8, 2) := by decide +kernel
theorem dMo_atomic_131 : decode cMo_atomic 131 = .ok (.bipush 80, 2) := by decide +kernel
theorem dMo_atomic_133 : decode cMo_atomic 133 = .ok (.if_icmp .ne 11, 3) := by decide +kernel
theorem dMo_atomic_136 : decode cMo_atomic 136 = .ok (.lload 4, 2) := by decide +kernel
theorem dMo_atomic_138 : decode cMo_atomic 138 = .ok (.lload 6, 2) := by decide +kernel
theorem dMo_atomic_140 : decode cMo_atomic 140 = .ok (.land, 1) := by decide +kernel
theorem dMo_atomic_141 : decode cMo_atomic 141 = .ok (.goto 8, 3) := by decide +kernel
theorem dMo_atomic_144 : decode cMo_atomic 144 = .ok (.lload 4, 2) := by decide +kernel
theorem dMo_atomic_146 : decode cMo_atomic 146 = .ok (.lload 6, 2) := by decide +kernel
theorem dMo_atomic_148 : decode cMo_atomic 148 = .ok (.lxor, 1) := by decide +kernel
theorem dMo_atomic_149 : decode cMo_atomic 149 = .ok (.lstore 9, 2) := by decide +kernel
theorem dMo_atomic_151 : decode cMo_atomic 151 = .ok (.aload_n 0, 1) := by decide +kernel
theorem dMo_atomic_152 : decode cMo_atomic 152 = .ok (.lload_n 1, 1) := by decide +kernel
theorem dMo_atomic_153 : decode cMo_atomic 153 = .ok (.iload_n 3, 1) := by decide +kernel
theorem dMo_atomic_154 : decode cMo_atomic 154 = .ok (.lload 9, 2) := by decide +kernel
theorem dMo_atomic_156 : decode cMo_atomic 156 = .ok (.invokevirtual 116, 3) := by decide +kernel
theorem dMo_atomic_159 : decode cMo_atomic 159 = .ok (.aload_n 0, 1) := by decide +kernel
theorem dMo_atomic_160 : decode cMo_atomic 160 = .ok (.getfield 50, 3) := by decide +kernel
theorem dMo_atomic_163 : decode cMo_atomic 163 = .ok (.sipush 241, 3) := by decide +kernel
theorem dMo_atomic_166 : decode cMo_atomic 166 = .ok (.if_icmp .ne 14, 3) := by decide +kernel
theorem dMo_atomic_169 : decode cMo_atomic 169 = .ok (.aload_n 0, 1) := by decide +kernel
theorem dMo_atomic_170 : decode cMo_atomic 170 = .ok (.getfield 17, 3) := by decide +kernel
theorem dMo_atomic_173 : decode cMo_atomic 173 = .ok (.iconst 0, 1) := by decide +kernel
theorem dMo_atomic_174 : decode cMo_atomic 174 = .ok (.lload 4, 2) := by decide +kernel
theorem dMo_atomic_176 : decode cMo_atomic 176 = .ok (.lastore, 1) := by decide +kernel
theorem dMo_atomic_177 : decode cMo_atomic 177 = .ok (.goto 24, 3) := by decide +kernel
theorem dMo_atomic_180 : decode cMo_atomic 180 = .ok (.aload_n 0, 1) := by decide +kernel
theorem dMo_atomic_181 : decode cMo_atomic 181 = .ok (.getfield 50, 3) := by decide +kernel
theorem dMo_atomic_184 : decode cMo_atomic 184 = .ok (.iconst 2, 1) := by decide +kernel
theorem dMo_atomic_185 : decode cMo_atomic 185 = .ok (.irem, 1) := by decide +kernel
theorem dMo_atomic_186 : decode cMo_atomic 186 = .ok (.iconst 1, 1) := by decide +kernel
theorem dMo_atomic_187 : decode cMo_atomic 187 = .ok (.if_icmp .ne 14, 3) := by decide +kernel
theorem dMo_atomic_190 : decode cMo_atomic 190 = .ok (.aload_n 0, 1) := by decide +kernel
theorem dMo_atomic_191 : decode cMo_atomic 191 = .ok (.getfield 17, 3) := by decide +kernel
theorem dMo_atomic_194 : decode cMo_atomic 194 = .ok (.aload_n 0, 1) := by decide +kernel
theorem dMo_atomic_195 : decode cMo_atomic 195 = .ok (.getfield 40, 3) := by decide +kernel
theorem dMo_atomic_198 : decode cMo_atomic 198 = .ok (.lload 4, 2) := by decide +kernel
theorem dMo_atomic_200 : decode cMo_atomic 200 = .ok (.lastore, 1) := by decide +kernel
theorem dMo_atomic_201 : decode cMo_atomic 201 = .ok (.iconst 1, 1) := by decide +kernel
theorem dMo_atomic_202 : decode cMo_atomic 202 = .ok (.ireturn, 1) := by decide +kernel
theorem dMo_access_0 : decode cMo_access 0 = .ok (.aload_n 0, 1) := by decide +kernel
theorem dMo_access_1 : decode cMo_access 1 = .ok (.invokevirtual 67, 3) := by decide +kernel
theorem dMo_access_4 : decode cMo_access 4 = .ok (.istore_n 1, 1) := by decide +kernel
theorem dMo_access_5 : decode cMo_access 5 = .ok (.aload_n 0, 1) := by decide +kernel
theorem dMo_access_6 : decode cMo_access 6 = .ok (.invokevirtual 57, 3) := by decide +kernel
theorem dMo_access_9 : decode cMo_access 9 = .ok (.iconst 1, 1) := by decide +kernel
theorem dMo_access_10 : decode cMo_access 10 = .ok (.if_icmp .ne 15, 3) := by decide +kernel
theorem dMo_access_13 : decode cMo_access 13 = .ok (.aload_n 0, 1) := by decide +kernel
theorem dMo_access_14 : decode cMo_access 14 = .ok (.getfield 17, 3) := by decide +kernel
theorem dMo_access_17 : decode cMo_access 17 = .ok (.aload_n 0, 1) := by decide +kernel
theorem dMo_access_18 : decode cMo_access 18 = .ok (.getfield 40, 3) := by decide +kernel
theorem dMo_access_21 : decode cMo_access 21 = .ok (.laload, 1) := by decide +kernel
theorem dMo_access_22 : decode cMo_access 22 = .ok (.goto 12, 3) := by decide +kernel
theorem dMo_access_25 : decode cMo_access 25 = .ok (.aload_n 0, 1) := by decide +kernel
theorem dMo_access_26 : decode cMo_access 26 = .ok (.getfield 17, 3) := by decide +kernel
theorem dMo_access_29 : decode cMo_access 29 = .ok (.aload_n 0, 1) := by decide +kernel
theorem dMo_access_30 : decode cMo_access 30 = .ok (.getfield 37, 3) := by decide +kernel
theorem dMo_access_33 : decode cMo_access 33 = .ok (.laload, 1) := by decide +kernel
theorem dMo_access_34 : decode cMo_access 34 = .ok (.aload_n 0, 1) := by decide +kernel
theorem dMo_access_35 : decode cMo_access 35 = .ok (.getfield 47, 3) := by decide +kernel
theorem dMo_access_38 : decode cMo_access 38 = .ok (.i2l, 1) := by decide +kernel
theorem dMo_access_39 : decode cMo_access 39 = .ok (.ladd, 1) := by decide +kernel
theorem dMo_access_40 : decode cMo_access 40 = .ok (.lstore_n 2, 1) := by decide +kernel
theorem dMo_access_41 : decode cMo_access 41 = .ok (.aload_n 0, 1) := by decide +kernel
theorem dMo_access_42 : decode cMo_access 42 = .ok (.invokevirtual 57, 3) := by decide +kernel
theorem dMo_access_45 : decode cMo_access 45 = .ok (.iconst 3, 1) := by decide +kernel
theorem dMo_access_46 : decode cMo_access 46 = .ok (.if_icmp .ne 19, 3) := by decide +kernel
theorem dMo_access_49 : decode cMo_access 49 = .ok (.aload_n 0, 1) := by decide +kernel
theorem dMo_access_50 : decode cMo_access 50 = .ok (.invokevirtual 80, 3) := by decide +kernel
theorem dMo_access_53 : decode cMo_access 53 = .ok (.bipush 6, 2) := by decide +kernel
theorem dMo_access_55 : decode cMo_access 55 = .ok (.if_icmp .ne 10, 3) := by decide +kernel
theorem dMo_access_58 : decode cMo_access 58 = .ok (.aload_n 0, 1) := by decide +kernel
theorem dMo_access_59 : decode cMo_access 59 = .ok (.lload_n 2, 1) := by decide +kernel
theorem dMo_access_60 : decode cMo_access 60 = .ok (.iload_n 1, 1) := by decide +kernel
theorem dMo_access_61 : decode cMo_access 61 = .ok (.invokevirtual 164, 3) := by decide +kernel
theorem dMo_access_64 : decode cMo_access 64 = .ok (.ireturn, 1) := by decide +kernel
theorem dMo_access_65 : decode cMo_access 65 = .ok (.lload_n 2, 1) := by decide +kernel
theorem dMo_access_66 : decode cMo_access 66 = .ok (.iload_n 1, 1) := by decide +kernel
theorem dMo_access_67 : decode cMo_access 67 = .ok (.invokestatic 113, 3) := by decide +kernel
theorem dMo_access_70 : decode cMo_access 70 = .ok (.ifCond .ne 5, 3) := by decide +kernel
theorem dMo_access_73 : decode cMo_access 73 = .ok (.iconst 0, 1) := by decide +kernel
theorem dMo_access_74 : decode cMo_access 74 = .ok (.ireturn, 1) := by decide +kernel
theorem dMo_access_75 : decode cMo_access 75 = .ok (.aload_n 0, 1) := by decide +kernel
theorem dMo_access_76 : decode cMo_access 76 = .ok (.invokevirtual 57, 3) := by decide +kernel
theorem dMo_access_79 : decode cMo_access 79 = .ok (.iconst 1, 1) := by decide +kernel
theorem dMo_access_80 : decode cMo_access 80 = .ok (.if_icmp .ne 45, 3) := by decide +kernel
theorem dMo_access_83 : decode cMo_access 83 = .ok (.aload_n 0, 1) := by decide +kernel
theorem dMo_access_84 : decode cMo_access 84 = .ok (.getfield 17, 3) := by decide +kernel
theorem dMo_access_87 : decode cMo_access 87 = .ok (.aload_n 0, 1) := by decide +kernel
theorem dMo_access_88 : decode cMo_access 88 = .ok (.getfield 37, 3) := by decide +kernel
theorem dMo_access_91 : decode cMo_access 91 = .ok (.aload_n 0, 1) := by decide +kernel
theorem dMo_access_92 : decode cMo_access 92 = .ok (.invokevirtual 80, 3) := by decide +kernel
theorem dMo_access_95 : decode cMo_access 95 = .ok (.iconst 4, 1) := by decide +kernel
theorem dMo_access_96 : decode cMo_access 96 = .ok (.if_icmp .ne 19, 3) := by decide +kernel
theorem dMo_access_99 : decode cMo_access 99 = .ok (.aload_n 0, 1) := by decide +kernel
theorem dMo_access_100 : decode cMo_access 100 = .ok (.lload_n 2, 1) := by decide +kernel
theorem dMo_access_101 : decode cMo_access 101 = .ok (.iload_n 1, 1) := by decide +kernel
theorem dMo_access_102 : decode cMo_access 102 = .ok (.invokevirtual 120, 3) := by decide +kernel
theorem dMo_access_105 : decode cMo_access 105 = .ok (.bipush 8, 2) := by decide +kernel
theorem dMo_access_107 : decode cMo_access 107 = .ok (.iload_n 1, 1) := by decide +kernel
theorem dMo_access_108 : decode cMo_access 108 = .ok (.imul, 1) := by decide +kernel
theorem dMo_access_109 : decode cMo_access 109 = .ok (.invokestatic 143, 3) := by decide +kernel
theorem dMo_access_112 : decode cMo_access 112 = .ok (.goto 9, 3) := by decide +kernel
theorem dMo_access_115 : decode cMo_access 115 = .ok (.aload_n 0, 1) := by decide +kernel
theorem dMo_access_116 : decode cMo_access 116 = .ok (.lload_n 2, 1) := by decide +kernel
theorem dMo_access_117 : decode cMo_access 117 = .ok (.iload_n 1, 1) := by decide +kernel
theorem dMo_access_118 : decode cMo_access 118 = .ok (.invokevirtual 120, 3) := by decide +kernel
theorem dMo_access_121 : decode cMo_access 121 = .ok (.lastore, 1) := by decide +kernel
theorem dMo_access_122 : decode cMo_access 122 = .ok (.goto 34, 3) := by decide +kernel
theorem dMo_access_125 : decode cMo_access 125 = .ok (.aload_n 0, 1) := by decide +kernel
theorem dMo_access_126 : decode cMo_access 126 = .ok (.lload_n 2, 1) := by decide +kernel
theorem dMo_access_127 : decode cMo_access 127 = .ok (.iload_n 1, 1) := by decide +kernel
theorem dMo_access_128 : decode cMo_access 128 = .ok (.aload_n 0, 1) := by decide +kernel
theorem dMo_access_129 : decode cMo_access 129 = .ok (.invokevirtual 57, 3) := by decide +kernel
theorem dMo_access_132 : decode cMo_access 132 = .ok (.iconst 2, 1) := by decide +kernel
theorem dMo_access_133 : decode cMo_access 133 = .ok (.if_icmp .ne 11, 3) := by decide +kernel
theorem dMo_access_136 : decode cMo_access 136 = .ok (.aload_n 0, 1) := by decide +kernel
theorem dMo_access_137 : decode cMo_access 137 = .ok (.getfield 50, 3) := by decide +kernel
theorem dMo_access_140 : decode cMo_access 140 = .ok (.i2l, 1) := by decide +kernel
theorem dMo_access_141 : decode cMo_access 141 = .ok (.goto 12, 3) := by decide +kernel
theorem dMo_access_144 : decode cMo_access 144 = .ok (.aload_n 0, 1) := by decide +kernel
theorem dMo_access_145 : decode cMo_access 145 = .ok (.getfield 17, 3) := by decide +kernel
theorem dMo_access_148 : decode cMo_access 148 = .ok (.aload_n 0, 1) := by decide +kernel
theorem dMo_access_149 : decode cMo_access 149 = .ok (.getfield 40, 3) := by decide +kernel
theorem dMo_access_152 : decode cMo_access 152 = .ok (.laload, 1) := by decide +kernel
theorem dMo_access_153 : decode cMo_access 153 = .ok (.invokevirtual 116, 3) := by decide +kernel
theorem dMo_access_156 : decode cMo_access 156 = .ok (.iconst 1, 1) := by decide +kernel
theorem dMo_access_157 : decode cMo_access 157 = .ok (.ireturn, 1) := by decide +kernel
end
section
theorem dMo_does_0 : decode cMo_does 0 = .ok (.aload_n 0, 1) := by decide +kernel
theorem dMo_does_1 : decode cMo_does 1 = .ok (.aload_n 0, 1) := by decide +kernel
theorem dMo_does_2 : decode cMo_does 2 = .ok (.invokevirtual 86, 3) := by decide +kernel
theorem dMo_does_5 : decode cMo_does 5 = .ok (.ifCond .eq 9, 3) := by decide +kernel
theorem dMo_does_8 : decode cMo_does 8 = .ok (.iload_n 1, 1) := by decide +kernel
theorem dMo_does_9 : decode cMo_does 9 = .ok (.iconst 2, 1) := by decide +kernel
theorem dMo_does_10 : decode cMo_does 10 = .ok (.iadd, 1) := by decide +kernel
theorem dMo_does_11 : decode cMo_does 11 = .ok (.goto 6, 3) := by decide +kernel
theorem dMo_does_14 : decode cMo_does 14 = .ok (.iload_n 1, 1) := by decide +kernel
theorem dMo_does_15 : decode cMo_does 15 = .ok (.iconst 1, 1) := by decide +kernel
theorem dMo_does_16 : decode cMo_does 16 = .ok (.iadd, 1) := by decide +kernel
theorem dMo_does_17 : decode cMo_does 17 = .ok (.putfield 158, 3) := by decide +kernel
theorem dMo_does_20 : decode cMo_does 20 = .ok (.aload_n 0, 1) := by decide +kernel
theorem dMo_does_21 : decode cMo_does 21 = .ok (.invokevirtual 57, 3) := by decide +kernel
theorem dMo_does_24 : decode cMo_does 24 = .ok (.tableswitch 103 0 7 #[61, 103, 103, 103, 48, 54, 54, 48], 48) := by decide +kernel
theorem dMo_does_72 : decode cMo_does 72 = .ok (.aload_n 0, 1) := by decide +kernel
theorem dMo_does_73 : decode cMo_does 73 = .ok (.invokevirtual 167, 3) := by decide +kernel
theorem dMo_does_76 : decode cMo_does 76 = .ok (.iconst 1, 1) := by decide +kernel
theorem dMo_does_77 : decode cMo_does 77 = .ok (.ireturn, 1) := by decide +kernel
theorem dMo_does_78 : decode cMo_does 78 = .ok (.aload_n 0, 1) := by decide +kernel
theorem dMo_does_79 : decode cMo_does 79 = .ok (.iload_n 1, 1) := by decide +kernel
theorem dMo_does_80 : decode cMo_does 80 = .ok (.invokevirtual 170, 3) := by decide +kernel
theorem dMo_does_83 : decode cMo_does 83 = .ok (.iconst 1, 1) := by decide +kernel
theorem dMo_does_84 : decode cMo_does 84 = .ok (.ireturn, 1) := by decide +kernel
theorem dMo_does_85 : decode cMo_does 85 = .ok (.aload_n 0, 1) := by decide +kernel
theorem dMo_does_86 : decode cMo_does 86 = .ok (.getfield 14, 3) := by decide +kernel
theorem dMo_does_89 : decode cMo_does 89 = .ok (.bipush 8, 2) := by decide +kernel
theorem dMo_does_91 : decode cMo_does 91 = .ok (.iload_n 1, 1) := by decide +kernel
theorem dMo_does_92 : decode cMo_does 92 = .ok (.imul, 1) := by decide +kernel
theorem dMo_does_93 : decode cMo_does 93 = .ok (.bipush 12, 2) := by decide +kernel
theorem dMo_does_95 : decode cMo_does 95 = .ok (.iadd, 1) := by decide +kernel
theorem dMo_does_96 : decode cMo_does 96 = .ok (.iconst 4, 1) := by decide +kernel
theorem dMo_does_97 : decode cMo_does 97 = .ok (.invokestatic 43, 3) := by decide +kernel
theorem dMo_does_100 : decode cMo_does 100 = .ok (.i2l, 1) := by decide +kernel
theorem dMo_does_101 : decode cMo_does 101 = .ok (.lstore_n 2, 1) := by decide +kernel
theorem dMo_does_102 : decode cMo_does 102 = .ok (.aload_n 0, 1) := by decide +kernel
theorem dMo_does_103 : decode cMo_does 103 = .ok (.getfield 17, 3) := by decide +kernel
theorem dMo_does_106 : decode cMo_does 106 = .ok (.aload_n 0, 1) := by decide +kernel
theorem dMo_does_107 : decode cMo_does 107 = .ok (.getfield 37, 3) := by decide +kernel
theorem dMo_does_110 : decode cMo_does 110 = .ok (.lload_n 2, 1) := by decide +kernel
theorem dMo_does_111 : decode cMo_does 111 = .ok (.bipush 32, 2) := by decide +kernel
theorem dMo_does_113 : decode cMo_does 113 = .ok (.lshl, 1) := by decide +kernel
theorem dMo_does_114 : decode cMo_does 114 = .ok (.aload_n 0, 1) := by decide +kernel
theorem dMo_does_115 : decode cMo_does 115 = .ok (.getfield 50, 3) := by decide +kernel
theorem dMo_does_118 : decode cMo_does 118 = .ok (.i2l, 1) := by decide +kernel
theorem dMo_does_119 : decode cMo_does 119 = .ok (.ldc2_w 174, 3) := by decide +kernel
theorem dMo_does_122 : decode cMo_does 122 = .ok (.land, 1) := by decide +kernel
theorem dMo_does_123 : decode cMo_does 123 = .ok (.lor, 1) := by decide +kernel
theorem dMo_does_124 : decode cMo_does 124 = .ok (.lastore, 1) := by decide +kernel
theorem dMo_does_125 : decode cMo_does 125 = .ok (.iconst 1, 1) := by decide +kernel
theorem dMo_does_126 : decode cMo_does 126 = .ok (.ireturn, 1) := by decide +kernel
theorem dMo_does_127 : decode cMo_does 127 = .ok (.aload_n 0, 1) := by decide +kernel
theorem dMo_does_128 : decode cMo_does 128 = .ok (.invokevirtual 176, 3) := by decide +kernel
theorem dMo_does_131 : decode cMo_does 131 = .ok (.ireturn, 1) := by decide +kernel
theorem dMo_run_0 : decode cMo_run 0 = .ok (.aload_n 0, 1) := by decide +kernel
theorem dMo_run_1 : decode cMo_run 1 = .ok (.iload_n 1, 1) := by decide +kernel
theorem dMo_run_2 : decode cMo_run 2 = .ok (.ifCond .lt 9, 3) := by decide +kernel
theorem dMo_run_5 : decode cMo_run 5 = .ok (.iload_n 1, 1) := by decide +kernel
theorem dMo_run_6 : decode cMo_run 6 = .ok (.ldc 179, 2) := by decide +kernel
theorem dMo_run_8 : decode cMo_run 8 = .ok (.if_icmp .le 7, 3) := by decide +kernel
theorem dMo_run_11 : decode cMo_run 11 = .ok (.iconst 1, 1) := by decide +kernel
theorem dMo_run_12 : decode cMo_run 12 = .ok (.goto 15, 3) := by decide +kernel
theorem dMo_run_15 : decode cMo_run 15 = .ok (.aload_n 0, 1) := by decide +kernel
theorem dMo_run_16 : decode cMo_run 16 = .ok (.getfield 104, 3) := by decide +kernel
theorem dMo_run_19 : decode cMo_run 19 = .ok (.ifCond .ne 7, 3) := by decide +kernel
theorem dMo_run_22 : decode cMo_run 22 = .ok (.iconst 2, 1) := by decide +kernel
theorem dMo_run_23 : decode cMo_run 23 = .ok (.goto 4, 3) := by decide +kernel
theorem dMo_run_26 : decode cMo_run 26 = .ok (.iconst 0, 1) := by decide +kernel
theorem dMo_run_27 : decode cMo_run 27 = .ok (.putfield 28, 3) := by decide +kernel
theorem dMo_run_30 : decode cMo_run 30 = .ok (.aload_n 0, 1) := by decide +kernel
theorem dMo_run_31 : decode cMo_run 31 = .ok (.getfield 28, 3) := by decide +kernel
theorem dMo_run_34 : decode cMo_run 34 = .ok (.ifCond .le 5, 3) := by decide +kernel
theorem dMo_run_37 : decode cMo_run 37 = .ok (.iconst 0, 1) := by decide +kernel
theorem dMo_run_38 : decode cMo_run 38 = .ok (.ireturn, 1) := by decide +kernel
theorem dMo_run_39 : decode cMo_run 39 = .ok (.aload_n 0, 1) := by decide +kernel
theorem dMo_run_40 : decode cMo_run 40 = .ok (.iconst 0, 1) := by decide +kernel
theorem dMo_run_41 : decode cMo_run 41 = .ok (.putfield 180, 3) := by decide +kernel
theorem dMo_run_44 : decode cMo_run 44 = .ok (.iconst 0, 1) := by decide +kernel
theorem dMo_run_45 : decode cMo_run 45 = .ok (.istore_n 2, 1) := by decide +kernel
theorem dMo_run_46 : decode cMo_run 46 = .ok (.iconst (-1), 1) := by decide +kernel
theorem dMo_run_47 : decode cMo_run 47 = .ok (.istore_n 3, 1) := by decide +kernel
theorem dMo_run_48 : decode cMo_run 48 = .ok (.iload_n 3, 1) := by decide +kernel
theorem dMo_run_49 : decode cMo_run 49 = .ok (.iconst (-1), 1) := by decide +kernel
theorem dMo_run_50 : decode cMo_run 50 = .ok (.if_icmp .ne 86, 3) := by decide +kernel
theorem dMo_run_53 : decode cMo_run 53 = .ok (.aload_n 0, 1) := by decide +kernel
theorem dMo_run_54 : decode cMo_run 54 = .ok (.iload_n 2, 1) := by decide +kernel
theorem dMo_run_55 : decode cMo_run 55 = .ok (.putfield 24, 3) := by decide +kernel
theorem dMo_run_58 : decode cMo_run 58 = .ok (.aload_n 0, 1) := by decide +kernel
theorem dMo_run_59 : decode cMo_run 59 = .ok (.aload_n 0, 1) := by decide +kernel
theorem dMo_run_60 : decode cMo_run 60 = .ok (.getfield 14, 3) := by decide +kernel
theorem dMo_run_63 : decode cMo_run 63 = .ok (.iload_n 2, 1) := by decide +kernel
theorem dMo_run_64 : decode cMo_run 64 = .ok (.invokevirtual 70, 3) := by decide +kernel
theorem dMo_run_67 : decode cMo_run 67 = .ok (.aload_n 0, 1) := by decide +kernel
theorem dMo_run_68 : decode cMo_run 68 = .ok (.getfield 180, 3) := by decide +kernel
theorem dMo_run_71 : decode cMo_run 71 = .ok (.iload_n 1, 1) := by decide +kernel
theorem dMo_run_72 : decode cMo_run 72 = .ok (.if_icmp .ne 8, 3) := by decide +kernel
theorem dMo_run_75 : decode cMo_run 75 = .ok (.iconst 1, 1) := by decide +kernel
theorem dMo_run_76 : decode cMo_run 76 = .ok (.istore_n 3, 1) := by decide +kernel
theorem dMo_run_77 : decode cMo_run 77 = .ok (.goto (-29), 3) := by decide +kernel
theorem dMo_run_80 : decode cMo_run 80 = .ok (.aload_n 0, 1) := by decide +kernel
theorem dMo_run_81 : decode cMo_run 81 = .ok (.getfield 34, 3) := by decide +kernel
theorem dMo_run_84 : decode cMo_run 84 = .ok (.sipush 149, 3) := by decide +kernel
theorem dMo_run_87 : decode cMo_run 87 = .ok (.if_icmp .ne 18, 3) := by decide +kernel
theorem dMo_run_90 : decode cMo_run 90 = .ok (.aload_n 0, 1) := by decide +kernel
theorem dMo_run_91 : decode cMo_run 91 = .ok (.dup, 1) := by decide +kernel
theorem dMo_run_92 : decode cMo_run 92 = .ok (.getfield 180, 3) := by decide +kernel
theorem dMo_run_95 : decode cMo_run 95 = .ok (.iconst 1, 1) := by decide +kernel
theorem dMo_run_96 : decode cMo_run 96 = .ok (.iadd, 1) := by decide +kernel
theorem dMo_run_97 : decode cMo_run 97 = .ok (.putfield 180, 3) := by decide +kernel
theorem dMo_run_100 : decode cMo_run 100 = .ok (.iconst 0, 1) := by decide +kernel
theorem dMo_run_101 : decode cMo_run 101 = .ok (.istore_n 3, 1) := by decide +kernel
theorem dMo_run_102 : decode cMo_run 102 = .ok (.goto (-54), 3) := by decide +kernel
theorem dMo_run_105 : decode cMo_run 105 = .ok (.aload_n 0, 1) := by decide +kernel
theorem dMo_run_106 : decode cMo_run 106 = .ok (.iload_n 2, 1) := by decide +kernel
theorem dMo_run_107 : decode cMo_run 107 = .ok (.invokevirtual 183, 3) := by decide +kernel
theorem dMo_run_110 : decode cMo_run 110 = .ok (.ifCond .eq 21, 3) := by decide +kernel
theorem dMo_run_113 : decode cMo_run 113 = .ok (.aload_n 0, 1) := by decide +kernel
theorem dMo_run_114 : decode cMo_run 114 = .ok (.dup, 1) := by decide +kernel
theorem dMo_run_115 : decode cMo_run 115 = .ok (.getfield 180, 3) := by decide +kernel
theorem dMo_run_118 : decode cMo_run 118 = .ok (.iconst 1, 1) := by decide +kernel
theorem dMo_run_119 : decode cMo_run 119 = .ok (.iadd, 1) := by decide +kernel
theorem dMo_run_120 : decode cMo_run 120 = .ok (.putfield 180, 3) := by decide +kernel
theorem dMo_run_123 : decode cMo_run 123 = .ok (.aload_n 0, 1) := by decide +kernel
theorem dMo_run_124 : decode cMo_run 124 = .ok (.getfield 158, 3) := by decide +kernel
theorem dMo_run_127 : decode cMo_run 127 = .ok (.istore_n 2, 1) := by decide +kernel
theorem dMo_run_128 : decode cMo_run 128 = .ok (.goto (-80), 3) := by decide +kernel
theorem dMo_run_131 : decode cMo_run 131 = .ok (.iconst 2, 1) := by decide +kernel
theorem dMo_run_132 : decode cMo_run 132 = .ok (.istore_n 3, 1) := by decide +kernel
theorem dMo_run_133 : decode cMo_run 133 = .ok (.goto (-85), 3) := by decide +kernel
theorem dMo_run_136 : decode cMo_run 136 = .ok (.iload_n 3, 1) := by decide +kernel
theorem dMo_run_137 : decode cMo_run 137 = .ok (.ireturn, 1) := by decide +kernel
theorem dMo_place_0 : decode cMo_place 0 = .ok (.aload_n 0, 1) := by decide +kernel
theorem dMo_place_1 : decode cMo_place 1 = .ok (.iconst 0, 1) := by decide +kernel
theorem dMo_place_2 : decode cMo_place 2 = .ok (.putfield 28, 3) := by decide +kernel
theorem dMo_place_5 : decode cMo_place 5 = .ok (.aload_n 0, 1) := by decide +kernel
theorem dMo_place_6 : decode cMo_place 6 = .ok (.getfield 24, 3) := by decide +kernel
theorem dMo_place_9 : decode cMo_place 9 = .ok (.ireturn, 1) := by decide +kernel
theorem dMo_steps_0 : decode cMo_steps 0 = .ok (.aload_n 0, 1) := by decide +kernel
theorem dMo_steps_1 : decode cMo_steps 1 = .ok (.iconst 0, 1) := by decide +kernel
theorem dMo_steps_2 : decode cMo_steps 2 = .ok (.putfield 28, 3) := by decide +kernel
theorem dMo_steps_5 : decode cMo_steps 5 = .ok (.aload_n 0, 1) := by decide +kernel
theorem dMo_steps_6 : decode cMo_steps 6 = .ok (.getfield 180, 3) := by decide +kernel
theorem dMo_steps_9 : decode cMo_steps 9 = .ok (.ireturn, 1) := by decide +kernel
end
section
def f_Jl_reverseBytes (a0 : Int64) : Int64 :=
  ((((j_lshl ((j_lshl (a0 &&& (71777214294589695 : Int64)) (8 : Int32)) ||| ((j_lushr a0 (8 : Int32)) &&& (71777214294589695 : Int64))) (48 : Int32)) ||| (j_lshl (((j_lshl (a0 &&& (71777214294589695 : Int64)) (8 : Int32)) ||| ((j_lushr a0 (8 : Int32)) &&& (71777214294589695 : Int64))) &&& (4294901760 : Int64)) (16 : Int32))) ||| ((j_lushr ((j_lshl (a0 &&& (71777214294589695 : Int64)) (8 : Int32)) ||| ((j_lushr a0 (8 : Int32)) &&& (71777214294589695 : Int64))) (16 : Int32)) &&& (4294901760 : Int64))) ||| (j_lushr ((j_lshl (a0 &&& (71777214294589695 : Int64)) (8 : Int32)) ||| ((j_lushr a0 (8 : Int32)) &&& (71777214294589695 : Int64))) (48 : Int32)))
set_option maxHeartbeats 4000000 in
set_option maxRecDepth 100000 in
theorem c_Jl_reverseBytes (l : Launch) (Hp : Heap) (a0 : Int64) : Met l yJl_reverseBytes wsJl_reverseBytes ({ frames := 0, cells := 0, slots := 0, locals := 0 }) (va_Pc [.long a0] (fun U => U.heap = Hp)) (va_Ql (fun (r : Int64) (_ : Unit) => r = f_Jl_reverseBytes a0) (fun _ t => t.heap = Hp) (fun _ => False)) 0 0 (fun _ => False) := by
  refine Met.ofW (cc := cJl_reverseBytes) (maxL := 2) (ret := (some .long)) (by decide) rfl ?_
  intro p e s m args below meth c s₁ B hml hv
  obtain ⟨rfl, rfl⟩ := hv
  have hx := B.exec
  have hb := B.bytes
  have hr := B.returns
  have hT : ∀ w ∈ tB, w.before _ s = true := fun w h => atoms_spec (ws := wsJl_reverseBytes) B.pre w (List.mem_cons_of_mem _ h)
  have hown : s.vm.findClass "java/lang/Long" = some m.cls := findClass_of_methodNamed B.named
  have hlocks := B.notSynchronized
  have hS : va_S (fun _ => False) s.heap s.heap [] := va_S.rf
  have hl := lv_entry ([.long a0]) (n := 2) (Nat.le_of_ble_eq_true rfl)
  rw [lg_entry_eq]
  generalize (lg_sl ([.long a0]) ++ List.replicate (2 - (lg_sl ([.long a0])).length) Slot.unset).toArray = ls at hl ⊢
  have hl : lv_has ls 2 [(0, .long a0)] := hl
  refine lv_lload_n hx hb dJl_reverseBytes_0 rfl (lv_at hl 0 rfl) ?_
  refine lv_ldc2 (v := (71777214294589695 : Int64)) hx hb hown (hT _ mw_537) dJl_reverseBytes_1 ?_
  refine lv_land hx hb dJl_reverseBytes_4 ?_
  refine lv_bipush (v := (8 : Int32)) hx hb dJl_reverseBytes_5 (by decide) ?_
  refine lv_lshl (v := (j_lshl (a0 &&& (71777214294589695 : Int64)) (8 : Int32))) hx hb dJl_reverseBytes_7 rfl ?_
  refine lv_lload_n hx hb dJl_reverseBytes_8 rfl (lv_at hl 0 rfl) ?_
  refine lv_bipush (v := (8 : Int32)) hx hb dJl_reverseBytes_9 (by decide) ?_
  refine lv_lushr (v := (j_lushr a0 (8 : Int32))) hx hb dJl_reverseBytes_11 rfl ?_
  refine lv_ldc2 (v := (71777214294589695 : Int64)) hx hb hown (hT _ mw_537) dJl_reverseBytes_12 ?_
  refine lv_land hx hb dJl_reverseBytes_15 ?_
  refine lv_lor hx hb dJl_reverseBytes_16 ?_
  refine lv_lstore_n (lv' := [(0, .long ((j_lshl (a0 &&& (71777214294589695 : Int64)) (8 : Int32)) ||| ((j_lushr a0 (8 : Int32)) &&& (71777214294589695 : Int64))))]) hx hb dJl_reverseBytes_17 rfl hl (by decide) rfl (fun ls hl => ?_)
  refine lv_lload_n hx hb dJl_reverseBytes_18 rfl (lv_at hl 0 rfl) ?_
  refine lv_bipush (v := (48 : Int32)) hx hb dJl_reverseBytes_19 (by decide) ?_
  refine lv_lshl (v := (j_lshl ((j_lshl (a0 &&& (71777214294589695 : Int64)) (8 : Int32)) ||| ((j_lushr a0 (8 : Int32)) &&& (71777214294589695 : Int64))) (48 : Int32))) hx hb dJl_reverseBytes_21 rfl ?_
  refine lv_lload_n hx hb dJl_reverseBytes_22 rfl (lv_at hl 0 rfl) ?_
  refine lv_ldc2 (v := (4294901760 : Int64)) hx hb hown (hT _ mw_538) dJl_reverseBytes_23 ?_
  refine lv_land hx hb dJl_reverseBytes_26 ?_
  refine lv_bipush (v := (16 : Int32)) hx hb dJl_reverseBytes_27 (by decide) ?_
  refine lv_lshl (v := (j_lshl (((j_lshl (a0 &&& (71777214294589695 : Int64)) (8 : Int32)) ||| ((j_lushr a0 (8 : Int32)) &&& (71777214294589695 : Int64))) &&& (4294901760 : Int64)) (16 : Int32))) hx hb dJl_reverseBytes_29 rfl ?_
  refine lv_lor hx hb dJl_reverseBytes_30 ?_
  refine lv_lload_n hx hb dJl_reverseBytes_31 rfl (lv_at hl 0 rfl) ?_
  refine lv_bipush (v := (16 : Int32)) hx hb dJl_reverseBytes_32 (by decide) ?_
  refine lv_lushr (v := (j_lushr ((j_lshl (a0 &&& (71777214294589695 : Int64)) (8 : Int32)) ||| ((j_lushr a0 (8 : Int32)) &&& (71777214294589695 : Int64))) (16 : Int32))) hx hb dJl_reverseBytes_34 rfl ?_
  refine lv_ldc2 (v := (4294901760 : Int64)) hx hb hown (hT _ mw_538) dJl_reverseBytes_35 ?_
  refine lv_land hx hb dJl_reverseBytes_38 ?_
  refine lv_lor hx hb dJl_reverseBytes_39 ?_
  refine lv_lload_n hx hb dJl_reverseBytes_40 rfl (lv_at hl 0 rfl) ?_
  refine lv_bipush (v := (48 : Int32)) hx hb dJl_reverseBytes_41 (by decide) ?_
  refine lv_lushr (v := (j_lushr ((j_lshl (a0 &&& (71777214294589695 : Int64)) (8 : Int32)) ||| ((j_lushr a0 (8 : Int32)) &&& (71777214294589695 : Int64))) (48 : Int32))) hx hb dJl_reverseBytes_43 rfl ?_
  refine lv_lor hx hb dJl_reverseBytes_44 ?_
  exact W.lret (v := ((((j_lshl ((j_lshl (a0 &&& (71777214294589695 : Int64)) (8 : Int32)) ||| ((j_lushr a0 (8 : Int32)) &&& (71777214294589695 : Int64))) (48 : Int32)) ||| (j_lshl (((j_lshl (a0 &&& (71777214294589695 : Int64)) (8 : Int32)) ||| ((j_lushr a0 (8 : Int32)) &&& (71777214294589695 : Int64))) &&& (4294901760 : Int64)) (16 : Int32))) ||| ((j_lushr ((j_lshl (a0 &&& (71777214294589695 : Int64)) (8 : Int32)) ||| ((j_lushr a0 (8 : Int32)) &&& (71777214294589695 : Int64))) (16 : Int32)) &&& (4294901760 : Int64))) ||| (j_lushr ((j_lshl (a0 &&& (71777214294589695 : Int64)) (8 : Int32)) ||| ((j_lushr a0 (8 : Int32)) &&& (71777214294589695 : Int64))) (48 : Int32)))) hx hb hr (fun t ht hW => ⟨⟨((((j_lshl ((j_lshl (a0 &&& (71777214294589695 : Int64)) (8 : Int32)) ||| ((j_lushr a0 (8 : Int32)) &&& (71777214294589695 : Int64))) (48 : Int32)) ||| (j_lshl (((j_lshl (a0 &&& (71777214294589695 : Int64)) (8 : Int32)) ||| ((j_lushr a0 (8 : Int32)) &&& (71777214294589695 : Int64))) &&& (4294901760 : Int64)) (16 : Int32))) ||| ((j_lushr ((j_lshl (a0 &&& (71777214294589695 : Int64)) (8 : Int32)) ||| ((j_lushr a0 (8 : Int32)) &&& (71777214294589695 : Int64))) (16 : Int32)) &&& (4294901760 : Int64))) ||| (j_lushr ((j_lshl (a0 &&& (71777214294589695 : Int64)) (8 : Int32)) ||| ((j_lushr a0 (8 : Int32)) &&& (71777214294589695 : Int64))) (48 : Int32))), (), rfl, rfl, ht⟩, hS.F ht⟩) hS.2.2 dJl_reverseBytes_45
end
