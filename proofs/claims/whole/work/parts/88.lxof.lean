theorem lx_args {ws : List Cond} {A : Array Value} {s : State} (hk : ∀ w ∈ ws, thKind w = true) (hs : ∀ C n d, Cond.isRef (.static C n d) ∈ ws → Cond.laysStatic C n d ∈ ws ∧ Cond.initialized C ∈ ws) (h : ∀ w ∈ ws, w.before A s = true) : ∀ w ∈ ws, w.before #[] s = true := th_move (State.WarmedH.refl s) (fun _ _ => rfl) hk hs h
theorem lx_own {L T F : List Cond} {A : Array Value} {s : State} (hin : ∀ w ∈ L, w ∈ T ∨ w ∈ F) (hT : ∀ w ∈ T, w.before A s = true) (hF : ∀ w ∈ F, w.before A s = true) : ∀ w ∈ L, w.before A s = true := fun w hw => (hin w hw).elim (hT w) (hF w)
theorem lx_arr {ty : FieldType} {A : Array Value} {s : State} (h : (Cond.arrayClass ty).before A s = true) (hty : ∀ C, ty ≠ .object C) : ∃ c : ClassId, ArrOfT s c ty ∧ va_RA s c ty := by
  obtain ⟨c, k, comp, h1, h2, h3⟩ := Cond.arrayClass_spec h
  refine ⟨c, fun n z => ⟨fun k h => (by cases h), k, h2, comp, h3⟩, ?_⟩
  cases ty with
  | object C => exact absurd rfl (hty C)
  | _ => exact h1
theorem lx_str {k : Nat} {tx : String} {A : Array Value} {s : State} (h : (Cond.stringRef "CompiledProgram" k tx).before A s = true) (h2 : (Cond.exactly (Term.string "CompiledProgram" k) "java/lang/String").before A s = true) : ∃ a, vk_R "CompiledProgram" k tx a s := by
  obtain ⟨a, c, cell, kk, h3, -⟩ := Cond.exactly_spec h2
  exact ⟨a, vk_R.of h h3⟩
theorem lx_not {a b : String} {A : Array Value} {s : State} (h : (Cond.not (Cond.castable a b)).before A s = true) : (Cond.not (Cond.castable a b)).before #[] s = true := by
  simpa only [Cond.before, Cond.holds, Cond.value] using h
abbrev lwF : List Cond := [.isRef (.static "java/lang/Throwable" "UNASSIGNED_STACK" "[Ljava/lang/StackTraceElement;"), .isRef (.static "java/lang/Throwable" "SUPPRESSED_SENTINEL" "Ljava/util/List;")]

theorem lx_in62 : ∀ w ∈ Bundle.ownAtoms "CompiledProgram" 62 "java/lang/IllegalArgumentException" ["java/lang/RuntimeException", "java/lang/Exception"], w ∈ lw_tbl ∨ w ∈ lwF := by decide +kernel

theorem lx_in84 : ∀ w ∈ Bundle.ownAtoms "CompiledProgram" 84 "java/lang/IndexOutOfBoundsException" ["java/lang/RuntimeException", "java/lang/Exception"], w ∈ lw_tbl ∨ w ∈ lwF := by decide +kernel

theorem lx_in45 : ∀ w ∈ Bundle.ownAtoms "CompiledProgram" 45 "java/lang/IllegalStateException" ["java/lang/RuntimeException", "java/lang/Exception"], w ∈ lw_tbl ∨ w ∈ lwF := by decide +kernel
set_option maxHeartbeats 4000000 in
set_option maxRecDepth 100000 in
theorem lx_of {p : Program} {l : Launch} {s : State} {m : MethodId} {meth : Method} {c : Code} {b L : Nat} {sc : Nat → Int32} (hst : l.stackTraces = false) (C0 : lw_At p s m meth c b L sc) : ∃ (G : va_G) (cB cL cI : ClassId) (sa : Nat → Nat), LX l p s m meth c b L sc G cB cL cI sa ∧ va_Nw (.methodLinkNest "CompiledProgram" 9 ⟨"CompiledProgram$Tape", "<init>", "()V"⟩ "CompiledProgram") s ∧ va_Nw (.methodLinkNest "CompiledProgram" 18 ⟨"CompiledProgram$Program", "<init>", "()V"⟩ "CompiledProgram") s ∧ va_Nw (.methodLinkNest "CompiledProgram" 25 ⟨"CompiledProgram$Machine", "<init>", "()V"⟩ "CompiledProgram") s ∧ va_Nw (.methodLinkNest "CompiledProgram$Machine" 15 ⟨"CompiledProgram$Memory", "<init>", "()V"⟩ "CompiledProgram") s := by
  obtain ⟨hx, hb, hr, hml, hown, hts, hX, hbl, hlocks, hgv⟩ := C0
  have hfl := flat_of_before _ hgv
  have hT : ∀ w ∈ tB, w.before #[Value.ref b] s = true := fun w h => hts w (tB_tbl h)
  have hF : ∀ w ∈ lwF, w.before #[Value.ref b] s = true := fun w hw => hfl w ((by decide +kernel : ∀ w ∈ lwF, w ∈ flatC (Jvm.Cond.and given_1 narrow_1)) w hw)
  obtain ⟨c0, iS0, hKn0⟩ := u_known (C := RPr) (T := TPr) (N := 2) (n := 2) hT inPr (hT _ mw_46)
  obtain ⟨c1, iS1, hKn1⟩ := u_known (C := RMe) (T := TMe) (N := 1) (n := 1) hT inMe (hT _ mw_68)
  obtain ⟨c2, iS2, hKn2⟩ := u_known (C := RMa) (T := TMa) (N := 2) (n := 2) hT inMa (hT _ mw_62)
  obtain ⟨c3, iS3, hKn3⟩ := u_known (C := RTa) (T := TTa) (N := 2) (n := 2) hT inTa (hT _ mw_30)
  obtain ⟨c4, iS4, hKn4⟩ := u_known (C := RCp) (T := TCp) (N := 5) (n := 5) hT inCp (hT _ mw_22)
  obtain ⟨c5, iS5, hKn5⟩ := u_known (C := RMo) (T := TMo) (N := 15) (n := 15) hT inMo (hT _ mw_559)
  obtain ⟨cB, hcB1, hcB2⟩ := lx_arr (hT _ mw_44) (by intro C h; cases h)
  obtain ⟨cL, hcL1, hcL2⟩ := lx_arr (hT _ mw_60) (by intro C h; cases h)
  obtain ⟨cI, hcI1, hcI2⟩ := lx_arr (hT _ mw_611) (by intro C h; cases h)
  obtain ⟨s60, hs60⟩ := lx_str (hts (.stringRef "CompiledProgram" 60 "the tape has no such length") (by decide +kernel)) (hfl (.exactly (.string "CompiledProgram" 60) "java/lang/String") (by decide +kernel))
  obtain ⟨s82, hs82⟩ := lx_str (hts (.stringRef "CompiledProgram" 82 "there is no such register") (by decide +kernel)) (hfl (.exactly (.string "CompiledProgram" 82) "java/lang/String") (by decide +kernel))
  obtain ⟨s99, hs99⟩ := lx_str (hts (.stringRef "CompiledProgram" 99 "there is no such word") (by decide +kernel)) (hfl (.exactly (.string "CompiledProgram" 99) "java/lang/String") (by decide +kernel))
  obtain ⟨s110, hs110⟩ := lx_str (hts (.stringRef "CompiledProgram" 110 "the fuel is not 0 .. 100000") (by decide +kernel)) (hfl (.exactly (.string "CompiledProgram" 110) "java/lang/String") (by decide +kernel))
  obtain ⟨s112, hs112⟩ := lx_str (hts (.stringRef "CompiledProgram" 112 "there is no program") (by decide +kernel)) (hfl (.exactly (.string "CompiledProgram" 112) "java/lang/String") (by decide +kernel))
  refine ⟨(fun k => if k = 0 then c0 else if k = 1 then c1 else if k = 2 then c2 else if k = 3 then c3 else if k = 4 then c4 else c5, fun k => if k = 0 then iS0 else if k = 1 then iS1 else if k = 2 then iS2 else if k = 3 then iS3 else if k = 4 then iS4 else iS5), cB, cL, cI, fun k => if k = 60 then s60 else if k = 82 then s82 else if k = 99 then s99 else if k = 110 then s110 else s112, ⟨hx, hb, hr, hml, hown, hT, hX, hbl, hlocks, ⟨?_, ?_⟩, hst, lx_args (fun w hw => List.all_eq_true.mp (tk_62) w hw) ts_62 (lx_own lx_in62 hts hF), lx_args (fun w hw => List.all_eq_true.mp (tk_84) w hw) ts_84 (lx_own lx_in84 hts hF), lx_args (fun w hw => List.all_eq_true.mp (tk_45) w hw) ts_45 (lx_own lx_in45 hts hF), hs60, hs82, hs99, hs110, hs112, lx_not (hfl _ (by decide +kernel))⟩, va_Nw.of rfl (hts (.methodLinkNest "CompiledProgram" 9 ⟨"CompiledProgram$Tape", "<init>", "()V"⟩ "CompiledProgram") (by decide +kernel)), va_Nw.of rfl (hts (.methodLinkNest "CompiledProgram" 18 ⟨"CompiledProgram$Program", "<init>", "()V"⟩ "CompiledProgram") (by decide +kernel)), va_Nw.of rfl (hts (.methodLinkNest "CompiledProgram" 25 ⟨"CompiledProgram$Machine", "<init>", "()V"⟩ "CompiledProgram") (by decide +kernel)), va_Nw.of rfl (hts (.methodLinkNest "CompiledProgram$Machine" 15 ⟨"CompiledProgram$Memory", "<init>", "()V"⟩ "CompiledProgram") (by decide +kernel))⟩
  · intro k q hq
    match k, hq with
    | 0, hq => cases hq; exact hKn0
    | 1, hq => cases hq; exact hKn1
    | 2, hq => cases hq; exact hKn2
    | 3, hq => cases hq; exact hKn3
    | 4, hq => cases hq; exact hKn4
    | 5, hq => cases hq; exact hKn5
    | k + 6, hq => simp [vwCl] at hq
  · intro k q hq
    match k, hq with
    | 0, hq => cases hq; exact ⟨hcB1, hcB2⟩
    | 1, hq => cases hq; exact ⟨hcL1, hcL2⟩
    | 2, hq => cases hq; exact ⟨hcI1, hcI2⟩
    | k + 3, hq => simp at hq
