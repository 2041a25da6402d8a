def ts_ok (L : List Cond) : Bool := L.all (fun w => match w with | .isRef (.static C n d) => decide (Cond.laysStatic C n d ∈ L) && decide (Cond.initialized C ∈ L) | _ => true)
theorem ts_of {L : List Cond} (h : ts_ok L = true) : ∀ C n d, Cond.isRef (.static C n d) ∈ L → Cond.laysStatic C n d ∈ L ∧ Cond.initialized C ∈ L := by
  intro C n d hm
  have h1 := List.all_eq_true.mp h _ hm
  simpa using h1
theorem tk_62 : (Bundle.ownAtoms "CompiledProgram" 62 "java/lang/IllegalArgumentException" ["java/lang/RuntimeException", "java/lang/Exception"]).all thKind = true := by decide +kernel
theorem ts_62 : ∀ C n d, Cond.isRef (.static C n d) ∈ Bundle.ownAtoms "CompiledProgram" 62 "java/lang/IllegalArgumentException" ["java/lang/RuntimeException", "java/lang/Exception"] → Cond.laysStatic C n d ∈ Bundle.ownAtoms "CompiledProgram" 62 "java/lang/IllegalArgumentException" ["java/lang/RuntimeException", "java/lang/Exception"] ∧ Cond.initialized C ∈ Bundle.ownAtoms "CompiledProgram" 62 "java/lang/IllegalArgumentException" ["java/lang/RuntimeException", "java/lang/Exception"] := ts_of (by decide +kernel)
theorem tk_84 : (Bundle.ownAtoms "CompiledProgram" 84 "java/lang/IndexOutOfBoundsException" ["java/lang/RuntimeException", "java/lang/Exception"]).all thKind = true := by decide +kernel
theorem ts_84 : ∀ C n d, Cond.isRef (.static C n d) ∈ Bundle.ownAtoms "CompiledProgram" 84 "java/lang/IndexOutOfBoundsException" ["java/lang/RuntimeException", "java/lang/Exception"] → Cond.laysStatic C n d ∈ Bundle.ownAtoms "CompiledProgram" 84 "java/lang/IndexOutOfBoundsException" ["java/lang/RuntimeException", "java/lang/Exception"] ∧ Cond.initialized C ∈ Bundle.ownAtoms "CompiledProgram" 84 "java/lang/IndexOutOfBoundsException" ["java/lang/RuntimeException", "java/lang/Exception"] := ts_of (by decide +kernel)
theorem tk_45 : (Bundle.ownAtoms "CompiledProgram" 45 "java/lang/IllegalStateException" ["java/lang/RuntimeException", "java/lang/Exception"]).all thKind = true := by decide +kernel
theorem ts_45 : ∀ C n d, Cond.isRef (.static C n d) ∈ Bundle.ownAtoms "CompiledProgram" 45 "java/lang/IllegalStateException" ["java/lang/RuntimeException", "java/lang/Exception"] → Cond.laysStatic C n d ∈ Bundle.ownAtoms "CompiledProgram" 45 "java/lang/IllegalStateException" ["java/lang/RuntimeException", "java/lang/Exception"] ∧ Cond.initialized C ∈ Bundle.ownAtoms "CompiledProgram" 45 "java/lang/IllegalStateException" ["java/lang/RuntimeException", "java/lang/Exception"] := ts_of (by decide +kernel)
theorem re_in {a0 : Int32} (h0 : ¬ a0 < 0) (h1 : a0 < (11 : Int32)) : vp_in a0 16 := by
  have h0 := i_nlt0 h0
  rw [Int32.lt_iff_toInt_lt] at h1
  have e : (11 : Int32).toInt = 11 := by decide
  rw [vp_in_iff]; omega

def f_Cp_end (tl : Int32) (a0 : Int32) : (Int32) :=
  (a0)
set_option maxHeartbeats 4000000 in
set_option maxRecDepth 100000 in
theorem c_Cp_end (l : Launch) (G : va_G) (cB cL cI : ClassId) (Hp : Heap) (h8 : Nat) (xp : Int32) (xs : Int32) (h6 : Nat) (h0 : Nat) (h4 : Nat) (h7 : Nat) (tl : Int32) (a0 : Int32) (hP : va_P G vwCl [(h8, .inr (4, [.ref h6, .ref h0, .ref h4, .int xp, .int xs])), (h6, .inr (3, [.ref h7, .int tl]))] Hp) (hD : va_D (fun _ => True) [(h8, .inr (4, [.ref h6, .ref h0, .ref h4, .int xp, .int xs])), (h6, .inr (3, [.ref h7, .int tl]))]) (he0 : ¬ a0 < 0) (he1 : a0 ≤ tl) : Met l yCp_end wsCp_end ({ frames := 0, cells := 0, slots := 0, locals := 0 }) (va_Pc [.ref h8, .int a0] (fun U => U.heap = Hp ∧ va_K G vwCl [(cB, .byte), (cL, .long), (cI, .int)] U)) (va_Qv (fun (u : (Int32)) => u = (f_Cp_end tl a0)) (fun (u : (Int32)) t => va_P G vwCl [(h8, .inr (4, [.ref h6, .ref h0, .ref h4, .int xp, .int xs])), (h6, .inr (3, [.ref h7, .int (u)]))] t.heap ∧ va_D (va_A [(h8, .inr (4, [.ref h6, .ref h0, .ref h4, .int xp, .int xs])), (h6, .inr (3, [.ref h7, .int tl]))] Hp.size) [(h8, .inr (4, [.ref h6, .ref h0, .ref h4, .int xp, .int xs])), (h6, .inr (3, [.ref h7, .int (u)]))]) (va_A [(h8, .inr (4, [.ref h6, .ref h0, .ref h4, .int xp, .int xs])), (h6, .inr (3, [.ref h7, .int tl]))] Hp.size)) 0 0 (va_A [(h8, .inr (4, [.ref h6, .ref h0, .ref h4, .int xp, .int xs])), (h6, .inr (3, [.ref h7, .int tl]))] Hp.size) := by
  refine Met.ofW (cc := cCp_end) (maxL := 2) (ret := none) (by decide) rfl ?_
  intro p e s m args below meth c s₁ B hml hv
  obtain ⟨rfl, rfl, hK⟩ := hv
  have hx := B.exec
  have hb := B.bytes
  have hr := B.returns
  have hT : ∀ w ∈ tB, w.before _ s = true := fun w h => atoms_spec (ws := wsCp_end) B.pre w (List.mem_cons_of_mem _ h)
  have hown : s.vm.findClass "CompiledProgram" = some m.cls := findClass_of_methodNamed B.named
  have hlocks := B.notSynchronized
  have hD := hD.self (sz := s.heap.size)
  generalize hAe : va_A [(h8, .inr (4, [.ref h6, .ref h0, .ref h4, .int xp, .int xs])), (h6, .inr (3, [.ref h7, .int tl]))] s.heap.size = A at hD ⊢
  have hA : ∀ q : Nat, s.heap.size ≤ q → A q := fun q h => by rw [← hAe]; exact Or.inr h
  have hS : va_S A s.heap s.heap [] := va_S.rf
  have hl := lv_entry ([.ref h8, .int a0]) (n := 2) (Nat.le_of_ble_eq_true rfl)
  rw [lg_entry_eq]
  generalize (lg_sl ([.ref h8, .int a0]) ++ List.replicate (2 - (lg_sl ([.ref h8, .int a0])).length) Slot.unset).toArray = ls at hl ⊢
  have hl : lv_has ls 2 [(0, .ref h8), (1, .int a0)] := hl
  refine lv_iload_n hx hb dCp_end_0 rfl (lv_at hl 1 rfl) ?_
  refine lv_if_lt (tgt := 15) hx hb dCp_end_1 (by decide) (fun c1 => ?_) (fun c1 => ?_)
  · skip
    exact absurd c1 he0
  · skip
    refine lv_iload_n hx hb dCp_end_4 rfl (lv_at hl 1 rfl) ?_
    refine lv_aload_n hx hb dCp_end_5 rfl (lv_at hl 0 rfl) ?_
    refine va_get (D := G) (ci := 4) (v := .ref h6) (C := RCp) (T := TCp) (N := 5) hx hb hT inCp hown hK hP 0 rfl rfl 0 (by decide) (hT _ mw_86) (fun _ h9 => h9) rfl dCp_end_6 ?_
    refine va_get (D := G) (ci := 3) (v := .int tl) (C := RTa) (T := TTa) (N := 2) hx hb hT inTa hown hK hP 1 rfl rfl 1 (by decide) (hT _ mw_38) (fun _ h9 => h9) rfl dCp_end_9 ?_
    refine lv_icmp_le (tgt := 25) hx hb dCp_end_12 (by decide) (fun c2 => ?_) (fun c2 => ?_)
    · skip
      refine lv_aload_n hx hb dCp_end_25 rfl (lv_at hl 0 rfl) ?_
      refine va_get (D := G) (ci := 4) (v := .ref h6) (C := RCp) (T := TCp) (N := 5) hx hb hT inCp hown hK hP 0 rfl rfl 0 (by decide) (hT _ mw_86) (fun _ h9 => h9) rfl dCp_end_26 ?_
      refine lv_iload_n hx hb dCp_end_29 rfl (lv_at hl 1 rfl) ?_
      refine va_put (D := G) (ci := 3) (v := .int a0) (ty := .int) (C := RTa) (T := TTa) (N := 2) hx hb hT inTa tyTa tyTa_ok nmTa hown hK hP hD hS 1 rfl rfl 1 (by decide) (hT _ mw_38) (fun _ h9 => h9) rfl (by decide +kernel) rfl rfl (Nat.le_of_ble_eq_true rfl) dCp_end_30 (fun H locs hP hD hS => ?_)
      have hP : va_P G vwCl [(h8, .inr (4, [.ref h6, .ref h0, .ref h4, .int xp, .int xs])), (h6, .inr (3, [.ref h7, .int a0]))] H := hP
      have hD : va_D A [(h8, .inr (4, [.ref h6, .ref h0, .ref h4, .int xp, .int xs])), (h6, .inr (3, [.ref h7, .int a0]))] := hD
      have hP9 := hP.sub (ws' := [(h8, .inr (4, [.ref h6, .ref h0, .ref h4, .int xp, .int xs])), (h6, .inr (3, [.ref h7, .int a0]))]) [0, 1] rfl
      have hD9 := hD.sub (ws' := [(h8, .inr (4, [.ref h6, .ref h0, .ref h4, .int xp, .int xs])), (h6, .inr (3, [.ref h7, .int a0]))]) [0, 1] (by decide) rfl
      exact W.vret hx hb hr (fun t ht hW => ⟨⟨(a0), rfl, rfl, by rw [ht]; exact hP9, hD9⟩, hS.F ht⟩) hS.2.2 dCp_end_33
    · skip
      exact absurd he1 c2

set_option maxHeartbeats 4000000 in
set_option maxRecDepth 100000 in
theorem x_Cp_end (l : Launch) (hst : l.stackTraces = false) (s0 : State) (sa : Nat) (hA0 : ∀ w ∈ Bundle.ownAtoms "CompiledProgram" 62 "java/lang/IllegalArgumentException" ["java/lang/RuntimeException", "java/lang/Exception"], w.before #[] s0 = true) (hR0 : vk_R "CompiledProgram" 60 "the tape has no such length" sa s0) (G : va_G) (cB cL cI : ClassId) (Hp : Heap) (h8 : Nat) (xp : Int32) (xs : Int32) (h6 : Nat) (h0 : Nat) (h4 : Nat) (h7 : Nat) (tl : Int32) (a0 : Int32) (hP : va_P G vwCl [(h8, .inr (4, [.ref h6, .ref h0, .ref h4, .int xp, .int xs])), (h6, .inr (3, [.ref h7, .int tl]))] Hp) (hHs : ∀ q, q < s0.heap.size → Hp[q]? = s0.heap[q]?) (hthr : a0 < 0 ∨ ¬ a0 ≤ tl) : th_Met l yCp_end wsCp_end ({ frames := 6, cells := 1, slots := 6, locals := 120 }) (va_Pc [.ref h8, .int a0] (fun U => U.heap = Hp ∧ va_K G vwCl [(cB, .byte), (cL, .long), (cI, .int)] U ∧ s0.WarmedH U.vm)) "java/lang/IllegalArgumentException" := by
  refine th_ofW (cc := cCp_end) (maxL := 2) (ret := none) (by decide) rfl ?_
  intro p e s m args below meth c s₁ B hml hne hv
  obtain ⟨rfl, rfl, hK, hWs⟩ := hv
  have hx := B.exec
  have hb := B.bytes
  have hr := B.returns
  have hT : ∀ w ∈ tB, w.before _ s = true := fun w h => atoms_spec (ws := wsCp_end) B.pre w (List.mem_cons_of_mem _ h)
  have hown : s.vm.findClass "CompiledProgram" = some m.cls := findClass_of_methodNamed B.named
  have hlocks := B.notSynchronized
  have hS : va_S (fun _ => False) s.heap s.heap [] := va_S.rf
  have hl := lv_entry ([.ref h8, .int a0]) (n := 2) (Nat.le_of_ble_eq_true rfl)
  rw [lg_entry_eq]
  generalize (lg_sl ([.ref h8, .int a0]) ++ List.replicate (2 - (lg_sl ([.ref h8, .int a0])).length) Slot.unset).toArray = ls at hl ⊢
  have hl : lv_has ls 2 [(0, .ref h8), (1, .int a0)] := hl
  refine lv_iload_n hx hb dCp_end_0 rfl (lv_at hl 1 rfl) ?_
  refine lv_if_lt (tgt := 15) hx hb dCp_end_1 (by decide) (fun c1 => ?_) (fun c1 => ?_)
  · skip
    exact th_throw (names := ["java/lang/RuntimeException", "java/lang/Exception"]) hx hb hst hown (by decide +kernel) (by decide +kernel) (hT _ mw_359) (hT _ mw_360) (hT _ mw_14) (vk_R.warm hWs hR0) (th_move hWs hHs (fun w hw => List.all_eq_true.mp (tk_62) w hw) ts_62 hA0) hne hlocks hS (hl.1.trans hml.symm) dCp_end_15 dCp_end_18 dCp_end_19 dCp_end_21 dCp_end_24 (Nat.le_of_ble_eq_true rfl) (Nat.le_of_ble_eq_true rfl) (Nat.le_of_ble_eq_true rfl) (Nat.le_of_ble_eq_true rfl)
  · skip
    refine lv_iload_n hx hb dCp_end_4 rfl (lv_at hl 1 rfl) ?_
    refine lv_aload_n hx hb dCp_end_5 rfl (lv_at hl 0 rfl) ?_
    refine va_get (D := G) (ci := 4) (v := .ref h6) (C := RCp) (T := TCp) (N := 5) hx hb hT inCp hown hK hP 0 rfl rfl 0 (by decide) (hT _ mw_86) (fun _ h9 => h9) rfl dCp_end_6 ?_
    refine va_get (D := G) (ci := 3) (v := .int tl) (C := RTa) (T := TTa) (N := 2) hx hb hT inTa hown hK hP 1 rfl rfl 1 (by decide) (hT _ mw_38) (fun _ h9 => h9) rfl dCp_end_9 ?_
    refine lv_icmp_le (tgt := 25) hx hb dCp_end_12 (by decide) (fun c2 => ?_) (fun c2 => ?_)
    · skip
      exact (by rcases hthr with h | h <;> contradiction)
    · skip
      exact th_throw (names := ["java/lang/RuntimeException", "java/lang/Exception"]) hx hb hst hown (by decide +kernel) (by decide +kernel) (hT _ mw_359) (hT _ mw_360) (hT _ mw_14) (vk_R.warm hWs hR0) (th_move hWs hHs (fun w hw => List.all_eq_true.mp (tk_62) w hw) ts_62 hA0) hne hlocks hS (hl.1.trans hml.symm) dCp_end_15 dCp_end_18 dCp_end_19 dCp_end_21 dCp_end_24 (Nat.le_of_ble_eq_true rfl) (Nat.le_of_ble_eq_true rfl) (Nat.le_of_ble_eq_true rfl) (Nat.le_of_ble_eq_true rfl)

def f_Cp_set (rf : Nat → Int64) (a0 : Int32) (a1 : Int64) : (Nat → Int64) :=
  ((vp_updL rf a0.toNatClampNeg a1))
set_option maxHeartbeats 4000000 in
set_option maxRecDepth 100000 in
theorem c_Cp_set (l : Launch) (G : va_G) (cB cL cI : ClassId) (Hp : Heap) (h8 : Nat) (xp : Int32) (xs : Int32) (h6 : Nat) (h0 : Nat) (h4 : Nat) (h5 : Nat) (h2 : Nat) (rf : Nat → Int64) (a0 : Int32) (a1 : Int64) (hP : va_P G vwCl [(h8, .inr (4, [.ref h6, .ref h0, .ref h4, .int xp, .int xs])), (h4, .inr (2, [.ref h5, .ref h2])), (h5, .inl (cL, 16, .inr (.inl rf)))] Hp) (hD : va_D (fun _ => True) [(h8, .inr (4, [.ref h6, .ref h0, .ref h4, .int xp, .int xs])), (h4, .inr (2, [.ref h5, .ref h2])), (h5, .inl (cL, 16, .inr (.inl rf)))]) (hr0 : ¬ a0 < 0) (hr1 : a0 < (11 : Int32)) : Met l yCp_set wsCp_set ({ frames := 0, cells := 0, slots := 0, locals := 0 }) (va_Pc [.ref h8, .int a0, .long a1] (fun U => U.heap = Hp ∧ va_K G vwCl [(cB, .byte), (cL, .long), (cI, .int)] U)) (va_Qv (fun (u : (Nat → Int64)) => u = (f_Cp_set rf a0 a1)) (fun (u : (Nat → Int64)) t => va_P G vwCl [(h8, .inr (4, [.ref h6, .ref h0, .ref h4, .int xp, .int xs])), (h4, .inr (2, [.ref h5, .ref h2])), (h5, .inl (cL, 16, .inr (.inl (u))))] t.heap ∧ va_D (va_A [(h8, .inr (4, [.ref h6, .ref h0, .ref h4, .int xp, .int xs])), (h4, .inr (2, [.ref h5, .ref h2])), (h5, .inl (cL, 16, .inr (.inl rf)))] Hp.size) [(h8, .inr (4, [.ref h6, .ref h0, .ref h4, .int xp, .int xs])), (h4, .inr (2, [.ref h5, .ref h2])), (h5, .inl (cL, 16, .inr (.inl (u))))]) (va_A [(h8, .inr (4, [.ref h6, .ref h0, .ref h4, .int xp, .int xs])), (h4, .inr (2, [.ref h5, .ref h2])), (h5, .inl (cL, 16, .inr (.inl rf)))] Hp.size)) 0 0 (va_A [(h8, .inr (4, [.ref h6, .ref h0, .ref h4, .int xp, .int xs])), (h4, .inr (2, [.ref h5, .ref h2])), (h5, .inl (cL, 16, .inr (.inl rf)))] Hp.size) := by
  refine Met.ofW (cc := cCp_set) (maxL := 4) (ret := none) (by decide) rfl ?_
  intro p e s m args below meth c s₁ B hml hv
  obtain ⟨rfl, rfl, hK⟩ := hv
  have hx := B.exec
  have hb := B.bytes
  have hr := B.returns
  have hT : ∀ w ∈ tB, w.before _ s = true := fun w h => atoms_spec (ws := wsCp_set) B.pre w (List.mem_cons_of_mem _ h)
  have hown : s.vm.findClass "CompiledProgram" = some m.cls := findClass_of_methodNamed B.named
  have hlocks := B.notSynchronized
  have hD := hD.self (sz := s.heap.size)
  generalize hAe : va_A [(h8, .inr (4, [.ref h6, .ref h0, .ref h4, .int xp, .int xs])), (h4, .inr (2, [.ref h5, .ref h2])), (h5, .inl (cL, 16, .inr (.inl rf)))] s.heap.size = A at hD ⊢
  have hA : ∀ q : Nat, s.heap.size ≤ q → A q := fun q h => by rw [← hAe]; exact Or.inr h
  have hS : va_S A s.heap s.heap [] := va_S.rf
  have hl := lv_entry ([.ref h8, .int a0, .long a1]) (n := 4) (Nat.le_of_ble_eq_true rfl)
  rw [lg_entry_eq]
  generalize (lg_sl ([.ref h8, .int a0, .long a1]) ++ List.replicate (4 - (lg_sl ([.ref h8, .int a0, .long a1])).length) Slot.unset).toArray = ls at hl ⊢
  have hl : lv_has ls 4 [(0, .ref h8), (1, .int a0), (2, .long a1)] := hl
  refine lv_iload_n hx hb dCp_set_0 rfl (lv_at hl 1 rfl) ?_
  refine lv_if_lt (tgt := 10) hx hb dCp_set_1 (by decide) (fun c1 => ?_) (fun c1 => ?_)
  · skip
    exact absurd c1 hr0
  · skip
    refine lv_iload_n hx hb dCp_set_4 rfl (lv_at hl 1 rfl) ?_
    refine lv_bipush (v := (11 : Int32)) hx hb dCp_set_5 (by decide) ?_
    refine lv_icmp_lt (tgt := 20) hx hb dCp_set_7 (by decide) (fun c2 => ?_) (fun c2 => ?_)
    · skip
      refine lv_aload_n hx hb dCp_set_20 rfl (lv_at hl 0 rfl) ?_
      refine va_get (D := G) (ci := 4) (v := .ref h4) (C := RCp) (T := TCp) (N := 5) hx hb hT inCp hown hK hP 0 rfl rfl 2 (by decide) (hT _ mw_88) (fun _ h9 => h9) rfl dCp_set_21 ?_
      refine va_get (D := G) (ci := 2) (v := .ref h5) (C := RMa) (T := TMa) (N := 2) hx hb hT inMa hown hK hP 1 rfl rfl 0 (by decide) (hT _ mw_78) (fun _ h9 => h9) rfl dCp_set_24 ?_
      refine lv_iload_n hx hb dCp_set_27 rfl (lv_at hl 1 rfl) ?_
      refine lv_lload_n hx hb dCp_set_28 rfl (lv_at hl 2 rfl) ?_
      refine va_last hx hb hK hP hD hS 2 1 rfl rfl (re_in hr0 hr1) dCp_set_29 (fun H locs hP hD hS => ?_)
      have hP : va_P G vwCl [(h8, .inr (4, [.ref h6, .ref h0, .ref h4, .int xp, .int xs])), (h4, .inr (2, [.ref h5, .ref h2])), (h5, .inl (cL, 16, .inr (.inl (vp_updL rf a0.toNatClampNeg a1))))] H := hP
      have hD : va_D A [(h8, .inr (4, [.ref h6, .ref h0, .ref h4, .int xp, .int xs])), (h4, .inr (2, [.ref h5, .ref h2])), (h5, .inl (cL, 16, .inr (.inl (vp_updL rf a0.toNatClampNeg a1))))] := hD
      have hP9 := hP.sub (ws' := [(h8, .inr (4, [.ref h6, .ref h0, .ref h4, .int xp, .int xs])), (h4, .inr (2, [.ref h5, .ref h2])), (h5, .inl (cL, 16, .inr (.inl (vp_updL rf a0.toNatClampNeg a1))))]) [0, 1, 2] rfl
      have hD9 := hD.sub (ws' := [(h8, .inr (4, [.ref h6, .ref h0, .ref h4, .int xp, .int xs])), (h4, .inr (2, [.ref h5, .ref h2])), (h5, .inl (cL, 16, .inr (.inl (vp_updL rf a0.toNatClampNeg a1))))]) [0, 1, 2] (by decide) rfl
      exact W.vret hx hb hr (fun t ht hW => ⟨⟨((vp_updL rf a0.toNatClampNeg a1)), rfl, rfl, by rw [ht]; exact hP9, hD9⟩, hS.F ht⟩) hS.2.2 dCp_set_30
    · skip
      exact absurd hr1 c2

def f_Cp_get (rf : Nat → Int64) (a0 : Int32) : Int64 :=
  (rf a0.toNatClampNeg)
set_option maxHeartbeats 4000000 in
set_option maxRecDepth 100000 in
theorem c_Cp_get (l : Launch) (G : va_G) (cB cL cI : ClassId) (Hp : Heap) (h8 : Nat) (xp : Int32) (xs : Int32) (h6 : Nat) (h0 : Nat) (h4 : Nat) (h5 : Nat) (h2 : Nat) (rf : Nat → Int64) (a0 : Int32) (hP : va_P G vwCl [(h8, .inr (4, [.ref h6, .ref h0, .ref h4, .int xp, .int xs])), (h4, .inr (2, [.ref h5, .ref h2])), (h5, .inl (cL, 16, .inr (.inl rf)))] Hp) (hr0 : ¬ a0 < 0) (hr1 : a0 < (11 : Int32)) : Met l yCp_get wsCp_get ({ frames := 0, cells := 0, slots := 0, locals := 0 }) (va_Pc [.ref h8, .int a0] (fun U => U.heap = Hp ∧ va_K G vwCl [(cB, .byte), (cL, .long), (cI, .int)] U)) (va_Ql (fun (r : Int64) (_ : Unit) => r = (f_Cp_get rf a0)) (fun _ t => t.heap = Hp) (fun _ => False)) 0 0 (fun _ => False) := by
  refine Met.ofW (cc := cCp_get) (maxL := 2) (ret := (some .long)) (by decide) rfl ?_
  intro p e s m args below meth c s₁ B hml hv
  obtain ⟨rfl, rfl, hK⟩ := hv
  have hx := B.exec
  have hb := B.bytes
  have hr := B.returns
  have hT : ∀ w ∈ tB, w.before _ s = true := fun w h => atoms_spec (ws := wsCp_get) B.pre w (List.mem_cons_of_mem _ h)
  have hown : s.vm.findClass "CompiledProgram" = some m.cls := findClass_of_methodNamed B.named
  have hlocks := B.notSynchronized
  have hA : ∀ q : Nat, (fun _ : Nat => False) q → False := fun _ h => h
  have hS : va_S (fun _ => False) s.heap s.heap [] := va_S.rf
  have hl := lv_entry ([.ref h8, .int a0]) (n := 2) (Nat.le_of_ble_eq_true rfl)
  rw [lg_entry_eq]
  generalize (lg_sl ([.ref h8, .int a0]) ++ List.replicate (2 - (lg_sl ([.ref h8, .int a0])).length) Slot.unset).toArray = ls at hl ⊢
  have hl : lv_has ls 2 [(0, .ref h8), (1, .int a0)] := hl
  refine lv_iload_n hx hb dCp_get_0 rfl (lv_at hl 1 rfl) ?_
  refine lv_if_lt (tgt := 10) hx hb dCp_get_1 (by decide) (fun c1 => ?_) (fun c1 => ?_)
  · skip
    exact absurd c1 hr0
  · skip
    refine lv_iload_n hx hb dCp_get_4 rfl (lv_at hl 1 rfl) ?_
    refine lv_bipush (v := (11 : Int32)) hx hb dCp_get_5 (by decide) ?_
    refine lv_icmp_lt (tgt := 20) hx hb dCp_get_7 (by decide) (fun c2 => ?_) (fun c2 => ?_)
    · skip
      refine lv_aload_n hx hb dCp_get_20 rfl (lv_at hl 0 rfl) ?_
      refine va_get (D := G) (ci := 4) (v := .ref h4) (C := RCp) (T := TCp) (N := 5) hx hb hT inCp hown hK hP 0 rfl rfl 2 (by decide) (hT _ mw_88) (fun _ h9 => h9) rfl dCp_get_21 ?_
      refine va_get (D := G) (ci := 2) (v := .ref h5) (C := RMa) (T := TMa) (N := 2) hx hb hT inMa hown hK hP 1 rfl rfl 0 (by decide) (hT _ mw_78) (fun _ h9 => h9) rfl dCp_get_24 ?_
      refine lv_iload_n hx hb dCp_get_27 rfl (lv_at hl 1 rfl) ?_
      refine va_lald hx hb hK hP 2 1 rfl rfl (re_in hr0 hr1) dCp_get_28 ?_
      exact W.lret (v := (rf a0.toNatClampNeg)) hx hb hr (fun t ht hW => ⟨⟨(rf a0.toNatClampNeg), (), rfl, rfl, ht⟩, hS.F ht⟩) hS.2.2 dCp_get_29
    · skip
      exact absurd hr1 c2

set_option maxHeartbeats 4000000 in
set_option maxRecDepth 100000 in
theorem x_Cp_set (l : Launch) (hst : l.stackTraces = false) (s0 : State) (sa : Nat) (hA0 : ∀ w ∈ Bundle.ownAtoms "CompiledProgram" 84 "java/lang/IndexOutOfBoundsException" ["java/lang/RuntimeException", "java/lang/Exception"], w.before #[] s0 = true) (hR0 : vk_R "CompiledProgram" 82 "there is no such register" sa s0) (G : va_G) (cB cL cI : ClassId) (Hp : Heap) (h8 : Nat) (xp : Int32) (xs : Int32) (h6 : Nat) (h0 : Nat) (h4 : Nat) (h5 : Nat) (h2 : Nat) (rf : Nat → Int64) (a0 : Int32) (a1 : Int64) (hP : va_P G vwCl [(h8, .inr (4, [.ref h6, .ref h0, .ref h4, .int xp, .int xs])), (h4, .inr (2, [.ref h5, .ref h2])), (h5, .inl (cL, 16, .inr (.inl rf)))] Hp) (hHs : ∀ q, q < s0.heap.size → Hp[q]? = s0.heap[q]?) (hthr : a0 < 0 ∨ ¬ a0 < (11 : Int32)) : th_Met l yCp_set wsCp_set ({ frames := 6, cells := 1, slots := 6, locals := 120 }) (va_Pc [.ref h8, .int a0, .long a1] (fun U => U.heap = Hp ∧ va_K G vwCl [(cB, .byte), (cL, .long), (cI, .int)] U ∧ s0.WarmedH U.vm)) "java/lang/IndexOutOfBoundsException" := by
  refine th_ofW (cc := cCp_set) (maxL := 4) (ret := none) (by decide) rfl ?_
  intro p e s m args below meth c s₁ B hml hne hv
  obtain ⟨rfl, rfl, hK, hWs⟩ := hv
  have hx := B.exec
  have hb := B.bytes
  have hr := B.returns
  have hT : ∀ w ∈ tB, w.before _ s = true := fun w h => atoms_spec (ws := wsCp_set) B.pre w (List.mem_cons_of_mem _ h)
  have hown : s.vm.findClass "CompiledProgram" = some m.cls := findClass_of_methodNamed B.named
  have hlocks := B.notSynchronized
  have hS : va_S (fun _ => False) s.heap s.heap [] := va_S.rf
  have hl := lv_entry ([.ref h8, .int a0, .long a1]) (n := 4) (Nat.le_of_ble_eq_true rfl)
  rw [lg_entry_eq]
  generalize (lg_sl ([.ref h8, .int a0, .long a1]) ++ List.replicate (4 - (lg_sl ([.ref h8, .int a0, .long a1])).length) Slot.unset).toArray = ls at hl ⊢
  have hl : lv_has ls 4 [(0, .ref h8), (1, .int a0), (2, .long a1)] := hl
  refine lv_iload_n hx hb dCp_set_0 rfl (lv_at hl 1 rfl) ?_
  refine lv_if_lt (tgt := 10) hx hb dCp_set_1 (by decide) (fun c1 => ?_) (fun c1 => ?_)
  · skip
    exact th_throw (names := ["java/lang/RuntimeException", "java/lang/Exception"]) hx hb hst hown (by decide +kernel) (by decide +kernel) (hT _ mw_383) (hT _ mw_384) (hT _ mw_18) (vk_R.warm hWs hR0) (th_move hWs hHs (fun w hw => List.all_eq_true.mp (tk_84) w hw) ts_84 hA0) hne hlocks hS (hl.1.trans hml.symm) dCp_set_10 dCp_set_13 dCp_set_14 dCp_set_16 dCp_set_19 (Nat.le_of_ble_eq_true rfl) (Nat.le_of_ble_eq_true rfl) (Nat.le_of_ble_eq_true rfl) (Nat.le_of_ble_eq_true rfl)
  · skip
    refine lv_iload_n hx hb dCp_set_4 rfl (lv_at hl 1 rfl) ?_
    refine lv_bipush (v := (11 : Int32)) hx hb dCp_set_5 (by decide) ?_
    refine lv_icmp_lt (tgt := 20) hx hb dCp_set_7 (by decide) (fun c2 => ?_) (fun c2 => ?_)
    · skip
      exact (by rcases hthr with h | h <;> contradiction)
    · skip
      exact th_throw (names := ["java/lang/RuntimeException", "java/lang/Exception"]) hx hb hst hown (by decide +kernel) (by decide +kernel) (hT _ mw_383) (hT _ mw_384) (hT _ mw_18) (vk_R.warm hWs hR0) (th_move hWs hHs (fun w hw => List.all_eq_true.mp (tk_84) w hw) ts_84 hA0) hne hlocks hS (hl.1.trans hml.symm) dCp_set_10 dCp_set_13 dCp_set_14 dCp_set_16 dCp_set_19 (Nat.le_of_ble_eq_true rfl) (Nat.le_of_ble_eq_true rfl) (Nat.le_of_ble_eq_true rfl) (Nat.le_of_ble_eq_true rfl)

set_option maxHeartbeats 4000000 in
set_option maxRecDepth 100000 in
theorem x_Cp_get (l : Launch) (hst : l.stackTraces = false) (s0 : State) (sa : Nat) (hA0 : ∀ w ∈ Bundle.ownAtoms "CompiledProgram" 84 "java/lang/IndexOutOfBoundsException" ["java/lang/RuntimeException", "java/lang/Exception"], w.before #[] s0 = true) (hR0 : vk_R "CompiledProgram" 82 "there is no such register" sa s0) (G : va_G) (cB cL cI : ClassId) (Hp : Heap) (h8 : Nat) (xp : Int32) (xs : Int32) (h6 : Nat) (h0 : Nat) (h4 : Nat) (h5 : Nat) (h2 : Nat) (rf : Nat → Int64) (a0 : Int32) (hP : va_P G vwCl [(h8, .inr (4, [.ref h6, .ref h0, .ref h4, .int xp, .int xs])), (h4, .inr (2, [.ref h5, .ref h2])), (h5, .inl (cL, 16, .inr (.inl rf)))] Hp) (hHs : ∀ q, q < s0.heap.size → Hp[q]? = s0.heap[q]?) (hthr : a0 < 0 ∨ ¬ a0 < (11 : Int32)) : th_Met l yCp_get wsCp_get ({ frames := 6, cells := 1, slots := 6, locals := 120 }) (va_Pc [.ref h8, .int a0] (fun U => U.heap = Hp ∧ va_K G vwCl [(cB, .byte), (cL, .long), (cI, .int)] U ∧ s0.WarmedH U.vm)) "java/lang/IndexOutOfBoundsException" := by
  refine th_ofW (cc := cCp_get) (maxL := 2) (ret := (some .long)) (by decide) rfl ?_
  intro p e s m args below meth c s₁ B hml hne hv
  obtain ⟨rfl, rfl, hK, hWs⟩ := hv
  have hx := B.exec
  have hb := B.bytes
  have hr := B.returns
  have hT : ∀ w ∈ tB, w.before _ s = true := fun w h => atoms_spec (ws := wsCp_get) B.pre w (List.mem_cons_of_mem _ h)
  have hown : s.vm.findClass "CompiledProgram" = some m.cls := findClass_of_methodNamed B.named
  have hlocks := B.notSynchronized
  have hS : va_S (fun _ => False) s.heap s.heap [] := va_S.rf
  have hl := lv_entry ([.ref h8, .int a0]) (n := 2) (Nat.le_of_ble_eq_true rfl)
  rw [lg_entry_eq]
  generalize (lg_sl ([.ref h8, .int a0]) ++ List.replicate (2 - (lg_sl ([.ref h8, .int a0])).length) Slot.unset).toArray = ls at hl ⊢
  have hl : lv_has ls 2 [(0, .ref h8), (1, .int a0)] := hl
  refine lv_iload_n hx hb dCp_get_0 rfl (lv_at hl 1 rfl) ?_
  refine lv_if_lt (tgt := 10) hx hb dCp_get_1 (by decide) (fun c1 => ?_) (fun c1 => ?_)
  · skip
    exact th_throw (names := ["java/lang/RuntimeException", "java/lang/Exception"]) hx hb hst hown (by decide +kernel) (by decide +kernel) (hT _ mw_383) (hT _ mw_384) (hT _ mw_18) (vk_R.warm hWs hR0) (th_move hWs hHs (fun w hw => List.all_eq_true.mp (tk_84) w hw) ts_84 hA0) hne hlocks hS (hl.1.trans hml.symm) dCp_get_10 dCp_get_13 dCp_get_14 dCp_get_16 dCp_get_19 (Nat.le_of_ble_eq_true rfl) (Nat.le_of_ble_eq_true rfl) (Nat.le_of_ble_eq_true rfl) (Nat.le_of_ble_eq_true rfl)
  · skip
    refine lv_iload_n hx hb dCp_get_4 rfl (lv_at hl 1 rfl) ?_
    refine lv_bipush (v := (11 : Int32)) hx hb dCp_get_5 (by decide) ?_
    refine lv_icmp_lt (tgt := 20) hx hb dCp_get_7 (by decide) (fun c2 => ?_) (fun c2 => ?_)
    · skip
      exact (by rcases hthr with h | h <;> contradiction)
    · skip
      exact th_throw (names := ["java/lang/RuntimeException", "java/lang/Exception"]) hx hb hst hown (by decide +kernel) (by decide +kernel) (hT _ mw_383) (hT _ mw_384) (hT _ mw_18) (vk_R.warm hWs hR0) (th_move hWs hHs (fun w hw => List.all_eq_true.mp (tk_84) w hw) ts_84 hA0) hne hlocks hS (hl.1.trans hml.symm) dCp_get_10 dCp_get_13 dCp_get_14 dCp_get_16 dCp_get_19 (Nat.le_of_ble_eq_true rfl) (Nat.le_of_ble_eq_true rfl) (Nat.le_of_ble_eq_true rfl) (Nat.le_of_ble_eq_true rfl)

def f_Cp_put (mf : Nat → Int32) (a0 : Int64) (a1 : Int64) : (Nat → Int32) :=
  (((f_Me_write mf a0 (8 : Int32) a1)))
set_option maxHeartbeats 4000000 in
set_option maxRecDepth 100000 in
theorem c_Cp_put (l : Launch) (G : va_G) (cB cL cI : ClassId) (Hp : Heap) (h8 : Nat) (xp : Int32) (xs : Int32) (h6 : Nat) (h0 : Nat) (h4 : Nat) (h5 : Nat) (rf : Nat → Int64) (h2 : Nat) (h3 : Nat) (mf : Nat → Int32) (a0 : Int64) (a1 : Int64) (hP : va_P G vwCl [(h8, .inr (4, [.ref h6, .ref h0, .ref h4, .int xp, .int xs])), (h4, .inr (2, [.ref h5, .ref h2])), (h5, .inl (cL, 16, .inr (.inl rf))), (h2, .inr (1, [.ref h3])), (h3, .inl (cB, 4096, .inl mf))] Hp) (hD : va_D (fun _ => True) [(h8, .inr (4, [.ref h6, .ref h0, .ref h4, .int xp, .int xs])), (h4, .inr (2, [.ref h5, .ref h2])), (h5, .inl (cL, 16, .inr (.inl rf))), (h2, .inr (1, [.ref h3])), (h3, .inl (cB, 4096, .inl mf))]) (hh : (f_Me_holds a0 (8 : Int32)) = true) : Met l yCp_put wsCp_put ({ frames := 2, cells := 0, slots := 0, locals := 52 }) (va_Pc [.ref h8, .long a0, .long a1] (fun U => U.heap = Hp ∧ va_K G vwCl [(cB, .byte), (cL, .long), (cI, .int)] U)) (va_Qv (fun (u : (Nat → Int32)) => u = (f_Cp_put mf a0 a1)) (fun (u : (Nat → Int32)) t => va_P G vwCl [(h8, .inr (4, [.ref h6, .ref h0, .ref h4, .int xp, .int xs])), (h4, .inr (2, [.ref h5, .ref h2])), (h5, .inl (cL, 16, .inr (.inl rf))), (h2, .inr (1, [.ref h3])), (h3, .inl (cB, 4096, .inl (u)))] t.heap ∧ va_D (va_A [(h8, .inr (4, [.ref h6, .ref h0, .ref h4, .int xp, .int xs])), (h4, .inr (2, [.ref h5, .ref h2])), (h5, .inl (cL, 16, .inr (.inl rf))), (h2, .inr (1, [.ref h3])), (h3, .inl (cB, 4096, .inl mf))] Hp.size) [(h8, .inr (4, [.ref h6, .ref h0, .ref h4, .int xp, .int xs])), (h4, .inr (2, [.ref h5, .ref h2])), (h5, .inl (cL, 16, .inr (.inl rf))), (h2, .inr (1, [.ref h3])), (h3, .inl (cB, 4096, .inl (u)))]) (va_A [(h8, .inr (4, [.ref h6, .ref h0, .ref h4, .int xp, .int xs])), (h4, .inr (2, [.ref h5, .ref h2])), (h5, .inl (cL, 16, .inr (.inl rf))), (h2, .inr (1, [.ref h3])), (h3, .inl (cB, 4096, .inl mf))] Hp.size)) 0 0 (va_A [(h8, .inr (4, [.ref h6, .ref h0, .ref h4, .int xp, .int xs])), (h4, .inr (2, [.ref h5, .ref h2])), (h5, .inl (cL, 16, .inr (.inl rf))), (h2, .inr (1, [.ref h3])), (h3, .inl (cB, 4096, .inl mf))] Hp.size) := by
  refine Met.ofW (cc := cCp_put) (maxL := 5) (ret := none) (by decide) rfl ?_
  intro p e s m args below meth c s₁ B hml hv
  obtain ⟨rfl, rfl, hK⟩ := hv
  have hx := B.exec
  have hb := B.bytes
  have hr := B.returns
  have hT : ∀ w ∈ tB, w.before _ s = true := fun w h => atoms_spec (ws := wsCp_put) B.pre w (List.mem_cons_of_mem _ h)
  have hown : s.vm.findClass "CompiledProgram" = some m.cls := findClass_of_methodNamed B.named
  have hlocks := B.notSynchronized
  have hD := hD.self (sz := s.heap.size)
  generalize hAe : va_A [(h8, .inr (4, [.ref h6, .ref h0, .ref h4, .int xp, .int xs])), (h4, .inr (2, [.ref h5, .ref h2])), (h5, .inl (cL, 16, .inr (.inl rf))), (h2, .inr (1, [.ref h3])), (h3, .inl (cB, 4096, .inl mf))] s.heap.size = A at hD ⊢
  have hA : ∀ q : Nat, s.heap.size ≤ q → A q := fun q h => by rw [← hAe]; exact Or.inr h
  have hS : va_S A s.heap s.heap [] := va_S.rf
  have hl := lv_entry ([.ref h8, .long a0, .long a1]) (n := 5) (Nat.le_of_ble_eq_true rfl)
  rw [lg_entry_eq]
  generalize (lg_sl ([.ref h8, .long a0, .long a1]) ++ List.replicate (5 - (lg_sl ([.ref h8, .long a0, .long a1])).length) Slot.unset).toArray = ls at hl ⊢
  have hl : lv_has ls 5 [(0, .ref h8), (1, .long a0), (3, .long a1)] := hl
  refine lv_aload_n hx hb dCp_put_0 rfl (lv_at hl 0 rfl) ?_
  refine va_get (D := G) (ci := 4) (v := .ref h4) (C := RCp) (T := TCp) (N := 5) hx hb hT inCp hown hK hP 0 rfl rfl 2 (by decide) (hT _ mw_88) (fun _ h9 => h9) rfl dCp_put_1 ?_
  refine va_get (D := G) (ci := 2) (v := .ref h2) (C := RMa) (T := TMa) (N := 2) hx hb hT inMa hown hK hP 1 rfl rfl 1 (by decide) (hT _ mw_80) (fun _ h9 => h9) rfl dCp_put_4 ?_
  refine lv_lload_n hx hb dCp_put_7 rfl (lv_at hl 1 rfl) ?_
  refine lv_bipush (v := (8 : Int32)) hx hb dCp_put_8 (by decide) ?_
  have hPc := hP.sub (ws' := [(h2, .inr (1, [.ref h3])), (h3, .inl (cB, 4096, .inl mf))]) [3, 4] rfl
  refine va_calli (va_runV (As := [.long a0, .int (8 : Int32)]) (rest := []) ⟨hx, hb, hml, hown, hT⟩ (c_Me_holds l G cB cL cI s.heap h2 h3 mf a0 (8 : Int32) hPc ) (cwV 2 hT (gB_V mw_413 mw_414 mw_415 mw_5 mw_416) rfl rfl rfl (by decide +kernel) ⟨Nat.le_of_ble_eq_true rfl, Nat.le_of_ble_eq_true rfl⟩) ⟨fun a U g mk q => ⟨q.1, q.2.1, va_K.moved (u := U) (U := U.calling g mk a) (Vm.Alike.refl U.vm) q.2.2⟩, va_recv hK hPc (ci := 1) (q0 := 0) rfl rfl, fun U hU hW => ⟨rfl, hU, va_K.moved hW.alike hK⟩⟩ rfl rfl hl.1 rfl (lv_room (Nat.le_of_ble_eq_true rfl)) dCp_put_10 ⟨Nat.zero_le _, Nat.zero_le _⟩) hS (fun _ _ h => h.elim) (fun _ h => h.elim) (fun r u t H1 locs ht hvm hw hB hz8 hk8 hS => ?_)
  obtain rfl : s.heap = H1 := hB.symm.trans ht
  subst hw
  refine lv_if_ne (tgt := 26) hx hb dCp_put_13 (by decide) (fun c1 => ?_) (fun c1 => ?_)
  · have c1 := bI_n c1
    refine lv_aload_n hx hb dCp_put_26 rfl (lv_at hl 0 rfl) ?_
    refine va_get (D := G) (ci := 4) (v := .ref h4) (C := RCp) (T := TCp) (N := 5) hx hb hT inCp hown hK hP 0 rfl rfl 2 (by decide) (hT _ mw_88) (fun _ h9 => h9) rfl dCp_put_27 ?_
    refine va_get (D := G) (ci := 2) (v := .ref h2) (C := RMa) (T := TMa) (N := 2) hx hb hT inMa hown hK hP 1 rfl rfl 1 (by decide) (hT _ mw_80) (fun _ h9 => h9) rfl dCp_put_30 ?_
    refine lv_lload_n hx hb dCp_put_33 rfl (lv_at hl 1 rfl) ?_
    refine lv_bipush (v := (8 : Int32)) hx hb dCp_put_34 (by decide) ?_
    refine lv_lload_n hx hb dCp_put_36 rfl (lv_at hl 2 rfl) ?_
    have hPc := hP.sub (ws' := [(h2, .inr (1, [.ref h3])), (h3, .inl (cB, 4096, .inl mf))]) [3, 4] rfl
    have hDc := hD.sub (ws' := [(h2, .inr (1, [.ref h3])), (h3, .inl (cB, 4096, .inl mf))]) [3, 4] (by decide) rfl
    have hFc := va_free (wc := [(h2, .inr (1, [.ref h3])), (h3, .inl (cB, 4096, .inl mf))]) hD hS hA [3, 4] rfl
    refine va_callv (va_runV (As := [.long a0, .int (8 : Int32), .long a1]) (rest := []) ⟨hx, hb, hml, hown, hT⟩ (c_Me_write l G cB cL cI s.heap h2 h3 mf a0 (8 : Int32) a1 hPc (hDc.weaken (fun _ _ _ _ => trivial)) (by decide)) (cwV 3 hT (gB_V mw_419 mw_420 mw_421 mw_5 mw_422) rfl rfl rfl (by decide +kernel) ⟨Nat.le_of_ble_eq_true rfl, Nat.le_of_ble_eq_true rfl⟩) ⟨fun a U g mk q => ⟨q.1, q.2.1, va_K.moved (u := U) (U := U.calling g mk a) (Vm.Alike.refl U.vm) q.2.2⟩, va_recv hK hPc (ci := 1) (q0 := 0) rfl rfl, fun U hU hW => ⟨rfl, hU, va_K.moved hW.alike hK⟩⟩ rfl rfl hl.1 rfl (lv_room (Nat.le_of_ble_eq_true rfl)) dCp_put_37 ⟨Nat.zero_le _, Nat.zero_le _⟩) hS (fun q _ h => hFc q h) hFc (fun u t H locs ht hvm hw hB hz8 hk8 hS => ?_)
    subst hw
    obtain ⟨hP1, hD1⟩ := hB
    rw [ht] at hP1
    obtain ⟨hP, hD⟩ := va_join (wr := [(h8, .inr (4, [.ref h6, .ref h0, .ref h4, .int xp, .int xs])), (h4, .inr (2, [.ref h5, .ref h2])), (h5, .inl (cL, 16, .inr (.inl rf)))]) (w1 := [(h2, .inr (1, [.ref h3])), (h3, .inl (cB, 4096, .inl ((f_Me_write mf a0 (8 : Int32) a1))))]) hP hD [3, 4] [0, 1, 2] rfl rfl (by decide) (by decide) hk8 hFc hP1 hD1
    have hP : va_P G vwCl [(h8, .inr (4, [.ref h6, .ref h0, .ref h4, .int xp, .int xs])), (h4, .inr (2, [.ref h5, .ref h2])), (h5, .inl (cL, 16, .inr (.inl rf))), (h2, .inr (1, [.ref h3])), (h3, .inl (cB, 4096, .inl ((f_Me_write mf a0 (8 : Int32) a1))))] H := hP
    have hD : va_D A [(h8, .inr (4, [.ref h6, .ref h0, .ref h4, .int xp, .int xs])), (h4, .inr (2, [.ref h5, .ref h2])), (h5, .inl (cL, 16, .inr (.inl rf))), (h2, .inr (1, [.ref h3])), (h3, .inl (cB, 4096, .inl ((f_Me_write mf a0 (8 : Int32) a1))))] := hD
    have hP9 := hP.sub (ws' := [(h8, .inr (4, [.ref h6, .ref h0, .ref h4, .int xp, .int xs])), (h4, .inr (2, [.ref h5, .ref h2])), (h5, .inl (cL, 16, .inr (.inl rf))), (h2, .inr (1, [.ref h3])), (h3, .inl (cB, 4096, .inl ((f_Me_write mf a0 (8 : Int32) a1))))]) [0, 1, 2, 3, 4] rfl
    have hD9 := hD.sub (ws' := [(h8, .inr (4, [.ref h6, .ref h0, .ref h4, .int xp, .int xs])), (h4, .inr (2, [.ref h5, .ref h2])), (h5, .inl (cL, 16, .inr (.inl rf))), (h2, .inr (1, [.ref h3])), (h3, .inl (cB, 4096, .inl ((f_Me_write mf a0 (8 : Int32) a1))))]) [0, 1, 2, 3, 4] (by decide) rfl
    exact W.vret hx hb hr (fun t ht hW => ⟨⟨(((f_Me_write mf a0 (8 : Int32) a1))), rfl, rfl, by rw [ht]; exact hP9, hD9⟩, hS.F ht⟩) hS.2.2 dCp_put_40
  · have c1 := bI_z c1
    exact absurd hh c1

def f_Cp_word (mf : Nat → Int32) (a0 : Int64) : Int64 :=
  (f_Me_read mf a0 (8 : Int32))
set_option maxHeartbeats 4000000 in
set_option maxRecDepth 100000 in
theorem c_Cp_word (l : Launch) (G : va_G) (cB cL cI : ClassId) (Hp : Heap) (h8 : Nat) (xp : Int32) (xs : Int32) (h6 : Nat) (h0 : Nat) (h4 : Nat) (h5 : Nat) (rf : Nat → Int64) (h2 : Nat) (h3 : Nat) (mf : Nat → Int32) (a0 : Int64) (hP : va_P G vwCl [(h8, .inr (4, [.ref h6, .ref h0, .ref h4, .int xp, .int xs])), (h4, .inr (2, [.ref h5, .ref h2])), (h5, .inl (cL, 16, .inr (.inl rf))), (h2, .inr (1, [.ref h3])), (h3, .inl (cB, 4096, .inl mf))] Hp) (hh : (f_Me_holds a0 (8 : Int32)) = true) : Met l yCp_word wsCp_word ({ frames := 2, cells := 0, slots := 0, locals := 52 }) (va_Pc [.ref h8, .long a0] (fun U => U.heap = Hp ∧ va_K G vwCl [(cB, .byte), (cL, .long), (cI, .int)] U)) (va_Ql (fun (r : Int64) (_ : Unit) => r = (f_Cp_word mf a0)) (fun _ t => t.heap = Hp) (fun _ => False)) 0 0 (fun _ => False) := by
  refine Met.ofW (cc := cCp_word) (maxL := 3) (ret := (some .long)) (by decide) rfl ?_
  intro p e s m args below meth c s₁ B hml hv
  obtain ⟨rfl, rfl, hK⟩ := hv
  have hx := B.exec
  have hb := B.bytes
  have hr := B.returns
  have hT : ∀ w ∈ tB, w.before _ s = true := fun w h => atoms_spec (ws := wsCp_word) B.pre w (List.mem_cons_of_mem _ h)
  have hown : s.vm.findClass "CompiledProgram" = some m.cls := findClass_of_methodNamed B.named
  have hlocks := B.notSynchronized
  have hA : ∀ q : Nat, (fun _ : Nat => False) q → False := fun _ h => h
  have hS : va_S (fun _ => False) s.heap s.heap [] := va_S.rf
  have hl := lv_entry ([.ref h8, .long a0]) (n := 3) (Nat.le_of_ble_eq_true rfl)
  rw [lg_entry_eq]
  generalize (lg_sl ([.ref h8, .long a0]) ++ List.replicate (3 - (lg_sl ([.ref h8, .long a0])).length) Slot.unset).toArray = ls at hl ⊢
  have hl : lv_has ls 3 [(0, .ref h8), (1, .long a0)] := hl
  refine lv_aload_n hx hb dCp_word_0 rfl (lv_at hl 0 rfl) ?_
  refine va_get (D := G) (ci := 4) (v := .ref h4) (C := RCp) (T := TCp) (N := 5) hx hb hT inCp hown hK hP 0 rfl rfl 2 (by decide) (hT _ mw_88) (fun _ h9 => h9) rfl dCp_word_1 ?_
  refine va_get (D := G) (ci := 2) (v := .ref h2) (C := RMa) (T := TMa) (N := 2) hx hb hT inMa hown hK hP 1 rfl rfl 1 (by decide) (hT _ mw_80) (fun _ h9 => h9) rfl dCp_word_4 ?_
  refine lv_lload_n hx hb dCp_word_7 rfl (lv_at hl 1 rfl) ?_
  refine lv_bipush (v := (8 : Int32)) hx hb dCp_word_8 (by decide) ?_
  have hPc := hP.sub (ws' := [(h2, .inr (1, [.ref h3])), (h3, .inl (cB, 4096, .inl mf))]) [3, 4] rfl
  refine va_calli (va_runV (As := [.long a0, .int (8 : Int32)]) (rest := []) ⟨hx, hb, hml, hown, hT⟩ (c_Me_holds l G cB cL cI s.heap h2 h3 mf a0 (8 : Int32) hPc ) (cwV 2 hT (gB_V mw_413 mw_414 mw_415 mw_5 mw_416) rfl rfl rfl (by decide +kernel) ⟨Nat.le_of_ble_eq_true rfl, Nat.le_of_ble_eq_true rfl⟩) ⟨fun a U g mk q => ⟨q.1, q.2.1, va_K.moved (u := U) (U := U.calling g mk a) (Vm.Alike.refl U.vm) q.2.2⟩, va_recv hK hPc (ci := 1) (q0 := 0) rfl rfl, fun U hU hW => ⟨rfl, hU, va_K.moved hW.alike hK⟩⟩ rfl rfl hl.1 rfl (lv_room (Nat.le_of_ble_eq_true rfl)) dCp_word_10 ⟨Nat.zero_le _, Nat.zero_le _⟩) hS (fun _ _ h => h.elim) (fun _ h => h.elim) (fun r u t H1 locs ht hvm hw hB hz8 hk8 hS => ?_)
  obtain rfl : s.heap = H1 := hB.symm.trans ht
  subst hw
  refine lv_if_ne (tgt := 26) hx hb dCp_word_13 (by decide) (fun c1 => ?_) (fun c1 => ?_)
  · have c1 := bI_n c1
    refine lv_aload_n hx hb dCp_word_26 rfl (lv_at hl 0 rfl) ?_
    refine va_get (D := G) (ci := 4) (v := .ref h4) (C := RCp) (T := TCp) (N := 5) hx hb hT inCp hown hK hP 0 rfl rfl 2 (by decide) (hT _ mw_88) (fun _ h9 => h9) rfl dCp_word_27 ?_
    refine va_get (D := G) (ci := 2) (v := .ref h2) (C := RMa) (T := TMa) (N := 2) hx hb hT inMa hown hK hP 1 rfl rfl 1 (by decide) (hT _ mw_80) (fun _ h9 => h9) rfl dCp_word_30 ?_
    refine lv_lload_n hx hb dCp_word_33 rfl (lv_at hl 1 rfl) ?_
    refine lv_bipush (v := (8 : Int32)) hx hb dCp_word_34 (by decide) ?_
    have hPc := hP.sub (ws' := [(h2, .inr (1, [.ref h3])), (h3, .inl (cB, 4096, .inl mf))]) [3, 4] rfl
    refine va_calll (va_runV (As := [.long a0, .int (8 : Int32)]) (rest := []) ⟨hx, hb, hml, hown, hT⟩ (c_Me_read l G cB cL cI s.heap h2 h3 mf a0 (8 : Int32) hPc (by decide)) (cwV 2 hT (gB_V mw_431 mw_432 mw_433 mw_5 mw_434) rfl rfl rfl (by decide +kernel) ⟨Nat.le_of_ble_eq_true rfl, Nat.le_of_ble_eq_true rfl⟩) ⟨fun a U g mk q => ⟨q.1, q.2.1, va_K.moved (u := U) (U := U.calling g mk a) (Vm.Alike.refl U.vm) q.2.2⟩, va_recv hK hPc (ci := 1) (q0 := 0) rfl rfl, fun U hU hW => ⟨rfl, hU, va_K.moved hW.alike hK⟩⟩ rfl rfl hl.1 rfl (lv_room (Nat.le_of_ble_eq_true rfl)) dCp_word_36 ⟨Nat.zero_le _, Nat.zero_le _⟩) hS (fun _ _ h => h.elim) (fun _ h => h.elim) (fun r u t H1 locs ht hvm hw hB hz8 hk8 hS => ?_)
    obtain rfl : s.heap = H1 := hB.symm.trans ht
    subst hw
    exact W.lret (v := (f_Me_read mf a0 (8 : Int32))) hx hb hr (fun t ht hW => ⟨⟨(f_Me_read mf a0 (8 : Int32)), (), rfl, rfl, ht⟩, hS.F ht⟩) hS.2.2 dCp_word_39
  · have c1 := bI_z c1
    exact absurd hh c1

set_option maxHeartbeats 4000000 in
set_option maxRecDepth 100000 in
theorem x_Cp_put (l : Launch) (hst : l.stackTraces = false) (s0 : State) (sa : Nat) (hA0 : ∀ w ∈ Bundle.ownAtoms "CompiledProgram" 84 "java/lang/IndexOutOfBoundsException" ["java/lang/RuntimeException", "java/lang/Exception"], w.before #[] s0 = true) (hR0 : vk_R "CompiledProgram" 99 "there is no such word" sa s0) (G : va_G) (cB cL cI : ClassId) (Hp : Heap) (h8 : Nat) (xp : Int32) (xs : Int32) (h6 : Nat) (h0 : Nat) (h4 : Nat) (h5 : Nat) (rf : Nat → Int64) (h2 : Nat) (h3 : Nat) (mf : Nat → Int32) (a0 : Int64) (a1 : Int64) (hP : va_P G vwCl [(h8, .inr (4, [.ref h6, .ref h0, .ref h4, .int xp, .int xs])), (h4, .inr (2, [.ref h5, .ref h2])), (h5, .inl (cL, 16, .inr (.inl rf))), (h2, .inr (1, [.ref h3])), (h3, .inl (cB, 4096, .inl mf))] Hp) (hHs : ∀ q, q < s0.heap.size → Hp[q]? = s0.heap[q]?) (hthr : ¬ (f_Me_holds a0 (8 : Int32)) = true) : th_Met l yCp_put wsCp_put ({ frames := 6, cells := 1, slots := 6, locals := 120 }) (va_Pc [.ref h8, .long a0, .long a1] (fun U => U.heap = Hp ∧ va_K G vwCl [(cB, .byte), (cL, .long), (cI, .int)] U ∧ s0.WarmedH U.vm)) "java/lang/IndexOutOfBoundsException" := by
  refine th_ofW (cc := cCp_put) (maxL := 5) (ret := none) (by decide) rfl ?_
  intro p e s m args below meth c s₁ B hml hne hv
  obtain ⟨rfl, rfl, hK, hWs⟩ := hv
  have hx := B.exec
  have hb := B.bytes
  have hr := B.returns
  have hT : ∀ w ∈ tB, w.before _ s = true := fun w h => atoms_spec (ws := wsCp_put) B.pre w (List.mem_cons_of_mem _ h)
  have hown : s.vm.findClass "CompiledProgram" = some m.cls := findClass_of_methodNamed B.named
  have hlocks := B.notSynchronized
  have hS : va_S (fun _ => False) s.heap s.heap [] := va_S.rf
  have hl := lv_entry ([.ref h8, .long a0, .long a1]) (n := 5) (Nat.le_of_ble_eq_true rfl)
  rw [lg_entry_eq]
  generalize (lg_sl ([.ref h8, .long a0, .long a1]) ++ List.replicate (5 - (lg_sl ([.ref h8, .long a0, .long a1])).length) Slot.unset).toArray = ls at hl ⊢
  have hl : lv_has ls 5 [(0, .ref h8), (1, .long a0), (3, .long a1)] := hl
  refine lv_aload_n hx hb dCp_put_0 rfl (lv_at hl 0 rfl) ?_
  refine va_get (D := G) (ci := 4) (v := .ref h4) (C := RCp) (T := TCp) (N := 5) hx hb hT inCp hown hK hP 0 rfl rfl 2 (by decide) (hT _ mw_88) (fun _ h9 => h9) rfl dCp_put_1 ?_
  refine va_get (D := G) (ci := 2) (v := .ref h2) (C := RMa) (T := TMa) (N := 2) hx hb hT inMa hown hK hP 1 rfl rfl 1 (by decide) (hT _ mw_80) (fun _ h9 => h9) rfl dCp_put_4 ?_
  refine lv_lload_n hx hb dCp_put_7 rfl (lv_at hl 1 rfl) ?_
  refine lv_bipush (v := (8 : Int32)) hx hb dCp_put_8 (by decide) ?_
  have hPc := hP.sub (ws' := [(h2, .inr (1, [.ref h3])), (h3, .inl (cB, 4096, .inl mf))]) [3, 4] rfl
  refine va_calli (va_runV (As := [.long a0, .int (8 : Int32)]) (rest := []) ⟨hx, hb, hml, hown, hT⟩ (c_Me_holds l G cB cL cI s.heap h2 h3 mf a0 (8 : Int32) hPc ) (cwV 2 hT (gB_V mw_413 mw_414 mw_415 mw_5 mw_416) rfl rfl rfl (by decide +kernel) ⟨Nat.le_of_ble_eq_true rfl, Nat.le_of_ble_eq_true rfl⟩) ⟨fun a U g mk q => ⟨q.1, q.2.1, va_K.moved (u := U) (U := U.calling g mk a) (Vm.Alike.refl U.vm) q.2.2⟩, va_recv hK hPc (ci := 1) (q0 := 0) rfl rfl, fun U hU hW => ⟨rfl, hU, va_K.moved hW.alike hK⟩⟩ rfl rfl hl.1 rfl (lv_room (Nat.le_of_ble_eq_true rfl)) dCp_put_10 ⟨Nat.zero_le _, Nat.zero_le _⟩) hS (fun _ _ h => h.elim) (fun _ h => h.elim) (fun r u t H1 locs ht hvm hw hB hz8 hk8 hS => ?_)
  obtain rfl : s.heap = H1 := hB.symm.trans ht
  subst hw
  refine lv_if_ne (tgt := 26) hx hb dCp_put_13 (by decide) (fun c1 => ?_) (fun c1 => ?_)
  · have c1 := bI_n c1
    exact absurd c1 hthr
  · have c1 := bI_z c1
    exact th_throw (names := ["java/lang/RuntimeException", "java/lang/Exception"]) hx hb hst hown (by decide +kernel) (by decide +kernel) (hT _ mw_383) (hT _ mw_384) (hT _ mw_18) (vk_R.warm hWs hR0) (th_move hWs hHs (fun w hw => List.all_eq_true.mp (tk_84) w hw) ts_84 hA0) hne hlocks hS (hl.1.trans hml.symm) dCp_put_16 dCp_put_19 dCp_put_20 dCp_put_22 dCp_put_25 (Nat.le_of_ble_eq_true rfl) (Nat.le_of_ble_eq_true rfl) (Nat.le_of_ble_eq_true rfl) (Nat.le_of_ble_eq_true rfl)

set_option maxHeartbeats 4000000 in
set_option maxRecDepth 100000 in
theorem x_Cp_word (l : Launch) (hst : l.stackTraces = false) (s0 : State) (sa : Nat) (hA0 : ∀ w ∈ Bundle.ownAtoms "CompiledProgram" 84 "java/lang/IndexOutOfBoundsException" ["java/lang/RuntimeException", "java/lang/Exception"], w.before #[] s0 = true) (hR0 : vk_R "CompiledProgram" 99 "there is no such word" sa s0) (G : va_G) (cB cL cI : ClassId) (Hp : Heap) (h8 : Nat) (xp : Int32) (xs : Int32) (h6 : Nat) (h0 : Nat) (h4 : Nat) (h5 : Nat) (rf : Nat → Int64) (h2 : Nat) (h3 : Nat) (mf : Nat → Int32) (a0 : Int64) (hP : va_P G vwCl [(h8, .inr (4, [.ref h6, .ref h0, .ref h4, .int xp, .int xs])), (h4, .inr (2, [.ref h5, .ref h2])), (h5, .inl (cL, 16, .inr (.inl rf))), (h2, .inr (1, [.ref h3])), (h3, .inl (cB, 4096, .inl mf))] Hp) (hHs : ∀ q, q < s0.heap.size → Hp[q]? = s0.heap[q]?) (hthr : ¬ (f_Me_holds a0 (8 : Int32)) = true) : th_Met l yCp_word wsCp_word ({ frames := 6, cells := 1, slots := 6, locals := 120 }) (va_Pc [.ref h8, .long a0] (fun U => U.heap = Hp ∧ va_K G vwCl [(cB, .byte), (cL, .long), (cI, .int)] U ∧ s0.WarmedH U.vm)) "java/lang/IndexOutOfBoundsException" := by
  refine th_ofW (cc := cCp_word) (maxL := 3) (ret := (some .long)) (by decide) rfl ?_
  intro p e s m args below meth c s₁ B hml hne hv
  obtain ⟨rfl, rfl, hK, hWs⟩ := hv
  have hx := B.exec
  have hb := B.bytes
  have hr := B.returns
  have hT : ∀ w ∈ tB, w.before _ s = true := fun w h => atoms_spec (ws := wsCp_word) B.pre w (List.mem_cons_of_mem _ h)
  have hown : s.vm.findClass "CompiledProgram" = some m.cls := findClass_of_methodNamed B.named
  have hlocks := B.notSynchronized
  have hS : va_S (fun _ => False) s.heap s.heap [] := va_S.rf
  have hl := lv_entry ([.ref h8, .long a0]) (n := 3) (Nat.le_of_ble_eq_true rfl)
  rw [lg_entry_eq]
  generalize (lg_sl ([.ref h8, .long a0]) ++ List.replicate (3 - (lg_sl ([.ref h8, .long a0])).length) Slot.unset).toArray = ls at hl ⊢
  have hl : lv_has ls 3 [(0, .ref h8), (1, .long a0)] := hl
  refine lv_aload_n hx hb dCp_word_0 rfl (lv_at hl 0 rfl) ?_
  refine va_get (D := G) (ci := 4) (v := .ref h4) (C := RCp) (T := TCp) (N := 5) hx hb hT inCp hown hK hP 0 rfl rfl 2 (by decide) (hT _ mw_88) (fun _ h9 => h9) rfl dCp_word_1 ?_
  refine va_get (D := G) (ci := 2) (v := .ref h2) (C := RMa) (T := TMa) (N := 2) hx hb hT inMa hown hK hP 1 rfl rfl 1 (by decide) (hT _ mw_80) (fun _ h9 => h9) rfl dCp_word_4 ?_
  refine lv_lload_n hx hb dCp_word_7 rfl (lv_at hl 1 rfl) ?_
  refine lv_bipush (v := (8 : Int32)) hx hb dCp_word_8 (by decide) ?_
  have hPc := hP.sub (ws' := [(h2, .inr (1, [.ref h3])), (h3, .inl (cB, 4096, .inl mf))]) [3, 4] rfl
  refine va_calli (va_runV (As := [.long a0, .int (8 : Int32)]) (rest := []) ⟨hx, hb, hml, hown, hT⟩ (c_Me_holds l G cB cL cI s.heap h2 h3 mf a0 (8 : Int32) hPc ) (cwV 2 hT (gB_V mw_413 mw_414 mw_415 mw_5 mw_416) rfl rfl rfl (by decide +kernel) ⟨Nat.le_of_ble_eq_true rfl, Nat.le_of_ble_eq_true rfl⟩) ⟨fun a U g mk q => ⟨q.1, q.2.1, va_K.moved (u := U) (U := U.calling g mk a) (Vm.Alike.refl U.vm) q.2.2⟩, va_recv hK hPc (ci := 1) (q0 := 0) rfl rfl, fun U hU hW => ⟨rfl, hU, va_K.moved hW.alike hK⟩⟩ rfl rfl hl.1 rfl (lv_room (Nat.le_of_ble_eq_true rfl)) dCp_word_10 ⟨Nat.zero_le _, Nat.zero_le _⟩) hS (fun _ _ h => h.elim) (fun _ h => h.elim) (fun r u t H1 locs ht hvm hw hB hz8 hk8 hS => ?_)
  obtain rfl : s.heap = H1 := hB.symm.trans ht
  subst hw
  refine lv_if_ne (tgt := 26) hx hb dCp_word_13 (by decide) (fun c1 => ?_) (fun c1 => ?_)
  · have c1 := bI_n c1
    exact absurd c1 hthr
  · have c1 := bI_z c1
    exact th_throw (names := ["java/lang/RuntimeException", "java/lang/Exception"]) hx hb hst hown (by decide +kernel) (by decide +kernel) (hT _ mw_383) (hT _ mw_384) (hT _ mw_18) (vk_R.warm hWs hR0) (th_move hWs hHs (fun w hw => List.all_eq_true.mp (tk_84) w hw) ts_84 hA0) hne hlocks hS (hl.1.trans hml.symm) dCp_word_16 dCp_word_19 dCp_word_20 dCp_word_22 dCp_word_25 (Nat.le_of_ble_eq_true rfl) (Nat.le_of_ble_eq_true rfl) (Nat.le_of_ble_eq_true rfl) (Nat.le_of_ble_eq_true rfl)

set_option maxHeartbeats 4000000 in
set_option maxRecDepth 100000 in
theorem x_Cp_runA (l : Launch) (hst : l.stackTraces = false) (s0 : State) (sa : Nat) (hA0 : ∀ w ∈ Bundle.ownAtoms "CompiledProgram" 62 "java/lang/IllegalArgumentException" ["java/lang/RuntimeException", "java/lang/Exception"], w.before #[] s0 = true) (hR0 : vk_R "CompiledProgram" 110 "the fuel is not 0 .. 100000" sa s0) (G : va_G) (cB cL cI : ClassId) (Hp : Heap) (h8 : Nat) (xp : Int32) (xs : Int32) (h6 : Nat) (h0 : Nat) (h4 : Nat) (h1 : Nat) (cnt : Int32) (a0 : Int32) (hP : va_P G vwCl [(h8, .inr (4, [.ref h6, .ref h0, .ref h4, .int xp, .int xs])), (h0, .inr (0, [.ref h1, .int cnt]))] Hp) (hHs : ∀ q, q < s0.heap.size → Hp[q]? = s0.heap[q]?) (hthr : a0 < 0 ∨ ¬ a0 ≤ (100000 : Int32)) : th_Met l yCp_run wsCp_run ({ frames := 7, cells := 1, slots := 6, locals := 170 }) (va_Pc [.ref h8, .int a0] (fun U => U.heap = Hp ∧ va_K G vwCl [(cB, .byte), (cL, .long), (cI, .int)] U ∧ s0.WarmedH U.vm)) "java/lang/IllegalArgumentException" := by
  refine th_ofW (cc := cCp_run) (maxL := 4) (ret := (some .int)) (by decide) rfl ?_
  intro p e s m args below meth c s₁ B hml hne hv
  obtain ⟨rfl, rfl, hK, hWs⟩ := hv
  have hx := B.exec
  have hb := B.bytes
  have hr := B.returns
  have hT : ∀ w ∈ tB, w.before _ s = true := fun w h => atoms_spec (ws := wsCp_run) B.pre w (List.mem_cons_of_mem _ h)
  have hown : s.vm.findClass "CompiledProgram" = some m.cls := findClass_of_methodNamed B.named
  have hlocks := B.notSynchronized
  have hS : va_S (fun _ => False) s.heap s.heap [] := va_S.rf
  have hl := lv_entry ([.ref h8, .int a0]) (n := 4) (Nat.le_of_ble_eq_true rfl)
  rw [lg_entry_eq]
  generalize (lg_sl ([.ref h8, .int a0]) ++ List.replicate (4 - (lg_sl ([.ref h8, .int a0])).length) Slot.unset).toArray = ls at hl ⊢
  have hl : lv_has ls 4 [(0, .ref h8), (1, .int a0)] := hl
  refine lv_iload_n hx hb dCp_run_0 rfl (lv_at hl 1 rfl) ?_
  refine lv_if_lt (tgt := 10) hx hb dCp_run_1 (by decide) (fun c1 => ?_) (fun c1 => ?_)
  · skip
    exact th_throw (names := ["java/lang/RuntimeException", "java/lang/Exception"]) hx hb hst hown (by decide +kernel) (by decide +kernel) (hT _ mw_359) (hT _ mw_360) (hT _ mw_14) (vk_R.warm hWs hR0) (th_move hWs hHs (fun w hw => List.all_eq_true.mp (tk_62) w hw) ts_62 hA0) hne hlocks hS (hl.1.trans hml.symm) dCp_run_10 dCp_run_13 dCp_run_14 dCp_run_16 dCp_run_19 (Nat.le_of_ble_eq_true rfl) (Nat.le_of_ble_eq_true rfl) (Nat.le_of_ble_eq_true rfl) (Nat.le_of_ble_eq_true rfl)
  · skip
    refine lv_iload_n hx hb dCp_run_4 rfl (lv_at hl 1 rfl) ?_
    refine lv_ldc (v := (100000 : Int32)) hx hb hown (hT _ mw_442) dCp_run_5 ?_
    refine lv_icmp_le (tgt := 20) hx hb dCp_run_7 (by decide) (fun c2 => ?_) (fun c2 => ?_)
    · skip
      exact (by rcases hthr with h | h <;> contradiction)
    · skip
      exact th_throw (names := ["java/lang/RuntimeException", "java/lang/Exception"]) hx hb hst hown (by decide +kernel) (by decide +kernel) (hT _ mw_359) (hT _ mw_360) (hT _ mw_14) (vk_R.warm hWs hR0) (th_move hWs hHs (fun w hw => List.all_eq_true.mp (tk_62) w hw) ts_62 hA0) hne hlocks hS (hl.1.trans hml.symm) dCp_run_10 dCp_run_13 dCp_run_14 dCp_run_16 dCp_run_19 (Nat.le_of_ble_eq_true rfl) (Nat.le_of_ble_eq_true rfl) (Nat.le_of_ble_eq_true rfl) (Nat.le_of_ble_eq_true rfl)

set_option maxHeartbeats 4000000 in
set_option maxRecDepth 100000 in
theorem x_Cp_runB (l : Launch) (hst : l.stackTraces = false) (s0 : State) (sa : Nat) (hA0 : ∀ w ∈ Bundle.ownAtoms "CompiledProgram" 45 "java/lang/IllegalStateException" ["java/lang/RuntimeException", "java/lang/Exception"], w.before #[] s0 = true) (hR0 : vk_R "CompiledProgram" 112 "there is no program" sa s0) (G : va_G) (cB cL cI : ClassId) (Hp : Heap) (h8 : Nat) (xp : Int32) (xs : Int32) (h6 : Nat) (h0 : Nat) (h4 : Nat) (h1 : Nat) (cnt : Int32) (a0 : Int32) (hP : va_P G vwCl [(h8, .inr (4, [.ref h6, .ref h0, .ref h4, .int xp, .int xs])), (h0, .inr (0, [.ref h1, .int cnt]))] Hp) (hHs : ∀ q, q < s0.heap.size → Hp[q]? = s0.heap[q]?) (hf0 : ¬ a0 < 0) (hf1 : a0 ≤ (100000 : Int32)) (hthr : cnt = 0) : th_Met l yCp_run wsCp_run ({ frames := 7, cells := 1, slots := 6, locals := 170 }) (va_Pc [.ref h8, .int a0] (fun U => U.heap = Hp ∧ va_K G vwCl [(cB, .byte), (cL, .long), (cI, .int)] U ∧ s0.WarmedH U.vm)) "java/lang/IllegalStateException" := by
  refine th_ofW (cc := cCp_run) (maxL := 4) (ret := (some .int)) (by decide) rfl ?_
  intro p e s m args below meth c s₁ B hml hne hv
  obtain ⟨rfl, rfl, hK, hWs⟩ := hv
  have hx := B.exec
  have hb := B.bytes
  have hr := B.returns
  have hT : ∀ w ∈ tB, w.before _ s = true := fun w h => atoms_spec (ws := wsCp_run) B.pre w (List.mem_cons_of_mem _ h)
  have hown : s.vm.findClass "CompiledProgram" = some m.cls := findClass_of_methodNamed B.named
  have hlocks := B.notSynchronized
  have hS : va_S (fun _ => False) s.heap s.heap [] := va_S.rf
  have hl := lv_entry ([.ref h8, .int a0]) (n := 4) (Nat.le_of_ble_eq_true rfl)
  rw [lg_entry_eq]
  generalize (lg_sl ([.ref h8, .int a0]) ++ List.replicate (4 - (lg_sl ([.ref h8, .int a0])).length) Slot.unset).toArray = ls at hl ⊢
  have hl : lv_has ls 4 [(0, .ref h8), (1, .int a0)] := hl
  refine lv_iload_n hx hb dCp_run_0 rfl (lv_at hl 1 rfl) ?_
  refine lv_if_lt (tgt := 10) hx hb dCp_run_1 (by decide) (fun c1 => ?_) (fun c1 => ?_)
  · skip
    exact absurd c1 hf0
  · skip
    refine lv_iload_n hx hb dCp_run_4 rfl (lv_at hl 1 rfl) ?_
    refine lv_ldc (v := (100000 : Int32)) hx hb hown (hT _ mw_442) dCp_run_5 ?_
    refine lv_icmp_le (tgt := 20) hx hb dCp_run_7 (by decide) (fun c2 => ?_) (fun c2 => ?_)
    · skip
      refine lv_aload_n hx hb dCp_run_20 rfl (lv_at hl 0 rfl) ?_
      refine va_get (D := G) (ci := 4) (v := .ref h0) (C := RCp) (T := TCp) (N := 5) hx hb hT inCp hown hK hP 0 rfl rfl 1 (by decide) (hT _ mw_87) (fun _ h9 => h9) rfl dCp_run_21 ?_
      refine va_get (D := G) (ci := 0) (v := .int cnt) (C := RPr) (T := TPr) (N := 2) hx hb hT inPr hown hK hP 1 rfl rfl 1 (by decide) (hT _ mw_54) (fun _ h9 => h9) rfl dCp_run_24 ?_
      refine lv_if_ne (tgt := 40) hx hb dCp_run_27 (by decide) (fun c3 => ?_) (fun c3 => ?_)
      · skip
        exact absurd hthr c3
      · skip
        exact th_throw (names := ["java/lang/RuntimeException", "java/lang/Exception"]) hx hb hst hown (by decide +kernel) (by decide +kernel) (hT _ mw_259) (hT _ mw_260) (hT _ mw_10) (vk_R.warm hWs hR0) (th_move hWs hHs (fun w hw => List.all_eq_true.mp (tk_45) w hw) ts_45 hA0) hne hlocks hS (hl.1.trans hml.symm) dCp_run_30 dCp_run_33 dCp_run_34 dCp_run_36 dCp_run_39 (Nat.le_of_ble_eq_true rfl) (Nat.le_of_ble_eq_true rfl) (Nat.le_of_ble_eq_true rfl) (Nat.le_of_ble_eq_true rfl)
    · skip
      exact absurd hf1 c2
