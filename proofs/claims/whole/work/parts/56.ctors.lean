theorem k_byte {G : va_G} {cl : List vw_C} {cB cL cI cA : ClassId} {s : State} (hK : va_K G cl ([(cB, .byte), (cL, .long), (cI, .int)] ++ [(cA, .byte)]) s) : cA = cB :=
  Option.some.inj (((hK.2 3 (cA, .byte) rfl).2 : _ = _).symm.trans (hK.2 0 (cB, .byte) rfl).2)
theorem k_long {G : va_G} {cl : List vw_C} {cB cL cI cA : ClassId} {s : State} (hK : va_K G cl ([(cB, .byte), (cL, .long), (cI, .int)] ++ [(cA, .long)]) s) : cA = cL :=
  Option.some.inj (((hK.2 3 (cA, .long) rfl).2 : _ = _).symm.trans (hK.2 1 (cL, .long) rfl).2)
theorem k_int {G : va_G} {cl : List vw_C} {cB cL cI cA : ClassId} {s : State} (hK : va_K G cl ([(cB, .byte), (cL, .long), (cI, .int)] ++ [(cA, .int)]) s) : cA = cI :=
  Option.some.inj (((hK.2 3 (cA, .int) rfl).2 : _ = _).symm.trans (hK.2 2 (cI, .int) rfl).2)
set_option maxHeartbeats 4000000 in
set_option maxRecDepth 100000 in
theorem c_Ta_init (l : Launch) (G : va_G) (cB cL cI : ClassId) (Hp : Heap) (h6 : Nat) (hP : va_P G vwCl [(h6, .inr (3, [.null, .int (0 : Int32)]))] Hp) (hD : va_D (fun _ => True) [(h6, .inr (3, [.null, .int (0 : Int32)]))]) : Met l yTa_init wsTa_init ({ frames := 1, cells := 1, slots := 512, locals := 12 }) (va_Pc [.ref h6] (fun U => U.heap = Hp ∧ va_K G vwCl [(cB, .byte), (cL, .long), (cI, .int)] U)) (va_Qv (fun (_ : Unit) => True) (fun _ t => ∃ (q1 : Nat), va_P G vwCl [(h6, .inr (3, [.ref q1, .int (0 : Int32)])), (q1, .inl (cB, 512, .inl (fun _ => 0)))] t.heap ∧ va_D (va_A [(h6, .inr (3, [.null, .int (0 : Int32)]))] Hp.size) [(h6, .inr (3, [.ref q1, .int (0 : Int32)])), (q1, .inl (cB, 512, .inl (fun _ => 0)))]) (va_A [(h6, .inr (3, [.null, .int (0 : Int32)]))] Hp.size)) 1 512 (va_A [(h6, .inr (3, [.null, .int (0 : Int32)]))] Hp.size) := by
  refine Met.ofW (cc := cTa_init) (maxL := 1) (ret := none) (by decide) rfl ?_
  intro p e s m args below meth c s₁ B hml hv
  obtain ⟨rfl, rfl, hK⟩ := hv
  have hx := B.exec
  have hb := B.bytes
  have hr := B.returns
  have hT : ∀ w ∈ tB, w.before _ s = true := fun w h => atoms_spec (ws := wsTa_init) B.pre w (List.mem_cons_of_mem _ h)
  have hown : s.vm.findClass "CompiledProgram$Tape" = some m.cls := findClass_of_methodNamed B.named
  have hlocks := B.notSynchronized
  have hin : meth.name = "<init>" := (name_of_methodNamed B.named B.method).1
  have hD := hD.self (sz := s.heap.size)
  generalize hAe : va_A [(h6, .inr (3, [.null, .int (0 : Int32)]))] s.heap.size = A at hD ⊢
  have hA : ∀ q : Nat, s.heap.size ≤ q → A q := fun q h => by rw [← hAe]; exact Or.inr h
  have hS : va_S A s.heap s.heap [] := va_S.rf
  have hl := lv_entry ([.ref h6]) (n := 1) (Nat.le_of_ble_eq_true rfl)
  rw [lg_entry_eq]
  generalize (lg_sl ([.ref h6]) ++ List.replicate (1 - (lg_sl ([.ref h6])).length) Slot.unset).toArray = ls at hl ⊢
  have hl : lv_has ls 1 [(0, .ref h6)] := hl
  refine lv_aload_n hx hb dTa_init_0 rfl (lv_at hl 0 rfl) ?_
  refine W.objInit hx hb hown (hT _ mw_34) (hT _ mw_27) (hT _ mw_28) rfl (by rw [hml]; exact hl.1) rfl dTa_init_1 (Nat.le_of_ble_eq_true rfl) (Nat.le_of_ble_eq_true rfl) ?_
  refine W.eq (g2 := F0 m 4 ls []) rfl ?_
  refine lv_aload_n hx hb dTa_init_4 rfl (lv_at hl 0 rfl) ?_
  refine lv_sipush (v := (512 : Int32)) hx hb dTa_init_5 (by decide) ?_
  refine va_newa (atype := .byte) (ty := .byte) (N' := 512) (a0 := (512, .inl (fun _ => 0))) hx hb (hT _ mw_44) rfl hK hP hD hS hA (fun _ => rfl) (by decide) (by decide) (by decide) (Nat.le_of_ble_eq_true rfl) (Nat.le_of_ble_eq_true rfl) dTa_init_8 (fun q1 cA H hK hP hD hS => ?_)
  obtain rfl : cB = cA := (k_byte hK).symm
  have hK := hK.sub (tys' := [(cB, .byte), (cL, .long), (cI, .int)]) [0, 1, 2] rfl
  have hP : va_P G vwCl [(h6, .inr (3, [.null, .int (0 : Int32)])), (q1, .inl (cB, 512, .inl (fun _ => 0)))] H := hP
  have hD : va_D A [(h6, .inr (3, [.null, .int (0 : Int32)])), (q1, .inl (cB, 512, .inl (fun _ => 0)))] := hD
  refine va_put (D := G) (ci := 3) (v := .ref q1) (ty := (.array .byte)) (C := RTa) (T := TTa) (N := 2) hx hb hT inTa tyTa tyTa_ok nmTa hown hK hP hD hS 0 rfl rfl 0 (by decide) (hT _ mw_35) (fun _ h9 => h9) rfl (by decide +kernel) rfl rfl (Nat.le_of_ble_eq_true rfl) dTa_init_10 (fun H locs hP hD hS => ?_)
  have hP : va_P G vwCl [(h6, .inr (3, [.ref q1, .int (0 : Int32)])), (q1, .inl (cB, 512, .inl (fun _ => 0)))] H := hP
  have hD : va_D A [(h6, .inr (3, [.ref q1, .int (0 : Int32)])), (q1, .inl (cB, 512, .inl (fun _ => 0)))] := hD
  refine lv_aload_n hx hb dTa_init_13 rfl (lv_at hl 0 rfl) ?_
  refine lv_iconst (v := (0 : Int32)) hx hb dTa_init_14 (by decide) ?_
  refine va_put (D := G) (ci := 3) (v := .int (0 : Int32)) (ty := .int) (C := RTa) (T := TTa) (N := 2) hx hb hT inTa tyTa tyTa_ok nmTa hown hK hP hD hS 0 rfl rfl 1 (by decide) (hT _ mw_36) (fun _ h9 => h9) rfl (by decide +kernel) rfl rfl (Nat.le_of_ble_eq_true rfl) dTa_init_15 (fun H locs hP hD hS => ?_)
  have hP : va_P G vwCl [(h6, .inr (3, [.ref q1, .int (0 : Int32)])), (q1, .inl (cB, 512, .inl (fun _ => 0)))] H := hP
  have hD : va_D A [(h6, .inr (3, [.ref q1, .int (0 : Int32)])), (q1, .inl (cB, 512, .inl (fun _ => 0)))] := hD
  refine W.widen (k := 1) (n := 512) (Nat.le_of_ble_eq_true rfl) (Nat.le_of_ble_eq_true rfl) ?_
  exact W.vret hx hb hr (fun t ht hW => ⟨⟨(), rfl, trivial, q1, by rw [ht]; exact hP, hD⟩, hS.F ht⟩) hS.2.2 dTa_init_18

set_option maxHeartbeats 4000000 in
set_option maxRecDepth 100000 in
theorem c_Pr_init (l : Launch) (G : va_G) (cB cL cI : ClassId) (Hp : Heap) (h0 : Nat) (hP : va_P G vwCl [(h0, .inr (0, [.null, .int (0 : Int32)]))] Hp) (hD : va_D (fun _ => True) [(h0, .inr (0, [.null, .int (0 : Int32)]))]) : Met l yPr_init wsPr_init ({ frames := 1, cells := 1, slots := 64, locals := 12 }) (va_Pc [.ref h0] (fun U => U.heap = Hp ∧ va_K G vwCl [(cB, .byte), (cL, .long), (cI, .int)] U)) (va_Qv (fun (_ : Unit) => True) (fun _ t => ∃ (q1 : Nat), va_P G vwCl [(h0, .inr (0, [.ref q1, .int (0 : Int32)])), (q1, .inl (cL, 64, .inr (.inl (fun _ => 0))))] t.heap ∧ va_D (va_A [(h0, .inr (0, [.null, .int (0 : Int32)]))] Hp.size) [(h0, .inr (0, [.ref q1, .int (0 : Int32)])), (q1, .inl (cL, 64, .inr (.inl (fun _ => 0))))]) (va_A [(h0, .inr (0, [.null, .int (0 : Int32)]))] Hp.size)) 1 64 (va_A [(h0, .inr (0, [.null, .int (0 : Int32)]))] Hp.size) := by
  refine Met.ofW (cc := cPr_init) (maxL := 1) (ret := none) (by decide) rfl ?_
  intro p e s m args below meth c s₁ B hml hv
  obtain ⟨rfl, rfl, hK⟩ := hv
  have hx := B.exec
  have hb := B.bytes
  have hr := B.returns
  have hT : ∀ w ∈ tB, w.before _ s = true := fun w h => atoms_spec (ws := wsPr_init) B.pre w (List.mem_cons_of_mem _ h)
  have hown : s.vm.findClass "CompiledProgram$Program" = some m.cls := findClass_of_methodNamed B.named
  have hlocks := B.notSynchronized
  have hin : meth.name = "<init>" := (name_of_methodNamed B.named B.method).1
  have hD := hD.self (sz := s.heap.size)
  generalize hAe : va_A [(h0, .inr (0, [.null, .int (0 : Int32)]))] s.heap.size = A at hD ⊢
  have hA : ∀ q : Nat, s.heap.size ≤ q → A q := fun q h => by rw [← hAe]; exact Or.inr h
  have hS : va_S A s.heap s.heap [] := va_S.rf
  have hl := lv_entry ([.ref h0]) (n := 1) (Nat.le_of_ble_eq_true rfl)
  rw [lg_entry_eq]
  generalize (lg_sl ([.ref h0]) ++ List.replicate (1 - (lg_sl ([.ref h0])).length) Slot.unset).toArray = ls at hl ⊢
  have hl : lv_has ls 1 [(0, .ref h0)] := hl
  refine lv_aload_n hx hb dPr_init_0 rfl (lv_at hl 0 rfl) ?_
  refine W.objInit hx hb hown (hT _ mw_50) (hT _ mw_27) (hT _ mw_28) rfl (by rw [hml]; exact hl.1) rfl dPr_init_1 (Nat.le_of_ble_eq_true rfl) (Nat.le_of_ble_eq_true rfl) ?_
  refine W.eq (g2 := F0 m 4 ls []) rfl ?_
  refine lv_aload_n hx hb dPr_init_4 rfl (lv_at hl 0 rfl) ?_
  refine lv_bipush (v := (64 : Int32)) hx hb dPr_init_5 (by decide) ?_
  refine va_newa (atype := .long) (ty := .long) (N' := 64) (a0 := (64, .inr (.inl (fun _ => 0)))) hx hb (hT _ mw_60) rfl hK hP hD hS hA (fun _ => rfl) (by decide) (by decide) (by decide) (Nat.le_of_ble_eq_true rfl) (Nat.le_of_ble_eq_true rfl) dPr_init_7 (fun q1 cA H hK hP hD hS => ?_)
  obtain rfl : cL = cA := (k_long hK).symm
  have hK := hK.sub (tys' := [(cB, .byte), (cL, .long), (cI, .int)]) [0, 1, 2] rfl
  have hP : va_P G vwCl [(h0, .inr (0, [.null, .int (0 : Int32)])), (q1, .inl (cL, 64, .inr (.inl (fun _ => 0))))] H := hP
  have hD : va_D A [(h0, .inr (0, [.null, .int (0 : Int32)])), (q1, .inl (cL, 64, .inr (.inl (fun _ => 0))))] := hD
  refine va_put (D := G) (ci := 0) (v := .ref q1) (ty := (.array .long)) (C := RPr) (T := TPr) (N := 2) hx hb hT inPr tyPr tyPr_ok nmPr hown hK hP hD hS 0 rfl rfl 0 (by decide) (hT _ mw_51) (fun _ h9 => h9) rfl (by decide +kernel) rfl rfl (Nat.le_of_ble_eq_true rfl) dPr_init_9 (fun H locs hP hD hS => ?_)
  have hP : va_P G vwCl [(h0, .inr (0, [.ref q1, .int (0 : Int32)])), (q1, .inl (cL, 64, .inr (.inl (fun _ => 0))))] H := hP
  have hD : va_D A [(h0, .inr (0, [.ref q1, .int (0 : Int32)])), (q1, .inl (cL, 64, .inr (.inl (fun _ => 0))))] := hD
  refine lv_aload_n hx hb dPr_init_12 rfl (lv_at hl 0 rfl) ?_
  refine lv_iconst (v := (0 : Int32)) hx hb dPr_init_13 (by decide) ?_
  refine va_put (D := G) (ci := 0) (v := .int (0 : Int32)) (ty := .int) (C := RPr) (T := TPr) (N := 2) hx hb hT inPr tyPr tyPr_ok nmPr hown hK hP hD hS 0 rfl rfl 1 (by decide) (hT _ mw_52) (fun _ h9 => h9) rfl (by decide +kernel) rfl rfl (Nat.le_of_ble_eq_true rfl) dPr_init_14 (fun H locs hP hD hS => ?_)
  have hP : va_P G vwCl [(h0, .inr (0, [.ref q1, .int (0 : Int32)])), (q1, .inl (cL, 64, .inr (.inl (fun _ => 0))))] H := hP
  have hD : va_D A [(h0, .inr (0, [.ref q1, .int (0 : Int32)])), (q1, .inl (cL, 64, .inr (.inl (fun _ => 0))))] := hD
  refine W.widen (k := 1) (n := 64) (Nat.le_of_ble_eq_true rfl) (Nat.le_of_ble_eq_true rfl) ?_
  exact W.vret hx hb hr (fun t ht hW => ⟨⟨(), rfl, trivial, q1, by rw [ht]; exact hP, hD⟩, hS.F ht⟩) hS.2.2 dPr_init_17

set_option maxHeartbeats 4000000 in
set_option maxRecDepth 100000 in
theorem c_Me_init (l : Launch) (G : va_G) (cB cL cI : ClassId) (Hp : Heap) (h2 : Nat) (hP : va_P G vwCl [(h2, .inr (1, [.null]))] Hp) (hD : va_D (fun _ => True) [(h2, .inr (1, [.null]))]) : Met l yMe_init wsMe_init ({ frames := 1, cells := 1, slots := 4096, locals := 12 }) (va_Pc [.ref h2] (fun U => U.heap = Hp ∧ va_K G vwCl [(cB, .byte), (cL, .long), (cI, .int)] U)) (va_Qv (fun (_ : Unit) => True) (fun _ t => ∃ (q1 : Nat), va_P G vwCl [(h2, .inr (1, [.ref q1])), (q1, .inl (cB, 4096, .inl (fun _ => 0)))] t.heap ∧ va_D (va_A [(h2, .inr (1, [.null]))] Hp.size) [(h2, .inr (1, [.ref q1])), (q1, .inl (cB, 4096, .inl (fun _ => 0)))]) (va_A [(h2, .inr (1, [.null]))] Hp.size)) 1 4096 (va_A [(h2, .inr (1, [.null]))] Hp.size) := by
  refine Met.ofW (cc := cMe_init) (maxL := 1) (ret := none) (by decide) rfl ?_
  intro p e s m args below meth c s₁ B hml hv
  obtain ⟨rfl, rfl, hK⟩ := hv
  have hx := B.exec
  have hb := B.bytes
  have hr := B.returns
  have hT : ∀ w ∈ tB, w.before _ s = true := fun w h => atoms_spec (ws := wsMe_init) B.pre w (List.mem_cons_of_mem _ h)
  have hown : s.vm.findClass "CompiledProgram$Memory" = some m.cls := findClass_of_methodNamed B.named
  have hlocks := B.notSynchronized
  have hin : meth.name = "<init>" := (name_of_methodNamed B.named B.method).1
  have hD := hD.self (sz := s.heap.size)
  generalize hAe : va_A [(h2, .inr (1, [.null]))] s.heap.size = A at hD ⊢
  have hA : ∀ q : Nat, s.heap.size ≤ q → A q := fun q h => by rw [← hAe]; exact Or.inr h
  have hS : va_S A s.heap s.heap [] := va_S.rf
  have hl := lv_entry ([.ref h2]) (n := 1) (Nat.le_of_ble_eq_true rfl)
  rw [lg_entry_eq]
  generalize (lg_sl ([.ref h2]) ++ List.replicate (1 - (lg_sl ([.ref h2])).length) Slot.unset).toArray = ls at hl ⊢
  have hl : lv_has ls 1 [(0, .ref h2)] := hl
  refine lv_aload_n hx hb dMe_init_0 rfl (lv_at hl 0 rfl) ?_
  refine W.objInit hx hb hown (hT _ mw_72) (hT _ mw_27) (hT _ mw_28) rfl (by rw [hml]; exact hl.1) rfl dMe_init_1 (Nat.le_of_ble_eq_true rfl) (Nat.le_of_ble_eq_true rfl) ?_
  refine W.eq (g2 := F0 m 4 ls []) rfl ?_
  refine lv_aload_n hx hb dMe_init_4 rfl (lv_at hl 0 rfl) ?_
  refine lv_sipush (v := (4096 : Int32)) hx hb dMe_init_5 (by decide) ?_
  refine va_newa (atype := .byte) (ty := .byte) (N' := 4096) (a0 := (4096, .inl (fun _ => 0))) hx hb (hT _ mw_44) rfl hK hP hD hS hA (fun _ => rfl) (by decide) (by decide) (by decide) (Nat.le_of_ble_eq_true rfl) (Nat.le_of_ble_eq_true rfl) dMe_init_8 (fun q1 cA H hK hP hD hS => ?_)
  obtain rfl : cB = cA := (k_byte hK).symm
  have hK := hK.sub (tys' := [(cB, .byte), (cL, .long), (cI, .int)]) [0, 1, 2] rfl
  have hP : va_P G vwCl [(h2, .inr (1, [.null])), (q1, .inl (cB, 4096, .inl (fun _ => 0)))] H := hP
  have hD : va_D A [(h2, .inr (1, [.null])), (q1, .inl (cB, 4096, .inl (fun _ => 0)))] := hD
  refine va_putF (D := G) (ci := 1) (v := .ref q1) (ty := (.array .byte)) (C := RMe) (T := TMe) (N := 1) hx hb hT inMe tyMe tyMe_ok nmMe hown hK hP hD hS 0 rfl rfl 0 (by decide) (hT _ mw_73) (fun _ h9 => h9) rfl hin rfl (by decide +kernel) rfl rfl (Nat.le_of_ble_eq_true rfl) dMe_init_10 (fun H locs hP hD hS => ?_)
  have hP : va_P G vwCl [(h2, .inr (1, [.ref q1])), (q1, .inl (cB, 4096, .inl (fun _ => 0)))] H := hP
  have hD : va_D A [(h2, .inr (1, [.ref q1])), (q1, .inl (cB, 4096, .inl (fun _ => 0)))] := hD
  refine W.widen (k := 1) (n := 4096) (Nat.le_of_ble_eq_true rfl) (Nat.le_of_ble_eq_true rfl) ?_
  exact W.vret hx hb hr (fun t ht hW => ⟨⟨(), rfl, trivial, q1, by rw [ht]; exact hP, hD⟩, hS.F ht⟩) hS.2.2 dMe_init_13

set_option maxHeartbeats 4000000 in
set_option maxRecDepth 100000 in
theorem c_Ma_init (l : Launch) (G : va_G) (cB cL cI : ClassId) (Hp : Heap) (h4 : Nat) (hP : va_P G vwCl [(h4, .inr (2, [.null, .null]))] Hp) (hD : va_D (fun _ => True) [(h4, .inr (2, [.null, .null]))]) : Met l yMa_init wsMa_init ({ frames := 2, cells := 3, slots := 4113, locals := 32 }) (va_Pc [.ref h4] (fun U => U.heap = Hp ∧ va_K G vwCl [(cB, .byte), (cL, .long), (cI, .int)] U ∧ va_Nw (.methodLinkNest "CompiledProgram$Machine" 15 ⟨"CompiledProgram$Memory", "<init>", "()V"⟩ "CompiledProgram") U)) (va_Qv (fun (_ : Unit) => True) (fun _ t => ∃ (q1 : Nat) (q2 : Nat) (q3 : Nat), va_P G vwCl [(h4, .inr (2, [.ref q1, .ref q2])), (q1, .inl (cL, 16, .inr (.inl (fun _ => 0)))), (q2, .inr (1, [.ref q3])), (q3, .inl (cB, 4096, .inl (fun _ => 0)))] t.heap ∧ va_D (va_A [(h4, .inr (2, [.null, .null]))] Hp.size) [(h4, .inr (2, [.ref q1, .ref q2])), (q1, .inl (cL, 16, .inr (.inl (fun _ => 0)))), (q2, .inr (1, [.ref q3])), (q3, .inl (cB, 4096, .inl (fun _ => 0)))]) (va_A [(h4, .inr (2, [.null, .null]))] Hp.size)) 3 4113 (va_A [(h4, .inr (2, [.null, .null]))] Hp.size) := by
  refine Met.ofW (cc := cMa_init) (maxL := 1) (ret := none) (by decide) rfl ?_
  intro p e s m args below meth c s₁ B hml hv
  obtain ⟨rfl, rfl, hK, hn0⟩ := hv
  have hx := B.exec
  have hb := B.bytes
  have hr := B.returns
  have hT : ∀ w ∈ tB, w.before _ s = true := fun w h => atoms_spec (ws := wsMa_init) B.pre w (List.mem_cons_of_mem _ h)
  have hown : s.vm.findClass "CompiledProgram$Machine" = some m.cls := findClass_of_methodNamed B.named
  have hlocks := B.notSynchronized
  have hin : meth.name = "<init>" := (name_of_methodNamed B.named B.method).1
  have hD := hD.self (sz := s.heap.size)
  generalize hAe : va_A [(h4, .inr (2, [.null, .null]))] s.heap.size = A at hD ⊢
  have hA : ∀ q : Nat, s.heap.size ≤ q → A q := fun q h => by rw [← hAe]; exact Or.inr h
  have hS : va_S A s.heap s.heap [] := va_S.rf
  have hl := lv_entry ([.ref h4]) (n := 1) (Nat.le_of_ble_eq_true rfl)
  rw [lg_entry_eq]
  generalize (lg_sl ([.ref h4]) ++ List.replicate (1 - (lg_sl ([.ref h4])).length) Slot.unset).toArray = ls at hl ⊢
  have hl : lv_has ls 1 [(0, .ref h4)] := hl
  refine lv_aload_n hx hb dMa_init_0 rfl (lv_at hl 0 rfl) ?_
  refine W.objInit hx hb hown (hT _ mw_66) (hT _ mw_27) (hT _ mw_28) rfl (by rw [hml]; exact hl.1) rfl dMa_init_1 (Nat.le_of_ble_eq_true rfl) (Nat.le_of_ble_eq_true rfl) ?_
  refine W.eq (g2 := F0 m 4 ls []) rfl ?_
  refine lv_aload_n hx hb dMa_init_4 rfl (lv_at hl 0 rfl) ?_
  refine lv_bipush (v := (16 : Int32)) hx hb dMa_init_5 (by decide) ?_
  refine va_newa (atype := .long) (ty := .long) (N' := 16) (a0 := (16, .inr (.inl (fun _ => 0)))) hx hb (hT _ mw_60) rfl hK hP hD hS hA (fun _ => rfl) (by decide) (by decide) (by decide) (Nat.le_of_ble_eq_true rfl) (Nat.le_of_ble_eq_true rfl) dMa_init_7 (fun q1 cA H hK hP hD hS => ?_)
  obtain rfl : cL = cA := (k_long hK).symm
  have hK := hK.sub (tys' := [(cB, .byte), (cL, .long), (cI, .int)]) [0, 1, 2] rfl
  have hP : va_P G vwCl [(h4, .inr (2, [.null, .null])), (q1, .inl (cL, 16, .inr (.inl (fun _ => 0))))] H := hP
  have hD : va_D A [(h4, .inr (2, [.null, .null])), (q1, .inl (cL, 16, .inr (.inl (fun _ => 0))))] := hD
  refine va_putF (D := G) (ci := 2) (v := .ref q1) (ty := (.array .long)) (C := RMa) (T := TMa) (N := 2) hx hb hT inMa tyMa tyMa_ok nmMa hown hK hP hD hS 0 rfl rfl 0 (by decide) (hT _ mw_77) (fun _ h9 => h9) rfl hin rfl (by decide +kernel) rfl rfl (Nat.le_of_ble_eq_true rfl) dMa_init_9 (fun H locs hP hD hS => ?_)
  have hP : va_P G vwCl [(h4, .inr (2, [.ref q1, .null])), (q1, .inl (cL, 16, .inr (.inl (fun _ => 0))))] H := hP
  have hD : va_D A [(h4, .inr (2, [.ref q1, .null])), (q1, .inl (cL, 16, .inr (.inl (fun _ => 0))))] := hD
  refine lv_aload_n hx hb dMa_init_12 rfl (lv_at hl 0 rfl) ?_
  refine va_new (ci := 1) (fs := [.null]) (C := RMe) (T := TMe) (N := 1) hx hb hT inMe tyMe tyMe_ok hown (hT _ mw_67) (hT _ mw_68) (hT _ mw_5) hK hP hD hS hA rfl (fun j hj => by rcases (show j = 0 by omega) with rfl <;> rfl) (Nat.le_of_ble_eq_true rfl) (Nat.le_of_ble_eq_true rfl) dMa_init_13 (fun q2 H hP hD hS => ?_)
  have hP : va_P G vwCl [(h4, .inr (2, [.ref q1, .null])), (q1, .inl (cL, 16, .inr (.inl (fun _ => 0)))), (q2, .inr (1, [.null]))] H := hP
  have hD : va_D A [(h4, .inr (2, [.ref q1, .null])), (q1, .inl (cL, 16, .inr (.inl (fun _ => 0)))), (q2, .inr (1, [.null]))] := hD
  refine lv_dup hx hb dMa_init_16 rfl ?_
  have hPc := hP.sub (ws' := [(q2, .inr (1, [.null]))]) [2] rfl
  have hDc := hD.sub (ws' := [(q2, .inr (1, [.null]))]) [2] (by decide) rfl
  have hFc := va_free (wc := [(q2, .inr (1, [.null]))]) hD hS hA [2] rfl
  refine va_callv (va_runIN (As := []) (rest := [.ref q2, .ref h4]) ⟨hx, hb, hml, hown, hT⟩ (c_Me_init l G cB cL cI H q2 hPc (hDc.weaken (fun _ _ _ _ => trivial))) ⟨va_cnB 0 hT (gB_I mw_71) rfl rfl rfl hn0 (hT _ mw_5) (by decide +kernel) ⟨Nat.le_of_ble_eq_true rfl, Nat.le_of_ble_eq_true rfl⟩, rfl, (hT _ mw_70)⟩ ⟨fun a U g mk q => ⟨q.1, q.2.1, va_K.moved (u := U) (U := U.calling g mk a) (Vm.Alike.refl U.vm) q.2.2⟩, fun U hU hW => ⟨rfl, hU, va_K.moved hW.alike hK⟩⟩ rfl rfl hl.1 rfl (lv_room (Nat.le_of_ble_eq_true rfl)) dMa_init_17 ⟨Nat.le_of_ble_eq_true rfl, Nat.le_of_ble_eq_true rfl⟩) hS (fun q _ h => hFc q h) hFc (fun u t H locs ht hvm hw hB hz8 hk8 hS => ?_)
  obtain ⟨q3, hP1, hD1⟩ := hB
  rw [ht] at hP1
  obtain ⟨hP, hD⟩ := va_join (wr := [(h4, .inr (2, [.ref q1, .null])), (q1, .inl (cL, 16, .inr (.inl (fun _ => 0))))]) (w1 := [(q2, .inr (1, [.ref q3])), (q3, .inl (cB, 4096, .inl (fun _ => 0)))]) hP hD [2] [0, 1] rfl rfl (by decide) (by decide) hk8 hFc hP1 hD1
  have hP : va_P G vwCl [(h4, .inr (2, [.ref q1, .null])), (q1, .inl (cL, 16, .inr (.inl (fun _ => 0)))), (q2, .inr (1, [.ref q3])), (q3, .inl (cB, 4096, .inl (fun _ => 0)))] H := hP
  have hD : va_D A [(h4, .inr (2, [.ref q1, .null])), (q1, .inl (cL, 16, .inr (.inl (fun _ => 0)))), (q2, .inr (1, [.ref q3])), (q3, .inl (cB, 4096, .inl (fun _ => 0)))] := hD
  refine va_putF (D := G) (ci := 2) (v := .ref q2) (ty := (.object "CompiledProgram$Memory")) (C := RMa) (T := TMa) (N := 2) hx hb hT inMa tyMa tyMa_ok nmMa hown hK hP hD hS 0 rfl rfl 1 (by decide) (hT _ mw_79) (fun _ h9 => h9) rfl hin rfl (by decide +kernel) rfl rfl (Nat.le_of_ble_eq_true rfl) dMa_init_20 (fun H locs hP hD hS => ?_)
  have hP : va_P G vwCl [(h4, .inr (2, [.ref q1, .ref q2])), (q1, .inl (cL, 16, .inr (.inl (fun _ => 0)))), (q2, .inr (1, [.ref q3])), (q3, .inl (cB, 4096, .inl (fun _ => 0)))] H := hP
  have hD : va_D A [(h4, .inr (2, [.ref q1, .ref q2])), (q1, .inl (cL, 16, .inr (.inl (fun _ => 0)))), (q2, .inr (1, [.ref q3])), (q3, .inl (cB, 4096, .inl (fun _ => 0)))] := hD
  refine W.widen (k := 3) (n := 4113) (Nat.le_of_ble_eq_true rfl) (Nat.le_of_ble_eq_true rfl) ?_
  exact W.vret hx hb hr (fun t ht hW => ⟨⟨(), rfl, trivial, q1, q2, q3, by rw [ht]; exact hP, hD⟩, hS.F ht⟩) hS.2.2 dMa_init_23

set_option maxHeartbeats 4000000 in
set_option maxRecDepth 100000 in
theorem c_Cp_init (l : Launch) (G : va_G) (cB cL cI : ClassId) (Hp : Heap) (h8 : Nat) (hP : va_P G vwCl [(h8, .inr (4, [.null, .null, .null, .int (0 : Int32), .int (0 : Int32)]))] Hp) (hD : va_D (fun _ => True) [(h8, .inr (4, [.null, .null, .null, .int (0 : Int32), .int (0 : Int32)]))]) : Met l yCp_init wsCp_init ({ frames := 3, cells := 8, slots := 4695, locals := 52 }) (va_Pc [.ref h8] (fun U => U.heap = Hp ∧ va_K G vwCl [(cB, .byte), (cL, .long), (cI, .int)] U ∧ va_Nw (.methodLinkNest "CompiledProgram" 9 ⟨"CompiledProgram$Tape", "<init>", "()V"⟩ "CompiledProgram") U ∧ va_Nw (.methodLinkNest "CompiledProgram" 18 ⟨"CompiledProgram$Program", "<init>", "()V"⟩ "CompiledProgram") U ∧ va_Nw (.methodLinkNest "CompiledProgram" 25 ⟨"CompiledProgram$Machine", "<init>", "()V"⟩ "CompiledProgram") U ∧ va_Nw (.methodLinkNest "CompiledProgram$Machine" 15 ⟨"CompiledProgram$Memory", "<init>", "()V"⟩ "CompiledProgram") U)) (va_Qv (fun (_ : Unit) => True) (fun _ t => ∃ (q1 : Nat) (q2 : Nat) (q3 : Nat) (q4 : Nat) (q5 : Nat) (q6 : Nat) (q7 : Nat) (q8 : Nat), va_P G vwCl [(h8, .inr (4, [.ref q1, .ref q3, .ref q5, .int (-1 : Int32), .int (0 : Int32)])), (q1, .inr (3, [.ref q2, .int (0 : Int32)])), (q2, .inl (cB, 512, .inl (fun _ => 0))), (q3, .inr (0, [.ref q4, .int (0 : Int32)])), (q4, .inl (cL, 64, .inr (.inl (fun _ => 0)))), (q5, .inr (2, [.ref q6, .ref q7])), (q6, .inl (cL, 16, .inr (.inl (fun _ => 0)))), (q7, .inr (1, [.ref q8])), (q8, .inl (cB, 4096, .inl (fun _ => 0)))] t.heap ∧ va_D (va_A [(h8, .inr (4, [.null, .null, .null, .int (0 : Int32), .int (0 : Int32)]))] Hp.size) [(h8, .inr (4, [.ref q1, .ref q3, .ref q5, .int (-1 : Int32), .int (0 : Int32)])), (q1, .inr (3, [.ref q2, .int (0 : Int32)])), (q2, .inl (cB, 512, .inl (fun _ => 0))), (q3, .inr (0, [.ref q4, .int (0 : Int32)])), (q4, .inl (cL, 64, .inr (.inl (fun _ => 0)))), (q5, .inr (2, [.ref q6, .ref q7])), (q6, .inl (cL, 16, .inr (.inl (fun _ => 0)))), (q7, .inr (1, [.ref q8])), (q8, .inl (cB, 4096, .inl (fun _ => 0)))]) (va_A [(h8, .inr (4, [.null, .null, .null, .int (0 : Int32), .int (0 : Int32)]))] Hp.size)) 8 4695 (va_A [(h8, .inr (4, [.null, .null, .null, .int (0 : Int32), .int (0 : Int32)]))] Hp.size) := by
  refine Met.ofW (cc := cCp_init) (maxL := 1) (ret := none) (by decide) rfl ?_
  intro p e s m args below meth c s₁ B hml hv
  obtain ⟨rfl, rfl, hK, hn0, hn1, hn2, hn3⟩ := hv
  have hx := B.exec
  have hb := B.bytes
  have hr := B.returns
  have hT : ∀ w ∈ tB, w.before _ s = true := fun w h => atoms_spec (ws := wsCp_init) B.pre w (List.mem_cons_of_mem _ h)
  have hown : s.vm.findClass "CompiledProgram" = some m.cls := findClass_of_methodNamed B.named
  have hlocks := B.notSynchronized
  have hin : meth.name = "<init>" := (name_of_methodNamed B.named B.method).1
  have hD := hD.self (sz := s.heap.size)
  generalize hAe : va_A [(h8, .inr (4, [.null, .null, .null, .int (0 : Int32), .int (0 : Int32)]))] s.heap.size = A at hD ⊢
  have hA : ∀ q : Nat, s.heap.size ≤ q → A q := fun q h => by rw [← hAe]; exact Or.inr h
  have hS : va_S A s.heap s.heap [] := va_S.rf
  have hl := lv_entry ([.ref h8]) (n := 1) (Nat.le_of_ble_eq_true rfl)
  rw [lg_entry_eq]
  generalize (lg_sl ([.ref h8]) ++ List.replicate (1 - (lg_sl ([.ref h8])).length) Slot.unset).toArray = ls at hl ⊢
  have hl : lv_has ls 1 [(0, .ref h8)] := hl
  refine lv_aload_n hx hb dCp_init_0 rfl (lv_at hl 0 rfl) ?_
  refine W.objInit hx hb hown (hT _ mw_26) (hT _ mw_27) (hT _ mw_28) rfl (by rw [hml]; exact hl.1) rfl dCp_init_1 (Nat.le_of_ble_eq_true rfl) (Nat.le_of_ble_eq_true rfl) ?_
  refine W.eq (g2 := F0 m 4 ls []) rfl ?_
  refine lv_aload_n hx hb dCp_init_4 rfl (lv_at hl 0 rfl) ?_
  refine va_new (ci := 3) (fs := [.null, .int (0 : Int32)]) (C := RTa) (T := TTa) (N := 2) hx hb hT inTa tyTa tyTa_ok hown (hT _ mw_29) (hT _ mw_30) (hT _ mw_2) hK hP hD hS hA rfl (fun j hj => by rcases (show j = 0 ∨ j = 1 by omega) with rfl | rfl <;> rfl) (Nat.le_of_ble_eq_true rfl) (Nat.le_of_ble_eq_true rfl) dCp_init_5 (fun q1 H hP hD hS => ?_)
  have hP : va_P G vwCl [(h8, .inr (4, [.null, .null, .null, .int (0 : Int32), .int (0 : Int32)])), (q1, .inr (3, [.null, .int (0 : Int32)]))] H := hP
  have hD : va_D A [(h8, .inr (4, [.null, .null, .null, .int (0 : Int32), .int (0 : Int32)])), (q1, .inr (3, [.null, .int (0 : Int32)]))] := hD
  refine lv_dup hx hb dCp_init_8 rfl ?_
  have hPc := hP.sub (ws' := [(q1, .inr (3, [.null, .int (0 : Int32)]))]) [1] rfl
  have hDc := hD.sub (ws' := [(q1, .inr (3, [.null, .int (0 : Int32)]))]) [1] (by decide) rfl
  have hFc := va_free (wc := [(q1, .inr (3, [.null, .int (0 : Int32)]))]) hD hS hA [1] rfl
  refine va_callv (va_runIN (As := []) (rest := [.ref q1, .ref h8]) ⟨hx, hb, hml, hown, hT⟩ (c_Ta_init l G cB cL cI H q1 hPc (hDc.weaken (fun _ _ _ _ => trivial))) ⟨va_cnB 0 hT (gB_I mw_33) rfl rfl rfl hn0 (hT _ mw_2) (by decide +kernel) ⟨Nat.le_of_ble_eq_true rfl, Nat.le_of_ble_eq_true rfl⟩, rfl, (hT _ mw_32)⟩ ⟨fun a U g mk q => ⟨q.1, q.2.1, va_K.moved (u := U) (U := U.calling g mk a) (Vm.Alike.refl U.vm) q.2.2⟩, fun U hU hW => ⟨rfl, hU, va_K.moved hW.alike hK⟩⟩ rfl rfl hl.1 rfl (lv_room (Nat.le_of_ble_eq_true rfl)) dCp_init_9 ⟨Nat.le_of_ble_eq_true rfl, Nat.le_of_ble_eq_true rfl⟩) hS (fun q _ h => hFc q h) hFc (fun u t H locs ht hvm hw hB hz8 hk8 hS => ?_)
  obtain ⟨q2, hP1, hD1⟩ := hB
  rw [ht] at hP1
  obtain ⟨hP, hD⟩ := va_join (wr := [(h8, .inr (4, [.null, .null, .null, .int (0 : Int32), .int (0 : Int32)]))]) (w1 := [(q1, .inr (3, [.ref q2, .int (0 : Int32)])), (q2, .inl (cB, 512, .inl (fun _ => 0)))]) hP hD [1] [0] rfl rfl (by decide) (by decide) hk8 hFc hP1 hD1
  have hP : va_P G vwCl [(h8, .inr (4, [.null, .null, .null, .int (0 : Int32), .int (0 : Int32)])), (q1, .inr (3, [.ref q2, .int (0 : Int32)])), (q2, .inl (cB, 512, .inl (fun _ => 0)))] H := hP
  have hD : va_D A [(h8, .inr (4, [.null, .null, .null, .int (0 : Int32), .int (0 : Int32)])), (q1, .inr (3, [.ref q2, .int (0 : Int32)])), (q2, .inl (cB, 512, .inl (fun _ => 0)))] := hD
  refine va_putF (D := G) (ci := 4) (v := .ref q1) (ty := (.object "CompiledProgram$Tape")) (C := RCp) (T := TCp) (N := 5) hx hb hT inCp tyCp tyCp_ok nmCp hown hK hP hD hS 0 rfl rfl 0 (by decide) (hT _ mw_86) (fun _ h9 => h9) rfl hin rfl (by decide +kernel) rfl rfl (Nat.le_of_ble_eq_true rfl) dCp_init_12 (fun H locs hP hD hS => ?_)
  have hP : va_P G vwCl [(h8, .inr (4, [.ref q1, .null, .null, .int (0 : Int32), .int (0 : Int32)])), (q1, .inr (3, [.ref q2, .int (0 : Int32)])), (q2, .inl (cB, 512, .inl (fun _ => 0)))] H := hP
  have hD : va_D A [(h8, .inr (4, [.ref q1, .null, .null, .int (0 : Int32), .int (0 : Int32)])), (q1, .inr (3, [.ref q2, .int (0 : Int32)])), (q2, .inl (cB, 512, .inl (fun _ => 0)))] := hD
  refine lv_aload_n hx hb dCp_init_15 rfl (lv_at hl 0 rfl) ?_
  refine va_new (ci := 0) (fs := [.null, .int (0 : Int32)]) (C := RPr) (T := TPr) (N := 2) hx hb hT inPr tyPr tyPr_ok hown (hT _ mw_45) (hT _ mw_46) (hT _ mw_3) hK hP hD hS hA rfl (fun j hj => by rcases (show j = 0 ∨ j = 1 by omega) with rfl | rfl <;> rfl) (Nat.le_of_ble_eq_true rfl) (Nat.le_of_ble_eq_true rfl) dCp_init_16 (fun q3 H hP hD hS => ?_)
  have hP : va_P G vwCl [(h8, .inr (4, [.ref q1, .null, .null, .int (0 : Int32), .int (0 : Int32)])), (q1, .inr (3, [.ref q2, .int (0 : Int32)])), (q2, .inl (cB, 512, .inl (fun _ => 0))), (q3, .inr (0, [.null, .int (0 : Int32)]))] H := hP
  have hD : va_D A [(h8, .inr (4, [.ref q1, .null, .null, .int (0 : Int32), .int (0 : Int32)])), (q1, .inr (3, [.ref q2, .int (0 : Int32)])), (q2, .inl (cB, 512, .inl (fun _ => 0))), (q3, .inr (0, [.null, .int (0 : Int32)]))] := hD
  refine lv_dup hx hb dCp_init_19 rfl ?_
  have hPc := hP.sub (ws' := [(q3, .inr (0, [.null, .int (0 : Int32)]))]) [3] rfl
  have hDc := hD.sub (ws' := [(q3, .inr (0, [.null, .int (0 : Int32)]))]) [3] (by decide) rfl
  have hFc := va_free (wc := [(q3, .inr (0, [.null, .int (0 : Int32)]))]) hD hS hA [3] rfl
  refine va_callv (va_runIN (As := []) (rest := [.ref q3, .ref h8]) ⟨hx, hb, hml, hown, hT⟩ (c_Pr_init l G cB cL cI H q3 hPc (hDc.weaken (fun _ _ _ _ => trivial))) ⟨va_cnB 0 hT (gB_I mw_49) rfl rfl rfl hn1 (hT _ mw_3) (by decide +kernel) ⟨Nat.le_of_ble_eq_true rfl, Nat.le_of_ble_eq_true rfl⟩, rfl, (hT _ mw_48)⟩ ⟨fun a U g mk q => ⟨q.1, q.2.1, va_K.moved (u := U) (U := U.calling g mk a) (Vm.Alike.refl U.vm) q.2.2⟩, fun U hU hW => ⟨rfl, hU, va_K.moved hW.alike hK⟩⟩ rfl rfl hl.1 rfl (lv_room (Nat.le_of_ble_eq_true rfl)) dCp_init_20 ⟨Nat.le_of_ble_eq_true rfl, Nat.le_of_ble_eq_true rfl⟩) hS (fun q _ h => hFc q h) hFc (fun u t H locs ht hvm hw hB hz8 hk8 hS => ?_)
  obtain ⟨q4, hP1, hD1⟩ := hB
  rw [ht] at hP1
  obtain ⟨hP, hD⟩ := va_join (wr := [(h8, .inr (4, [.ref q1, .null, .null, .int (0 : Int32), .int (0 : Int32)])), (q1, .inr (3, [.ref q2, .int (0 : Int32)])), (q2, .inl (cB, 512, .inl (fun _ => 0)))]) (w1 := [(q3, .inr (0, [.ref q4, .int (0 : Int32)])), (q4, .inl (cL, 64, .inr (.inl (fun _ => 0))))]) hP hD [3] [0, 1, 2] rfl rfl (by decide) (by decide) hk8 hFc hP1 hD1
  have hP : va_P G vwCl [(h8, .inr (4, [.ref q1, .null, .null, .int (0 : Int32), .int (0 : Int32)])), (q1, .inr (3, [.ref q2, .int (0 : Int32)])), (q2, .inl (cB, 512, .inl (fun _ => 0))), (q3, .inr (0, [.ref q4, .int (0 : Int32)])), (q4, .inl (cL, 64, .inr (.inl (fun _ => 0))))] H := hP
  have hD : va_D A [(h8, .inr (4, [.ref q1, .null, .null, .int (0 : Int32), .int (0 : Int32)])), (q1, .inr (3, [.ref q2, .int (0 : Int32)])), (q2, .inl (cB, 512, .inl (fun _ => 0))), (q3, .inr (0, [.ref q4, .int (0 : Int32)])), (q4, .inl (cL, 64, .inr (.inl (fun _ => 0))))] := hD
  refine va_putF (D := G) (ci := 4) (v := .ref q3) (ty := (.object "CompiledProgram$Program")) (C := RCp) (T := TCp) (N := 5) hx hb hT inCp tyCp tyCp_ok nmCp hown hK hP hD hS 0 rfl rfl 1 (by decide) (hT _ mw_87) (fun _ h9 => h9) rfl hin rfl (by decide +kernel) rfl rfl (Nat.le_of_ble_eq_true rfl) dCp_init_23 (fun H locs hP hD hS => ?_)
  have hP : va_P G vwCl [(h8, .inr (4, [.ref q1, .ref q3, .null, .int (0 : Int32), .int (0 : Int32)])), (q1, .inr (3, [.ref q2, .int (0 : Int32)])), (q2, .inl (cB, 512, .inl (fun _ => 0))), (q3, .inr (0, [.ref q4, .int (0 : Int32)])), (q4, .inl (cL, 64, .inr (.inl (fun _ => 0))))] H := hP
  have hD : va_D A [(h8, .inr (4, [.ref q1, .ref q3, .null, .int (0 : Int32), .int (0 : Int32)])), (q1, .inr (3, [.ref q2, .int (0 : Int32)])), (q2, .inl (cB, 512, .inl (fun _ => 0))), (q3, .inr (0, [.ref q4, .int (0 : Int32)])), (q4, .inl (cL, 64, .inr (.inl (fun _ => 0))))] := hD
  refine lv_aload_n hx hb dCp_init_26 rfl (lv_at hl 0 rfl) ?_
  refine va_new (ci := 2) (fs := [.null, .null]) (C := RMa) (T := TMa) (N := 2) hx hb hT inMa tyMa tyMa_ok hown (hT _ mw_61) (hT _ mw_62) (hT _ mw_4) hK hP hD hS hA rfl (fun j hj => by rcases (show j = 0 ∨ j = 1 by omega) with rfl | rfl <;> rfl) (Nat.le_of_ble_eq_true rfl) (Nat.le_of_ble_eq_true rfl) dCp_init_27 (fun q5 H hP hD hS => ?_)
  have hP : va_P G vwCl [(h8, .inr (4, [.ref q1, .ref q3, .null, .int (0 : Int32), .int (0 : Int32)])), (q1, .inr (3, [.ref q2, .int (0 : Int32)])), (q2, .inl (cB, 512, .inl (fun _ => 0))), (q3, .inr (0, [.ref q4, .int (0 : Int32)])), (q4, .inl (cL, 64, .inr (.inl (fun _ => 0)))), (q5, .inr (2, [.null, .null]))] H := hP
  have hD : va_D A [(h8, .inr (4, [.ref q1, .ref q3, .null, .int (0 : Int32), .int (0 : Int32)])), (q1, .inr (3, [.ref q2, .int (0 : Int32)])), (q2, .inl (cB, 512, .inl (fun _ => 0))), (q3, .inr (0, [.ref q4, .int (0 : Int32)])), (q4, .inl (cL, 64, .inr (.inl (fun _ => 0)))), (q5, .inr (2, [.null, .null]))] := hD
  refine lv_dup hx hb dCp_init_30 rfl ?_
  have hPc := hP.sub (ws' := [(q5, .inr (2, [.null, .null]))]) [5] rfl
  have hDc := hD.sub (ws' := [(q5, .inr (2, [.null, .null]))]) [5] (by decide) rfl
  have hFc := va_free (wc := [(q5, .inr (2, [.null, .null]))]) hD hS hA [5] rfl
  refine va_callv (va_runIN (As := []) (rest := [.ref q5, .ref h8]) ⟨hx, hb, hml, hown, hT⟩ (c_Ma_init l G cB cL cI H q5 hPc (hDc.weaken (fun _ _ _ _ => trivial))) ⟨va_cnB 0 hT (gB_I mw_65) rfl rfl rfl hn2 (hT _ mw_4) (by decide +kernel) ⟨Nat.le_of_ble_eq_true rfl, Nat.le_of_ble_eq_true rfl⟩, rfl, (hT _ mw_64)⟩ ⟨fun a U g mk q => ⟨q.1, q.2.1, va_K.moved (u := U) (U := U.calling g mk a) (Vm.Alike.refl U.vm) q.2.2.1, va_Nw.same (u := U) (U := U.calling g mk a) rfl rfl q.2.2.2⟩, fun U hU hW => ⟨rfl, hU, va_K.moved hW.alike hK, va_Nw.warmM hW hn3⟩⟩ rfl rfl hl.1 rfl (lv_room (Nat.le_of_ble_eq_true rfl)) dCp_init_31 ⟨Nat.le_of_ble_eq_true rfl, Nat.le_of_ble_eq_true rfl⟩) hS (fun q _ h => hFc q h) hFc (fun u t H locs ht hvm hw hB hz8 hk8 hS => ?_)
  obtain ⟨q6, q7, q8, hP1, hD1⟩ := hB
  rw [ht] at hP1
  obtain ⟨hP, hD⟩ := va_join (wr := [(h8, .inr (4, [.ref q1, .ref q3, .null, .int (0 : Int32), .int (0 : Int32)])), (q1, .inr (3, [.ref q2, .int (0 : Int32)])), (q2, .inl (cB, 512, .inl (fun _ => 0))), (q3, .inr (0, [.ref q4, .int (0 : Int32)])), (q4, .inl (cL, 64, .inr (.inl (fun _ => 0))))]) (w1 := [(q5, .inr (2, [.ref q6, .ref q7])), (q6, .inl (cL, 16, .inr (.inl (fun _ => 0)))), (q7, .inr (1, [.ref q8])), (q8, .inl (cB, 4096, .inl (fun _ => 0)))]) hP hD [5] [0, 1, 2, 3, 4] rfl rfl (by decide) (by decide) hk8 hFc hP1 hD1
  have hP : va_P G vwCl [(h8, .inr (4, [.ref q1, .ref q3, .null, .int (0 : Int32), .int (0 : Int32)])), (q1, .inr (3, [.ref q2, .int (0 : Int32)])), (q2, .inl (cB, 512, .inl (fun _ => 0))), (q3, .inr (0, [.ref q4, .int (0 : Int32)])), (q4, .inl (cL, 64, .inr (.inl (fun _ => 0)))), (q5, .inr (2, [.ref q6, .ref q7])), (q6, .inl (cL, 16, .inr (.inl (fun _ => 0)))), (q7, .inr (1, [.ref q8])), (q8, .inl (cB, 4096, .inl (fun _ => 0)))] H := hP
  have hD : va_D A [(h8, .inr (4, [.ref q1, .ref q3, .null, .int (0 : Int32), .int (0 : Int32)])), (q1, .inr (3, [.ref q2, .int (0 : Int32)])), (q2, .inl (cB, 512, .inl (fun _ => 0))), (q3, .inr (0, [.ref q4, .int (0 : Int32)])), (q4, .inl (cL, 64, .inr (.inl (fun _ => 0)))), (q5, .inr (2, [.ref q6, .ref q7])), (q6, .inl (cL, 16, .inr (.inl (fun _ => 0)))), (q7, .inr (1, [.ref q8])), (q8, .inl (cB, 4096, .inl (fun _ => 0)))] := hD
  refine va_putF (D := G) (ci := 4) (v := .ref q5) (ty := (.object "CompiledProgram$Machine")) (C := RCp) (T := TCp) (N := 5) hx hb hT inCp tyCp tyCp_ok nmCp hown hK hP hD hS 0 rfl rfl 2 (by decide) (hT _ mw_88) (fun _ h9 => h9) rfl hin rfl (by decide +kernel) rfl rfl (Nat.le_of_ble_eq_true rfl) dCp_init_34 (fun H locs hP hD hS => ?_)
  have hP : va_P G vwCl [(h8, .inr (4, [.ref q1, .ref q3, .ref q5, .int (0 : Int32), .int (0 : Int32)])), (q1, .inr (3, [.ref q2, .int (0 : Int32)])), (q2, .inl (cB, 512, .inl (fun _ => 0))), (q3, .inr (0, [.ref q4, .int (0 : Int32)])), (q4, .inl (cL, 64, .inr (.inl (fun _ => 0)))), (q5, .inr (2, [.ref q6, .ref q7])), (q6, .inl (cL, 16, .inr (.inl (fun _ => 0)))), (q7, .inr (1, [.ref q8])), (q8, .inl (cB, 4096, .inl (fun _ => 0)))] H := hP
  have hD : va_D A [(h8, .inr (4, [.ref q1, .ref q3, .ref q5, .int (0 : Int32), .int (0 : Int32)])), (q1, .inr (3, [.ref q2, .int (0 : Int32)])), (q2, .inl (cB, 512, .inl (fun _ => 0))), (q3, .inr (0, [.ref q4, .int (0 : Int32)])), (q4, .inl (cL, 64, .inr (.inl (fun _ => 0)))), (q5, .inr (2, [.ref q6, .ref q7])), (q6, .inl (cL, 16, .inr (.inl (fun _ => 0)))), (q7, .inr (1, [.ref q8])), (q8, .inl (cB, 4096, .inl (fun _ => 0)))] := hD
  refine lv_aload_n hx hb dCp_init_37 rfl (lv_at hl 0 rfl) ?_
  refine lv_iconst (v := (-1 : Int32)) hx hb dCp_init_38 (by decide) ?_
  refine va_put (D := G) (ci := 4) (v := .int (-1 : Int32)) (ty := .int) (C := RCp) (T := TCp) (N := 5) hx hb hT inCp tyCp tyCp_ok nmCp hown hK hP hD hS 0 rfl rfl 3 (by decide) (hT _ mw_89) (fun _ h9 => h9) rfl (by decide +kernel) rfl rfl (Nat.le_of_ble_eq_true rfl) dCp_init_39 (fun H locs hP hD hS => ?_)
  have hP : va_P G vwCl [(h8, .inr (4, [.ref q1, .ref q3, .ref q5, .int (-1 : Int32), .int (0 : Int32)])), (q1, .inr (3, [.ref q2, .int (0 : Int32)])), (q2, .inl (cB, 512, .inl (fun _ => 0))), (q3, .inr (0, [.ref q4, .int (0 : Int32)])), (q4, .inl (cL, 64, .inr (.inl (fun _ => 0)))), (q5, .inr (2, [.ref q6, .ref q7])), (q6, .inl (cL, 16, .inr (.inl (fun _ => 0)))), (q7, .inr (1, [.ref q8])), (q8, .inl (cB, 4096, .inl (fun _ => 0)))] H := hP
  have hD : va_D A [(h8, .inr (4, [.ref q1, .ref q3, .ref q5, .int (-1 : Int32), .int (0 : Int32)])), (q1, .inr (3, [.ref q2, .int (0 : Int32)])), (q2, .inl (cB, 512, .inl (fun _ => 0))), (q3, .inr (0, [.ref q4, .int (0 : Int32)])), (q4, .inl (cL, 64, .inr (.inl (fun _ => 0)))), (q5, .inr (2, [.ref q6, .ref q7])), (q6, .inl (cL, 16, .inr (.inl (fun _ => 0)))), (q7, .inr (1, [.ref q8])), (q8, .inl (cB, 4096, .inl (fun _ => 0)))] := hD
  refine lv_aload_n hx hb dCp_init_42 rfl (lv_at hl 0 rfl) ?_
  refine lv_iconst (v := (0 : Int32)) hx hb dCp_init_43 (by decide) ?_
  refine va_put (D := G) (ci := 4) (v := .int (0 : Int32)) (ty := .int) (C := RCp) (T := TCp) (N := 5) hx hb hT inCp tyCp tyCp_ok nmCp hown hK hP hD hS 0 rfl rfl 4 (by decide) (hT _ mw_90) (fun _ h9 => h9) rfl (by decide +kernel) rfl rfl (Nat.le_of_ble_eq_true rfl) dCp_init_44 (fun H locs hP hD hS => ?_)
  have hP : va_P G vwCl [(h8, .inr (4, [.ref q1, .ref q3, .ref q5, .int (-1 : Int32), .int (0 : Int32)])), (q1, .inr (3, [.ref q2, .int (0 : Int32)])), (q2, .inl (cB, 512, .inl (fun _ => 0))), (q3, .inr (0, [.ref q4, .int (0 : Int32)])), (q4, .inl (cL, 64, .inr (.inl (fun _ => 0)))), (q5, .inr (2, [.ref q6, .ref q7])), (q6, .inl (cL, 16, .inr (.inl (fun _ => 0)))), (q7, .inr (1, [.ref q8])), (q8, .inl (cB, 4096, .inl (fun _ => 0)))] H := hP
  have hD : va_D A [(h8, .inr (4, [.ref q1, .ref q3, .ref q5, .int (-1 : Int32), .int (0 : Int32)])), (q1, .inr (3, [.ref q2, .int (0 : Int32)])), (q2, .inl (cB, 512, .inl (fun _ => 0))), (q3, .inr (0, [.ref q4, .int (0 : Int32)])), (q4, .inl (cL, 64, .inr (.inl (fun _ => 0)))), (q5, .inr (2, [.ref q6, .ref q7])), (q6, .inl (cL, 16, .inr (.inl (fun _ => 0)))), (q7, .inr (1, [.ref q8])), (q8, .inl (cB, 4096, .inl (fun _ => 0)))] := hD
  refine W.widen (k := 8) (n := 4695) (Nat.le_of_ble_eq_true rfl) (Nat.le_of_ble_eq_true rfl) ?_
  exact W.vret hx hb hr (fun t ht hW => ⟨⟨(), rfl, trivial, q1, q2, q3, q4, q5, q6, q7, q8, by rw [ht]; exact hP, hD⟩, hS.F ht⟩) hS.2.2 dCp_init_47

set_option maxHeartbeats 4000000 in
set_option maxRecDepth 100000 in
theorem c_Mo_init (l : Launch) (G : va_G) (cB cL cI : ClassId) (Hp : Heap) (m0 : Nat) (hP : va_P G vwCl [(m0, .inr (5, [.int (0 : Int32), .null, .int (0 : Int32), .null, .int (0 : Int32), .null, .null, .int (0 : Int32), .int (0 : Int32), .int (0 : Int32), .int (0 : Int32), .int (0 : Int32), .int (0 : Int32), .int (0 : Int32), .int (0 : Int32)]))] Hp) (hD : va_D (fun _ => True) [(m0, .inr (5, [.int (0 : Int32), .null, .int (0 : Int32), .null, .int (0 : Int32), .null, .null, .int (0 : Int32), .int (0 : Int32), .int (0 : Int32), .int (0 : Int32), .int (0 : Int32), .int (0 : Int32), .int (0 : Int32), .int (0 : Int32)]))]) : Met l yMo_init wsMo_init ({ frames := 1, cells := 4, slots := 69643, locals := 12 }) (va_Pc [.ref m0] (fun U => U.heap = Hp ∧ va_K G vwCl [(cB, .byte), (cL, .long), (cI, .int)] U)) (va_Qv (fun (_ : Unit) => True) (fun _ t => ∃ (q1 : Nat) (q2 : Nat) (q3 : Nat) (q4 : Nat), va_P G vwCl [(m0, .inr (5, [.int (0 : Int32), .ref q1, .int (0 : Int32), .ref q2, .int (0 : Int32), .ref q3, .ref q4, .int (-1 : Int32), .int (0 : Int32), .int (0 : Int32), .int (0 : Int32), .int (0 : Int32), .int (0 : Int32), .int (0 : Int32), .int (0 : Int32)])), (q1, .inl (cI, 32768, .inl (fun _ => 0))), (q2, .inl (cI, 32768, .inl (fun _ => 0))), (q3, .inl (cL, 11, .inr (.inl (fun _ => 0)))), (q4, .inl (cI, 4096, .inl (fun _ => 0)))] t.heap ∧ va_D (va_A [(m0, .inr (5, [.int (0 : Int32), .null, .int (0 : Int32), .null, .int (0 : Int32), .null, .null, .int (0 : Int32), .int (0 : Int32), .int (0 : Int32), .int (0 : Int32), .int (0 : Int32), .int (0 : Int32), .int (0 : Int32), .int (0 : Int32)]))] Hp.size) [(m0, .inr (5, [.int (0 : Int32), .ref q1, .int (0 : Int32), .ref q2, .int (0 : Int32), .ref q3, .ref q4, .int (-1 : Int32), .int (0 : Int32), .int (0 : Int32), .int (0 : Int32), .int (0 : Int32), .int (0 : Int32), .int (0 : Int32), .int (0 : Int32)])), (q1, .inl (cI, 32768, .inl (fun _ => 0))), (q2, .inl (cI, 32768, .inl (fun _ => 0))), (q3, .inl (cL, 11, .inr (.inl (fun _ => 0)))), (q4, .inl (cI, 4096, .inl (fun _ => 0)))]) (va_A [(m0, .inr (5, [.int (0 : Int32), .null, .int (0 : Int32), .null, .int (0 : Int32), .null, .null, .int (0 : Int32), .int (0 : Int32), .int (0 : Int32), .int (0 : Int32), .int (0 : Int32), .int (0 : Int32), .int (0 : Int32), .int (0 : Int32)]))] Hp.size)) 4 69643 (va_A [(m0, .inr (5, [.int (0 : Int32), .null, .int (0 : Int32), .null, .int (0 : Int32), .null, .null, .int (0 : Int32), .int (0 : Int32), .int (0 : Int32), .int (0 : Int32), .int (0 : Int32), .int (0 : Int32), .int (0 : Int32), .int (0 : Int32)]))] Hp.size) := by
  refine Met.ofW (cc := cMo_init) (maxL := 1) (ret := none) (by decide) rfl ?_
  intro p e s m args below meth c s₁ B hml hv
  obtain ⟨rfl, rfl, hK⟩ := hv
  have hx := B.exec
  have hb := B.bytes
  have hr := B.returns
  have hT : ∀ w ∈ tB, w.before _ s = true := fun w h => atoms_spec (ws := wsMo_init) B.pre w (List.mem_cons_of_mem _ h)
  have hown : s.vm.findClass "CompiledProgramModel" = some m.cls := findClass_of_methodNamed B.named
  have hlocks := B.notSynchronized
  have hin : meth.name = "<init>" := (name_of_methodNamed B.named B.method).1
  have hD := hD.self (sz := s.heap.size)
  generalize hAe : va_A [(m0, .inr (5, [.int (0 : Int32), .null, .int (0 : Int32), .null, .int (0 : Int32), .null, .null, .int (0 : Int32), .int (0 : Int32), .int (0 : Int32), .int (0 : Int32), .int (0 : Int32), .int (0 : Int32), .int (0 : Int32), .int (0 : Int32)]))] s.heap.size = A at hD ⊢
  have hA : ∀ q : Nat, s.heap.size ≤ q → A q := fun q h => by rw [← hAe]; exact Or.inr h
  have hS : va_S A s.heap s.heap [] := va_S.rf
  have hl := lv_entry ([.ref m0]) (n := 1) (Nat.le_of_ble_eq_true rfl)
  rw [lg_entry_eq]
  generalize (lg_sl ([.ref m0]) ++ List.replicate (1 - (lg_sl ([.ref m0])).length) Slot.unset).toArray = ls at hl ⊢
  have hl : lv_has ls 1 [(0, .ref m0)] := hl
  refine lv_aload_n hx hb dMo_init_0 rfl (lv_at hl 0 rfl) ?_
  refine W.objInit hx hb hown (hT _ mw_563) (hT _ mw_27) (hT _ mw_28) rfl (by rw [hml]; exact hl.1) rfl dMo_init_1 (Nat.le_of_ble_eq_true rfl) (Nat.le_of_ble_eq_true rfl) ?_
  refine W.eq (g2 := F0 m 4 ls []) rfl ?_
  refine lv_aload_n hx hb dMo_init_4 rfl (lv_at hl 0 rfl) ?_
  refine lv_ldc (v := (32768 : Int32)) hx hb hown (hT _ mw_564) dMo_init_5 ?_
  refine va_newa (atype := .int) (ty := .int) (N' := 32768) (a0 := (32768, .inl (fun _ => 0))) hx hb (hT _ mw_611) rfl hK hP hD hS hA (fun _ => rfl) (by decide) (by decide) (by decide) (Nat.le_of_ble_eq_true rfl) (Nat.le_of_ble_eq_true rfl) dMo_init_7 (fun q1 cA H hK hP hD hS => ?_)
  obtain rfl : cI = cA := (k_int hK).symm
  have hK := hK.sub (tys' := [(cB, .byte), (cL, .long), (cI, .int)]) [0, 1, 2] rfl
  have hP : va_P G vwCl [(m0, .inr (5, [.int (0 : Int32), .null, .int (0 : Int32), .null, .int (0 : Int32), .null, .null, .int (0 : Int32), .int (0 : Int32), .int (0 : Int32), .int (0 : Int32), .int (0 : Int32), .int (0 : Int32), .int (0 : Int32), .int (0 : Int32)])), (q1, .inl (cI, 32768, .inl (fun _ => 0)))] H := hP
  have hD : va_D A [(m0, .inr (5, [.int (0 : Int32), .null, .int (0 : Int32), .null, .int (0 : Int32), .null, .null, .int (0 : Int32), .int (0 : Int32), .int (0 : Int32), .int (0 : Int32), .int (0 : Int32), .int (0 : Int32), .int (0 : Int32), .int (0 : Int32)])), (q1, .inl (cI, 32768, .inl (fun _ => 0)))] := hD
  refine va_putF (D := G) (ci := 5) (v := .ref q1) (ty := (.array .int)) (C := RMo) (T := TMo) (N := 15) hx hb hT inMo tyMo tyMo_ok nmMo hown hK hP hD hS 0 rfl rfl 1 (by decide) (hT _ mw_566) (fun _ h9 => h9) rfl hin rfl (by decide +kernel) rfl rfl (Nat.le_of_ble_eq_true rfl) dMo_init_9 (fun H locs hP hD hS => ?_)
  have hP : va_P G vwCl [(m0, .inr (5, [.int (0 : Int32), .ref q1, .int (0 : Int32), .null, .int (0 : Int32), .null, .null, .int (0 : Int32), .int (0 : Int32), .int (0 : Int32), .int (0 : Int32), .int (0 : Int32), .int (0 : Int32), .int (0 : Int32), .int (0 : Int32)])), (q1, .inl (cI, 32768, .inl (fun _ => 0)))] H := hP
  have hD : va_D A [(m0, .inr (5, [.int (0 : Int32), .ref q1, .int (0 : Int32), .null, .int (0 : Int32), .null, .null, .int (0 : Int32), .int (0 : Int32), .int (0 : Int32), .int (0 : Int32), .int (0 : Int32), .int (0 : Int32), .int (0 : Int32), .int (0 : Int32)])), (q1, .inl (cI, 32768, .inl (fun _ => 0)))] := hD
  refine lv_aload_n hx hb dMo_init_12 rfl (lv_at hl 0 rfl) ?_
  refine lv_ldc (v := (32768 : Int32)) hx hb hown (hT _ mw_564) dMo_init_13 ?_
  refine va_newa (atype := .int) (ty := .int) (N' := 32768) (a0 := (32768, .inl (fun _ => 0))) hx hb (hT _ mw_611) rfl hK hP hD hS hA (fun _ => rfl) (by decide) (by decide) (by decide) (Nat.le_of_ble_eq_true rfl) (Nat.le_of_ble_eq_true rfl) dMo_init_15 (fun q2 cA H hK hP hD hS => ?_)
  obtain rfl : cI = cA := (k_int hK).symm
  have hK := hK.sub (tys' := [(cB, .byte), (cL, .long), (cI, .int)]) [0, 1, 2] rfl
  have hP : va_P G vwCl [(m0, .inr (5, [.int (0 : Int32), .ref q1, .int (0 : Int32), .null, .int (0 : Int32), .null, .null, .int (0 : Int32), .int (0 : Int32), .int (0 : Int32), .int (0 : Int32), .int (0 : Int32), .int (0 : Int32), .int (0 : Int32), .int (0 : Int32)])), (q1, .inl (cI, 32768, .inl (fun _ => 0))), (q2, .inl (cI, 32768, .inl (fun _ => 0)))] H := hP
  have hD : va_D A [(m0, .inr (5, [.int (0 : Int32), .ref q1, .int (0 : Int32), .null, .int (0 : Int32), .null, .null, .int (0 : Int32), .int (0 : Int32), .int (0 : Int32), .int (0 : Int32), .int (0 : Int32), .int (0 : Int32), .int (0 : Int32), .int (0 : Int32)])), (q1, .inl (cI, 32768, .inl (fun _ => 0))), (q2, .inl (cI, 32768, .inl (fun _ => 0)))] := hD
  refine va_putF (D := G) (ci := 5) (v := .ref q2) (ty := (.array .int)) (C := RMo) (T := TMo) (N := 15) hx hb hT inMo tyMo tyMo_ok nmMo hown hK hP hD hS 0 rfl rfl 3 (by decide) (hT _ mw_568) (fun _ h9 => h9) rfl hin rfl (by decide +kernel) rfl rfl (Nat.le_of_ble_eq_true rfl) dMo_init_17 (fun H locs hP hD hS => ?_)
  have hP : va_P G vwCl [(m0, .inr (5, [.int (0 : Int32), .ref q1, .int (0 : Int32), .ref q2, .int (0 : Int32), .null, .null, .int (0 : Int32), .int (0 : Int32), .int (0 : Int32), .int (0 : Int32), .int (0 : Int32), .int (0 : Int32), .int (0 : Int32), .int (0 : Int32)])), (q1, .inl (cI, 32768, .inl (fun _ => 0))), (q2, .inl (cI, 32768, .inl (fun _ => 0)))] H := hP
  have hD : va_D A [(m0, .inr (5, [.int (0 : Int32), .ref q1, .int (0 : Int32), .ref q2, .int (0 : Int32), .null, .null, .int (0 : Int32), .int (0 : Int32), .int (0 : Int32), .int (0 : Int32), .int (0 : Int32), .int (0 : Int32), .int (0 : Int32), .int (0 : Int32)])), (q1, .inl (cI, 32768, .inl (fun _ => 0))), (q2, .inl (cI, 32768, .inl (fun _ => 0)))] := hD
  refine lv_aload_n hx hb dMo_init_20 rfl (lv_at hl 0 rfl) ?_
  refine lv_bipush (v := (11 : Int32)) hx hb dMo_init_21 (by decide) ?_
  refine va_newa (atype := .long) (ty := .long) (N' := 11) (a0 := (11, .inr (.inl (fun _ => 0)))) hx hb (hT _ mw_60) rfl hK hP hD hS hA (fun _ => rfl) (by decide) (by decide) (by decide) (Nat.le_of_ble_eq_true rfl) (Nat.le_of_ble_eq_true rfl) dMo_init_23 (fun q3 cA H hK hP hD hS => ?_)
  obtain rfl : cL = cA := (k_long hK).symm
  have hK := hK.sub (tys' := [(cB, .byte), (cL, .long), (cI, .int)]) [0, 1, 2] rfl
  have hP : va_P G vwCl [(m0, .inr (5, [.int (0 : Int32), .ref q1, .int (0 : Int32), .ref q2, .int (0 : Int32), .null, .null, .int (0 : Int32), .int (0 : Int32), .int (0 : Int32), .int (0 : Int32), .int (0 : Int32), .int (0 : Int32), .int (0 : Int32), .int (0 : Int32)])), (q1, .inl (cI, 32768, .inl (fun _ => 0))), (q2, .inl (cI, 32768, .inl (fun _ => 0))), (q3, .inl (cL, 11, .inr (.inl (fun _ => 0))))] H := hP
  have hD : va_D A [(m0, .inr (5, [.int (0 : Int32), .ref q1, .int (0 : Int32), .ref q2, .int (0 : Int32), .null, .null, .int (0 : Int32), .int (0 : Int32), .int (0 : Int32), .int (0 : Int32), .int (0 : Int32), .int (0 : Int32), .int (0 : Int32), .int (0 : Int32)])), (q1, .inl (cI, 32768, .inl (fun _ => 0))), (q2, .inl (cI, 32768, .inl (fun _ => 0))), (q3, .inl (cL, 11, .inr (.inl (fun _ => 0))))] := hD
  refine va_putF (D := G) (ci := 5) (v := .ref q3) (ty := (.array .long)) (C := RMo) (T := TMo) (N := 15) hx hb hT inMo tyMo tyMo_ok nmMo hown hK hP hD hS 0 rfl rfl 5 (by decide) (hT _ mw_570) (fun _ h9 => h9) rfl hin rfl (by decide +kernel) rfl rfl (Nat.le_of_ble_eq_true rfl) dMo_init_25 (fun H locs hP hD hS => ?_)
  have hP : va_P G vwCl [(m0, .inr (5, [.int (0 : Int32), .ref q1, .int (0 : Int32), .ref q2, .int (0 : Int32), .ref q3, .null, .int (0 : Int32), .int (0 : Int32), .int (0 : Int32), .int (0 : Int32), .int (0 : Int32), .int (0 : Int32), .int (0 : Int32), .int (0 : Int32)])), (q1, .inl (cI, 32768, .inl (fun _ => 0))), (q2, .inl (cI, 32768, .inl (fun _ => 0))), (q3, .inl (cL, 11, .inr (.inl (fun _ => 0))))] H := hP
  have hD : va_D A [(m0, .inr (5, [.int (0 : Int32), .ref q1, .int (0 : Int32), .ref q2, .int (0 : Int32), .ref q3, .null, .int (0 : Int32), .int (0 : Int32), .int (0 : Int32), .int (0 : Int32), .int (0 : Int32), .int (0 : Int32), .int (0 : Int32), .int (0 : Int32)])), (q1, .inl (cI, 32768, .inl (fun _ => 0))), (q2, .inl (cI, 32768, .inl (fun _ => 0))), (q3, .inl (cL, 11, .inr (.inl (fun _ => 0))))] := hD
  refine lv_aload_n hx hb dMo_init_28 rfl (lv_at hl 0 rfl) ?_
  refine lv_sipush (v := (4096 : Int32)) hx hb dMo_init_29 (by decide) ?_
  refine va_newa (atype := .int) (ty := .int) (N' := 4096) (a0 := (4096, .inl (fun _ => 0))) hx hb (hT _ mw_611) rfl hK hP hD hS hA (fun _ => rfl) (by decide) (by decide) (by decide) (Nat.le_of_ble_eq_true rfl) (Nat.le_of_ble_eq_true rfl) dMo_init_32 (fun q4 cA H hK hP hD hS => ?_)
  obtain rfl : cI = cA := (k_int hK).symm
  have hK := hK.sub (tys' := [(cB, .byte), (cL, .long), (cI, .int)]) [0, 1, 2] rfl
  have hP : va_P G vwCl [(m0, .inr (5, [.int (0 : Int32), .ref q1, .int (0 : Int32), .ref q2, .int (0 : Int32), .ref q3, .null, .int (0 : Int32), .int (0 : Int32), .int (0 : Int32), .int (0 : Int32), .int (0 : Int32), .int (0 : Int32), .int (0 : Int32), .int (0 : Int32)])), (q1, .inl (cI, 32768, .inl (fun _ => 0))), (q2, .inl (cI, 32768, .inl (fun _ => 0))), (q3, .inl (cL, 11, .inr (.inl (fun _ => 0)))), (q4, .inl (cI, 4096, .inl (fun _ => 0)))] H := hP
  have hD : va_D A [(m0, .inr (5, [.int (0 : Int32), .ref q1, .int (0 : Int32), .ref q2, .int (0 : Int32), .ref q3, .null, .int (0 : Int32), .int (0 : Int32), .int (0 : Int32), .int (0 : Int32), .int (0 : Int32), .int (0 : Int32), .int (0 : Int32), .int (0 : Int32)])), (q1, .inl (cI, 32768, .inl (fun _ => 0))), (q2, .inl (cI, 32768, .inl (fun _ => 0))), (q3, .inl (cL, 11, .inr (.inl (fun _ => 0)))), (q4, .inl (cI, 4096, .inl (fun _ => 0)))] := hD
  refine va_putF (D := G) (ci := 5) (v := .ref q4) (ty := (.array .int)) (C := RMo) (T := TMo) (N := 15) hx hb hT inMo tyMo tyMo_ok nmMo hown hK hP hD hS 0 rfl rfl 6 (by decide) (hT _ mw_571) (fun _ h9 => h9) rfl hin rfl (by decide +kernel) rfl rfl (Nat.le_of_ble_eq_true rfl) dMo_init_34 (fun H locs hP hD hS => ?_)
  have hP : va_P G vwCl [(m0, .inr (5, [.int (0 : Int32), .ref q1, .int (0 : Int32), .ref q2, .int (0 : Int32), .ref q3, .ref q4, .int (0 : Int32), .int (0 : Int32), .int (0 : Int32), .int (0 : Int32), .int (0 : Int32), .int (0 : Int32), .int (0 : Int32), .int (0 : Int32)])), (q1, .inl (cI, 32768, .inl (fun _ => 0))), (q2, .inl (cI, 32768, .inl (fun _ => 0))), (q3, .inl (cL, 11, .inr (.inl (fun _ => 0)))), (q4, .inl (cI, 4096, .inl (fun _ => 0)))] H := hP
  have hD : va_D A [(m0, .inr (5, [.int (0 : Int32), .ref q1, .int (0 : Int32), .ref q2, .int (0 : Int32), .ref q3, .ref q4, .int (0 : Int32), .int (0 : Int32), .int (0 : Int32), .int (0 : Int32), .int (0 : Int32), .int (0 : Int32), .int (0 : Int32), .int (0 : Int32)])), (q1, .inl (cI, 32768, .inl (fun _ => 0))), (q2, .inl (cI, 32768, .inl (fun _ => 0))), (q3, .inl (cL, 11, .inr (.inl (fun _ => 0)))), (q4, .inl (cI, 4096, .inl (fun _ => 0)))] := hD
  refine lv_aload_n hx hb dMo_init_37 rfl (lv_at hl 0 rfl) ?_
  refine lv_iconst (v := (-1 : Int32)) hx hb dMo_init_38 (by decide) ?_
  refine va_put (D := G) (ci := 5) (v := .int (-1 : Int32)) (ty := .int) (C := RMo) (T := TMo) (N := 15) hx hb hT inMo tyMo tyMo_ok nmMo hown hK hP hD hS 0 rfl rfl 7 (by decide) (hT _ mw_572) (fun _ h9 => h9) rfl (by decide +kernel) rfl rfl (Nat.le_of_ble_eq_true rfl) dMo_init_39 (fun H locs hP hD hS => ?_)
  have hP : va_P G vwCl [(m0, .inr (5, [.int (0 : Int32), .ref q1, .int (0 : Int32), .ref q2, .int (0 : Int32), .ref q3, .ref q4, .int (-1 : Int32), .int (0 : Int32), .int (0 : Int32), .int (0 : Int32), .int (0 : Int32), .int (0 : Int32), .int (0 : Int32), .int (0 : Int32)])), (q1, .inl (cI, 32768, .inl (fun _ => 0))), (q2, .inl (cI, 32768, .inl (fun _ => 0))), (q3, .inl (cL, 11, .inr (.inl (fun _ => 0)))), (q4, .inl (cI, 4096, .inl (fun _ => 0)))] H := hP
  have hD : va_D A [(m0, .inr (5, [.int (0 : Int32), .ref q1, .int (0 : Int32), .ref q2, .int (0 : Int32), .ref q3, .ref q4, .int (-1 : Int32), .int (0 : Int32), .int (0 : Int32), .int (0 : Int32), .int (0 : Int32), .int (0 : Int32), .int (0 : Int32), .int (0 : Int32)])), (q1, .inl (cI, 32768, .inl (fun _ => 0))), (q2, .inl (cI, 32768, .inl (fun _ => 0))), (q3, .inl (cL, 11, .inr (.inl (fun _ => 0)))), (q4, .inl (cI, 4096, .inl (fun _ => 0)))] := hD
  refine W.widen (k := 4) (n := 69643) (Nat.le_of_ble_eq_true rfl) (Nat.le_of_ble_eq_true rfl) ?_
  exact W.vret hx hb hr (fun t ht hW => ⟨⟨(), rfl, trivial, q1, q2, q3, q4, by rw [ht]; exact hP, hD⟩, hS.F ht⟩) hS.2.2 dMo_init_42
