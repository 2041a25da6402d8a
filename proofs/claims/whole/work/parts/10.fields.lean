def f_Fi_code (a0 : Int64) : Int32 :=
  (((a0).toInt32) &&& (255 : Int32))
set_option maxHeartbeats 4000000 in
set_option maxRecDepth 100000 in
theorem c_Fi_code (l : Launch) (Hp : Heap) (a0 : Int64) : Met l yFi_code wsFi_code ({ frames := 0, cells := 0, slots := 0, locals := 0 }) (va_Pc [.long a0] (fun U => U.heap = Hp)) (va_Qi (fun (r : Int32) (_ : Unit) => r = f_Fi_code a0) (fun _ t => t.heap = Hp) (fun _ => False)) 0 0 (fun _ => False) := by
  refine Met.ofW (cc := cFi_code) (maxL := 2) (ret := (some .int)) (by decide) rfl ?_
  intro p e s m args below meth c s₁ B hml hv
  obtain ⟨rfl, rfl⟩ := hv
  have hx := B.exec
  have hb := B.bytes
  have hr := B.returns
  have hT : ∀ w ∈ tB, w.before _ s = true := fun w h => atoms_spec (ws := wsFi_code) B.pre w (List.mem_cons_of_mem _ h)
  have hown : s.vm.findClass "CompiledProgram$Fields" = some m.cls := findClass_of_methodNamed B.named
  have hlocks := B.notSynchronized
  have hS : va_S (fun _ => False) s.heap s.heap [] := va_S.rf
  have hl := lv_entry ([.long a0]) (n := 2) (Nat.le_of_ble_eq_true rfl)
  rw [lg_entry_eq]
  generalize (lg_sl ([.long a0]) ++ List.replicate (2 - (lg_sl ([.long a0])).length) Slot.unset).toArray = ls at hl ⊢
  have hl : lv_has ls 2 [(0, .long a0)] := hl
  refine lv_lload_n hx hb dFi_code_0 rfl (lv_at hl 0 rfl) ?_
  refine lv_l2i hx hb dFi_code_1 rfl ?_
  refine lv_sipush (v := (255 : Int32)) hx hb dFi_code_2 (by decide) ?_
  refine lv_iand hx hb dFi_code_5 ?_
  exact W.iret (v := (((a0).toInt32) &&& (255 : Int32))) hx hb hr (fun t ht hW => ⟨⟨(((a0).toInt32) &&& (255 : Int32)), (), rfl, rfl, ht⟩, hS.F ht⟩) hS.2.2 dFi_code_6

def f_Fi_kind (a0 : Int64) : Int32 :=
  (((a0).toInt32) &&& (7 : Int32))
set_option maxHeartbeats 4000000 in
set_option maxRecDepth 100000 in
theorem c_Fi_kind (l : Launch) (Hp : Heap) (a0 : Int64) : Met l yFi_kind wsFi_kind ({ frames := 0, cells := 0, slots := 0, locals := 0 }) (va_Pc [.long a0] (fun U => U.heap = Hp)) (va_Qi (fun (r : Int32) (_ : Unit) => r = f_Fi_kind a0) (fun _ t => t.heap = Hp) (fun _ => False)) 0 0 (fun _ => False) := by
  refine Met.ofW (cc := cFi_kind) (maxL := 2) (ret := (some .int)) (by decide) rfl ?_
  intro p e s m args below meth c s₁ B hml hv
  obtain ⟨rfl, rfl⟩ := hv
  have hx := B.exec
  have hb := B.bytes
  have hr := B.returns
  have hT : ∀ w ∈ tB, w.before _ s = true := fun w h => atoms_spec (ws := wsFi_kind) B.pre w (List.mem_cons_of_mem _ h)
  have hown : s.vm.findClass "CompiledProgram$Fields" = some m.cls := findClass_of_methodNamed B.named
  have hlocks := B.notSynchronized
  have hS : va_S (fun _ => False) s.heap s.heap [] := va_S.rf
  have hl := lv_entry ([.long a0]) (n := 2) (Nat.le_of_ble_eq_true rfl)
  rw [lg_entry_eq]
  generalize (lg_sl ([.long a0]) ++ List.replicate (2 - (lg_sl ([.long a0])).length) Slot.unset).toArray = ls at hl ⊢
  have hl : lv_has ls 2 [(0, .long a0)] := hl
  refine lv_lload_n hx hb dFi_kind_0 rfl (lv_at hl 0 rfl) ?_
  refine lv_l2i hx hb dFi_kind_1 rfl ?_
  refine lv_bipush (v := (7 : Int32)) hx hb dFi_kind_2 (by decide) ?_
  refine lv_iand hx hb dFi_kind_4 ?_
  exact W.iret (v := (((a0).toInt32) &&& (7 : Int32))) hx hb hr (fun t ht hW => ⟨⟨(((a0).toInt32) &&& (7 : Int32)), (), rfl, rfl, ht⟩, hS.F ht⟩) hS.2.2 dFi_kind_5

def f_Fi_operation (a0 : Int64) : Int32 :=
  (((j_lushr a0 (4 : Int32)).toInt32) &&& (15 : Int32))
set_option maxHeartbeats 4000000 in
set_option maxRecDepth 100000 in
theorem c_Fi_operation (l : Launch) (Hp : Heap) (a0 : Int64) : Met l yFi_operation wsFi_operation ({ frames := 0, cells := 0, slots := 0, locals := 0 }) (va_Pc [.long a0] (fun U => U.heap = Hp)) (va_Qi (fun (r : Int32) (_ : Unit) => r = f_Fi_operation a0) (fun _ t => t.heap = Hp) (fun _ => False)) 0 0 (fun _ => False) := by
  refine Met.ofW (cc := cFi_operation) (maxL := 2) (ret := (some .int)) (by decide) rfl ?_
  intro p e s m args below meth c s₁ B hml hv
  obtain ⟨rfl, rfl⟩ := hv
  have hx := B.exec
  have hb := B.bytes
  have hr := B.returns
  have hT : ∀ w ∈ tB, w.before _ s = true := fun w h => atoms_spec (ws := wsFi_operation) B.pre w (List.mem_cons_of_mem _ h)
  have hown : s.vm.findClass "CompiledProgram$Fields" = some m.cls := findClass_of_methodNamed B.named
  have hlocks := B.notSynchronized
  have hS : va_S (fun _ => False) s.heap s.heap [] := va_S.rf
  have hl := lv_entry ([.long a0]) (n := 2) (Nat.le_of_ble_eq_true rfl)
  rw [lg_entry_eq]
  generalize (lg_sl ([.long a0]) ++ List.replicate (2 - (lg_sl ([.long a0])).length) Slot.unset).toArray = ls at hl ⊢
  have hl : lv_has ls 2 [(0, .long a0)] := hl
  refine lv_lload_n hx hb dFi_operation_0 rfl (lv_at hl 0 rfl) ?_
  refine lv_iconst (v := (4 : Int32)) hx hb dFi_operation_1 (by decide) ?_
  refine lv_lushr (v := (j_lushr a0 (4 : Int32))) hx hb dFi_operation_2 rfl ?_
  refine lv_l2i hx hb dFi_operation_3 rfl ?_
  refine lv_bipush (v := (15 : Int32)) hx hb dFi_operation_4 (by decide) ?_
  refine lv_iand hx hb dFi_operation_6 ?_
  exact W.iret (v := (((j_lushr a0 (4 : Int32)).toInt32) &&& (15 : Int32))) hx hb hr (fun t ht hW => ⟨⟨(((j_lushr a0 (4 : Int32)).toInt32) &&& (15 : Int32)), (), rfl, rfl, ht⟩, hS.F ht⟩) hS.2.2 dFi_operation_7

def f_Fi_usesSource (a0 : Int64) : Bool :=
  if (a0 &&& (8 : Int64)) = (0 : Int64) then
    false
  else
    true
set_option maxHeartbeats 4000000 in
set_option maxRecDepth 100000 in
theorem c_Fi_usesSource (l : Launch) (Hp : Heap) (a0 : Int64) : Met l yFi_usesSource wsFi_usesSource ({ frames := 0, cells := 0, slots := 0, locals := 0 }) (va_Pc [.long a0] (fun U => U.heap = Hp)) (va_Qi (fun (r : Int32) (_ : Unit) => r = (bI (f_Fi_usesSource a0))) (fun _ t => t.heap = Hp) (fun _ => False)) 0 0 (fun _ => False) := by
  refine Met.ofW (cc := cFi_usesSource) (maxL := 2) (ret := (some .boolean)) (by decide) rfl ?_
  intro p e s m args below meth c s₁ B hml hv
  obtain ⟨rfl, rfl⟩ := hv
  have hx := B.exec
  have hb := B.bytes
  have hr := B.returns
  have hT : ∀ w ∈ tB, w.before _ s = true := fun w h => atoms_spec (ws := wsFi_usesSource) B.pre w (List.mem_cons_of_mem _ h)
  have hown : s.vm.findClass "CompiledProgram$Fields" = some m.cls := findClass_of_methodNamed B.named
  have hlocks := B.notSynchronized
  have hS : va_S (fun _ => False) s.heap s.heap [] := va_S.rf
  have hl := lv_entry ([.long a0]) (n := 2) (Nat.le_of_ble_eq_true rfl)
  rw [lg_entry_eq]
  generalize (lg_sl ([.long a0]) ++ List.replicate (2 - (lg_sl ([.long a0])).length) Slot.unset).toArray = ls at hl ⊢
  have hl : lv_has ls 2 [(0, .long a0)] := hl
  refine lv_lload_n hx hb dFi_usesSource_0 rfl (lv_at hl 0 rfl) ?_
  refine lv_ldc2 (v := (8 : Int64)) hx hb hown (hT _ mw_195) dFi_usesSource_1 ?_
  refine lv_land hx hb dFi_usesSource_4 ?_
  refine lv_lconst (v := (0 : Int64)) hx hb dFi_usesSource_5 (by decide) ?_
  refine W.lcmp hx hb dFi_usesSource_6 ?_
  refine lv_if_eq (tgt := 14) hx hb dFi_usesSource_7 (by decide) (fun c1 => ?_) (fun c1 => ?_)
  · have c1 := (lg_cmp_eq _ _).mp c1
    refine lv_iconst (v := (0 : Int32)) hx hb dFi_usesSource_14 (by decide) ?_
    exact W.zret (v := (0 : Int32)) hx hb hr rfl (fun t ht hW => ⟨⟨(0 : Int32), (), rfl, (by unfold f_Fi_usesSource; rw [if_pos c1]; try rfl), ht⟩, hS.F ht⟩) hS.2.2 dFi_usesSource_15
  · have c1 := mt (lg_cmp_eq _ _).mpr c1
    refine lv_iconst (v := (1 : Int32)) hx hb dFi_usesSource_10 (by decide) ?_
    refine lv_goto (tgt := 15) hx hb dFi_usesSource_11 (by decide) ?_
    exact W.zret (v := (1 : Int32)) hx hb hr rfl (fun t ht hW => ⟨⟨(1 : Int32), (), rfl, (by unfold f_Fi_usesSource; rw [if_neg c1]; try rfl), ht⟩, hS.F ht⟩) hS.2.2 dFi_usesSource_15

def f_Fi_mode (a0 : Int64) : Int32 :=
  (((j_lushr a0 (5 : Int32)).toInt32) &&& (7 : Int32))
set_option maxHeartbeats 4000000 in
set_option maxRecDepth 100000 in
theorem c_Fi_mode (l : Launch) (Hp : Heap) (a0 : Int64) : Met l yFi_mode wsFi_mode ({ frames := 0, cells := 0, slots := 0, locals := 0 }) (va_Pc [.long a0] (fun U => U.heap = Hp)) (va_Qi (fun (r : Int32) (_ : Unit) => r = f_Fi_mode a0) (fun _ t => t.heap = Hp) (fun _ => False)) 0 0 (fun _ => False) := by
  refine Met.ofW (cc := cFi_mode) (maxL := 2) (ret := (some .int)) (by decide) rfl ?_
  intro p e s m args below meth c s₁ B hml hv
  obtain ⟨rfl, rfl⟩ := hv
  have hx := B.exec
  have hb := B.bytes
  have hr := B.returns
  have hT : ∀ w ∈ tB, w.before _ s = true := fun w h => atoms_spec (ws := wsFi_mode) B.pre w (List.mem_cons_of_mem _ h)
  have hown : s.vm.findClass "CompiledProgram$Fields" = some m.cls := findClass_of_methodNamed B.named
  have hlocks := B.notSynchronized
  have hS : va_S (fun _ => False) s.heap s.heap [] := va_S.rf
  have hl := lv_entry ([.long a0]) (n := 2) (Nat.le_of_ble_eq_true rfl)
  rw [lg_entry_eq]
  generalize (lg_sl ([.long a0]) ++ List.replicate (2 - (lg_sl ([.long a0])).length) Slot.unset).toArray = ls at hl ⊢
  have hl : lv_has ls 2 [(0, .long a0)] := hl
  refine lv_lload_n hx hb dFi_mode_0 rfl (lv_at hl 0 rfl) ?_
  refine lv_iconst (v := (5 : Int32)) hx hb dFi_mode_1 (by decide) ?_
  refine lv_lushr (v := (j_lushr a0 (5 : Int32))) hx hb dFi_mode_2 rfl ?_
  refine lv_l2i hx hb dFi_mode_3 rfl ?_
  refine lv_bipush (v := (7 : Int32)) hx hb dFi_mode_4 (by decide) ?_
  refine lv_iand hx hb dFi_mode_6 ?_
  exact W.iret (v := (((j_lushr a0 (5 : Int32)).toInt32) &&& (7 : Int32))) hx hb hr (fun t ht hW => ⟨⟨(((j_lushr a0 (5 : Int32)).toInt32) &&& (7 : Int32)), (), rfl, rfl, ht⟩, hS.F ht⟩) hS.2.2 dFi_mode_7

def f_Fi_size (a0 : Int64) : Int32 :=
  if (((j_lushr a0 (3 : Int32)).toInt32) &&& (3 : Int32)) = (0 : Int32) then
    (4 : Int32)
  else
    if (((j_lushr a0 (3 : Int32)).toInt32) &&& (3 : Int32)) = (1 : Int32) then
      (2 : Int32)
    else
      if (((j_lushr a0 (3 : Int32)).toInt32) &&& (3 : Int32)) = (2 : Int32) then
        (1 : Int32)
      else
        (8 : Int32)
set_option maxHeartbeats 4000000 in
set_option maxRecDepth 100000 in
theorem c_Fi_size (l : Launch) (Hp : Heap) (a0 : Int64) : Met l yFi_size wsFi_size ({ frames := 0, cells := 0, slots := 0, locals := 0 }) (va_Pc [.long a0] (fun U => U.heap = Hp)) (va_Qi (fun (r : Int32) (_ : Unit) => r = f_Fi_size a0) (fun _ t => t.heap = Hp) (fun _ => False)) 0 0 (fun _ => False) := by
  refine Met.ofW (cc := cFi_size) (maxL := 2) (ret := (some .int)) (by decide) rfl ?_
  intro p e s m args below meth c s₁ B hml hv
  obtain ⟨rfl, rfl⟩ := hv
  have hx := B.exec
  have hb := B.bytes
  have hr := B.returns
  have hT : ∀ w ∈ tB, w.before _ s = true := fun w h => atoms_spec (ws := wsFi_size) B.pre w (List.mem_cons_of_mem _ h)
  have hown : s.vm.findClass "CompiledProgram$Fields" = some m.cls := findClass_of_methodNamed B.named
  have hlocks := B.notSynchronized
  have hS : va_S (fun _ => False) s.heap s.heap [] := va_S.rf
  have hl := lv_entry ([.long a0]) (n := 2) (Nat.le_of_ble_eq_true rfl)
  rw [lg_entry_eq]
  generalize (lg_sl ([.long a0]) ++ List.replicate (2 - (lg_sl ([.long a0])).length) Slot.unset).toArray = ls at hl ⊢
  have hl : lv_has ls 2 [(0, .long a0)] := hl
  refine lv_lload_n hx hb dFi_size_0 rfl (lv_at hl 0 rfl) ?_
  refine lv_iconst (v := (3 : Int32)) hx hb dFi_size_1 (by decide) ?_
  refine lv_lushr (v := (j_lushr a0 (3 : Int32))) hx hb dFi_size_2 rfl ?_
  refine lv_l2i hx hb dFi_size_3 rfl ?_
  refine lv_iconst (v := (3 : Int32)) hx hb dFi_size_4 (by decide) ?_
  refine lv_iand hx hb dFi_size_5 ?_
  by_cases c1 : (((j_lushr a0 (3 : Int32)).toInt32) &&& (3 : Int32)) = (0 : Int32)
  · skip
    refine lv_tableIn (tgt := 32) (off := 26) hx hb dFi_size_6 (by rw [c1]; decide) (by rw [c1]; decide) (by rw [c1]; rfl) (by decide) ?_
    refine lv_iconst (v := (4 : Int32)) hx hb dFi_size_32 (by decide) ?_
    exact W.iret (v := (4 : Int32)) hx hb hr (fun t ht hW => ⟨⟨(4 : Int32), (), rfl, (by unfold f_Fi_size; rw [if_pos c1]; try rfl), ht⟩, hS.F ht⟩) hS.2.2 dFi_size_33
  by_cases c2 : (((j_lushr a0 (3 : Int32)).toInt32) &&& (3 : Int32)) = (1 : Int32)
  · skip
    refine lv_tableIn (tgt := 34) (off := 28) hx hb dFi_size_6 (by rw [c2]; decide) (by rw [c2]; decide) (by rw [c2]; rfl) (by decide) ?_
    refine lv_iconst (v := (2 : Int32)) hx hb dFi_size_34 (by decide) ?_
    exact W.iret (v := (2 : Int32)) hx hb hr (fun t ht hW => ⟨⟨(2 : Int32), (), rfl, (by unfold f_Fi_size; rw [if_neg c1, if_pos c2]; try rfl), ht⟩, hS.F ht⟩) hS.2.2 dFi_size_35
  by_cases c3 : (((j_lushr a0 (3 : Int32)).toInt32) &&& (3 : Int32)) = (2 : Int32)
  · skip
    refine lv_tableIn (tgt := 36) (off := 30) hx hb dFi_size_6 (by rw [c3]; decide) (by rw [c3]; decide) (by rw [c3]; rfl) (by decide) ?_
    refine lv_iconst (v := (1 : Int32)) hx hb dFi_size_36 (by decide) ?_
    exact W.iret (v := (1 : Int32)) hx hb hr (fun t ht hW => ⟨⟨(1 : Int32), (), rfl, (by unfold f_Fi_size; rw [if_neg c1, if_neg c2, if_pos c3]; try rfl), ht⟩, hS.F ht⟩) hS.2.2 dFi_size_37
  refine lv_tableOut (tgt := 38) hx hb dFi_size_6 (by have h0 := lv_neT c1 (a := 0) (by decide); have h1 := lv_neT c2 (a := 1) (by decide); have h2 := lv_neT c3 (a := 2) (by decide); omega) (by decide) ?_
  refine lv_bipush (v := (8 : Int32)) hx hb dFi_size_38 (by decide) ?_
  exact W.iret (v := (8 : Int32)) hx hb hr (fun t ht hW => ⟨⟨(8 : Int32), (), rfl, (by unfold f_Fi_size; rw [if_neg c1, if_neg c2, if_neg c3]; try rfl), ht⟩, hS.F ht⟩) hS.2.2 dFi_size_40

def f_Fi_target (a0 : Int64) : Int32 :=
  (((j_lushr a0 (8 : Int32)).toInt32) &&& (15 : Int32))
set_option maxHeartbeats 4000000 in
set_option maxRecDepth 100000 in
theorem c_Fi_target (l : Launch) (Hp : Heap) (a0 : Int64) : Met l yFi_target wsFi_target ({ frames := 0, cells := 0, slots := 0, locals := 0 }) (va_Pc [.long a0] (fun U => U.heap = Hp)) (va_Qi (fun (r : Int32) (_ : Unit) => r = f_Fi_target a0) (fun _ t => t.heap = Hp) (fun _ => False)) 0 0 (fun _ => False) := by
  refine Met.ofW (cc := cFi_target) (maxL := 2) (ret := (some .int)) (by decide) rfl ?_
  intro p e s m args below meth c s₁ B hml hv
  obtain ⟨rfl, rfl⟩ := hv
  have hx := B.exec
  have hb := B.bytes
  have hr := B.returns
  have hT : ∀ w ∈ tB, w.before _ s = true := fun w h => atoms_spec (ws := wsFi_target) B.pre w (List.mem_cons_of_mem _ h)
  have hown : s.vm.findClass "CompiledProgram$Fields" = some m.cls := findClass_of_methodNamed B.named
  have hlocks := B.notSynchronized
  have hS : va_S (fun _ => False) s.heap s.heap [] := va_S.rf
  have hl := lv_entry ([.long a0]) (n := 2) (Nat.le_of_ble_eq_true rfl)
  rw [lg_entry_eq]
  generalize (lg_sl ([.long a0]) ++ List.replicate (2 - (lg_sl ([.long a0])).length) Slot.unset).toArray = ls at hl ⊢
  have hl : lv_has ls 2 [(0, .long a0)] := hl
  refine lv_lload_n hx hb dFi_target_0 rfl (lv_at hl 0 rfl) ?_
  refine lv_bipush (v := (8 : Int32)) hx hb dFi_target_1 (by decide) ?_
  refine lv_lushr (v := (j_lushr a0 (8 : Int32))) hx hb dFi_target_3 rfl ?_
  refine lv_l2i hx hb dFi_target_4 rfl ?_
  refine lv_bipush (v := (15 : Int32)) hx hb dFi_target_5 (by decide) ?_
  refine lv_iand hx hb dFi_target_7 ?_
  exact W.iret (v := (((j_lushr a0 (8 : Int32)).toInt32) &&& (15 : Int32))) hx hb hr (fun t ht hW => ⟨⟨(((j_lushr a0 (8 : Int32)).toInt32) &&& (15 : Int32)), (), rfl, rfl, ht⟩, hS.F ht⟩) hS.2.2 dFi_target_8

def f_Fi_source (a0 : Int64) : Int32 :=
  (((j_lushr a0 (12 : Int32)).toInt32) &&& (15 : Int32))
set_option maxHeartbeats 4000000 in
set_option maxRecDepth 100000 in
theorem c_Fi_source (l : Launch) (Hp : Heap) (a0 : Int64) : Met l yFi_source wsFi_source ({ frames := 0, cells := 0, slots := 0, locals := 0 }) (va_Pc [.long a0] (fun U => U.heap = Hp)) (va_Qi (fun (r : Int32) (_ : Unit) => r = f_Fi_source a0) (fun _ t => t.heap = Hp) (fun _ => False)) 0 0 (fun _ => False) := by
  refine Met.ofW (cc := cFi_source) (maxL := 2) (ret := (some .int)) (by decide) rfl ?_
  intro p e s m args below meth c s₁ B hml hv
  obtain ⟨rfl, rfl⟩ := hv
  have hx := B.exec
  have hb := B.bytes
  have hr := B.returns
  have hT : ∀ w ∈ tB, w.before _ s = true := fun w h => atoms_spec (ws := wsFi_source) B.pre w (List.mem_cons_of_mem _ h)
  have hown : s.vm.findClass "CompiledProgram$Fields" = some m.cls := findClass_of_methodNamed B.named
  have hlocks := B.notSynchronized
  have hS : va_S (fun _ => False) s.heap s.heap [] := va_S.rf
  have hl := lv_entry ([.long a0]) (n := 2) (Nat.le_of_ble_eq_true rfl)
  rw [lg_entry_eq]
  generalize (lg_sl ([.long a0]) ++ List.replicate (2 - (lg_sl ([.long a0])).length) Slot.unset).toArray = ls at hl ⊢
  have hl : lv_has ls 2 [(0, .long a0)] := hl
  refine lv_lload_n hx hb dFi_source_0 rfl (lv_at hl 0 rfl) ?_
  refine lv_bipush (v := (12 : Int32)) hx hb dFi_source_1 (by decide) ?_
  refine lv_lushr (v := (j_lushr a0 (12 : Int32))) hx hb dFi_source_3 rfl ?_
  refine lv_l2i hx hb dFi_source_4 rfl ?_
  refine lv_bipush (v := (15 : Int32)) hx hb dFi_source_5 (by decide) ?_
  refine lv_iand hx hb dFi_source_7 ?_
  exact W.iret (v := (((j_lushr a0 (12 : Int32)).toInt32) &&& (15 : Int32))) hx hb hr (fun t ht hW => ⟨⟨(((j_lushr a0 (12 : Int32)).toInt32) &&& (15 : Int32)), (), rfl, rfl, ht⟩, hS.F ht⟩) hS.2.2 dFi_source_8

def f_Fi_offset (a0 : Int64) : Int32 :=
  (j_i2s ((j_lushr a0 (16 : Int32)).toInt32))
set_option maxHeartbeats 4000000 in
set_option maxRecDepth 100000 in
theorem c_Fi_offset (l : Launch) (Hp : Heap) (a0 : Int64) : Met l yFi_offset wsFi_offset ({ frames := 0, cells := 0, slots := 0, locals := 0 }) (va_Pc [.long a0] (fun U => U.heap = Hp)) (va_Qi (fun (r : Int32) (_ : Unit) => r = f_Fi_offset a0) (fun _ t => t.heap = Hp) (fun _ => False)) 0 0 (fun _ => False) := by
  refine Met.ofW (cc := cFi_offset) (maxL := 2) (ret := (some .int)) (by decide) rfl ?_
  intro p e s m args below meth c s₁ B hml hv
  obtain ⟨rfl, rfl⟩ := hv
  have hx := B.exec
  have hb := B.bytes
  have hr := B.returns
  have hT : ∀ w ∈ tB, w.before _ s = true := fun w h => atoms_spec (ws := wsFi_offset) B.pre w (List.mem_cons_of_mem _ h)
  have hown : s.vm.findClass "CompiledProgram$Fields" = some m.cls := findClass_of_methodNamed B.named
  have hlocks := B.notSynchronized
  have hS : va_S (fun _ => False) s.heap s.heap [] := va_S.rf
  have hl := lv_entry ([.long a0]) (n := 2) (Nat.le_of_ble_eq_true rfl)
  rw [lg_entry_eq]
  generalize (lg_sl ([.long a0]) ++ List.replicate (2 - (lg_sl ([.long a0])).length) Slot.unset).toArray = ls at hl ⊢
  have hl : lv_has ls 2 [(0, .long a0)] := hl
  refine lv_lload_n hx hb dFi_offset_0 rfl (lv_at hl 0 rfl) ?_
  refine lv_bipush (v := (16 : Int32)) hx hb dFi_offset_1 (by decide) ?_
  refine lv_lushr (v := (j_lushr a0 (16 : Int32))) hx hb dFi_offset_3 rfl ?_
  refine lv_l2i hx hb dFi_offset_4 rfl ?_
  refine lv_i2s (v := (j_i2s ((j_lushr a0 (16 : Int32)).toInt32))) hx hb dFi_offset_5 rfl ?_
  exact W.iret (v := (j_i2s ((j_lushr a0 (16 : Int32)).toInt32))) hx hb hr (fun t ht hW => ⟨⟨(j_i2s ((j_lushr a0 (16 : Int32)).toInt32)), (), rfl, rfl, ht⟩, hS.F ht⟩) hS.2.2 dFi_offset_6

def f_Fi_immediate (a0 : Int64) : Int32 :=
  ((j_lushr a0 (32 : Int32)).toInt32)
set_option maxHeartbeats 4000000 in
set_option maxRecDepth 100000 in
theorem c_Fi_immediate (l : Launch) (Hp : Heap) (a0 : Int64) : Met l yFi_immediate wsFi_immediate ({ frames := 0, cells := 0, slots := 0, locals := 0 }) (va_Pc [.long a0] (fun U => U.heap = Hp)) (va_Qi (fun (r : Int32) (_ : Unit) => r = f_Fi_immediate a0) (fun _ t => t.heap = Hp) (fun _ => False)) 0 0 (fun _ => False) := by
  refine Met.ofW (cc := cFi_immediate) (maxL := 2) (ret := (some .int)) (by decide) rfl ?_
  intro p e s m args below meth c s₁ B hml hv
  obtain ⟨rfl, rfl⟩ := hv
  have hx := B.exec
  have hb := B.bytes
  have hr := B.returns
  have hT : ∀ w ∈ tB, w.before _ s = true := fun w h => atoms_spec (ws := wsFi_immediate) B.pre w (List.mem_cons_of_mem _ h)
  have hown : s.vm.findClass "CompiledProgram$Fields" = some m.cls := findClass_of_methodNamed B.named
  have hlocks := B.notSynchronized
  have hS : va_S (fun _ => False) s.heap s.heap [] := va_S.rf
  have hl := lv_entry ([.long a0]) (n := 2) (Nat.le_of_ble_eq_true rfl)
  rw [lg_entry_eq]
  generalize (lg_sl ([.long a0]) ++ List.replicate (2 - (lg_sl ([.long a0])).length) Slot.unset).toArray = ls at hl ⊢
  have hl : lv_has ls 2 [(0, .long a0)] := hl
  refine lv_lload_n hx hb dFi_immediate_0 rfl (lv_at hl 0 rfl) ?_
  refine lv_bipush (v := (32 : Int32)) hx hb dFi_immediate_1 (by decide) ?_
  refine lv_lushr (v := (j_lushr a0 (32 : Int32))) hx hb dFi_immediate_3 rfl ?_
  refine lv_l2i hx hb dFi_immediate_4 rfl ?_
  exact W.iret (v := ((j_lushr a0 (32 : Int32)).toInt32)) hx hb hr (fun t ht hW => ⟨⟨((j_lushr a0 (32 : Int32)).toInt32), (), rfl, rfl, ht⟩, hS.F ht⟩) hS.2.2 dFi_immediate_5

def f_Fi_isTwoPlaces (a0 : Int64) : Bool :=
  if (f_Fi_code a0) = (24 : Int32) then
    true
  else
    false
set_option maxHeartbeats 4000000 in
set_option maxRecDepth 100000 in
theorem c_Fi_isTwoPlaces (l : Launch) (Hp : Heap) (a0 : Int64) : Met l yFi_isTwoPlaces wsFi_isTwoPlaces ({ frames := 1, cells := 0, slots := 0, locals := 21 }) (va_Pc [.long a0] (fun U => U.heap = Hp)) (va_Qi (fun (r : Int32) (_ : Unit) => r = (bI (f_Fi_isTwoPlaces a0))) (fun _ t => t.heap = Hp) (fun _ => False)) 0 0 (fun _ => False) := by
  refine Met.ofW (cc := cFi_isTwoPlaces) (maxL := 2) (ret := (some .boolean)) (by decide) rfl ?_
  intro p e s m args below meth c s₁ B hml hv
  obtain ⟨rfl, rfl⟩ := hv
  have hx := B.exec
  have hb := B.bytes
  have hr := B.returns
  have hT : ∀ w ∈ tB, w.before _ s = true := fun w h => atoms_spec (ws := wsFi_isTwoPlaces) B.pre w (List.mem_cons_of_mem _ h)
  have hown : s.vm.findClass "CompiledProgram$Fields" = some m.cls := findClass_of_methodNamed B.named
  have hlocks := B.notSynchronized
  have hS : va_S (fun _ => False) s.heap s.heap [] := va_S.rf
  have hl := lv_entry ([.long a0]) (n := 2) (Nat.le_of_ble_eq_true rfl)
  rw [lg_entry_eq]
  generalize (lg_sl ([.long a0]) ++ List.replicate (2 - (lg_sl ([.long a0])).length) Slot.unset).toArray = ls at hl ⊢
  have hl : lv_has ls 2 [(0, .long a0)] := hl
  refine lv_lload_n hx hb dFi_isTwoPlaces_0 rfl (lv_at hl 0 rfl) ?_
  refine va_calli (va_runS (As := [.long a0]) (rest := []) ⟨hx, hb, hml, hown, hT⟩ (c_Fi_code l s.heap a0) (cwS 1 hT (gB_S mw_143 mw_144 mw_16 mw_145) rfl rfl rfl (by decide +kernel) ⟨Nat.le_of_ble_eq_true rfl, Nat.le_of_ble_eq_true rfl⟩) ⟨fun _ _ _ _ q => q, fun U hU hW => ⟨rfl, hU⟩⟩ rfl rfl hl.1 rfl (lv_room (Nat.le_of_ble_eq_true rfl)) dFi_isTwoPlaces_1 ⟨Nat.zero_le _, Nat.zero_le _⟩) hS (fun _ _ h => h.elim) (fun _ h => h.elim) (fun r u t H1 locs ht hvm hw hB hz8 hk8 hS => ?_)
  obtain rfl : s.heap = H1 := hB.symm.trans ht
  subst hw
  refine lv_bipush (v := (24 : Int32)) hx hb dFi_isTwoPlaces_4 (by decide) ?_
  refine lv_icmp_ne (tgt := 13) hx hb dFi_isTwoPlaces_6 (by decide) (fun c1 => ?_) (fun c1 => ?_)
  · skip
    refine lv_iconst (v := (0 : Int32)) hx hb dFi_isTwoPlaces_13 (by decide) ?_
    exact W.zret (v := (0 : Int32)) hx hb hr rfl (fun t ht hW => ⟨⟨(0 : Int32), (), rfl, (by unfold f_Fi_isTwoPlaces; rw [if_neg c1]; try rfl), ht⟩, hS.F ht⟩) hS.2.2 dFi_isTwoPlaces_14
  · skip
    refine lv_iconst (v := (1 : Int32)) hx hb dFi_isTwoPlaces_9 (by decide) ?_
    refine lv_goto (tgt := 14) hx hb dFi_isTwoPlaces_10 (by decide) ?_
    exact W.zret (v := (1 : Int32)) hx hb hr rfl (fun t ht hW => ⟨⟨(1 : Int32), (), rfl, (by unfold f_Fi_isTwoPlaces; rw [if_pos c1]; try rfl), ht⟩, hS.F ht⟩) hS.2.2 dFi_isTwoPlaces_14

def f_Fi_isExit (a0 : Int64) : Bool :=
  if (f_Fi_code a0) = (149 : Int32) then
    true
  else
    false
set_option maxHeartbeats 4000000 in
set_option maxRecDepth 100000 in
theorem c_Fi_isExit (l : Launch) (Hp : Heap) (a0 : Int64) : Met l yFi_isExit wsFi_isExit ({ frames := 1, cells := 0, slots := 0, locals := 21 }) (va_Pc [.long a0] (fun U => U.heap = Hp)) (va_Qi (fun (r : Int32) (_ : Unit) => r = (bI (f_Fi_isExit a0))) (fun _ t => t.heap = Hp) (fun _ => False)) 0 0 (fun _ => False) := by
  refine Met.ofW (cc := cFi_isExit) (maxL := 2) (ret := (some .boolean)) (by decide) rfl ?_
  intro p e s m args below meth c s₁ B hml hv
  obtain ⟨rfl, rfl⟩ := hv
  have hx := B.exec
  have hb := B.bytes
  have hr := B.returns
  have hT : ∀ w ∈ tB, w.before _ s = true := fun w h => atoms_spec (ws := wsFi_isExit) B.pre w (List.mem_cons_of_mem _ h)
  have hown : s.vm.findClass "CompiledProgram$Fields" = some m.cls := findClass_of_methodNamed B.named
  have hlocks := B.notSynchronized
  have hS : va_S (fun _ => False) s.heap s.heap [] := va_S.rf
  have hl := lv_entry ([.long a0]) (n := 2) (Nat.le_of_ble_eq_true rfl)
  rw [lg_entry_eq]
  generalize (lg_sl ([.long a0]) ++ List.replicate (2 - (lg_sl ([.long a0])).length) Slot.unset).toArray = ls at hl ⊢
  have hl : lv_has ls 2 [(0, .long a0)] := hl
  refine lv_lload_n hx hb dFi_isExit_0 rfl (lv_at hl 0 rfl) ?_
  refine va_calli (va_runS (As := [.long a0]) (rest := []) ⟨hx, hb, hml, hown, hT⟩ (c_Fi_code l s.heap a0) (cwS 1 hT (gB_S mw_143 mw_144 mw_16 mw_145) rfl rfl rfl (by decide +kernel) ⟨Nat.le_of_ble_eq_true rfl, Nat.le_of_ble_eq_true rfl⟩) ⟨fun _ _ _ _ q => q, fun U hU hW => ⟨rfl, hU⟩⟩ rfl rfl hl.1 rfl (lv_room (Nat.le_of_ble_eq_true rfl)) dFi_isExit_1 ⟨Nat.zero_le _, Nat.zero_le _⟩) hS (fun _ _ h => h.elim) (fun _ h => h.elim) (fun r u t H1 locs ht hvm hw hB hz8 hk8 hS => ?_)
  obtain rfl : s.heap = H1 := hB.symm.trans ht
  subst hw
  refine lv_sipush (v := (149 : Int32)) hx hb dFi_isExit_4 (by decide) ?_
  refine lv_icmp_ne (tgt := 14) hx hb dFi_isExit_7 (by decide) (fun c1 => ?_) (fun c1 => ?_)
  · skip
    refine lv_iconst (v := (0 : Int32)) hx hb dFi_isExit_14 (by decide) ?_
    exact W.zret (v := (0 : Int32)) hx hb hr rfl (fun t ht hW => ⟨⟨(0 : Int32), (), rfl, (by unfold f_Fi_isExit; rw [if_neg c1]; try rfl), ht⟩, hS.F ht⟩) hS.2.2 dFi_isExit_15
  · skip
    refine lv_iconst (v := (1 : Int32)) hx hb dFi_isExit_10 (by decide) ?_
    refine lv_goto (tgt := 15) hx hb dFi_isExit_11 (by decide) ?_
    exact W.zret (v := (1 : Int32)) hx hb hr rfl (fun t ht hW => ⟨⟨(1 : Int32), (), rfl, (by unfold f_Fi_isExit; rw [if_pos c1]; try rfl), ht⟩, hS.F ht⟩) hS.2.2 dFi_isExit_15

def f_Fi_isCall (a0 : Int64) : Bool :=
  if (f_Fi_code a0) = (133 : Int32) then
    true
  else
    false
set_option maxHeartbeats 4000000 in
set_option maxRecDepth 100000 in
theorem c_Fi_isCall (l : Launch) (Hp : Heap) (a0 : Int64) : Met l yFi_isCall wsFi_isCall ({ frames := 1, cells := 0, slots := 0, locals := 21 }) (va_Pc [.long a0] (fun U => U.heap = Hp)) (va_Qi (fun (r : Int32) (_ : Unit) => r = (bI (f_Fi_isCall a0))) (fun _ t => t.heap = Hp) (fun _ => False)) 0 0 (fun _ => False) := by
  refine Met.ofW (cc := cFi_isCall) (maxL := 2) (ret := (some .boolean)) (by decide) rfl ?_
  intro p e s m args below meth c s₁ B hml hv
  obtain ⟨rfl, rfl⟩ := hv
  have hx := B.exec
  have hb := B.bytes
  have hr := B.returns
  have hT : ∀ w ∈ tB, w.before _ s = true := fun w h => atoms_spec (ws := wsFi_isCall) B.pre w (List.mem_cons_of_mem _ h)
  have hown : s.vm.findClass "CompiledProgram$Fields" = some m.cls := findClass_of_methodNamed B.named
  have hlocks := B.notSynchronized
  have hS : va_S (fun _ => False) s.heap s.heap [] := va_S.rf
  have hl := lv_entry ([.long a0]) (n := 2) (Nat.le_of_ble_eq_true rfl)
  rw [lg_entry_eq]
  generalize (lg_sl ([.long a0]) ++ List.replicate (2 - (lg_sl ([.long a0])).length) Slot.unset).toArray = ls at hl ⊢
  have hl : lv_has ls 2 [(0, .long a0)] := hl
  refine lv_lload_n hx hb dFi_isCall_0 rfl (lv_at hl 0 rfl) ?_
  refine va_calli (va_runS (As := [.long a0]) (rest := []) ⟨hx, hb, hml, hown, hT⟩ (c_Fi_code l s.heap a0) (cwS 1 hT (gB_S mw_143 mw_144 mw_16 mw_145) rfl rfl rfl (by decide +kernel) ⟨Nat.le_of_ble_eq_true rfl, Nat.le_of_ble_eq_true rfl⟩) ⟨fun _ _ _ _ q => q, fun U hU hW => ⟨rfl, hU⟩⟩ rfl rfl hl.1 rfl (lv_room (Nat.le_of_ble_eq_true rfl)) dFi_isCall_1 ⟨Nat.zero_le _, Nat.zero_le _⟩) hS (fun _ _ h => h.elim) (fun _ h => h.elim) (fun r u t H1 locs ht hvm hw hB hz8 hk8 hS => ?_)
  obtain rfl : s.heap = H1 := hB.symm.trans ht
  subst hw
  refine lv_sipush (v := (133 : Int32)) hx hb dFi_isCall_4 (by decide) ?_
  refine lv_icmp_ne (tgt := 14) hx hb dFi_isCall_7 (by decide) (fun c1 => ?_) (fun c1 => ?_)
  · skip
    refine lv_iconst (v := (0 : Int32)) hx hb dFi_isCall_14 (by decide) ?_
    exact W.zret (v := (0 : Int32)) hx hb hr rfl (fun t ht hW => ⟨⟨(0 : Int32), (), rfl, (by unfold f_Fi_isCall; rw [if_neg c1]; try rfl), ht⟩, hS.F ht⟩) hS.2.2 dFi_isCall_15
  · skip
    refine lv_iconst (v := (1 : Int32)) hx hb dFi_isCall_10 (by decide) ?_
    refine lv_goto (tgt := 15) hx hb dFi_isCall_11 (by decide) ?_
    exact W.zret (v := (1 : Int32)) hx hb hr rfl (fun t ht hW => ⟨⟨(1 : Int32), (), rfl, (by unfold f_Fi_isCall; rw [if_pos c1]; try rfl), ht⟩, hS.F ht⟩) hS.2.2 dFi_isCall_15

def f_Fi_jumpsAlways (a0 : Int64) : Bool :=
  if (f_Fi_code a0) = (5 : Int32) then
    true
  else
    if (f_Fi_code a0) = (6 : Int32) then
      true
    else
      false
set_option maxHeartbeats 4000000 in
set_option maxRecDepth 100000 in
theorem c_Fi_jumpsAlways (l : Launch) (Hp : Heap) (a0 : Int64) : Met l yFi_jumpsAlways wsFi_jumpsAlways ({ frames := 1, cells := 0, slots := 0, locals := 21 }) (va_Pc [.long a0] (fun U => U.heap = Hp)) (va_Qi (fun (r : Int32) (_ : Unit) => r = (bI (f_Fi_jumpsAlways a0))) (fun _ t => t.heap = Hp) (fun _ => False)) 0 0 (fun _ => False) := by
  refine Met.ofW (cc := cFi_jumpsAlways) (maxL := 2) (ret := (some .boolean)) (by decide) rfl ?_
  intro p e s m args below meth c s₁ B hml hv
  obtain ⟨rfl, rfl⟩ := hv
  have hx := B.exec
  have hb := B.bytes
  have hr := B.returns
  have hT : ∀ w ∈ tB, w.before _ s = true := fun w h => atoms_spec (ws := wsFi_jumpsAlways) B.pre w (List.mem_cons_of_mem _ h)
  have hown : s.vm.findClass "CompiledProgram$Fields" = some m.cls := findClass_of_methodNamed B.named
  have hlocks := B.notSynchronized
  have hS : va_S (fun _ => False) s.heap s.heap [] := va_S.rf
  have hl := lv_entry ([.long a0]) (n := 2) (Nat.le_of_ble_eq_true rfl)
  rw [lg_entry_eq]
  generalize (lg_sl ([.long a0]) ++ List.replicate (2 - (lg_sl ([.long a0])).length) Slot.unset).toArray = ls at hl ⊢
  have hl : lv_has ls 2 [(0, .long a0)] := hl
  refine lv_lload_n hx hb dFi_jumpsAlways_0 rfl (lv_at hl 0 rfl) ?_
  refine va_calli (va_runS (As := [.long a0]) (rest := []) ⟨hx, hb, hml, hown, hT⟩ (c_Fi_code l s.heap a0) (cwS 1 hT (gB_S mw_143 mw_144 mw_16 mw_145) rfl rfl rfl (by decide +kernel) ⟨Nat.le_of_ble_eq_true rfl, Nat.le_of_ble_eq_true rfl⟩) ⟨fun _ _ _ _ q => q, fun U hU hW => ⟨rfl, hU⟩⟩ rfl rfl hl.1 rfl (lv_room (Nat.le_of_ble_eq_true rfl)) dFi_jumpsAlways_1 ⟨Nat.zero_le _, Nat.zero_le _⟩) hS (fun _ _ h => h.elim) (fun _ h => h.elim) (fun r u t H1 locs ht hvm hw hB hz8 hk8 hS => ?_)
  obtain rfl : s.heap = H1 := hB.symm.trans ht
  subst hw
  refine lv_iconst (v := (5 : Int32)) hx hb dFi_jumpsAlways_4 (by decide) ?_
  refine lv_icmp_eq (tgt := 17) hx hb dFi_jumpsAlways_5 (by decide) (fun c1 => ?_) (fun c1 => ?_)
  · skip
    refine lv_iconst (v := (1 : Int32)) hx hb dFi_jumpsAlways_17 (by decide) ?_
    refine lv_goto (tgt := 22) hx hb dFi_jumpsAlways_18 (by decide) ?_
    exact W.zret (v := (1 : Int32)) hx hb hr rfl (fun t ht hW => ⟨⟨(1 : Int32), (), rfl, (by unfold f_Fi_jumpsAlways; rw [if_pos c1]; try rfl), ht⟩, hS.F ht⟩) hS.2.2 dFi_jumpsAlways_22
  · skip
    refine lv_lload_n hx hb dFi_jumpsAlways_8 rfl (lv_at hl 0 rfl) ?_
    refine va_calli (va_runS (As := [.long a0]) (rest := []) ⟨hx, hb, hml, hown, hT⟩ (c_Fi_code l s.heap a0) (cwS 1 hT (gB_S mw_143 mw_144 mw_16 mw_145) rfl rfl rfl (by decide +kernel) ⟨Nat.le_of_ble_eq_true rfl, Nat.le_of_ble_eq_true rfl⟩) ⟨fun _ _ _ _ q => q, fun U hU hW => ⟨rfl, hU⟩⟩ rfl rfl hl.1 rfl (lv_room (Nat.le_of_ble_eq_true rfl)) dFi_jumpsAlways_9 ⟨Nat.zero_le _, Nat.zero_le _⟩) hS (fun _ _ h => h.elim) (fun _ h => h.elim) (fun r u t H1 locs ht hvm hw hB hz8 hk8 hS => ?_)
    obtain rfl : s.heap = H1 := hB.symm.trans ht
    subst hw
    refine lv_bipush (v := (6 : Int32)) hx hb dFi_jumpsAlways_12 (by decide) ?_
    refine lv_icmp_ne (tgt := 21) hx hb dFi_jumpsAlways_14 (by decide) (fun c2 => ?_) (fun c2 => ?_)
    · skip
      refine lv_iconst (v := (0 : Int32)) hx hb dFi_jumpsAlways_21 (by decide) ?_
      exact W.zret (v := (0 : Int32)) hx hb hr rfl (fun t ht hW => ⟨⟨(0 : Int32), (), rfl, (by unfold f_Fi_jumpsAlways; rw [if_neg c1, if_neg c2]; try rfl), ht⟩, hS.F ht⟩) hS.2.2 dFi_jumpsAlways_22
    · skip
      refine lv_iconst (v := (1 : Int32)) hx hb dFi_jumpsAlways_17 (by decide) ?_
      refine lv_goto (tgt := 22) hx hb dFi_jumpsAlways_18 (by decide) ?_
      exact W.zret (v := (1 : Int32)) hx hb hr rfl (fun t ht hW => ⟨⟨(1 : Int32), (), rfl, (by unfold f_Fi_jumpsAlways; rw [if_neg c1, if_pos c2]; try rfl), ht⟩, hS.F ht⟩) hS.2.2 dFi_jumpsAlways_22

def f_Fi_jumpsPerhaps (a0 : Int64) : Bool :=
  if (f_Fi_kind a0) = (5 : Int32) then
    if (f_Fi_operation a0) < (1 : Int32) then
      if (f_Fi_operation a0) < (10 : Int32) then
        false
      else
        if (13 : Int32) < (f_Fi_operation a0) then
          false
        else
          true
    else
      if (f_Fi_operation a0) ≤ (7 : Int32) then
        true
      else
        if (f_Fi_operation a0) < (10 : Int32) then
          false
        else
          if (13 : Int32) < (f_Fi_operation a0) then
            false
          else
            true
  else
    if (f_Fi_kind a0) = (6 : Int32) then
      if (f_Fi_operation a0) < (1 : Int32) then
        if (f_Fi_operation a0) < (10 : Int32) then
          false
        else
          if (13 : Int32) < (f_Fi_operation a0) then
            false
          else
            true
      else
        if (f_Fi_operation a0) ≤ (7 : Int32) then
          true
        else
          if (f_Fi_operation a0) < (10 : Int32) then
            false
          else
            if (13 : Int32) < (f_Fi_operation a0) then
              false
            else
              true
    else
      false
set_option maxHeartbeats 4000000 in
set_option maxRecDepth 100000 in
theorem c_Fi_jumpsPerhaps (l : Launch) (Hp : Heap) (a0 : Int64) : Met l yFi_jumpsPerhaps wsFi_jumpsPerhaps ({ frames := 1, cells := 0, slots := 0, locals := 21 }) (va_Pc [.long a0] (fun U => U.heap = Hp)) (va_Qi (fun (r : Int32) (_ : Unit) => r = (bI (f_Fi_jumpsPerhaps a0))) (fun _ t => t.heap = Hp) (fun _ => False)) 0 0 (fun _ => False) := by
  refine Met.ofW (cc := cFi_jumpsPerhaps) (maxL := 4) (ret := (some .boolean)) (by decide) rfl ?_
  intro p e s m args below meth c s₁ B hml hv
  obtain ⟨rfl, rfl⟩ := hv
  have hx := B.exec
  have hb := B.bytes
  have hr := B.returns
  have hT : ∀ w ∈ tB, w.before _ s = true := fun w h => atoms_spec (ws := wsFi_jumpsPerhaps) B.pre w (List.mem_cons_of_mem _ h)
  have hown : s.vm.findClass "CompiledProgram$Fields" = some m.cls := findClass_of_methodNamed B.named
  have hlocks := B.notSynchronized
  have hS : va_S (fun _ => False) s.heap s.heap [] := va_S.rf
  have hl := lv_entry ([.long a0]) (n := 4) (Nat.le_of_ble_eq_true rfl)
  rw [lg_entry_eq]
  generalize (lg_sl ([.long a0]) ++ List.replicate (4 - (lg_sl ([.long a0])).length) Slot.unset).toArray = ls at hl ⊢
  have hl : lv_has ls 4 [(0, .long a0)] := hl
  refine lv_lload_n hx hb dFi_jumpsPerhaps_0 rfl (lv_at hl 0 rfl) ?_
  refine va_calli (va_runS (As := [.long a0]) (rest := []) ⟨hx, hb, hml, hown, hT⟩ (c_Fi_operation l s.heap a0) (cwS 1 hT (gB_S mw_182 mw_183 mw_16 mw_184) rfl rfl rfl (by decide +kernel) ⟨Nat.le_of_ble_eq_true rfl, Nat.le_of_ble_eq_true rfl⟩) ⟨fun _ _ _ _ q => q, fun U hU hW => ⟨rfl, hU⟩⟩ rfl rfl hl.1 rfl (lv_room (Nat.le_of_ble_eq_true rfl)) dFi_jumpsPerhaps_1 ⟨Nat.zero_le _, Nat.zero_le _⟩) hS (fun _ _ h => h.elim) (fun _ h => h.elim) (fun r u t H1 locs ht hvm hw hB hz8 hk8 hS => ?_)
  obtain rfl : s.heap = H1 := hB.symm.trans ht
  subst hw
  refine lv_istore_n (lv' := [(2, .int (f_Fi_operation a0)), (0, .long a0)]) hx hb dFi_jumpsPerhaps_4 rfl hl (by decide) rfl (fun ls hl => ?_)
  refine lv_lload_n hx hb dFi_jumpsPerhaps_5 rfl (lv_at hl 1 rfl) ?_
  refine va_calli (va_runS (As := [.long a0]) (rest := []) ⟨hx, hb, hml, hown, hT⟩ (c_Fi_kind l s.heap a0) (cwS 1 hT (gB_S mw_185 mw_132 mw_16 mw_133) rfl rfl rfl (by decide +kernel) ⟨Nat.le_of_ble_eq_true rfl, Nat.le_of_ble_eq_true rfl⟩) ⟨fun _ _ _ _ q => q, fun U hU hW => ⟨rfl, hU⟩⟩ rfl rfl hl.1 rfl (lv_room (Nat.le_of_ble_eq_true rfl)) dFi_jumpsPerhaps_6 ⟨Nat.zero_le _, Nat.zero_le _⟩) hS (fun _ _ h => h.elim) (fun _ h => h.elim) (fun r u t H1 locs ht hvm hw hB hz8 hk8 hS => ?_)
  obtain rfl : s.heap = H1 := hB.symm.trans ht
  subst hw
  refine lv_iconst (v := (5 : Int32)) hx hb dFi_jumpsPerhaps_9 (by decide) ?_
  refine lv_icmp_eq (tgt := 22) hx hb dFi_jumpsPerhaps_10 (by decide) (fun c1 => ?_) (fun c1 => ?_)
  · skip
    refine lv_iconst (v := (1 : Int32)) hx hb dFi_jumpsPerhaps_22 (by decide) ?_
    refine lv_goto (tgt := 27) hx hb dFi_jumpsPerhaps_23 (by decide) ?_
    refine lv_istore_n (lv' := [(3, .int (1 : Int32)), (2, .int (f_Fi_operation a0)), (0, .long a0)]) hx hb dFi_jumpsPerhaps_27 rfl hl (by decide) rfl (fun ls hl => ?_)
    refine lv_iload_n hx hb dFi_jumpsPerhaps_28 rfl (lv_at hl 0 rfl) ?_
    refine lv_if_eq (tgt := 59) hx hb dFi_jumpsPerhaps_29 (by decide) (fun c2 => absurd c2 (by decide)) (fun _ => ?_)
    refine lv_iload_n hx hb dFi_jumpsPerhaps_32 rfl (lv_at hl 1 rfl) ?_
    refine lv_iconst (v := (1 : Int32)) hx hb dFi_jumpsPerhaps_33 (by decide) ?_
    refine lv_icmp_lt (tgt := 43) hx hb dFi_jumpsPerhaps_34 (by decide) (fun c3 => ?_) (fun c3 => ?_)
    · skip
      refine lv_iload_n hx hb dFi_jumpsPerhaps_43 rfl (lv_at hl 1 rfl) ?_
      refine lv_bipush (v := (10 : Int32)) hx hb dFi_jumpsPerhaps_44 (by decide) ?_
      refine lv_icmp_lt (tgt := 59) hx hb dFi_jumpsPerhaps_46 (by decide) (fun c4 => ?_) (fun c4 => ?_)
      · skip
        refine lv_iconst (v := (0 : Int32)) hx hb dFi_jumpsPerhaps_59 (by decide) ?_
        exact W.zret (v := (0 : Int32)) hx hb hr rfl (fun t ht hW => ⟨⟨(0 : Int32), (), rfl, (by unfold f_Fi_jumpsPerhaps; rw [if_pos c1, if_pos c3, if_pos c4]; try rfl), ht⟩, hS.F ht⟩) hS.2.2 dFi_jumpsPerhaps_60
      · skip
        refine lv_iload_n hx hb dFi_jumpsPerhaps_49 rfl (lv_at hl 1 rfl) ?_
        refine lv_bipush (v := (13 : Int32)) hx hb dFi_jumpsPerhaps_50 (by decide) ?_
        refine lv_icmp_gt (tgt := 59) hx hb dFi_jumpsPerhaps_52 (by decide) (fun c5 => ?_) (fun c5 => ?_)
        · skip
          refine lv_iconst (v := (0 : Int32)) hx hb dFi_jumpsPerhaps_59 (by decide) ?_
          exact W.zret (v := (0 : Int32)) hx hb hr rfl (fun t ht hW => ⟨⟨(0 : Int32), (), rfl, (by unfold f_Fi_jumpsPerhaps; rw [if_pos c1, if_pos c3, if_neg c4, if_pos c5]; try rfl), ht⟩, hS.F ht⟩) hS.2.2 dFi_jumpsPerhaps_60
        · skip
          refine lv_iconst (v := (1 : Int32)) hx hb dFi_jumpsPerhaps_55 (by decide) ?_
          refine lv_goto (tgt := 60) hx hb dFi_jumpsPerhaps_56 (by decide) ?_
          exact W.zret (v := (1 : Int32)) hx hb hr rfl (fun t ht hW => ⟨⟨(1 : Int32), (), rfl, (by unfold f_Fi_jumpsPerhaps; rw [if_pos c1, if_pos c3, if_neg c4, if_neg c5]; try rfl), ht⟩, hS.F ht⟩) hS.2.2 dFi_jumpsPerhaps_60
    · skip
      refine lv_iload_n hx hb dFi_jumpsPerhaps_37 rfl (lv_at hl 1 rfl) ?_
      refine lv_bipush (v := (7 : Int32)) hx hb dFi_jumpsPerhaps_38 (by decide) ?_
      refine lv_icmp_le (tgt := 55) hx hb dFi_jumpsPerhaps_40 (by decide) (fun c6 => ?_) (fun c6 => ?_)
      · skip
        refine lv_iconst (v := (1 : Int32)) hx hb dFi_jumpsPerhaps_55 (by decide) ?_
        refine lv_goto (tgt := 60) hx hb dFi_jumpsPerhaps_56 (by decide) ?_
        exact W.zret (v := (1 : Int32)) hx hb hr rfl (fun t ht hW => ⟨⟨(1 : Int32), (), rfl, (by unfold f_Fi_jumpsPerhaps; rw [if_pos c1, if_neg c3, if_pos c6]; try rfl), ht⟩, hS.F ht⟩) hS.2.2 dFi_jumpsPerhaps_60
      · skip
        refine lv_iload_n hx hb dFi_jumpsPerhaps_43 rfl (lv_at hl 1 rfl) ?_
        refine lv_bipush (v := (10 : Int32)) hx hb dFi_jumpsPerhaps_44 (by decide) ?_
        refine lv_icmp_lt (tgt := 59) hx hb dFi_jumpsPerhaps_46 (by decide) (fun c7 => ?_) (fun c7 => ?_)
        · skip
          refine lv_iconst (v := (0 : Int32)) hx hb dFi_jumpsPerhaps_59 (by decide) ?_
          exact W.zret (v := (0 : Int32)) hx hb hr rfl (fun t ht hW => ⟨⟨(0 : Int32), (), rfl, (by unfold f_Fi_jumpsPerhaps; rw [if_pos c1, if_neg c3, if_neg c6, if_pos c7]; try rfl), ht⟩, hS.F ht⟩) hS.2.2 dFi_jumpsPerhaps_60
        · skip
          refine lv_iload_n hx hb dFi_jumpsPerhaps_49 rfl (lv_at hl 1 rfl) ?_
          refine lv_bipush (v := (13 : Int32)) hx hb dFi_jumpsPerhaps_50 (by decide) ?_
          refine lv_icmp_gt (tgt := 59) hx hb dFi_jumpsPerhaps_52 (by decide) (fun c8 => ?_) (fun c8 => ?_)
          · skip
            refine lv_iconst (v := (0 : Int32)) hx hb dFi_jumpsPerhaps_59 (by decide) ?_
            exact W.zret (v := (0 : Int32)) hx hb hr rfl (fun t ht hW => ⟨⟨(0 : Int32), (), rfl, (by unfold f_Fi_jumpsPerhaps; rw [if_pos c1, if_neg c3, if_neg c6, if_neg c7, if_pos c8]; try rfl), ht⟩, hS.F ht⟩) hS.2.2 dFi_jumpsPerhaps_60
          · skip
            refine lv_iconst (v := (1 : Int32)) hx hb dFi_jumpsPerhaps_55 (by decide) ?_
            refine lv_goto (tgt := 60) hx hb dFi_jumpsPerhaps_56 (by decide) ?_
            exact W.zret (v := (1 : Int32)) hx hb hr rfl (fun t ht hW => ⟨⟨(1 : Int32), (), rfl, (by unfold f_Fi_jumpsPerhaps; rw [if_pos c1, if_neg c3, if_neg c6, if_neg c7, if_neg c8]; try rfl), ht⟩, hS.F ht⟩) hS.2.2 dFi_jumpsPerhaps_60
  · skip
    refine lv_lload_n hx hb dFi_jumpsPerhaps_13 rfl (lv_at hl 1 rfl) ?_
    refine va_calli (va_runS (As := [.long a0]) (rest := []) ⟨hx, hb, hml, hown, hT⟩ (c_Fi_kind l s.heap a0) (cwS 1 hT (gB_S mw_185 mw_132 mw_16 mw_133) rfl rfl rfl (by decide +kernel) ⟨Nat.le_of_ble_eq_true rfl, Nat.le_of_ble_eq_true rfl⟩) ⟨fun _ _ _ _ q => q, fun U hU hW => ⟨rfl, hU⟩⟩ rfl rfl hl.1 rfl (lv_room (Nat.le_of_ble_eq_true rfl)) dFi_jumpsPerhaps_14 ⟨Nat.zero_le _, Nat.zero_le _⟩) hS (fun _ _ h => h.elim) (fun _ h => h.elim) (fun r u t H1 locs ht hvm hw hB hz8 hk8 hS => ?_)
    obtain rfl : s.heap = H1 := hB.symm.trans ht
    subst hw
    refine lv_bipush (v := (6 : Int32)) hx hb dFi_jumpsPerhaps_17 (by decide) ?_
    refine lv_icmp_ne (tgt := 26) hx hb dFi_jumpsPerhaps_19 (by decide) (fun c9 => ?_) (fun c9 => ?_)
    · skip
      refine lv_iconst (v := (0 : Int32)) hx hb dFi_jumpsPerhaps_26 (by decide) ?_
      refine lv_istore_n (lv' := [(3, .int (0 : Int32)), (2, .int (f_Fi_operation a0)), (0, .long a0)]) hx hb dFi_jumpsPerhaps_27 rfl hl (by decide) rfl (fun ls hl => ?_)
      refine lv_iload_n hx hb dFi_jumpsPerhaps_28 rfl (lv_at hl 0 rfl) ?_
      refine lv_if_eq (tgt := 59) hx hb dFi_jumpsPerhaps_29 (by decide) (fun _ => ?_) (fun c10 => absurd c10 (by decide))
      refine lv_iconst (v := (0 : Int32)) hx hb dFi_jumpsPerhaps_59 (by decide) ?_
      exact W.zret (v := (0 : Int32)) hx hb hr rfl (fun t ht hW => ⟨⟨(0 : Int32), (), rfl, (by unfold f_Fi_jumpsPerhaps; rw [if_neg c1, if_neg c9]; try rfl), ht⟩, hS.F ht⟩) hS.2.2 dFi_jumpsPerhaps_60
    · skip
      refine lv_iconst (v := (1 : Int32)) hx hb dFi_jumpsPerhaps_22 (by decide) ?_
      refine lv_goto (tgt := 27) hx hb dFi_jumpsPerhaps_23 (by decide) ?_
      refine lv_istore_n (lv' := [(3, .int (1 : Int32)), (2, .int (f_Fi_operation a0)), (0, .long a0)]) hx hb dFi_jumpsPerhaps_27 rfl hl (by decide) rfl (fun ls hl => ?_)
      refine lv_iload_n hx hb dFi_jumpsPerhaps_28 rfl (lv_at hl 0 rfl) ?_
      refine lv_if_eq (tgt := 59) hx hb dFi_jumpsPerhaps_29 (by decide) (fun c11 => absurd c11 (by decide)) (fun _ => ?_)
      refine lv_iload_n hx hb dFi_jumpsPerhaps_32 rfl (lv_at hl 1 rfl) ?_
      refine lv_iconst (v := (1 : Int32)) hx hb dFi_jumpsPerhaps_33 (by decide) ?_
      refine lv_icmp_lt (tgt := 43) hx hb dFi_jumpsPerhaps_34 (by decide) (fun c12 => ?_) (fun c12 => ?_)
      · skip
        refine lv_iload_n hx hb dFi_jumpsPerhaps_43 rfl (lv_at hl 1 rfl) ?_
        refine lv_bipush (v := (10 : Int32)) hx hb dFi_jumpsPerhaps_44 (by decide) ?_
        refine lv_icmp_lt (tgt := 59) hx hb dFi_jumpsPerhaps_46 (by decide) (fun c13 => ?_) (fun c13 => ?_)
        · skip
          refine lv_iconst (v := (0 : Int32)) hx hb dFi_jumpsPerhaps_59 (by decide) ?_
          exact W.zret (v := (0 : Int32)) hx hb hr rfl (fun t ht hW => ⟨⟨(0 : Int32), (), rfl, (by unfold f_Fi_jumpsPerhaps; rw [if_neg c1, if_pos c9, if_pos c12, if_pos c13]; try rfl), ht⟩, hS.F ht⟩) hS.2.2 dFi_jumpsPerhaps_60
        · skip
          refine lv_iload_n hx hb dFi_jumpsPerhaps_49 rfl (lv_at hl 1 rfl) ?_
          refine lv_bipush (v := (13 : Int32)) hx hb dFi_jumpsPerhaps_50 (by decide) ?_
          refine lv_icmp_gt (tgt := 59) hx hb dFi_jumpsPerhaps_52 (by decide) (fun c14 => ?_) (fun c14 => ?_)
          · skip
            refine lv_iconst (v := (0 : Int32)) hx hb dFi_jumpsPerhaps_59 (by decide) ?_
            exact W.zret (v := (0 : Int32)) hx hb hr rfl (fun t ht hW => ⟨⟨(0 : Int32), (), rfl, (by unfold f_Fi_jumpsPerhaps; rw [if_neg c1, if_pos c9, if_pos c12, if_neg c13, if_pos c14]; try rfl), ht⟩, hS.F ht⟩) hS.2.2 dFi_jumpsPerhaps_60
          · skip
            refine lv_iconst (v := (1 : Int32)) hx hb dFi_jumpsPerhaps_55 (by decide) ?_
            refine lv_goto (tgt := 60) hx hb dFi_jumpsPerhaps_56 (by decide) ?_
            exact W.zret (v := (1 : Int32)) hx hb hr rfl (fun t ht hW => ⟨⟨(1 : Int32), (), rfl, (by unfold f_Fi_jumpsPerhaps; rw [if_neg c1, if_pos c9, if_pos c12, if_neg c13, if_neg c14]; try rfl), ht⟩, hS.F ht⟩) hS.2.2 dFi_jumpsPerhaps_60
      · skip
        refine lv_iload_n hx hb dFi_jumpsPerhaps_37 rfl (lv_at hl 1 rfl) ?_
        refine lv_bipush (v := (7 : Int32)) hx hb dFi_jumpsPerhaps_38 (by decide) ?_
        refine lv_icmp_le (tgt := 55) hx hb dFi_jumpsPerhaps_40 (by decide) (fun c15 => ?_) (fun c15 => ?_)
        · skip
          refine lv_iconst (v := (1 : Int32)) hx hb dFi_jumpsPerhaps_55 (by decide) ?_
          refine lv_goto (tgt := 60) hx hb dFi_jumpsPerhaps_56 (by decide) ?_
          exact W.zret (v := (1 : Int32)) hx hb hr rfl (fun t ht hW => ⟨⟨(1 : Int32), (), rfl, (by unfold f_Fi_jumpsPerhaps; rw [if_neg c1, if_pos c9, if_neg c12, if_pos c15]; try rfl), ht⟩, hS.F ht⟩) hS.2.2 dFi_jumpsPerhaps_60
        · skip
          refine lv_iload_n hx hb dFi_jumpsPerhaps_43 rfl (lv_at hl 1 rfl) ?_
          refine lv_bipush (v := (10 : Int32)) hx hb dFi_jumpsPerhaps_44 (by decide) ?_
          refine lv_icmp_lt (tgt := 59) hx hb dFi_jumpsPerhaps_46 (by decide) (fun c16 => ?_) (fun c16 => ?_)
          · skip
            refine lv_iconst (v := (0 : Int32)) hx hb dFi_jumpsPerhaps_59 (by decide) ?_
            exact W.zret (v := (0 : Int32)) hx hb hr rfl (fun t ht hW => ⟨⟨(0 : Int32), (), rfl, (by unfold f_Fi_jumpsPerhaps; rw [if_neg c1, if_pos c9, if_neg c12, if_neg c15, if_pos c16]; try rfl), ht⟩, hS.F ht⟩) hS.2.2 dFi_jumpsPerhaps_60
          · skip
            refine lv_iload_n hx hb dFi_jumpsPerhaps_49 rfl (lv_at hl 1 rfl) ?_
            refine lv_bipush (v := (13 : Int32)) hx hb dFi_jumpsPerhaps_50 (by decide) ?_
            refine lv_icmp_gt (tgt := 59) hx hb dFi_jumpsPerhaps_52 (by decide) (fun c17 => ?_) (fun c17 => ?_)
            · skip
              refine lv_iconst (v := (0 : Int32)) hx hb dFi_jumpsPerhaps_59 (by decide) ?_
              exact W.zret (v := (0 : Int32)) hx hb hr rfl (fun t ht hW => ⟨⟨(0 : Int32), (), rfl, (by unfold f_Fi_jumpsPerhaps; rw [if_neg c1, if_pos c9, if_neg c12, if_neg c15, if_neg c16, if_pos c17]; try rfl), ht⟩, hS.F ht⟩) hS.2.2 dFi_jumpsPerhaps_60
            · skip
              refine lv_iconst (v := (1 : Int32)) hx hb dFi_jumpsPerhaps_55 (by decide) ?_
              refine lv_goto (tgt := 60) hx hb dFi_jumpsPerhaps_56 (by decide) ?_
              exact W.zret (v := (1 : Int32)) hx hb hr rfl (fun t ht hW => ⟨⟨(1 : Int32), (), rfl, (by unfold f_Fi_jumpsPerhaps; rw [if_neg c1, if_pos c9, if_neg c12, if_neg c15, if_neg c16, if_neg c17]; try rfl), ht⟩, hS.F ht⟩) hS.2.2 dFi_jumpsPerhaps_60

def f_Fi_jumpFrom (a0 : Int32) (a1 : Int64) : Int64 :=
  if (f_Fi_code a1) = (6 : Int32) then
    ((((a0).toInt64) + (1 : Int64)) + ((f_Fi_immediate a1).toInt64))
  else
    ((((a0).toInt64) + (1 : Int64)) + ((f_Fi_offset a1).toInt64))
set_option maxHeartbeats 4000000 in
set_option maxRecDepth 100000 in
theorem c_Fi_jumpFrom (l : Launch) (Hp : Heap) (a0 : Int32) (a1 : Int64) : Met l yFi_jumpFrom wsFi_jumpFrom ({ frames := 1, cells := 0, slots := 0, locals := 21 }) (va_Pc [.int a0, .long a1] (fun U => U.heap = Hp)) (va_Ql (fun (r : Int64) (_ : Unit) => r = f_Fi_jumpFrom a0 a1) (fun _ t => t.heap = Hp) (fun _ => False)) 0 0 (fun _ => False) := by
  refine Met.ofW (cc := cFi_jumpFrom) (maxL := 3) (ret := (some .long)) (by decide) rfl ?_
  intro p e s m args below meth c s₁ B hml hv
  obtain ⟨rfl, rfl⟩ := hv
  have hx := B.exec
  have hb := B.bytes
  have hr := B.returns
  have hT : ∀ w ∈ tB, w.before _ s = true := fun w h => atoms_spec (ws := wsFi_jumpFrom) B.pre w (List.mem_cons_of_mem _ h)
  have hown : s.vm.findClass "CompiledProgram$Fields" = some m.cls := findClass_of_methodNamed B.named
  have hlocks := B.notSynchronized
  have hS : va_S (fun _ => False) s.heap s.heap [] := va_S.rf
  have hl := lv_entry ([.int a0, .long a1]) (n := 3) (Nat.le_of_ble_eq_true rfl)
  rw [lg_entry_eq]
  generalize (lg_sl ([.int a0, .long a1]) ++ List.replicate (3 - (lg_sl ([.int a0, .long a1])).length) Slot.unset).toArray = ls at hl ⊢
  have hl : lv_has ls 3 [(0, .int a0), (1, .long a1)] := hl
  refine lv_iload_n hx hb dFi_jumpFrom_0 rfl (lv_at hl 0 rfl) ?_
  refine lv_i2l hx hb dFi_jumpFrom_1 rfl ?_
  refine lv_lconst (v := (1 : Int64)) hx hb dFi_jumpFrom_2 (by decide) ?_
  refine lv_ladd hx hb dFi_jumpFrom_3 ?_
  refine lv_lload_n hx hb dFi_jumpFrom_4 rfl (lv_at hl 1 rfl) ?_
  refine va_calli (va_runS (As := [.long a1]) (rest := [.long (((a0).toInt64) + (1 : Int64))]) ⟨hx, hb, hml, hown, hT⟩ (c_Fi_code l s.heap a1) (cwS 1 hT (gB_S mw_143 mw_144 mw_16 mw_145) rfl rfl rfl (by decide +kernel) ⟨Nat.le_of_ble_eq_true rfl, Nat.le_of_ble_eq_true rfl⟩) ⟨fun _ _ _ _ q => q, fun U hU hW => ⟨rfl, hU⟩⟩ rfl rfl hl.1 rfl (lv_room (Nat.le_of_ble_eq_true rfl)) dFi_jumpFrom_5 ⟨Nat.zero_le _, Nat.zero_le _⟩) hS (fun _ _ h => h.elim) (fun _ h => h.elim) (fun r u t H1 locs ht hvm hw hB hz8 hk8 hS => ?_)
  obtain rfl : s.heap = H1 := hB.symm.trans ht
  subst hw
  refine lv_bipush (v := (6 : Int32)) hx hb dFi_jumpFrom_8 (by decide) ?_
  refine lv_icmp_ne (tgt := 20) hx hb dFi_jumpFrom_10 (by decide) (fun c1 => ?_) (fun c1 => ?_)
  · skip
    refine lv_lload_n hx hb dFi_jumpFrom_20 rfl (lv_at hl 1 rfl) ?_
    refine va_calli (va_runS (As := [.long a1]) (rest := [.long (((a0).toInt64) + (1 : Int64))]) ⟨hx, hb, hml, hown, hT⟩ (c_Fi_offset l s.heap a1) (cwS 1 hT (gB_S mw_230 mw_150 mw_16 mw_151) rfl rfl rfl (by decide +kernel) ⟨Nat.le_of_ble_eq_true rfl, Nat.le_of_ble_eq_true rfl⟩) ⟨fun _ _ _ _ q => q, fun U hU hW => ⟨rfl, hU⟩⟩ rfl rfl hl.1 rfl (lv_room (Nat.le_of_ble_eq_true rfl)) dFi_jumpFrom_21 ⟨Nat.zero_le _, Nat.zero_le _⟩) hS (fun _ _ h => h.elim) (fun _ h => h.elim) (fun r u t H1 locs ht hvm hw hB hz8 hk8 hS => ?_)
    obtain rfl : s.heap = H1 := hB.symm.trans ht
    subst hw
    refine lv_i2l hx hb dFi_jumpFrom_24 rfl ?_
    refine lv_ladd hx hb dFi_jumpFrom_25 ?_
    exact W.lret (v := ((((a0).toInt64) + (1 : Int64)) + ((f_Fi_offset a1).toInt64))) hx hb hr (fun t ht hW => ⟨⟨((((a0).toInt64) + (1 : Int64)) + ((f_Fi_offset a1).toInt64)), (), rfl, (by unfold f_Fi_jumpFrom; rw [if_neg c1]; try rfl), ht⟩, hS.F ht⟩) hS.2.2 dFi_jumpFrom_26
  · skip
    refine lv_lload_n hx hb dFi_jumpFrom_13 rfl (lv_at hl 1 rfl) ?_
    refine va_calli (va_runS (As := [.long a1]) (rest := [.long (((a0).toInt64) + (1 : Int64))]) ⟨hx, hb, hml, hown, hT⟩ (c_Fi_immediate l s.heap a1) (cwS 1 hT (gB_S mw_229 mw_153 mw_16 mw_154) rfl rfl rfl (by decide +kernel) ⟨Nat.le_of_ble_eq_true rfl, Nat.le_of_ble_eq_true rfl⟩) ⟨fun _ _ _ _ q => q, fun U hU hW => ⟨rfl, hU⟩⟩ rfl rfl hl.1 rfl (lv_room (Nat.le_of_ble_eq_true rfl)) dFi_jumpFrom_14 ⟨Nat.zero_le _, Nat.zero_le _⟩) hS (fun _ _ h => h.elim) (fun _ h => h.elim) (fun r u t H1 locs ht hvm hw hB hz8 hk8 hS => ?_)
    obtain rfl : s.heap = H1 := hB.symm.trans ht
    subst hw
    refine lv_goto (tgt := 24) hx hb dFi_jumpFrom_17 (by decide) ?_
    refine lv_i2l hx hb dFi_jumpFrom_24 rfl ?_
    refine lv_ladd hx hb dFi_jumpFrom_25 ?_
    exact W.lret (v := ((((a0).toInt64) + (1 : Int64)) + ((f_Fi_immediate a1).toInt64))) hx hb hr (fun t ht hW => ⟨⟨((((a0).toInt64) + (1 : Int64)) + ((f_Fi_immediate a1).toInt64)), (), rfl, (by unfold f_Fi_jumpFrom; rw [if_pos c1]; try rfl), ht⟩, hS.F ht⟩) hS.2.2 dFi_jumpFrom_26
