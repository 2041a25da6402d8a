def f_Ma_x (rf : Nat → Int64) (a0 : Int64) : Int64 :=
  (rf (f_Fi_target a0).toNatClampNeg)
set_option maxHeartbeats 4000000 in
set_option maxRecDepth 100000 in
theorem c_Ma_x (l : Launch) (G : va_G) (cB cL cI : ClassId) (Hp : Heap) (h4 : Nat) (h5 : Nat) (h2 : Nat) (rf : Nat → Int64) (a0 : Int64) (hP : va_P G vwCl [(h4, .inr (2, [.ref h5, .ref h2])), (h5, .inl (cL, 16, .inr (.inl rf)))] Hp) : Met l yMa_x wsMa_x ({ frames := 1, cells := 0, slots := 0, locals := 21 }) (va_Pc [.ref h4, .long a0] (fun U => U.heap = Hp ∧ va_K G vwCl [(cB, .byte), (cL, .long), (cI, .int)] U)) (va_Ql (fun (r : Int64) (_ : Unit) => r = (f_Ma_x rf a0)) (fun _ t => t.heap = Hp) (fun _ => False)) 0 0 (fun _ => False) := by
  refine Met.ofW (cc := cMa_x) (maxL := 3) (ret := (some .long)) (by decide) rfl ?_
  intro p e s m args below meth c s₁ B hml hv
  obtain ⟨rfl, rfl, hK⟩ := hv
  have hx := B.exec
  have hb := B.bytes
  have hr := B.returns
  have hT : ∀ w ∈ tB, w.before _ s = true := fun w h => atoms_spec (ws := wsMa_x) B.pre w (List.mem_cons_of_mem _ h)
  have hown : s.vm.findClass "CompiledProgram$Machine" = some m.cls := findClass_of_methodNamed B.named
  have hlocks := B.notSynchronized
  have hA : ∀ q : Nat, (fun _ : Nat => False) q → False := fun _ h => h
  have hS : va_S (fun _ => False) s.heap s.heap [] := va_S.rf
  have hl := lv_entry ([.ref h4, .long a0]) (n := 3) (Nat.le_of_ble_eq_true rfl)
  rw [lg_entry_eq]
  generalize (lg_sl ([.ref h4, .long a0]) ++ List.replicate (3 - (lg_sl ([.ref h4, .long a0])).length) Slot.unset).toArray = ls at hl ⊢
  have hl : lv_has ls 3 [(0, .ref h4), (1, .long a0)] := hl
  refine lv_aload_n hx hb dMa_x_0 rfl (lv_at hl 0 rfl) ?_
  refine va_get (D := G) (ci := 2) (v := .ref h5) (C := RMa) (T := TMa) (N := 2) hx hb hT inMa hown hK hP 0 rfl rfl 0 (by decide) (hT _ mw_77) (fun _ h9 => h9) rfl dMa_x_1 ?_
  refine lv_lload_n hx hb dMa_x_4 rfl (lv_at hl 1 rfl) ?_
  refine va_calli (va_runS (As := [.long a0]) (rest := [.ref h5]) ⟨hx, hb, hml, hown, hT⟩ (c_Fi_target l s.heap a0) (va_cwS 1 hT (gB_SV mw_456 mw_147 mw_16 mw_148) rfl rfl rfl (by decide +kernel) ⟨Nat.le_of_ble_eq_true rfl, Nat.le_of_ble_eq_true rfl⟩) ⟨fun _ _ _ _ q => q, fun U hU hW => ⟨rfl, hU⟩⟩ rfl rfl hl.1 rfl (lv_room (Nat.le_of_ble_eq_true rfl)) dMa_x_5 ⟨Nat.zero_le _, Nat.zero_le _⟩) hS (fun _ _ h => h.elim) (fun _ h => h.elim) (fun r u t H1 locs ht hvm hw hB hz8 hk8 hS => ?_)
  obtain rfl : s.heap = H1 := hB.symm.trans ht
  subst hw
  refine va_lald hx hb hK hP 1 1 rfl rfl (in_Fi_target a0) dMa_x_8 ?_
  exact W.lret (v := (rf (f_Fi_target a0).toNatClampNeg)) hx hb hr (fun t ht hW => ⟨⟨(rf (f_Fi_target a0).toNatClampNeg), (), rfl, rfl, ht⟩, hS.F ht⟩) hS.2.2 dMa_x_9

def f_Ma_y (rf : Nat → Int64) (a0 : Int64) : Int64 :=
  (rf (f_Fi_source a0).toNatClampNeg)
set_option maxHeartbeats 4000000 in
set_option maxRecDepth 100000 in
theorem c_Ma_y (l : Launch) (G : va_G) (cB cL cI : ClassId) (Hp : Heap) (h4 : Nat) (h5 : Nat) (h2 : Nat) (rf : Nat → Int64) (a0 : Int64) (hP : va_P G vwCl [(h4, .inr (2, [.ref h5, .ref h2])), (h5, .inl (cL, 16, .inr (.inl rf)))] Hp) : Met l yMa_y wsMa_y ({ frames := 1, cells := 0, slots := 0, locals := 21 }) (va_Pc [.ref h4, .long a0] (fun U => U.heap = Hp ∧ va_K G vwCl [(cB, .byte), (cL, .long), (cI, .int)] U)) (va_Ql (fun (r : Int64) (_ : Unit) => r = (f_Ma_y rf a0)) (fun _ t => t.heap = Hp) (fun _ => False)) 0 0 (fun _ => False) := by
  refine Met.ofW (cc := cMa_y) (maxL := 3) (ret := (some .long)) (by decide) rfl ?_
  intro p e s m args below meth c s₁ B hml hv
  obtain ⟨rfl, rfl, hK⟩ := hv
  have hx := B.exec
  have hb := B.bytes
  have hr := B.returns
  have hT : ∀ w ∈ tB, w.before _ s = true := fun w h => atoms_spec (ws := wsMa_y) B.pre w (List.mem_cons_of_mem _ h)
  have hown : s.vm.findClass "CompiledProgram$Machine" = some m.cls := findClass_of_methodNamed B.named
  have hlocks := B.notSynchronized
  have hA : ∀ q : Nat, (fun _ : Nat => False) q → False := fun _ h => h
  have hS : va_S (fun _ => False) s.heap s.heap [] := va_S.rf
  have hl := lv_entry ([.ref h4, .long a0]) (n := 3) (Nat.le_of_ble_eq_true rfl)
  rw [lg_entry_eq]
  generalize (lg_sl ([.ref h4, .long a0]) ++ List.replicate (3 - (lg_sl ([.ref h4, .long a0])).length) Slot.unset).toArray = ls at hl ⊢
  have hl : lv_has ls 3 [(0, .ref h4), (1, .long a0)] := hl
  refine lv_aload_n hx hb dMa_y_0 rfl (lv_at hl 0 rfl) ?_
  refine va_get (D := G) (ci := 2) (v := .ref h5) (C := RMa) (T := TMa) (N := 2) hx hb hT inMa hown hK hP 0 rfl rfl 0 (by decide) (hT _ mw_77) (fun _ h9 => h9) rfl dMa_y_1 ?_
  refine lv_lload_n hx hb dMa_y_4 rfl (lv_at hl 1 rfl) ?_
  refine va_calli (va_runS (As := [.long a0]) (rest := [.ref h5]) ⟨hx, hb, hml, hown, hT⟩ (c_Fi_source l s.heap a0) (va_cwS 1 hT (gB_SV mw_469 mw_138 mw_16 mw_139) rfl rfl rfl (by decide +kernel) ⟨Nat.le_of_ble_eq_true rfl, Nat.le_of_ble_eq_true rfl⟩) ⟨fun _ _ _ _ q => q, fun U hU hW => ⟨rfl, hU⟩⟩ rfl rfl hl.1 rfl (lv_room (Nat.le_of_ble_eq_true rfl)) dMa_y_5 ⟨Nat.zero_le _, Nat.zero_le _⟩) hS (fun _ _ h => h.elim) (fun _ h => h.elim) (fun r u t H1 locs ht hvm hw hB hz8 hk8 hS => ?_)
  obtain rfl : s.heap = H1 := hB.symm.trans ht
  subst hw
  refine va_lald hx hb hK hP 1 1 rfl rfl (in_Fi_source a0) dMa_y_8 ?_
  exact W.lret (v := (rf (f_Fi_source a0).toNatClampNeg)) hx hb hr (fun t ht hW => ⟨⟨(rf (f_Fi_source a0).toNatClampNeg), (), rfl, rfl, ht⟩, hS.F ht⟩) hS.2.2 dMa_y_9

def f_Ma_operand (rf : Nat → Int64) (a0 : Int64) : Int64 :=
  if (f_Fi_usesSource a0) = true then
    (f_Ma_y rf a0)
  else
    ((f_Fi_immediate a0).toInt64)
set_option maxHeartbeats 4000000 in
set_option maxRecDepth 100000 in
theorem c_Ma_operand (l : Launch) (G : va_G) (cB cL cI : ClassId) (Hp : Heap) (h4 : Nat) (h5 : Nat) (h2 : Nat) (rf : Nat → Int64) (a0 : Int64) (hP : va_P G vwCl [(h4, .inr (2, [.ref h5, .ref h2])), (h5, .inl (cL, 16, .inr (.inl rf)))] Hp) : Met l yMa_operand wsMa_operand ({ frames := 2, cells := 0, slots := 0, locals := 43 }) (va_Pc [.ref h4, .long a0] (fun U => U.heap = Hp ∧ va_K G vwCl [(cB, .byte), (cL, .long), (cI, .int)] U)) (va_Ql (fun (r : Int64) (_ : Unit) => r = (f_Ma_operand rf a0)) (fun _ t => t.heap = Hp) (fun _ => False)) 0 0 (fun _ => False) := by
  refine Met.ofW (cc := cMa_operand) (maxL := 3) (ret := (some .long)) (by decide) rfl ?_
  intro p e s m args below meth c s₁ B hml hv
  obtain ⟨rfl, rfl, hK⟩ := hv
  have hx := B.exec
  have hb := B.bytes
  have hr := B.returns
  have hT : ∀ w ∈ tB, w.before _ s = true := fun w h => atoms_spec (ws := wsMa_operand) B.pre w (List.mem_cons_of_mem _ h)
  have hown : s.vm.findClass "CompiledProgram$Machine" = some m.cls := findClass_of_methodNamed B.named
  have hlocks := B.notSynchronized
  have hA : ∀ q : Nat, (fun _ : Nat => False) q → False := fun _ h => h
  have hS : va_S (fun _ => False) s.heap s.heap [] := va_S.rf
  have hl := lv_entry ([.ref h4, .long a0]) (n := 3) (Nat.le_of_ble_eq_true rfl)
  rw [lg_entry_eq]
  generalize (lg_sl ([.ref h4, .long a0]) ++ List.replicate (3 - (lg_sl ([.ref h4, .long a0])).length) Slot.unset).toArray = ls at hl ⊢
  have hl : lv_has ls 3 [(0, .ref h4), (1, .long a0)] := hl
  refine lv_lload_n hx hb dMa_operand_0 rfl (lv_at hl 1 rfl) ?_
  refine va_calli (va_runS (As := [.long a0]) (rest := []) ⟨hx, hb, hml, hown, hT⟩ (c_Fi_usesSource l s.heap a0) (va_cwS 1 hT (gB_SV mw_516 mw_193 mw_16 mw_194) rfl rfl rfl (by decide +kernel) ⟨Nat.le_of_ble_eq_true rfl, Nat.le_of_ble_eq_true rfl⟩) ⟨fun _ _ _ _ q => q, fun U hU hW => ⟨rfl, hU⟩⟩ rfl rfl hl.1 rfl (lv_room (Nat.le_of_ble_eq_true rfl)) dMa_operand_1 ⟨Nat.zero_le _, Nat.zero_le _⟩) hS (fun _ _ h => h.elim) (fun _ h => h.elim) (fun r u t H1 locs ht hvm hw hB hz8 hk8 hS => ?_)
  obtain rfl : s.heap = H1 := hB.symm.trans ht
  subst hw
  refine lv_if_eq (tgt := 15) hx hb dMa_operand_4 (by decide) (fun c1 => ?_) (fun c1 => ?_)
  · have c1 := bI_z c1
    refine lv_lload_n hx hb dMa_operand_15 rfl (lv_at hl 1 rfl) ?_
    refine va_calli (va_runS (As := [.long a0]) (rest := []) ⟨hx, hb, hml, hown, hT⟩ (c_Fi_immediate l s.heap a0) (va_cwS 1 hT (gB_SV mw_455 mw_153 mw_16 mw_154) rfl rfl rfl (by decide +kernel) ⟨Nat.le_of_ble_eq_true rfl, Nat.le_of_ble_eq_true rfl⟩) ⟨fun _ _ _ _ q => q, fun U hU hW => ⟨rfl, hU⟩⟩ rfl rfl hl.1 rfl (lv_room (Nat.le_of_ble_eq_true rfl)) dMa_operand_16 ⟨Nat.zero_le _, Nat.zero_le _⟩) hS (fun _ _ h => h.elim) (fun _ h => h.elim) (fun r u t H1 locs ht hvm hw hB hz8 hk8 hS => ?_)
    obtain rfl : s.heap = H1 := hB.symm.trans ht
    subst hw
    refine lv_i2l hx hb dMa_operand_19 rfl ?_
    exact W.lret (v := ((f_Fi_immediate a0).toInt64)) hx hb hr (fun t ht hW => ⟨⟨((f_Fi_immediate a0).toInt64), (), rfl, (by unfold f_Ma_operand; rw [if_neg c1]; try rfl), ht⟩, hS.F ht⟩) hS.2.2 dMa_operand_20
  · have c1 := bI_n c1
    refine lv_aload_n hx hb dMa_operand_7 rfl (lv_at hl 0 rfl) ?_
    refine lv_lload_n hx hb dMa_operand_8 rfl (lv_at hl 1 rfl) ?_
    have hPc := hP.sub (ws' := [(h4, .inr (2, [.ref h5, .ref h2])), (h5, .inl (cL, 16, .inr (.inl rf)))]) [0, 1] rfl
    refine va_calll (va_runV (As := [.long a0]) (rest := []) ⟨hx, hb, hml, hown, hT⟩ (c_Ma_y l G cB cL cI s.heap h4 h5 h2 rf a0 hPc ) (cwV 1 hT (gB_V mw_465 mw_466 mw_467 mw_4 mw_468) rfl rfl rfl (by decide +kernel) ⟨Nat.le_of_ble_eq_true rfl, Nat.le_of_ble_eq_true rfl⟩) ⟨fun a U g mk q => ⟨q.1, q.2.1, va_K.moved (u := U) (U := U.calling g mk a) (Vm.Alike.refl U.vm) q.2.2⟩, va_recv hK hPc (ci := 2) (q0 := 0) rfl rfl, fun U hU hW => ⟨rfl, hU, va_K.moved hW.alike hK⟩⟩ rfl rfl hl.1 rfl (lv_room (Nat.le_of_ble_eq_true rfl)) dMa_operand_9 ⟨Nat.zero_le _, Nat.zero_le _⟩) hS (fun _ _ h => h.elim) (fun _ h => h.elim) (fun r u t H1 locs ht hvm hw hB hz8 hk8 hS => ?_)
    obtain rfl : s.heap = H1 := hB.symm.trans ht
    subst hw
    refine lv_goto (tgt := 20) hx hb dMa_operand_12 (by decide) ?_
    exact W.lret (v := (f_Ma_y rf a0)) hx hb hr (fun t ht hW => ⟨⟨(f_Ma_y rf a0), (), rfl, (by unfold f_Ma_operand; rw [if_pos c1]; try rfl), ht⟩, hS.F ht⟩) hS.2.2 dMa_operand_20

def f_Ma_takesJump (rf : Nat → Int64) (a0 : Int64) : Bool :=
  if (f_Fi_kind a0) = (6 : Int32) then
    (f_Ar_isTaken (f_Fi_operation a0) (((f_Ma_x rf a0).toInt32).toInt64) (((f_Ma_operand rf a0).toInt32).toInt64))
  else
    (f_Ar_isTaken (f_Fi_operation a0) (f_Ma_x rf a0) (f_Ma_operand rf a0))
set_option maxHeartbeats 4000000 in
set_option maxRecDepth 100000 in
theorem c_Ma_takesJump (l : Launch) (G : va_G) (cB cL cI : ClassId) (Hp : Heap) (h4 : Nat) (h5 : Nat) (h2 : Nat) (rf : Nat → Int64) (a0 : Int64) (hP : va_P G vwCl [(h4, .inr (2, [.ref h5, .ref h2])), (h5, .inl (cL, 16, .inr (.inl rf)))] Hp) : Met l yMa_takesJump wsMa_takesJump ({ frames := 3, cells := 0, slots := 0, locals := 65 }) (va_Pc [.ref h4, .long a0] (fun U => U.heap = Hp ∧ va_K G vwCl [(cB, .byte), (cL, .long), (cI, .int)] U)) (va_Qi (fun (r : Int32) (_ : Unit) => r = bI (f_Ma_takesJump rf a0)) (fun _ t => t.heap = Hp) (fun _ => False)) 0 0 (fun _ => False) := by
  refine Met.ofW (cc := cMa_takesJump) (maxL := 7) (ret := (some .boolean)) (by decide) rfl ?_
  intro p e s m args below meth c s₁ B hml hv
  obtain ⟨rfl, rfl, hK⟩ := hv
  have hx := B.exec
  have hb := B.bytes
  have hr := B.returns
  have hT : ∀ w ∈ tB, w.before _ s = true := fun w h => atoms_spec (ws := wsMa_takesJump) B.pre w (List.mem_cons_of_mem _ h)
  have hown : s.vm.findClass "CompiledProgram$Machine" = some m.cls := findClass_of_methodNamed B.named
  have hlocks := B.notSynchronized
  have hA : ∀ q : Nat, (fun _ : Nat => False) q → False := fun _ h => h
  have hS : va_S (fun _ => False) s.heap s.heap [] := va_S.rf
  have hl := lv_entry ([.ref h4, .long a0]) (n := 7) (Nat.le_of_ble_eq_true rfl)
  rw [lg_entry_eq]
  generalize (lg_sl ([.ref h4, .long a0]) ++ List.replicate (7 - (lg_sl ([.ref h4, .long a0])).length) Slot.unset).toArray = ls at hl ⊢
  have hl : lv_has ls 7 [(0, .ref h4), (1, .long a0)] := hl
  refine lv_aload_n hx hb dMa_takesJump_0 rfl (lv_at hl 0 rfl) ?_
  refine lv_lload_n hx hb dMa_takesJump_1 rfl (lv_at hl 1 rfl) ?_
  have hPc := hP.sub (ws' := [(h4, .inr (2, [.ref h5, .ref h2])), (h5, .inl (cL, 16, .inr (.inl rf)))]) [0, 1] rfl
  refine va_calll (va_runV (As := [.long a0]) (rest := []) ⟨hx, hb, hml, hown, hT⟩ (c_Ma_x l G cB cL cI s.heap h4 h5 h2 rf a0 hPc ) (cwV 1 hT (gB_V mw_481 mw_482 mw_483 mw_4 mw_484) rfl rfl rfl (by decide +kernel) ⟨Nat.le_of_ble_eq_true rfl, Nat.le_of_ble_eq_true rfl⟩) ⟨fun a U g mk q => ⟨q.1, q.2.1, va_K.moved (u := U) (U := U.calling g mk a) (Vm.Alike.refl U.vm) q.2.2⟩, va_recv hK hPc (ci := 2) (q0 := 0) rfl rfl, fun U hU hW => ⟨rfl, hU, va_K.moved hW.alike hK⟩⟩ rfl rfl hl.1 rfl (lv_room (Nat.le_of_ble_eq_true rfl)) dMa_takesJump_2 ⟨Nat.zero_le _, Nat.zero_le _⟩) hS (fun _ _ h => h.elim) (fun _ h => h.elim) (fun r u t H1 locs ht hvm hw hB hz8 hk8 hS => ?_)
  obtain rfl : s.heap = H1 := hB.symm.trans ht
  subst hw
  refine lv_lstore_n (lv' := [(3, .long (f_Ma_x rf a0)), (0, .ref h4), (1, .long a0)]) hx hb dMa_takesJump_5 rfl hl (by decide) rfl (fun ls hl => ?_)
  refine lv_aload_n hx hb dMa_takesJump_6 rfl (lv_at hl 1 rfl) ?_
  refine lv_lload_n hx hb dMa_takesJump_7 rfl (lv_at hl 2 rfl) ?_
  have hPc := hP.sub (ws' := [(h4, .inr (2, [.ref h5, .ref h2])), (h5, .inl (cL, 16, .inr (.inl rf)))]) [0, 1] rfl
  refine va_calll (va_runV (As := [.long a0]) (rest := []) ⟨hx, hb, hml, hown, hT⟩ (c_Ma_operand l G cB cL cI s.heap h4 h5 h2 rf a0 hPc ) (cwV 1 hT (gB_V mw_512 mw_513 mw_514 mw_4 mw_515) rfl rfl rfl (by decide +kernel) ⟨Nat.le_of_ble_eq_true rfl, Nat.le_of_ble_eq_true rfl⟩) ⟨fun a U g mk q => ⟨q.1, q.2.1, va_K.moved (u := U) (U := U.calling g mk a) (Vm.Alike.refl U.vm) q.2.2⟩, va_recv hK hPc (ci := 2) (q0 := 0) rfl rfl, fun U hU hW => ⟨rfl, hU, va_K.moved hW.alike hK⟩⟩ rfl rfl hl.1 rfl (lv_room (Nat.le_of_ble_eq_true rfl)) dMa_takesJump_8 ⟨Nat.zero_le _, Nat.zero_le _⟩) hS (fun _ _ h => h.elim) (fun _ h => h.elim) (fun r u t H1 locs ht hvm hw hB hz8 hk8 hS => ?_)
  obtain rfl : s.heap = H1 := hB.symm.trans ht
  subst hw
  refine lv_lstore (lv' := [(5, .long (f_Ma_operand rf a0)), (3, .long (f_Ma_x rf a0)), (0, .ref h4), (1, .long a0)]) hx hb dMa_takesJump_11 hl (by decide) rfl (fun ls hl => ?_)
  refine lv_lload_n hx hb dMa_takesJump_13 rfl (lv_at hl 3 rfl) ?_
  refine va_calli (va_runS (As := [.long a0]) (rest := []) ⟨hx, hb, hml, hown, hT⟩ (c_Fi_kind l s.heap a0) (va_cwS 1 hT (gB_SV mw_450 mw_132 mw_16 mw_133) rfl rfl rfl (by decide +kernel) ⟨Nat.le_of_ble_eq_true rfl, Nat.le_of_ble_eq_true rfl⟩) ⟨fun _ _ _ _ q => q, fun U hU hW => ⟨rfl, hU⟩⟩ rfl rfl hl.1 rfl (lv_room (Nat.le_of_ble_eq_true rfl)) dMa_takesJump_14 ⟨Nat.zero_le _, Nat.zero_le _⟩) hS (fun _ _ h => h.elim) (fun _ h => h.elim) (fun r u t H1 locs ht hvm hw hB hz8 hk8 hS => ?_)
  obtain rfl : s.heap = H1 := hB.symm.trans ht
  subst hw
  refine lv_bipush (v := (6 : Int32)) hx hb dMa_takesJump_17 (by decide) ?_
  refine lv_icmp_ne (tgt := 39) hx hb dMa_takesJump_19 (by decide) (fun c1 => ?_) (fun c1 => ?_)
  · skip
    refine lv_lload_n hx hb dMa_takesJump_39 rfl (lv_at hl 3 rfl) ?_
    refine va_calli (va_runS (As := [.long a0]) (rest := []) ⟨hx, hb, hml, hown, hT⟩ (c_Fi_operation l s.heap a0) (va_cwS 1 hT (gB_SV mw_517 mw_183 mw_16 mw_184) rfl rfl rfl (by decide +kernel) ⟨Nat.le_of_ble_eq_true rfl, Nat.le_of_ble_eq_true rfl⟩) ⟨fun _ _ _ _ q => q, fun U hU hW => ⟨rfl, hU⟩⟩ rfl rfl hl.1 rfl (lv_room (Nat.le_of_ble_eq_true rfl)) dMa_takesJump_40 ⟨Nat.zero_le _, Nat.zero_le _⟩) hS (fun _ _ h => h.elim) (fun _ h => h.elim) (fun r u t H1 locs ht hvm hw hB hz8 hk8 hS => ?_)
    obtain rfl : s.heap = H1 := hB.symm.trans ht
    subst hw
    refine lv_lload_n hx hb dMa_takesJump_43 rfl (lv_at hl 1 rfl) ?_
    refine lv_lload hx hb dMa_takesJump_44 (lv_at hl 0 rfl) ?_
    refine va_calli (va_runS (As := [.int (f_Fi_operation a0), .long (f_Ma_x rf a0), .long (f_Ma_operand rf a0)]) (rest := []) ⟨hx, hb, hml, hown, hT⟩ (c_Ar_isTaken l s.heap (f_Fi_operation a0) (f_Ma_x rf a0) (f_Ma_operand rf a0)) (va_cwS 3 hT (gB_SV mw_518 mw_519 mw_19 mw_520) rfl rfl rfl (by decide +kernel) ⟨Nat.le_of_ble_eq_true rfl, Nat.le_of_ble_eq_true rfl⟩) ⟨fun _ _ _ _ q => q, fun U hU hW => ⟨rfl, hU⟩⟩ rfl rfl hl.1 rfl (lv_room (Nat.le_of_ble_eq_true rfl)) dMa_takesJump_46 ⟨Nat.zero_le _, Nat.zero_le _⟩) hS (fun _ _ h => h.elim) (fun _ h => h.elim) (fun r u t H1 locs ht hvm hw hB hz8 hk8 hS => ?_)
    obtain rfl : s.heap = H1 := hB.symm.trans ht
    subst hw
    exact W.zret (v := (bI (f_Ar_isTaken (f_Fi_operation a0) (f_Ma_x rf a0) (f_Ma_operand rf a0)))) hx hb hr (bI_nar _) (fun t ht hW => ⟨⟨(bI (f_Ar_isTaken (f_Fi_operation a0) (f_Ma_x rf a0) (f_Ma_operand rf a0))), (), rfl, (by unfold f_Ma_takesJump; rw [if_neg c1]; try rfl), ht⟩, hS.F ht⟩) hS.2.2 dMa_takesJump_49
  · skip
    refine lv_lload_n hx hb dMa_takesJump_22 rfl (lv_at hl 3 rfl) ?_
    refine va_calli (va_runS (As := [.long a0]) (rest := []) ⟨hx, hb, hml, hown, hT⟩ (c_Fi_operation l s.heap a0) (va_cwS 1 hT (gB_SV mw_517 mw_183 mw_16 mw_184) rfl rfl rfl (by decide +kernel) ⟨Nat.le_of_ble_eq_true rfl, Nat.le_of_ble_eq_true rfl⟩) ⟨fun _ _ _ _ q => q, fun U hU hW => ⟨rfl, hU⟩⟩ rfl rfl hl.1 rfl (lv_room (Nat.le_of_ble_eq_true rfl)) dMa_takesJump_23 ⟨Nat.zero_le _, Nat.zero_le _⟩) hS (fun _ _ h => h.elim) (fun _ h => h.elim) (fun r u t H1 locs ht hvm hw hB hz8 hk8 hS => ?_)
    obtain rfl : s.heap = H1 := hB.symm.trans ht
    subst hw
    refine lv_lload_n hx hb dMa_takesJump_26 rfl (lv_at hl 1 rfl) ?_
    refine lv_l2i hx hb dMa_takesJump_27 rfl ?_
    refine lv_i2l hx hb dMa_takesJump_28 rfl ?_
    refine lv_lload hx hb dMa_takesJump_29 (lv_at hl 0 rfl) ?_
    refine lv_l2i hx hb dMa_takesJump_31 rfl ?_
    refine lv_i2l hx hb dMa_takesJump_32 rfl ?_
    refine va_calli (va_runS (As := [.int (f_Fi_operation a0), .long (((f_Ma_x rf a0).toInt32).toInt64), .long (((f_Ma_operand rf a0).toInt32).toInt64)]) (rest := []) ⟨hx, hb, hml, hown, hT⟩ (c_Ar_isTaken l s.heap (f_Fi_operation a0) (((f_Ma_x rf a0).toInt32).toInt64) (((f_Ma_operand rf a0).toInt32).toInt64)) (va_cwS 3 hT (gB_SV mw_518 mw_519 mw_19 mw_520) rfl rfl rfl (by decide +kernel) ⟨Nat.le_of_ble_eq_true rfl, Nat.le_of_ble_eq_true rfl⟩) ⟨fun _ _ _ _ q => q, fun U hU hW => ⟨rfl, hU⟩⟩ rfl rfl hl.1 rfl (lv_room (Nat.le_of_ble_eq_true rfl)) dMa_takesJump_33 ⟨Nat.zero_le _, Nat.zero_le _⟩) hS (fun _ _ h => h.elim) (fun _ h => h.elim) (fun r u t H1 locs ht hvm hw hB hz8 hk8 hS => ?_)
    obtain rfl : s.heap = H1 := hB.symm.trans ht
    subst hw
    refine lv_goto (tgt := 49) hx hb dMa_takesJump_36 (by decide) ?_
    exact W.zret (v := (bI (f_Ar_isTaken (f_Fi_operation a0) (((f_Ma_x rf a0).toInt32).toInt64) (((f_Ma_operand rf a0).toInt32).toInt64)))) hx hb hr (bI_nar _) (fun t ht hW => ⟨⟨(bI (f_Ar_isTaken (f_Fi_operation a0) (((f_Ma_x rf a0).toInt32).toInt64) (((f_Ma_operand rf a0).toInt32).toInt64))), (), rfl, (by unfold f_Ma_takesJump; rw [if_pos c1]; try rfl), ht⟩, hS.F ht⟩) hS.2.2 dMa_takesJump_49

def f_Ma_turnedOrCut (rf : Nat → Int64) (a0 : Int64) : Int64 :=
  if (f_Fi_kind a0) = (7 : Int32) then
    (f_Ar_turned (f_Ma_x rf a0) (f_Fi_immediate a0))
  else
    if (f_Fi_usesSource a0) = true then
      (f_Ar_turned (f_Ma_x rf a0) (f_Fi_immediate a0))
    else
      (f_Ar_lowest (f_Ma_x rf a0) (f_Fi_immediate a0))
set_option maxHeartbeats 4000000 in
set_option maxRecDepth 100000 in
theorem c_Ma_turnedOrCut (l : Launch) (G : va_G) (cB cL cI : ClassId) (Hp : Heap) (h4 : Nat) (h5 : Nat) (h2 : Nat) (rf : Nat → Int64) (a0 : Int64) (hP : va_P G vwCl [(h4, .inr (2, [.ref h5, .ref h2])), (h5, .inl (cL, 16, .inr (.inl rf)))] Hp) : Met l yMa_turnedOrCut wsMa_turnedOrCut ({ frames := 2, cells := 0, slots := 0, locals := 43 }) (va_Pc [.ref h4, .long a0] (fun U => U.heap = Hp ∧ va_K G vwCl [(cB, .byte), (cL, .long), (cI, .int)] U)) (va_Ql (fun (r : Int64) (_ : Unit) => r = (f_Ma_turnedOrCut rf a0)) (fun _ t => t.heap = Hp) (fun _ => False)) 0 0 (fun _ => False) := by
  refine Met.ofW (cc := cMa_turnedOrCut) (maxL := 5) (ret := (some .long)) (by decide) rfl ?_
  intro p e s m args below meth c s₁ B hml hv
  obtain ⟨rfl, rfl, hK⟩ := hv
  have hx := B.exec
  have hb := B.bytes
  have hr := B.returns
  have hT : ∀ w ∈ tB, w.before _ s = true := fun w h => atoms_spec (ws := wsMa_turnedOrCut) B.pre w (List.mem_cons_of_mem _ h)
  have hown : s.vm.findClass "CompiledProgram$Machine" = some m.cls := findClass_of_methodNamed B.named
  have hlocks := B.notSynchronized
  have hA : ∀ q : Nat, (fun _ : Nat => False) q → False := fun _ h => h
  have hS : va_S (fun _ => False) s.heap s.heap [] := va_S.rf
  have hl := lv_entry ([.ref h4, .long a0]) (n := 5) (Nat.le_of_ble_eq_true rfl)
  rw [lg_entry_eq]
  generalize (lg_sl ([.ref h4, .long a0]) ++ List.replicate (5 - (lg_sl ([.ref h4, .long a0])).length) Slot.unset).toArray = ls at hl ⊢
  have hl : lv_has ls 5 [(0, .ref h4), (1, .long a0)] := hl
  refine lv_lload_n hx hb dMa_turnedOrCut_0 rfl (lv_at hl 1 rfl) ?_
  refine va_calli (va_runS (As := [.long a0]) (rest := []) ⟨hx, hb, hml, hown, hT⟩ (c_Fi_immediate l s.heap a0) (va_cwS 1 hT (gB_SV mw_455 mw_153 mw_16 mw_154) rfl rfl rfl (by decide +kernel) ⟨Nat.le_of_ble_eq_true rfl, Nat.le_of_ble_eq_true rfl⟩) ⟨fun _ _ _ _ q => q, fun U hU hW => ⟨rfl, hU⟩⟩ rfl rfl hl.1 rfl (lv_room (Nat.le_of_ble_eq_true rfl)) dMa_turnedOrCut_1 ⟨Nat.zero_le _, Nat.zero_le _⟩) hS (fun _ _ h => h.elim) (fun _ h => h.elim) (fun r u t H1 locs ht hvm hw hB hz8 hk8 hS => ?_)
  obtain rfl : s.heap = H1 := hB.symm.trans ht
  subst hw
  refine lv_istore_n (lv' := [(3, .int (f_Fi_immediate a0)), (0, .ref h4), (1, .long a0)]) hx hb dMa_turnedOrCut_4 rfl hl (by decide) rfl (fun ls hl => ?_)
  refine lv_lload_n hx hb dMa_turnedOrCut_5 rfl (lv_at hl 2 rfl) ?_
  refine va_calli (va_runS (As := [.long a0]) (rest := []) ⟨hx, hb, hml, hown, hT⟩ (c_Fi_kind l s.heap a0) (va_cwS 1 hT (gB_SV mw_450 mw_132 mw_16 mw_133) rfl rfl rfl (by decide +kernel) ⟨Nat.le_of_ble_eq_true rfl, Nat.le_of_ble_eq_true rfl⟩) ⟨fun _ _ _ _ q => q, fun U hU hW => ⟨rfl, hU⟩⟩ rfl rfl hl.1 rfl (lv_room (Nat.le_of_ble_eq_true rfl)) dMa_turnedOrCut_6 ⟨Nat.zero_le _, Nat.zero_le _⟩) hS (fun _ _ h => h.elim) (fun _ h => h.elim) (fun r u t H1 locs ht hvm hw hB hz8 hk8 hS => ?_)
  obtain rfl : s.heap = H1 := hB.symm.trans ht
  subst hw
  refine lv_bipush (v := (7 : Int32)) hx hb dMa_turnedOrCut_9 (by decide) ?_
  refine lv_icmp_eq (tgt := 21) hx hb dMa_turnedOrCut_11 (by decide) (fun c1 => ?_) (fun c1 => ?_)
  · skip
    refine lv_iconst (v := (1 : Int32)) hx hb dMa_turnedOrCut_21 (by decide) ?_
    refine lv_goto (tgt := 26) hx hb dMa_turnedOrCut_22 (by decide) ?_
    refine lv_istore (lv' := [(4, .int (1 : Int32)), (3, .int (f_Fi_immediate a0)), (0, .ref h4), (1, .long a0)]) hx hb dMa_turnedOrCut_26 hl (by decide) rfl (fun ls hl => ?_)
    refine lv_iload hx hb dMa_turnedOrCut_28 (lv_at hl 0 rfl) ?_
    refine lv_if_eq (tgt := 45) hx hb dMa_turnedOrCut_30 (by decide) (fun c2 => absurd c2 (by decide)) (fun _ => ?_)
    refine lv_aload_n hx hb dMa_turnedOrCut_33 rfl (lv_at hl 2 rfl) ?_
    refine lv_lload_n hx hb dMa_turnedOrCut_34 rfl (lv_at hl 3 rfl) ?_
    have hPc := hP.sub (ws' := [(h4, .inr (2, [.ref h5, .ref h2])), (h5, .inl (cL, 16, .inr (.inl rf)))]) [0, 1] rfl
    refine va_calll (va_runV (As := [.long a0]) (rest := []) ⟨hx, hb, hml, hown, hT⟩ (c_Ma_x l G cB cL cI s.heap h4 h5 h2 rf a0 hPc ) (cwV 1 hT (gB_V mw_481 mw_482 mw_483 mw_4 mw_484) rfl rfl rfl (by decide +kernel) ⟨Nat.le_of_ble_eq_true rfl, Nat.le_of_ble_eq_true rfl⟩) ⟨fun a U g mk q => ⟨q.1, q.2.1, va_K.moved (u := U) (U := U.calling g mk a) (Vm.Alike.refl U.vm) q.2.2⟩, va_recv hK hPc (ci := 2) (q0 := 0) rfl rfl, fun U hU hW => ⟨rfl, hU, va_K.moved hW.alike hK⟩⟩ rfl rfl hl.1 rfl (lv_room (Nat.le_of_ble_eq_true rfl)) dMa_turnedOrCut_35 ⟨Nat.zero_le _, Nat.zero_le _⟩) hS (fun _ _ h => h.elim) (fun _ h => h.elim) (fun r u t H1 locs ht hvm hw hB hz8 hk8 hS => ?_)
    obtain rfl : s.heap = H1 := hB.symm.trans ht
    subst hw
    refine lv_iload_n hx hb dMa_turnedOrCut_38 rfl (lv_at hl 1 rfl) ?_
    refine va_calll (va_runS (As := [.long (f_Ma_x rf a0), .int (f_Fi_immediate a0)]) (rest := []) ⟨hx, hb, hml, hown, hT⟩ (c_Ar_turned l s.heap (f_Ma_x rf a0) (f_Fi_immediate a0)) (va_cwS 2 hT (gB_SV mw_531 mw_532 mw_19 mw_533) rfl rfl rfl (by decide +kernel) ⟨Nat.le_of_ble_eq_true rfl, Nat.le_of_ble_eq_true rfl⟩) ⟨fun _ _ _ _ q => q, fun U hU hW => ⟨rfl, hU⟩⟩ rfl rfl hl.1 rfl (lv_room (Nat.le_of_ble_eq_true rfl)) dMa_turnedOrCut_39 ⟨Nat.zero_le _, Nat.zero_le _⟩) hS (fun _ _ h => h.elim) (fun _ h => h.elim) (fun r u t H1 locs ht hvm hw hB hz8 hk8 hS => ?_)
    obtain rfl : s.heap = H1 := hB.symm.trans ht
    subst hw
    refine lv_goto (tgt := 54) hx hb dMa_turnedOrCut_42 (by decide) ?_
    exact W.lret (v := (f_Ar_turned (f_Ma_x rf a0) (f_Fi_immediate a0))) hx hb hr (fun t ht hW => ⟨⟨(f_Ar_turned (f_Ma_x rf a0) (f_Fi_immediate a0)), (), rfl, (by unfold f_Ma_turnedOrCut; rw [if_pos c1]; try rfl), ht⟩, hS.F ht⟩) hS.2.2 dMa_turnedOrCut_54
  · skip
    refine lv_lload_n hx hb dMa_turnedOrCut_14 rfl (lv_at hl 2 rfl) ?_
    refine va_calli (va_runS (As := [.long a0]) (rest := []) ⟨hx, hb, hml, hown, hT⟩ (c_Fi_usesSource l s.heap a0) (va_cwS 1 hT (gB_SV mw_516 mw_193 mw_16 mw_194) rfl rfl rfl (by decide +kernel) ⟨Nat.le_of_ble_eq_true rfl, Nat.le_of_ble_eq_true rfl⟩) ⟨fun _ _ _ _ q => q, fun U hU hW => ⟨rfl, hU⟩⟩ rfl rfl hl.1 rfl (lv_room (Nat.le_of_ble_eq_true rfl)) dMa_turnedOrCut_15 ⟨Nat.zero_le _, Nat.zero_le _⟩) hS (fun _ _ h => h.elim) (fun _ h => h.elim) (fun r u t H1 locs ht hvm hw hB hz8 hk8 hS => ?_)
    obtain rfl : s.heap = H1 := hB.symm.trans ht
    subst hw
    refine lv_if_eq (tgt := 25) hx hb dMa_turnedOrCut_18 (by decide) (fun c3 => ?_) (fun c3 => ?_)
    · have c3 := bI_z c3
      refine lv_iconst (v := (0 : Int32)) hx hb dMa_turnedOrCut_25 (by decide) ?_
      refine lv_istore (lv' := [(4, .int (0 : Int32)), (3, .int (f_Fi_immediate a0)), (0, .ref h4), (1, .long a0)]) hx hb dMa_turnedOrCut_26 hl (by decide) rfl (fun ls hl => ?_)
      refine lv_iload hx hb dMa_turnedOrCut_28 (lv_at hl 0 rfl) ?_
      refine lv_if_eq (tgt := 45) hx hb dMa_turnedOrCut_30 (by decide) (fun _ => ?_) (fun c4 => absurd c4 (by decide))
      refine lv_aload_n hx hb dMa_turnedOrCut_45 rfl (lv_at hl 2 rfl) ?_
      refine lv_lload_n hx hb dMa_turnedOrCut_46 rfl (lv_at hl 3 rfl) ?_
      have hPc := hP.sub (ws' := [(h4, .inr (2, [.ref h5, .ref h2])), (h5, .inl (cL, 16, .inr (.inl rf)))]) [0, 1] rfl
      refine va_calll (va_runV (As := [.long a0]) (rest := []) ⟨hx, hb, hml, hown, hT⟩ (c_Ma_x l G cB cL cI s.heap h4 h5 h2 rf a0 hPc ) (cwV 1 hT (gB_V mw_481 mw_482 mw_483 mw_4 mw_484) rfl rfl rfl (by decide +kernel) ⟨Nat.le_of_ble_eq_true rfl, Nat.le_of_ble_eq_true rfl⟩) ⟨fun a U g mk q => ⟨q.1, q.2.1, va_K.moved (u := U) (U := U.calling g mk a) (Vm.Alike.refl U.vm) q.2.2⟩, va_recv hK hPc (ci := 2) (q0 := 0) rfl rfl, fun U hU hW => ⟨rfl, hU, va_K.moved hW.alike hK⟩⟩ rfl rfl hl.1 rfl (lv_room (Nat.le_of_ble_eq_true rfl)) dMa_turnedOrCut_47 ⟨Nat.zero_le _, Nat.zero_le _⟩) hS (fun _ _ h => h.elim) (fun _ h => h.elim) (fun r u t H1 locs ht hvm hw hB hz8 hk8 hS => ?_)
      obtain rfl : s.heap = H1 := hB.symm.trans ht
      subst hw
      refine lv_iload_n hx hb dMa_turnedOrCut_50 rfl (lv_at hl 1 rfl) ?_
      refine va_calll (va_runS (As := [.long (f_Ma_x rf a0), .int (f_Fi_immediate a0)]) (rest := []) ⟨hx, hb, hml, hown, hT⟩ (c_Ar_lowest l s.heap (f_Ma_x rf a0) (f_Fi_immediate a0)) (va_cwS 2 hT (gB_SV mw_457 mw_458 mw_19 mw_459) rfl rfl rfl (by decide +kernel) ⟨Nat.le_of_ble_eq_true rfl, Nat.le_of_ble_eq_true rfl⟩) ⟨fun _ _ _ _ q => q, fun U hU hW => ⟨rfl, hU⟩⟩ rfl rfl hl.1 rfl (lv_room (Nat.le_of_ble_eq_true rfl)) dMa_turnedOrCut_51 ⟨Nat.zero_le _, Nat.zero_le _⟩) hS (fun _ _ h => h.elim) (fun _ h => h.elim) (fun r u t H1 locs ht hvm hw hB hz8 hk8 hS => ?_)
      obtain rfl : s.heap = H1 := hB.symm.trans ht
      subst hw
      exact W.lret (v := (f_Ar_lowest (f_Ma_x rf a0) (f_Fi_immediate a0))) hx hb hr (fun t ht hW => ⟨⟨(f_Ar_lowest (f_Ma_x rf a0) (f_Fi_immediate a0)), (), rfl, (by unfold f_Ma_turnedOrCut; rw [if_neg c1, if_neg c3]; try rfl), ht⟩, hS.F ht⟩) hS.2.2 dMa_turnedOrCut_54
    · have c3 := bI_n c3
      refine lv_iconst (v := (1 : Int32)) hx hb dMa_turnedOrCut_21 (by decide) ?_
      refine lv_goto (tgt := 26) hx hb dMa_turnedOrCut_22 (by decide) ?_
      refine lv_istore (lv' := [(4, .int (1 : Int32)), (3, .int (f_Fi_immediate a0)), (0, .ref h4), (1, .long a0)]) hx hb dMa_turnedOrCut_26 hl (by decide) rfl (fun ls hl => ?_)
      refine lv_iload hx hb dMa_turnedOrCut_28 (lv_at hl 0 rfl) ?_
      refine lv_if_eq (tgt := 45) hx hb dMa_turnedOrCut_30 (by decide) (fun c5 => absurd c5 (by decide)) (fun _ => ?_)
      refine lv_aload_n hx hb dMa_turnedOrCut_33 rfl (lv_at hl 2 rfl) ?_
      refine lv_lload_n hx hb dMa_turnedOrCut_34 rfl (lv_at hl 3 rfl) ?_
      have hPc := hP.sub (ws' := [(h4, .inr (2, [.ref h5, .ref h2])), (h5, .inl (cL, 16, .inr (.inl rf)))]) [0, 1] rfl
      refine va_calll (va_runV (As := [.long a0]) (rest := []) ⟨hx, hb, hml, hown, hT⟩ (c_Ma_x l G cB cL cI s.heap h4 h5 h2 rf a0 hPc ) (cwV 1 hT (gB_V mw_481 mw_482 mw_483 mw_4 mw_484) rfl rfl rfl (by decide +kernel) ⟨Nat.le_of_ble_eq_true rfl, Nat.le_of_ble_eq_true rfl⟩) ⟨fun a U g mk q => ⟨q.1, q.2.1, va_K.moved (u := U) (U := U.calling g mk a) (Vm.Alike.refl U.vm) q.2.2⟩, va_recv hK hPc (ci := 2) (q0 := 0) rfl rfl, fun U hU hW => ⟨rfl, hU, va_K.moved hW.alike hK⟩⟩ rfl rfl hl.1 rfl (lv_room (Nat.le_of_ble_eq_true rfl)) dMa_turnedOrCut_35 ⟨Nat.zero_le _, Nat.zero_le _⟩) hS (fun _ _ h => h.elim) (fun _ h => h.elim) (fun r u t H1 locs ht hvm hw hB hz8 hk8 hS => ?_)
      obtain rfl : s.heap = H1 := hB.symm.trans ht
      subst hw
      refine lv_iload_n hx hb dMa_turnedOrCut_38 rfl (lv_at hl 1 rfl) ?_
      refine va_calll (va_runS (As := [.long (f_Ma_x rf a0), .int (f_Fi_immediate a0)]) (rest := []) ⟨hx, hb, hml, hown, hT⟩ (c_Ar_turned l s.heap (f_Ma_x rf a0) (f_Fi_immediate a0)) (va_cwS 2 hT (gB_SV mw_531 mw_532 mw_19 mw_533) rfl rfl rfl (by decide +kernel) ⟨Nat.le_of_ble_eq_true rfl, Nat.le_of_ble_eq_true rfl⟩) ⟨fun _ _ _ _ q => q, fun U hU hW => ⟨rfl, hU⟩⟩ rfl rfl hl.1 rfl (lv_room (Nat.le_of_ble_eq_true rfl)) dMa_turnedOrCut_39 ⟨Nat.zero_le _, Nat.zero_le _⟩) hS (fun _ _ h => h.elim) (fun _ h => h.elim) (fun r u t H1 locs ht hvm hw hB hz8 hk8 hS => ?_)
      obtain rfl : s.heap = H1 := hB.symm.trans ht
      subst hw
      refine lv_goto (tgt := 54) hx hb dMa_turnedOrCut_42 (by decide) ?_
      exact W.lret (v := (f_Ar_turned (f_Ma_x rf a0) (f_Fi_immediate a0))) hx hb hr (fun t ht hW => ⟨⟨(f_Ar_turned (f_Ma_x rf a0) (f_Fi_immediate a0)), (), rfl, (by unfold f_Ma_turnedOrCut; rw [if_neg c1, if_pos c3]; try rfl), ht⟩, hS.F ht⟩) hS.2.2 dMa_turnedOrCut_54

def f_Ma_computed (rf : Nat → Int64) (a0 : Int64) : Int64 :=
  if (f_Fi_operation a0) = (13 : Int32) then
    (f_Ma_turnedOrCut rf a0)
  else
    if (f_Fi_kind a0) = (7 : Int32) then
      (f_Ar_wide (f_Fi_operation a0) (f_Fi_offset a0) (f_Ma_x rf a0) (f_Ma_operand rf a0))
    else
      (f_Ar_narrow (f_Fi_operation a0) (f_Fi_offset a0) ((f_Ma_x rf a0).toInt32) ((f_Ma_operand rf a0).toInt32))
set_option maxHeartbeats 4000000 in
set_option maxRecDepth 100000 in
theorem c_Ma_computed (l : Launch) (G : va_G) (cB cL cI : ClassId) (Hp : Heap) (h4 : Nat) (h5 : Nat) (h2 : Nat) (rf : Nat → Int64) (a0 : Int64) (hP : va_P G vwCl [(h4, .inr (2, [.ref h5, .ref h2])), (h5, .inl (cL, 16, .inr (.inl rf)))] Hp) : Met l yMa_computed wsMa_computed ({ frames := 5, cells := 0, slots := 0, locals := 123 }) (va_Pc [.ref h4, .long a0] (fun U => U.heap = Hp ∧ va_K G vwCl [(cB, .byte), (cL, .long), (cI, .int)] U)) (va_Ql (fun (r : Int64) (_ : Unit) => r = (f_Ma_computed rf a0)) (fun _ t => t.heap = Hp) (fun _ => False)) 0 0 (fun _ => False) := by
  refine Met.ofW (cc := cMa_computed) (maxL := 4) (ret := (some .long)) (by decide) rfl ?_
  intro p e s m args below meth c s₁ B hml hv
  obtain ⟨rfl, rfl, hK⟩ := hv
  have hx := B.exec
  have hb := B.bytes
  have hr := B.returns
  have hT : ∀ w ∈ tB, w.before _ s = true := fun w h => atoms_spec (ws := wsMa_computed) B.pre w (List.mem_cons_of_mem _ h)
  have hown : s.vm.findClass "CompiledProgram$Machine" = some m.cls := findClass_of_methodNamed B.named
  have hlocks := B.notSynchronized
  have hA : ∀ q : Nat, (fun _ : Nat => False) q → False := fun _ h => h
  have hS : va_S (fun _ => False) s.heap s.heap [] := va_S.rf
  have hl := lv_entry ([.ref h4, .long a0]) (n := 4) (Nat.le_of_ble_eq_true rfl)
  rw [lg_entry_eq]
  generalize (lg_sl ([.ref h4, .long a0]) ++ List.replicate (4 - (lg_sl ([.ref h4, .long a0])).length) Slot.unset).toArray = ls at hl ⊢
  have hl : lv_has ls 4 [(0, .ref h4), (1, .long a0)] := hl
  refine lv_lload_n hx hb dMa_computed_0 rfl (lv_at hl 1 rfl) ?_
  refine va_calli (va_runS (As := [.long a0]) (rest := []) ⟨hx, hb, hml, hown, hT⟩ (c_Fi_operation l s.heap a0) (va_cwS 1 hT (gB_SV mw_517 mw_183 mw_16 mw_184) rfl rfl rfl (by decide +kernel) ⟨Nat.le_of_ble_eq_true rfl, Nat.le_of_ble_eq_true rfl⟩) ⟨fun _ _ _ _ q => q, fun U hU hW => ⟨rfl, hU⟩⟩ rfl rfl hl.1 rfl (lv_room (Nat.le_of_ble_eq_true rfl)) dMa_computed_1 ⟨Nat.zero_le _, Nat.zero_le _⟩) hS (fun _ _ h => h.elim) (fun _ h => h.elim) (fun r u t H1 locs ht hvm hw hB hz8 hk8 hS => ?_)
  obtain rfl : s.heap = H1 := hB.symm.trans ht
  subst hw
  refine lv_istore_n (lv' := [(3, .int (f_Fi_operation a0)), (0, .ref h4), (1, .long a0)]) hx hb dMa_computed_4 rfl hl (by decide) rfl (fun ls hl => ?_)
  refine lv_iload_n hx hb dMa_computed_5 rfl (lv_at hl 0 rfl) ?_
  refine lv_bipush (v := (13 : Int32)) hx hb dMa_computed_6 (by decide) ?_
  refine lv_icmp_ne (tgt := 17) hx hb dMa_computed_8 (by decide) (fun c1 => ?_) (fun c1 => ?_)
  · skip
    refine lv_lload_n hx hb dMa_computed_17 rfl (lv_at hl 2 rfl) ?_
    refine va_calli (va_runS (As := [.long a0]) (rest := []) ⟨hx, hb, hml, hown, hT⟩ (c_Fi_kind l s.heap a0) (va_cwS 1 hT (gB_SV mw_450 mw_132 mw_16 mw_133) rfl rfl rfl (by decide +kernel) ⟨Nat.le_of_ble_eq_true rfl, Nat.le_of_ble_eq_true rfl⟩) ⟨fun _ _ _ _ q => q, fun U hU hW => ⟨rfl, hU⟩⟩ rfl rfl hl.1 rfl (lv_room (Nat.le_of_ble_eq_true rfl)) dMa_computed_18 ⟨Nat.zero_le _, Nat.zero_le _⟩) hS (fun _ _ h => h.elim) (fun _ h => h.elim) (fun r u t H1 locs ht hvm hw hB hz8 hk8 hS => ?_)
    obtain rfl : s.heap = H1 := hB.symm.trans ht
    subst hw
    refine lv_bipush (v := (7 : Int32)) hx hb dMa_computed_21 (by decide) ?_
    refine lv_icmp_ne (tgt := 47) hx hb dMa_computed_23 (by decide) (fun c2 => ?_) (fun c2 => ?_)
    · skip
      refine lv_iload_n hx hb dMa_computed_47 rfl (lv_at hl 0 rfl) ?_
      refine lv_lload_n hx hb dMa_computed_48 rfl (lv_at hl 2 rfl) ?_
      refine va_calli (va_runS (As := [.long a0]) (rest := [.int (f_Fi_operation a0)]) ⟨hx, hb, hml, hown, hT⟩ (c_Fi_offset l s.heap a0) (va_cwS 1 hT (gB_SV mw_470 mw_150 mw_16 mw_151) rfl rfl rfl (by decide +kernel) ⟨Nat.le_of_ble_eq_true rfl, Nat.le_of_ble_eq_true rfl⟩) ⟨fun _ _ _ _ q => q, fun U hU hW => ⟨rfl, hU⟩⟩ rfl rfl hl.1 rfl (lv_room (Nat.le_of_ble_eq_true rfl)) dMa_computed_49 ⟨Nat.zero_le _, Nat.zero_le _⟩) hS (fun _ _ h => h.elim) (fun _ h => h.elim) (fun r u t H1 locs ht hvm hw hB hz8 hk8 hS => ?_)
      obtain rfl : s.heap = H1 := hB.symm.trans ht
      subst hw
      refine lv_aload_n hx hb dMa_computed_52 rfl (lv_at hl 1 rfl) ?_
      refine lv_lload_n hx hb dMa_computed_53 rfl (lv_at hl 2 rfl) ?_
      have hPc := hP.sub (ws' := [(h4, .inr (2, [.ref h5, .ref h2])), (h5, .inl (cL, 16, .inr (.inl rf)))]) [0, 1] rfl
      refine va_calll (va_runV (As := [.long a0]) (rest := [.int (f_Fi_offset a0), .int (f_Fi_operation a0)]) ⟨hx, hb, hml, hown, hT⟩ (c_Ma_x l G cB cL cI s.heap h4 h5 h2 rf a0 hPc ) (cwV 1 hT (gB_V mw_481 mw_482 mw_483 mw_4 mw_484) rfl rfl rfl (by decide +kernel) ⟨Nat.le_of_ble_eq_true rfl, Nat.le_of_ble_eq_true rfl⟩) ⟨fun a U g mk q => ⟨q.1, q.2.1, va_K.moved (u := U) (U := U.calling g mk a) (Vm.Alike.refl U.vm) q.2.2⟩, va_recv hK hPc (ci := 2) (q0 := 0) rfl rfl, fun U hU hW => ⟨rfl, hU, va_K.moved hW.alike hK⟩⟩ rfl rfl hl.1 rfl (lv_room (Nat.le_of_ble_eq_true rfl)) dMa_computed_54 ⟨Nat.zero_le _, Nat.zero_le _⟩) hS (fun _ _ h => h.elim) (fun _ h => h.elim) (fun r u t H1 locs ht hvm hw hB hz8 hk8 hS => ?_)
      obtain rfl : s.heap = H1 := hB.symm.trans ht
      subst hw
      refine lv_l2i hx hb dMa_computed_57 rfl ?_
      refine lv_aload_n hx hb dMa_computed_58 rfl (lv_at hl 1 rfl) ?_
      refine lv_lload_n hx hb dMa_computed_59 rfl (lv_at hl 2 rfl) ?_
      have hPc := hP.sub (ws' := [(h4, .inr (2, [.ref h5, .ref h2])), (h5, .inl (cL, 16, .inr (.inl rf)))]) [0, 1] rfl
      refine va_calll (va_runV (As := [.long a0]) (rest := [.int ((f_Ma_x rf a0).toInt32), .int (f_Fi_offset a0), .int (f_Fi_operation a0)]) ⟨hx, hb, hml, hown, hT⟩ (c_Ma_operand l G cB cL cI s.heap h4 h5 h2 rf a0 hPc ) (cwV 1 hT (gB_V mw_512 mw_513 mw_514 mw_4 mw_515) rfl rfl rfl (by decide +kernel) ⟨Nat.le_of_ble_eq_true rfl, Nat.le_of_ble_eq_true rfl⟩) ⟨fun a U g mk q => ⟨q.1, q.2.1, va_K.moved (u := U) (U := U.calling g mk a) (Vm.Alike.refl U.vm) q.2.2⟩, va_recv hK hPc (ci := 2) (q0 := 0) rfl rfl, fun U hU hW => ⟨rfl, hU, va_K.moved hW.alike hK⟩⟩ rfl rfl hl.1 rfl (lv_room (Nat.le_of_ble_eq_true rfl)) dMa_computed_60 ⟨Nat.zero_le _, Nat.zero_le _⟩) hS (fun _ _ h => h.elim) (fun _ h => h.elim) (fun r u t H1 locs ht hvm hw hB hz8 hk8 hS => ?_)
      obtain rfl : s.heap = H1 := hB.symm.trans ht
      subst hw
      refine lv_l2i hx hb dMa_computed_63 rfl ?_
      refine va_calll (va_runS (As := [.int (f_Fi_operation a0), .int (f_Fi_offset a0), .int ((f_Ma_x rf a0).toInt32), .int ((f_Ma_operand rf a0).toInt32)]) (rest := []) ⟨hx, hb, hml, hown, hT⟩ (c_Ar_narrow l s.heap (f_Fi_operation a0) (f_Fi_offset a0) ((f_Ma_x rf a0).toInt32) ((f_Ma_operand rf a0).toInt32)) (va_cwS 4 hT (gB_SV mw_553 mw_554 mw_19 mw_555) rfl rfl rfl (by decide +kernel) ⟨Nat.le_of_ble_eq_true rfl, Nat.le_of_ble_eq_true rfl⟩) ⟨fun _ _ _ _ q => q, fun U hU hW => ⟨rfl, hU⟩⟩ rfl rfl hl.1 rfl (lv_room (Nat.le_of_ble_eq_true rfl)) dMa_computed_64 ⟨Nat.zero_le _, Nat.zero_le _⟩) hS (fun _ _ h => h.elim) (fun _ h => h.elim) (fun r u t H1 locs ht hvm hw hB hz8 hk8 hS => ?_)
      obtain rfl : s.heap = H1 := hB.symm.trans ht
      subst hw
      exact W.lret (v := (f_Ar_narrow (f_Fi_operation a0) (f_Fi_offset a0) ((f_Ma_x rf a0).toInt32) ((f_Ma_operand rf a0).toInt32))) hx hb hr (fun t ht hW => ⟨⟨(f_Ar_narrow (f_Fi_operation a0) (f_Fi_offset a0) ((f_Ma_x rf a0).toInt32) ((f_Ma_operand rf a0).toInt32)), (), rfl, (by unfold f_Ma_computed; rw [if_neg c1, if_neg c2]; try rfl), ht⟩, hS.F ht⟩) hS.2.2 dMa_computed_67
    · skip
      refine lv_iload_n hx hb dMa_computed_26 rfl (lv_at hl 0 rfl) ?_
      refine lv_lload_n hx hb dMa_computed_27 rfl (lv_at hl 2 rfl) ?_
      refine va_calli (va_runS (As := [.long a0]) (rest := [.int (f_Fi_operation a0)]) ⟨hx, hb, hml, hown, hT⟩ (c_Fi_offset l s.heap a0) (va_cwS 1 hT (gB_SV mw_470 mw_150 mw_16 mw_151) rfl rfl rfl (by decide +kernel) ⟨Nat.le_of_ble_eq_true rfl, Nat.le_of_ble_eq_true rfl⟩) ⟨fun _ _ _ _ q => q, fun U hU hW => ⟨rfl, hU⟩⟩ rfl rfl hl.1 rfl (lv_room (Nat.le_of_ble_eq_true rfl)) dMa_computed_28 ⟨Nat.zero_le _, Nat.zero_le _⟩) hS (fun _ _ h => h.elim) (fun _ h => h.elim) (fun r u t H1 locs ht hvm hw hB hz8 hk8 hS => ?_)
      obtain rfl : s.heap = H1 := hB.symm.trans ht
      subst hw
      refine lv_aload_n hx hb dMa_computed_31 rfl (lv_at hl 1 rfl) ?_
      refine lv_lload_n hx hb dMa_computed_32 rfl (lv_at hl 2 rfl) ?_
      have hPc := hP.sub (ws' := [(h4, .inr (2, [.ref h5, .ref h2])), (h5, .inl (cL, 16, .inr (.inl rf)))]) [0, 1] rfl
      refine va_calll (va_runV (As := [.long a0]) (rest := [.int (f_Fi_offset a0), .int (f_Fi_operation a0)]) ⟨hx, hb, hml, hown, hT⟩ (c_Ma_x l G cB cL cI s.heap h4 h5 h2 rf a0 hPc ) (cwV 1 hT (gB_V mw_481 mw_482 mw_483 mw_4 mw_484) rfl rfl rfl (by decide +kernel) ⟨Nat.le_of_ble_eq_true rfl, Nat.le_of_ble_eq_true rfl⟩) ⟨fun a U g mk q => ⟨q.1, q.2.1, va_K.moved (u := U) (U := U.calling g mk a) (Vm.Alike.refl U.vm) q.2.2⟩, va_recv hK hPc (ci := 2) (q0 := 0) rfl rfl, fun U hU hW => ⟨rfl, hU, va_K.moved hW.alike hK⟩⟩ rfl rfl hl.1 rfl (lv_room (Nat.le_of_ble_eq_true rfl)) dMa_computed_33 ⟨Nat.zero_le _, Nat.zero_le _⟩) hS (fun _ _ h => h.elim) (fun _ h => h.elim) (fun r u t H1 locs ht hvm hw hB hz8 hk8 hS => ?_)
      obtain rfl : s.heap = H1 := hB.symm.trans ht
      subst hw
      refine lv_aload_n hx hb dMa_computed_36 rfl (lv_at hl 1 rfl) ?_
      refine lv_lload_n hx hb dMa_computed_37 rfl (lv_at hl 2 rfl) ?_
      have hPc := hP.sub (ws' := [(h4, .inr (2, [.ref h5, .ref h2])), (h5, .inl (cL, 16, .inr (.inl rf)))]) [0, 1] rfl
      refine va_calll (va_runV (As := [.long a0]) (rest := [.long (f_Ma_x rf a0), .int (f_Fi_offset a0), .int (f_Fi_operation a0)]) ⟨hx, hb, hml, hown, hT⟩ (c_Ma_operand l G cB cL cI s.heap h4 h5 h2 rf a0 hPc ) (cwV 1 hT (gB_V mw_512 mw_513 mw_514 mw_4 mw_515) rfl rfl rfl (by decide +kernel) ⟨Nat.le_of_ble_eq_true rfl, Nat.le_of_ble_eq_true rfl⟩) ⟨fun a U g mk q => ⟨q.1, q.2.1, va_K.moved (u := U) (U := U.calling g mk a) (Vm.Alike.refl U.vm) q.2.2⟩, va_recv hK hPc (ci := 2) (q0 := 0) rfl rfl, fun U hU hW => ⟨rfl, hU, va_K.moved hW.alike hK⟩⟩ rfl rfl hl.1 rfl (lv_room (Nat.le_of_ble_eq_true rfl)) dMa_computed_38 ⟨Nat.zero_le _, Nat.zero_le _⟩) hS (fun _ _ h => h.elim) (fun _ h => h.elim) (fun r u t H1 locs ht hvm hw hB hz8 hk8 hS => ?_)
      obtain rfl : s.heap = H1 := hB.symm.trans ht
      subst hw
      refine va_calll (va_runS (As := [.int (f_Fi_operation a0), .int (f_Fi_offset a0), .long (f_Ma_x rf a0), .long (f_Ma_operand rf a0)]) (rest := []) ⟨hx, hb, hml, hown, hT⟩ (c_Ar_wide l s.heap (f_Fi_operation a0) (f_Fi_offset a0) (f_Ma_x rf a0) (f_Ma_operand rf a0)) (va_cwS 4 hT (gB_SV mw_539 mw_540 mw_19 mw_541) rfl rfl rfl (by decide +kernel) ⟨Nat.le_of_ble_eq_true rfl, Nat.le_of_ble_eq_true rfl⟩) ⟨fun _ _ _ _ q => q, fun U hU hW => ⟨rfl, hU⟩⟩ rfl rfl hl.1 rfl (lv_room (Nat.le_of_ble_eq_true rfl)) dMa_computed_41 ⟨Nat.zero_le _, Nat.zero_le _⟩) hS (fun _ _ h => h.elim) (fun _ h => h.elim) (fun r u t H1 locs ht hvm hw hB hz8 hk8 hS => ?_)
      obtain rfl : s.heap = H1 := hB.symm.trans ht
      subst hw
      refine lv_goto (tgt := 67) hx hb dMa_computed_44 (by decide) ?_
      exact W.lret (v := (f_Ar_wide (f_Fi_operation a0) (f_Fi_offset a0) (f_Ma_x rf a0) (f_Ma_operand rf a0))) hx hb hr (fun t ht hW => ⟨⟨(f_Ar_wide (f_Fi_operation a0) (f_Fi_offset a0) (f_Ma_x rf a0) (f_Ma_operand rf a0)), (), rfl, (by unfold f_Ma_computed; rw [if_neg c1, if_pos c2]; try rfl), ht⟩, hS.F ht⟩) hS.2.2 dMa_computed_67
  · skip
    refine lv_aload_n hx hb dMa_computed_11 rfl (lv_at hl 1 rfl) ?_
    refine lv_lload_n hx hb dMa_computed_12 rfl (lv_at hl 2 rfl) ?_
    have hPc := hP.sub (ws' := [(h4, .inr (2, [.ref h5, .ref h2])), (h5, .inl (cL, 16, .inr (.inl rf)))]) [0, 1] rfl
    refine va_calll (va_runV (As := [.long a0]) (rest := []) ⟨hx, hb, hml, hown, hT⟩ (c_Ma_turnedOrCut l G cB cL cI s.heap h4 h5 h2 rf a0 hPc ) (cwV 1 hT (gB_V mw_527 mw_528 mw_529 mw_4 mw_530) rfl rfl rfl (by decide +kernel) ⟨Nat.le_of_ble_eq_true rfl, Nat.le_of_ble_eq_true rfl⟩) ⟨fun a U g mk q => ⟨q.1, q.2.1, va_K.moved (u := U) (U := U.calling g mk a) (Vm.Alike.refl U.vm) q.2.2⟩, va_recv hK hPc (ci := 2) (q0 := 0) rfl rfl, fun U hU hW => ⟨rfl, hU, va_K.moved hW.alike hK⟩⟩ rfl rfl hl.1 rfl (lv_room (Nat.le_of_ble_eq_true rfl)) dMa_computed_13 ⟨Nat.zero_le _, Nat.zero_le _⟩) hS (fun _ _ h => h.elim) (fun _ h => h.elim) (fun r u t H1 locs ht hvm hw hB hz8 hk8 hS => ?_)
    obtain rfl : s.heap = H1 := hB.symm.trans ht
    subst hw
    exact W.lret (v := (f_Ma_turnedOrCut rf a0)) hx hb hr (fun t ht hW => ⟨⟨(f_Ma_turnedOrCut rf a0), (), rfl, (by unfold f_Ma_computed; rw [if_pos c1]; try rfl), ht⟩, hS.F ht⟩) hS.2.2 dMa_computed_16
