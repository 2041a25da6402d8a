def f_Ar_lowest (a0 : Int64) (a1 : Int32) : Int64 :=
  if a1 < (64 : Int32) then
    (a0 &&& ((j_lshl (1 : Int64) a1) - (1 : Int64)))
  else
    a0
set_option maxHeartbeats 4000000 in
set_option maxRecDepth 100000 in
theorem c_Ar_lowest (l : Launch) (Hp : Heap) (a0 : Int64) (a1 : Int32) : Met l yAr_lowest wsAr_lowest ({ frames := 0, cells := 0, slots := 0, locals := 0 }) (va_Pc [.long a0, .int a1] (fun U => U.heap = Hp)) (va_Ql (fun (r : Int64) (_ : Unit) => r = f_Ar_lowest a0 a1) (fun _ t => t.heap = Hp) (fun _ => False)) 0 0 (fun _ => False) := by
  refine Met.ofW (cc := cAr_lowest) (maxL := 3) (ret := (some .long)) (by decide) rfl ?_
  intro p e s m args below meth c s₁ B hml hv
  obtain ⟨rfl, rfl⟩ := hv
  have hx := B.exec
  have hb := B.bytes
  have hr := B.returns
  have hT : ∀ w ∈ tB, w.before _ s = true := fun w h => atoms_spec (ws := wsAr_lowest) B.pre w (List.mem_cons_of_mem _ h)
  have hown : s.vm.findClass "CompiledProgram$Arithmetic" = some m.cls := findClass_of_methodNamed B.named
  have hlocks := B.notSynchronized
  have hS : va_S (fun _ => False) s.heap s.heap [] := va_S.rf
  have hl := lv_entry ([.long a0, .int a1]) (n := 3) (Nat.le_of_ble_eq_true rfl)
  rw [lg_entry_eq]
  generalize (lg_sl ([.long a0, .int a1]) ++ List.replicate (3 - (lg_sl ([.long a0, .int a1])).length) Slot.unset).toArray = ls at hl ⊢
  have hl : lv_has ls 3 [(0, .long a0), (2, .int a1)] := hl
  refine lv_iload_n hx hb dAr_lowest_0 rfl (lv_at hl 1 rfl) ?_
  refine lv_bipush (v := (64 : Int32)) hx hb dAr_lowest_1 (by decide) ?_
  refine lv_icmp_lt (tgt := 10) hx hb dAr_lowest_3 (by decide) (fun c1 => ?_) (fun c1 => ?_)
  · skip
    refine lv_lload_n hx hb dAr_lowest_10 rfl (lv_at hl 0 rfl) ?_
    refine lv_lconst (v := (1 : Int64)) hx hb dAr_lowest_11 (by decide) ?_
    refine lv_iload_n hx hb dAr_lowest_12 rfl (lv_at hl 1 rfl) ?_
    refine lv_lshl (v := (j_lshl (1 : Int64) a1)) hx hb dAr_lowest_13 rfl ?_
    refine lv_lconst (v := (1 : Int64)) hx hb dAr_lowest_14 (by decide) ?_
    refine lv_lsub hx hb dAr_lowest_15 ?_
    refine lv_land hx hb dAr_lowest_16 ?_
    exact W.lret (v := (a0 &&& ((j_lshl (1 : Int64) a1) - (1 : Int64)))) hx hb hr (fun t ht hW => ⟨⟨(a0 &&& ((j_lshl (1 : Int64) a1) - (1 : Int64))), (), rfl, (by unfold f_Ar_lowest; rw [if_pos c1]; try rfl), ht⟩, hS.F ht⟩) hS.2.2 dAr_lowest_17
  · skip
    refine lv_lload_n hx hb dAr_lowest_6 rfl (lv_at hl 0 rfl) ?_
    refine lv_goto (tgt := 17) hx hb dAr_lowest_7 (by decide) ?_
    exact W.lret (v := a0) hx hb hr (fun t ht hW => ⟨⟨a0, (), rfl, (by unfold f_Ar_lowest; rw [if_neg c1]; try rfl), ht⟩, hS.F ht⟩) hS.2.2 dAr_lowest_17

def f_Ar_signed (a0 : Int64) (a1 : Int32) : Int64 :=
  if a1 < (64 : Int32) then
    (j_lshr (j_lshl a0 ((64 : Int32) - a1)) ((64 : Int32) - a1))
  else
    a0
set_option maxHeartbeats 4000000 in
set_option maxRecDepth 100000 in
theorem c_Ar_signed (l : Launch) (Hp : Heap) (a0 : Int64) (a1 : Int32) : Met l yAr_signed wsAr_signed ({ frames := 0, cells := 0, slots := 0, locals := 0 }) (va_Pc [.long a0, .int a1] (fun U => U.heap = Hp)) (va_Ql (fun (r : Int64) (_ : Unit) => r = f_Ar_signed a0 a1) (fun _ t => t.heap = Hp) (fun _ => False)) 0 0 (fun _ => False) := by
  refine Met.ofW (cc := cAr_signed) (maxL := 3) (ret := (some .long)) (by decide) rfl ?_
  intro p e s m args below meth c s₁ B hml hv
  obtain ⟨rfl, rfl⟩ := hv
  have hx := B.exec
  have hb := B.bytes
  have hr := B.returns
  have hT : ∀ w ∈ tB, w.before _ s = true := fun w h => atoms_spec (ws := wsAr_signed) B.pre w (List.mem_cons_of_mem _ h)
  have hown : s.vm.findClass "CompiledProgram$Arithmetic" = some m.cls := findClass_of_methodNamed B.named
  have hlocks := B.notSynchronized
  have hS : va_S (fun _ => False) s.heap s.heap [] := va_S.rf
  have hl := lv_entry ([.long a0, .int a1]) (n := 3) (Nat.le_of_ble_eq_true rfl)
  rw [lg_entry_eq]
  generalize (lg_sl ([.long a0, .int a1]) ++ List.replicate (3 - (lg_sl ([.long a0, .int a1])).length) Slot.unset).toArray = ls at hl ⊢
  have hl : lv_has ls 3 [(0, .long a0), (2, .int a1)] := hl
  refine lv_iload_n hx hb dAr_signed_0 rfl (lv_at hl 1 rfl) ?_
  refine lv_bipush (v := (64 : Int32)) hx hb dAr_signed_1 (by decide) ?_
  refine lv_icmp_lt (tgt := 10) hx hb dAr_signed_3 (by decide) (fun c1 => ?_) (fun c1 => ?_)
  · skip
    refine lv_lload_n hx hb dAr_signed_10 rfl (lv_at hl 0 rfl) ?_
    refine lv_bipush (v := (64 : Int32)) hx hb dAr_signed_11 (by decide) ?_
    refine lv_iload_n hx hb dAr_signed_13 rfl (lv_at hl 1 rfl) ?_
    refine lv_isub hx hb dAr_signed_14 ?_
    refine lv_lshl (v := (j_lshl a0 ((64 : Int32) - a1))) hx hb dAr_signed_15 rfl ?_
    refine lv_bipush (v := (64 : Int32)) hx hb dAr_signed_16 (by decide) ?_
    refine lv_iload_n hx hb dAr_signed_18 rfl (lv_at hl 1 rfl) ?_
    refine lv_isub hx hb dAr_signed_19 ?_
    refine lv_lshr (v := (j_lshr (j_lshl a0 ((64 : Int32) - a1)) ((64 : Int32) - a1))) hx hb dAr_signed_20 rfl ?_
    exact W.lret (v := (j_lshr (j_lshl a0 ((64 : Int32) - a1)) ((64 : Int32) - a1))) hx hb hr (fun t ht hW => ⟨⟨(j_lshr (j_lshl a0 ((64 : Int32) - a1)) ((64 : Int32) - a1)), (), rfl, (by unfold f_Ar_signed; rw [if_pos c1]; try rfl), ht⟩, hS.F ht⟩) hS.2.2 dAr_signed_21
  · skip
    refine lv_lload_n hx hb dAr_signed_6 rfl (lv_at hl 0 rfl) ?_
    refine lv_goto (tgt := 21) hx hb dAr_signed_7 (by decide) ?_
    exact W.lret (v := a0) hx hb hr (fun t ht hW => ⟨⟨a0, (), rfl, (by unfold f_Ar_signed; rw [if_neg c1]; try rfl), ht⟩, hS.F ht⟩) hS.2.2 dAr_signed_21

def f_Ar_turned (a0 : Int64) (a1 : Int32) : Int64 :=
  (j_lushr (f_Jl_reverseBytes a0) ((64 : Int32) - a1))
set_option maxHeartbeats 4000000 in
set_option maxRecDepth 100000 in
theorem c_Ar_turned (l : Launch) (Hp : Heap) (a0 : Int64) (a1 : Int32) : Met l yAr_turned wsAr_turned ({ frames := 1, cells := 0, slots := 0, locals := 21 }) (va_Pc [.long a0, .int a1] (fun U => U.heap = Hp)) (va_Ql (fun (r : Int64) (_ : Unit) => r = f_Ar_turned a0 a1) (fun _ t => t.heap = Hp) (fun _ => False)) 0 0 (fun _ => False) := by
  refine Met.ofW (cc := cAr_turned) (maxL := 3) (ret := (some .long)) (by decide) rfl ?_
  intro p e s m args below meth c s₁ B hml hv
  obtain ⟨rfl, rfl⟩ := hv
  have hx := B.exec
  have hb := B.bytes
  have hr := B.returns
  have hT : ∀ w ∈ tB, w.before _ s = true := fun w h => atoms_spec (ws := wsAr_turned) B.pre w (List.mem_cons_of_mem _ h)
  have hown : s.vm.findClass "CompiledProgram$Arithmetic" = some m.cls := findClass_of_methodNamed B.named
  have hlocks := B.notSynchronized
  have hS : va_S (fun _ => False) s.heap s.heap [] := va_S.rf
  have hl := lv_entry ([.long a0, .int a1]) (n := 3) (Nat.le_of_ble_eq_true rfl)
  rw [lg_entry_eq]
  generalize (lg_sl ([.long a0, .int a1]) ++ List.replicate (3 - (lg_sl ([.long a0, .int a1])).length) Slot.unset).toArray = ls at hl ⊢
  have hl : lv_has ls 3 [(0, .long a0), (2, .int a1)] := hl
  refine lv_lload_n hx hb dAr_turned_0 rfl (lv_at hl 0 rfl) ?_
  refine va_calll (va_runS (As := [.long a0]) (rest := []) ⟨hx, hb, hml, hown, hT⟩ (c_Jl_reverseBytes l s.heap a0) (va_cwS 1 hT (gB_SV mw_534 mw_535 mw_20 mw_536) rfl rfl rfl (by decide +kernel) ⟨Nat.le_of_ble_eq_true rfl, Nat.le_of_ble_eq_true rfl⟩) ⟨fun _ _ _ _ q => q, fun U hU hW => ⟨rfl, hU⟩⟩ rfl rfl hl.1 rfl (lv_room (Nat.le_of_ble_eq_true rfl)) dAr_turned_1 ⟨Nat.zero_le _, Nat.zero_le _⟩) hS (fun _ _ h => h.elim) (fun _ h => h.elim) (fun r u t H1 locs ht hvm hw hB hz8 hk8 hS => ?_)
  obtain rfl : s.heap = H1 := hB.symm.trans ht
  subst hw
  refine lv_bipush (v := (64 : Int32)) hx hb dAr_turned_4 (by decide) ?_
  refine lv_iload_n hx hb dAr_turned_6 rfl (lv_at hl 1 rfl) ?_
  refine lv_isub hx hb dAr_turned_7 ?_
  refine lv_lushr (v := (j_lushr (f_Jl_reverseBytes a0) ((64 : Int32) - a1))) hx hb dAr_turned_8 rfl ?_
  exact W.lret (v := (j_lushr (f_Jl_reverseBytes a0) ((64 : Int32) - a1))) hx hb hr (fun t ht hW => ⟨⟨(j_lushr (f_Jl_reverseBytes a0) ((64 : Int32) - a1)), (), rfl, rfl, ht⟩, hS.F ht⟩) hS.2.2 dAr_turned_9

def f_Ar_unsignedQuotient (a0 : Int64) (a1 : Int64) : Int64 :=
  if (0 : Int64) < a1 then
    if ((a0 - ((j_lshl ((j_lushr a0 (1 : Int32)) / a1) (1 : Int32)) * a1)) ^^^ (-9223372036854775808 : Int64)) < (a1 ^^^ (-9223372036854775808 : Int64)) then
      (j_lshl ((j_lushr a0 (1 : Int32)) / a1) (1 : Int32))
    else
      ((j_lshl ((j_lushr a0 (1 : Int32)) / a1) (1 : Int32)) + (1 : Int64))
  else
    if (a0 ^^^ (-9223372036854775808 : Int64)) < (a1 ^^^ (-9223372036854775808 : Int64)) then
      (0 : Int64)
    else
      (1 : Int64)
set_option maxHeartbeats 4000000 in
set_option maxRecDepth 100000 in
theorem c_Ar_unsignedQuotient (l : Launch) (Hp : Heap) (a0 : Int64) (a1 : Int64) : Met l yAr_unsignedQuotient wsAr_unsignedQuotient ({ frames := 0, cells := 0, slots := 0, locals := 0 }) (va_Pc [.long a0, .long a1] (fun U => U.heap = Hp)) (va_Ql (fun (r : Int64) (_ : Unit) => r = f_Ar_unsignedQuotient a0 a1) (fun _ t => t.heap = Hp) (fun _ => False)) 0 0 (fun _ => False) := by
  refine Met.ofW (cc := cAr_unsignedQuotient) (maxL := 8) (ret := (some .long)) (by decide) rfl ?_
  intro p e s m args below meth c s₁ B hml hv
  obtain ⟨rfl, rfl⟩ := hv
  have hx := B.exec
  have hb := B.bytes
  have hr := B.returns
  have hT : ∀ w ∈ tB, w.before _ s = true := fun w h => atoms_spec (ws := wsAr_unsignedQuotient) B.pre w (List.mem_cons_of_mem _ h)
  have hown : s.vm.findClass "CompiledProgram$Arithmetic" = some m.cls := findClass_of_methodNamed B.named
  have hlocks := B.notSynchronized
  have hS : va_S (fun _ => False) s.heap s.heap [] := va_S.rf
  have hl := lv_entry ([.long a0, .long a1]) (n := 8) (Nat.le_of_ble_eq_true rfl)
  rw [lg_entry_eq]
  generalize (lg_sl ([.long a0, .long a1]) ++ List.replicate (8 - (lg_sl ([.long a0, .long a1])).length) Slot.unset).toArray = ls at hl ⊢
  have hl : lv_has ls 8 [(0, .long a0), (2, .long a1)] := hl
  refine lv_lload_n hx hb dAr_unsignedQuotient_0 rfl (lv_at hl 1 rfl) ?_
  refine lv_lconst (v := (0 : Int64)) hx hb dAr_unsignedQuotient_1 (by decide) ?_
  refine W.lcmp hx hb dAr_unsignedQuotient_2 ?_
  refine lv_if_gt (tgt := 26) hx hb dAr_unsignedQuotient_3 (by decide) (fun c1 => ?_) (fun c1 => ?_)
  · have c1 := (lg_cmp_gt _ _).mp c1
    refine lv_lload_n hx hb dAr_unsignedQuotient_26 rfl (lv_at hl 0 rfl) ?_
    refine lv_iconst (v := (1 : Int32)) hx hb dAr_unsignedQuotient_27 (by decide) ?_
    refine lv_lushr (v := (j_lushr a0 (1 : Int32))) hx hb dAr_unsignedQuotient_28 rfl ?_
    refine lv_lload_n hx hb dAr_unsignedQuotient_29 rfl (lv_at hl 1 rfl) ?_
    refine lv_ldiv hx hb dAr_unsignedQuotient_30 (l_pne c1) ?_
    refine lv_iconst (v := (1 : Int32)) hx hb dAr_unsignedQuotient_31 (by decide) ?_
    refine lv_lshl (v := (j_lshl ((j_lushr a0 (1 : Int32)) / a1) (1 : Int32))) hx hb dAr_unsignedQuotient_32 rfl ?_
    refine lv_lstore (lv' := [(4, .long (j_lshl ((j_lushr a0 (1 : Int32)) / a1) (1 : Int32))), (0, .long a0), (2, .long a1)]) hx hb dAr_unsignedQuotient_33 hl (by decide) rfl (fun ls hl => ?_)
    refine lv_lload_n hx hb dAr_unsignedQuotient_35 rfl (lv_at hl 1 rfl) ?_
    refine lv_lload hx hb dAr_unsignedQuotient_36 (lv_at hl 0 rfl) ?_
    refine lv_lload_n hx hb dAr_unsignedQuotient_38 rfl (lv_at hl 2 rfl) ?_
    refine lv_lmul hx hb dAr_unsignedQuotient_39 ?_
    refine lv_lsub hx hb dAr_unsignedQuotient_40 ?_
    refine lv_lstore (lv' := [(6, .long (a0 - ((j_lshl ((j_lushr a0 (1 : Int32)) / a1) (1 : Int32)) * a1))), (4, .long (j_lshl ((j_lushr a0 (1 : Int32)) / a1) (1 : Int32))), (0, .long a0), (2, .long a1)]) hx hb dAr_unsignedQuotient_41 hl (by decide) rfl (fun ls hl => ?_)
    refine lv_lload hx hb dAr_unsignedQuotient_43 (lv_at hl 0 rfl) ?_
    refine lv_ldc2 (v := (-9223372036854775808 : Int64)) hx hb hown (hT _ mw_521) dAr_unsignedQuotient_45 ?_
    refine lv_lxor hx hb dAr_unsignedQuotient_48 ?_
    refine lv_lload_n hx hb dAr_unsignedQuotient_49 rfl (lv_at hl 3 rfl) ?_
    refine lv_ldc2 (v := (-9223372036854775808 : Int64)) hx hb hown (hT _ mw_521) dAr_unsignedQuotient_50 ?_
    refine lv_lxor hx hb dAr_unsignedQuotient_53 ?_
    refine W.lcmp hx hb dAr_unsignedQuotient_54 ?_
    refine lv_if_lt (tgt := 65) hx hb dAr_unsignedQuotient_55 (by decide) (fun c2 => ?_) (fun c2 => ?_)
    · have c2 := (lg_cmp_lt _ _).mp c2
      refine lv_lload hx hb dAr_unsignedQuotient_65 (lv_at hl 1 rfl) ?_
      exact W.lret (v := (j_lshl ((j_lushr a0 (1 : Int32)) / a1) (1 : Int32))) hx hb hr (fun t ht hW => ⟨⟨(j_lshl ((j_lushr a0 (1 : Int32)) / a1) (1 : Int32)), (), rfl, (by unfold f_Ar_unsignedQuotient; rw [if_pos c1, if_pos c2]; try rfl), ht⟩, hS.F ht⟩) hS.2.2 dAr_unsignedQuotient_67
    · have c2 := mt (lg_cmp_lt _ _).mpr c2
      refine lv_lload hx hb dAr_unsignedQuotient_58 (lv_at hl 1 rfl) ?_
      refine lv_lconst (v := (1 : Int64)) hx hb dAr_unsignedQuotient_60 (by decide) ?_
      refine lv_ladd hx hb dAr_unsignedQuotient_61 ?_
      refine lv_goto (tgt := 67) hx hb dAr_unsignedQuotient_62 (by decide) ?_
      exact W.lret (v := ((j_lshl ((j_lushr a0 (1 : Int32)) / a1) (1 : Int32)) + (1 : Int64))) hx hb hr (fun t ht hW => ⟨⟨((j_lshl ((j_lushr a0 (1 : Int32)) / a1) (1 : Int32)) + (1 : Int64)), (), rfl, (by unfold f_Ar_unsignedQuotient; rw [if_pos c1, if_neg c2]; try rfl), ht⟩, hS.F ht⟩) hS.2.2 dAr_unsignedQuotient_67
  · have c1 := mt (lg_cmp_gt _ _).mpr c1
    refine lv_lload_n hx hb dAr_unsignedQuotient_6 rfl (lv_at hl 0 rfl) ?_
    refine lv_ldc2 (v := (-9223372036854775808 : Int64)) hx hb hown (hT _ mw_521) dAr_unsignedQuotient_7 ?_
    refine lv_lxor hx hb dAr_unsignedQuotient_10 ?_
    refine lv_lload_n hx hb dAr_unsignedQuotient_11 rfl (lv_at hl 1 rfl) ?_
    refine lv_ldc2 (v := (-9223372036854775808 : Int64)) hx hb hown (hT _ mw_521) dAr_unsignedQuotient_12 ?_
    refine lv_lxor hx hb dAr_unsignedQuotient_15 ?_
    refine W.lcmp hx hb dAr_unsignedQuotient_16 ?_
    refine lv_if_lt (tgt := 24) hx hb dAr_unsignedQuotient_17 (by decide) (fun c3 => ?_) (fun c3 => ?_)
    · have c3 := (lg_cmp_lt _ _).mp c3
      refine lv_lconst (v := (0 : Int64)) hx hb dAr_unsignedQuotient_24 (by decide) ?_
      exact W.lret (v := (0 : Int64)) hx hb hr (fun t ht hW => ⟨⟨(0 : Int64), (), rfl, (by unfold f_Ar_unsignedQuotient; rw [if_neg c1, if_pos c3]; try rfl), ht⟩, hS.F ht⟩) hS.2.2 dAr_unsignedQuotient_25
    · have c3 := mt (lg_cmp_lt _ _).mpr c3
      refine lv_lconst (v := (1 : Int64)) hx hb dAr_unsignedQuotient_20 (by decide) ?_
      refine lv_goto (tgt := 25) hx hb dAr_unsignedQuotient_21 (by decide) ?_
      exact W.lret (v := (1 : Int64)) hx hb hr (fun t ht hW => ⟨⟨(1 : Int64), (), rfl, (by unfold f_Ar_unsignedQuotient; rw [if_neg c1, if_neg c3]; try rfl), ht⟩, hS.F ht⟩) hS.2.2 dAr_unsignedQuotient_25

def f_Ar_quotient (a0 : Bool) (a1 : Int64) (a2 : Int64) : Int64 :=
  if a2 = (0 : Int64) then
    (0 : Int64)
  else
    if a0 = true then
      (a1 / a2)
    else
      (f_Ar_unsignedQuotient a1 a2)
set_option maxHeartbeats 4000000 in
set_option maxRecDepth 100000 in
theorem c_Ar_quotient (l : Launch) (Hp : Heap) (a0 : Bool) (a1 : Int64) (a2 : Int64) : Met l yAr_quotient wsAr_quotient ({ frames := 1, cells := 0, slots := 0, locals := 27 }) (va_Pc [.int (bI a0), .long a1, .long a2] (fun U => U.heap = Hp)) (va_Ql (fun (r : Int64) (_ : Unit) => r = f_Ar_quotient a0 a1 a2) (fun _ t => t.heap = Hp) (fun _ => False)) 0 0 (fun _ => False) := by
  refine Met.ofW (cc := cAr_quotient) (maxL := 5) (ret := (some .long)) (by decide) rfl ?_
  intro p e s m args below meth c s₁ B hml hv
  obtain ⟨rfl, rfl⟩ := hv
  have hx := B.exec
  have hb := B.bytes
  have hr := B.returns
  have hT : ∀ w ∈ tB, w.before _ s = true := fun w h => atoms_spec (ws := wsAr_quotient) B.pre w (List.mem_cons_of_mem _ h)
  have hown : s.vm.findClass "CompiledProgram$Arithmetic" = some m.cls := findClass_of_methodNamed B.named
  have hlocks := B.notSynchronized
  have hS : va_S (fun _ => False) s.heap s.heap [] := va_S.rf
  have hl := lv_entry ([.int (bI a0), .long a1, .long a2]) (n := 5) (Nat.le_of_ble_eq_true rfl)
  rw [lg_entry_eq]
  generalize (lg_sl ([.int (bI a0), .long a1, .long a2]) ++ List.replicate (5 - (lg_sl ([.int (bI a0), .long a1, .long a2])).length) Slot.unset).toArray = ls at hl ⊢
  have hl : lv_has ls 5 [(0, .int (bI a0)), (1, .long a1), (3, .long a2)] := hl
  refine lv_lload_n hx hb dAr_quotient_0 rfl (lv_at hl 2 rfl) ?_
  refine lv_lconst (v := (0 : Int64)) hx hb dAr_quotient_1 (by decide) ?_
  refine W.lcmp hx hb dAr_quotient_2 ?_
  refine lv_if_ne (tgt := 8) hx hb dAr_quotient_3 (by decide) (fun c1 => ?_) (fun c1 => ?_)
  · have c1 := mt (lg_cmp_eq _ _).mpr c1
    refine lv_iload_n hx hb dAr_quotient_8 rfl (lv_at hl 0 rfl) ?_
    refine lv_if_eq (tgt := 18) hx hb dAr_quotient_9 (by decide) (fun c2 => ?_) (fun c2 => ?_)
    · have c2 := bI_z c2
      refine lv_lload_n hx hb dAr_quotient_18 rfl (lv_at hl 1 rfl) ?_
      refine lv_lload_n hx hb dAr_quotient_19 rfl (lv_at hl 2 rfl) ?_
      refine va_calll (va_runS (As := [.long a1, .long a2]) (rest := []) ⟨hx, hb, hml, hown, hT⟩ (c_Ar_unsignedQuotient l s.heap a1 a2) (cwS 2 hT (gB_S mw_545 mw_546 mw_19 mw_547) rfl rfl rfl (by decide +kernel) ⟨Nat.le_of_ble_eq_true rfl, Nat.le_of_ble_eq_true rfl⟩) ⟨fun _ _ _ _ q => q, fun U hU hW => ⟨rfl, hU⟩⟩ rfl rfl hl.1 rfl (lv_room (Nat.le_of_ble_eq_true rfl)) dAr_quotient_20 ⟨Nat.zero_le _, Nat.zero_le _⟩) hS (fun _ _ h => h.elim) (fun _ h => h.elim) (fun r u t H1 locs ht hvm hw hB hz8 hk8 hS => ?_)
      obtain rfl : s.heap = H1 := hB.symm.trans ht
      subst hw
      exact W.lret (v := (f_Ar_unsignedQuotient a1 a2)) hx hb hr (fun t ht hW => ⟨⟨(f_Ar_unsignedQuotient a1 a2), (), rfl, (by unfold f_Ar_quotient; rw [if_neg c1, if_neg c2]; try rfl), ht⟩, hS.F ht⟩) hS.2.2 dAr_quotient_23
    · have c2 := bI_n c2
      refine lv_lload_n hx hb dAr_quotient_12 rfl (lv_at hl 1 rfl) ?_
      refine lv_lload_n hx hb dAr_quotient_13 rfl (lv_at hl 2 rfl) ?_
      refine lv_ldiv hx hb dAr_quotient_14 c1 ?_
      refine lv_goto (tgt := 23) hx hb dAr_quotient_15 (by decide) ?_
      exact W.lret (v := (a1 / a2)) hx hb hr (fun t ht hW => ⟨⟨(a1 / a2), (), rfl, (by unfold f_Ar_quotient; rw [if_neg c1, if_pos c2]; try rfl), ht⟩, hS.F ht⟩) hS.2.2 dAr_quotient_23
  · have c1 := (lg_cmp_eq _ _).mp c1
    refine lv_lconst (v := (0 : Int64)) hx hb dAr_quotient_6 (by decide) ?_
    exact W.lret (v := (0 : Int64)) hx hb hr (fun t ht hW => ⟨⟨(0 : Int64), (), rfl, (by unfold f_Ar_quotient; rw [if_pos c1]; try rfl), ht⟩, hS.F ht⟩) hS.2.2 dAr_quotient_7

def f_Ar_rest (a0 : Bool) (a1 : Int64) (a2 : Int64) : Int64 :=
  (a1 - (a2 * (f_Ar_quotient a0 a1 a2)))
set_option maxHeartbeats 4000000 in
set_option maxRecDepth 100000 in
theorem c_Ar_rest (l : Launch) (Hp : Heap) (a0 : Bool) (a1 : Int64) (a2 : Int64) : Met l yAr_rest wsAr_rest ({ frames := 2, cells := 0, slots := 0, locals := 51 }) (va_Pc [.int (bI a0), .long a1, .long a2] (fun U => U.heap = Hp)) (va_Ql (fun (r : Int64) (_ : Unit) => r = f_Ar_rest a0 a1 a2) (fun _ t => t.heap = Hp) (fun _ => False)) 0 0 (fun _ => False) := by
  refine Met.ofW (cc := cAr_rest) (maxL := 5) (ret := (some .long)) (by decide) rfl ?_
  intro p e s m args below meth c s₁ B hml hv
  obtain ⟨rfl, rfl⟩ := hv
  have hx := B.exec
  have hb := B.bytes
  have hr := B.returns
  have hT : ∀ w ∈ tB, w.before _ s = true := fun w h => atoms_spec (ws := wsAr_rest) B.pre w (List.mem_cons_of_mem _ h)
  have hown : s.vm.findClass "CompiledProgram$Arithmetic" = some m.cls := findClass_of_methodNamed B.named
  have hlocks := B.notSynchronized
  have hS : va_S (fun _ => False) s.heap s.heap [] := va_S.rf
  have hl := lv_entry ([.int (bI a0), .long a1, .long a2]) (n := 5) (Nat.le_of_ble_eq_true rfl)
  rw [lg_entry_eq]
  generalize (lg_sl ([.int (bI a0), .long a1, .long a2]) ++ List.replicate (5 - (lg_sl ([.int (bI a0), .long a1, .long a2])).length) Slot.unset).toArray = ls at hl ⊢
  have hl : lv_has ls 5 [(0, .int (bI a0)), (1, .long a1), (3, .long a2)] := hl
  refine lv_lload_n hx hb dAr_rest_0 rfl (lv_at hl 1 rfl) ?_
  refine lv_lload_n hx hb dAr_rest_1 rfl (lv_at hl 2 rfl) ?_
  refine lv_iload_n hx hb dAr_rest_2 rfl (lv_at hl 0 rfl) ?_
  refine lv_lload_n hx hb dAr_rest_3 rfl (lv_at hl 1 rfl) ?_
  refine lv_lload_n hx hb dAr_rest_4 rfl (lv_at hl 2 rfl) ?_
  refine va_calll (va_runS (As := [.int (bI a0), .long a1, .long a2]) (rest := [.long a2, .long a1]) ⟨hx, hb, hml, hown, hT⟩ (c_Ar_quotient l s.heap a0 a1 a2) (cwS 3 hT (gB_S mw_542 mw_543 mw_19 mw_544) rfl rfl rfl (by decide +kernel) ⟨Nat.le_of_ble_eq_true rfl, Nat.le_of_ble_eq_true rfl⟩) ⟨fun _ _ _ _ q => q, fun U hU hW => ⟨rfl, hU⟩⟩ rfl rfl hl.1 rfl (lv_room (Nat.le_of_ble_eq_true rfl)) dAr_rest_5 ⟨Nat.zero_le _, Nat.zero_le _⟩) hS (fun _ _ h => h.elim) (fun _ h => h.elim) (fun r u t H1 locs ht hvm hw hB hz8 hk8 hS => ?_)
  obtain rfl : s.heap = H1 := hB.symm.trans ht
  subst hw
  refine lv_lmul hx hb dAr_rest_8 ?_
  refine lv_lsub hx hb dAr_rest_9 ?_
  exact W.lret (v := (a1 - (a2 * (f_Ar_quotient a0 a1 a2)))) hx hb hr (fun t ht hW => ⟨⟨(a1 - (a2 * (f_Ar_quotient a0 a1 a2))), (), rfl, rfl, ht⟩, hS.F ht⟩) hS.2.2 dAr_rest_10

def f_Ar_wide (a0 : Int32) (a1 : Int32) (a2 : Int64) (a3 : Int64) : Int64 :=
  if a0 = (0 : Int32) then
    (a2 + a3)
  else
    if a0 = (1 : Int32) then
      (a2 - a3)
    else
      if a0 = (2 : Int32) then
        (a2 * a3)
      else
        if a0 = (3 : Int32) then
          if a1 = (1 : Int32) then
            (f_Ar_quotient true a2 a3)
          else
            (f_Ar_quotient false a2 a3)
        else
          if a0 = (4 : Int32) then
            (a2 ||| a3)
          else
            if a0 = (5 : Int32) then
              (a2 &&& a3)
            else
              if a0 = (6 : Int32) then
                (j_lshl a2 ((a3 &&& (63 : Int64)).toInt32))
              else
                if a0 = (7 : Int32) then
                  (j_lushr a2 ((a3 &&& (63 : Int64)).toInt32))
                else
                  if a0 = (8 : Int32) then
                    (-a2)
                  else
                    if a0 = (9 : Int32) then
                      if a1 = (1 : Int32) then
                        (f_Ar_rest true a2 a3)
                      else
                        (f_Ar_rest false a2 a3)
                    else
                      if a0 = (10 : Int32) then
                        (a2 ^^^ a3)
                      else
                        if a0 = (11 : Int32) then
                          if a1 = 0 then
                            a3
                          else
                            (f_Ar_signed a3 a1)
                        else
                          if a0 = (12 : Int32) then
                            (j_lshr a2 ((a3 &&& (63 : Int64)).toInt32))
                          else
                            a2
set_option maxHeartbeats 4000000 in
set_option maxRecDepth 100000 in
theorem c_Ar_wide (l : Launch) (Hp : Heap) (a0 : Int32) (a1 : Int32) (a2 : Int64) (a3 : Int64) : Met l yAr_wide wsAr_wide ({ frames := 3, cells := 0, slots := 0, locals := 75 }) (va_Pc [.int a0, .int a1, .long a2, .long a3] (fun U => U.heap = Hp)) (va_Ql (fun (r : Int64) (_ : Unit) => r = f_Ar_wide a0 a1 a2 a3) (fun _ t => t.heap = Hp) (fun _ => False)) 0 0 (fun _ => False) := by
  refine Met.ofW (cc := cAr_wide) (maxL := 6) (ret := (some .long)) (by decide) rfl ?_
  intro p e s m args below meth c s₁ B hml hv
  obtain ⟨rfl, rfl⟩ := hv
  have hx := B.exec
  have hb := B.bytes
  have hr := B.returns
  have hT : ∀ w ∈ tB, w.before _ s = true := fun w h => atoms_spec (ws := wsAr_wide) B.pre w (List.mem_cons_of_mem _ h)
  have hown : s.vm.findClass "CompiledProgram$Arithmetic" = some m.cls := findClass_of_methodNamed B.named
  have hlocks := B.notSynchronized
  have hS : va_S (fun _ => False) s.heap s.heap [] := va_S.rf
  have hl := lv_entry ([.int a0, .int a1, .long a2, .long a3]) (n := 6) (Nat.le_of_ble_eq_true rfl)
  rw [lg_entry_eq]
  generalize (lg_sl ([.int a0, .int a1, .long a2, .long a3]) ++ List.replicate (6 - (lg_sl ([.int a0, .int a1, .long a2, .long a3])).length) Slot.unset).toArray = ls at hl ⊢
  have hl : lv_has ls 6 [(0, .int a0), (1, .int a1), (2, .long a2), (4, .long a3)] := hl
  refine lv_iload_n hx hb dAr_wide_0 rfl (lv_at hl 0 rfl) ?_
  by_cases c1 : a0 = (0 : Int32)
  · skip
    refine lv_tableIn (tgt := 68) (off := 67) hx hb dAr_wide_1 (by rw [c1]; decide) (by rw [c1]; decide) (by rw [c1]; rfl) (by decide) ?_
    refine lv_lload_n hx hb dAr_wide_68 rfl (lv_at hl 2 rfl) ?_
    refine lv_lload hx hb dAr_wide_69 (lv_at hl 3 rfl) ?_
    refine lv_ladd hx hb dAr_wide_71 ?_
    exact W.lret (v := (a2 + a3)) hx hb hr (fun t ht hW => ⟨⟨(a2 + a3), (), rfl, (by unfold f_Ar_wide; rw [if_pos c1]; try rfl), ht⟩, hS.F ht⟩) hS.2.2 dAr_wide_72
  by_cases c2 : a0 = (1 : Int32)
  · skip
    refine lv_tableIn (tgt := 73) (off := 72) hx hb dAr_wide_1 (by rw [c2]; decide) (by rw [c2]; decide) (by rw [c2]; rfl) (by decide) ?_
    refine lv_lload_n hx hb dAr_wide_73 rfl (lv_at hl 2 rfl) ?_
    refine lv_lload hx hb dAr_wide_74 (lv_at hl 3 rfl) ?_
    refine lv_lsub hx hb dAr_wide_76 ?_
    exact W.lret (v := (a2 - a3)) hx hb hr (fun t ht hW => ⟨⟨(a2 - a3), (), rfl, (by unfold f_Ar_wide; rw [if_neg c1, if_pos c2]; try rfl), ht⟩, hS.F ht⟩) hS.2.2 dAr_wide_77
  by_cases c3 : a0 = (2 : Int32)
  · skip
    refine lv_tableIn (tgt := 78) (off := 77) hx hb dAr_wide_1 (by rw [c3]; decide) (by rw [c3]; decide) (by rw [c3]; rfl) (by decide) ?_
    refine lv_lload_n hx hb dAr_wide_78 rfl (lv_at hl 2 rfl) ?_
    refine lv_lload hx hb dAr_wide_79 (lv_at hl 3 rfl) ?_
    refine lv_lmul hx hb dAr_wide_81 ?_
    exact W.lret (v := (a2 * a3)) hx hb hr (fun t ht hW => ⟨⟨(a2 * a3), (), rfl, (by unfold f_Ar_wide; rw [if_neg c1, if_neg c2, if_pos c3]; try rfl), ht⟩, hS.F ht⟩) hS.2.2 dAr_wide_82
  by_cases c4 : a0 = (3 : Int32)
  · skip
    refine lv_tableIn (tgt := 83) (off := 82) hx hb dAr_wide_1 (by rw [c4]; decide) (by rw [c4]; decide) (by rw [c4]; rfl) (by decide) ?_
    refine lv_iload_n hx hb dAr_wide_83 rfl (lv_at hl 1 rfl) ?_
    refine lv_iconst (v := (1 : Int32)) hx hb dAr_wide_84 (by decide) ?_
    refine lv_icmp_ne (tgt := 92) hx hb dAr_wide_85 (by decide) (fun c5 => ?_) (fun c5 => ?_)
    · skip
      refine lv_iconst (v := (0 : Int32)) hx hb dAr_wide_92 (by decide) ?_
      refine lv_lload_n hx hb dAr_wide_93 rfl (lv_at hl 2 rfl) ?_
      refine lv_lload hx hb dAr_wide_94 (lv_at hl 3 rfl) ?_
      refine va_calll (va_runS (As := [.int (0 : Int32), .long a2, .long a3]) (rest := []) ⟨hx, hb, hml, hown, hT⟩ (c_Ar_quotient l s.heap false a2 a3) (cwS 3 hT (gB_S mw_542 mw_543 mw_19 mw_544) rfl rfl rfl (by decide +kernel) ⟨Nat.le_of_ble_eq_true rfl, Nat.le_of_ble_eq_true rfl⟩) ⟨fun _ _ _ _ q => q, fun U hU hW => ⟨rfl, hU⟩⟩ rfl rfl hl.1 rfl (lv_room (Nat.le_of_ble_eq_true rfl)) dAr_wide_96 ⟨Nat.zero_le _, Nat.zero_le _⟩) hS (fun _ _ h => h.elim) (fun _ h => h.elim) (fun r u t H1 locs ht hvm hw hB hz8 hk8 hS => ?_)
      obtain rfl : s.heap = H1 := hB.symm.trans ht
      subst hw
      exact W.lret (v := (f_Ar_quotient false a2 a3)) hx hb hr (fun t ht hW => ⟨⟨(f_Ar_quotient false a2 a3), (), rfl, (by unfold f_Ar_wide; rw [if_neg c1, if_neg c2, if_neg c3, if_pos c4, if_neg c5]; try rfl), ht⟩, hS.F ht⟩) hS.2.2 dAr_wide_99
    · skip
      refine lv_iconst (v := (1 : Int32)) hx hb dAr_wide_88 (by decide) ?_
      refine lv_goto (tgt := 93) hx hb dAr_wide_89 (by decide) ?_
      refine lv_lload_n hx hb dAr_wide_93 rfl (lv_at hl 2 rfl) ?_
      refine lv_lload hx hb dAr_wide_94 (lv_at hl 3 rfl) ?_
      refine va_calll (va_runS (As := [.int (1 : Int32), .long a2, .long a3]) (rest := []) ⟨hx, hb, hml, hown, hT⟩ (c_Ar_quotient l s.heap true a2 a3) (cwS 3 hT (gB_S mw_542 mw_543 mw_19 mw_544) rfl rfl rfl (by decide +kernel) ⟨Nat.le_of_ble_eq_true rfl, Nat.le_of_ble_eq_true rfl⟩) ⟨fun _ _ _ _ q => q, fun U hU hW => ⟨rfl, hU⟩⟩ rfl rfl hl.1 rfl (lv_room (Nat.le_of_ble_eq_true rfl)) dAr_wide_96 ⟨Nat.zero_le _, Nat.zero_le _⟩) hS (fun _ _ h => h.elim) (fun _ h => h.elim) (fun r u t H1 locs ht hvm hw hB hz8 hk8 hS => ?_)
      obtain rfl : s.heap = H1 := hB.symm.trans ht
      subst hw
      exact W.lret (v := (f_Ar_quotient true a2 a3)) hx hb hr (fun t ht hW => ⟨⟨(f_Ar_quotient true a2 a3), (), rfl, (by unfold f_Ar_wide; rw [if_neg c1, if_neg c2, if_neg c3, if_pos c4, if_pos c5]; try rfl), ht⟩, hS.F ht⟩) hS.2.2 dAr_wide_99
  by_cases c6 : a0 = (4 : Int32)
  · skip
    refine lv_tableIn (tgt := 100) (off := 99) hx hb dAr_wide_1 (by rw [c6]; decide) (by rw [c6]; decide) (by rw [c6]; rfl) (by decide) ?_
    refine lv_lload_n hx hb dAr_wide_100 rfl (lv_at hl 2 rfl) ?_
    refine lv_lload hx hb dAr_wide_101 (lv_at hl 3 rfl) ?_
    refine lv_lor hx hb dAr_wide_103 ?_
    exact W.lret (v := (a2 ||| a3)) hx hb hr (fun t ht hW => ⟨⟨(a2 ||| a3), (), rfl, (by unfold f_Ar_wide; rw [if_neg c1, if_neg c2, if_neg c3, if_neg c4, if_pos c6]; try rfl), ht⟩, hS.F ht⟩) hS.2.2 dAr_wide_104
  by_cases c7 : a0 = (5 : Int32)
  · skip
    refine lv_tableIn (tgt := 105) (off := 104) hx hb dAr_wide_1 (by rw [c7]; decide) (by rw [c7]; decide) (by rw [c7]; rfl) (by decide) ?_
    refine lv_lload_n hx hb dAr_wide_105 rfl (lv_at hl 2 rfl) ?_
    refine lv_lload hx hb dAr_wide_106 (lv_at hl 3 rfl) ?_
    refine lv_land hx hb dAr_wide_108 ?_
    exact W.lret (v := (a2 &&& a3)) hx hb hr (fun t ht hW => ⟨⟨(a2 &&& a3), (), rfl, (by unfold f_Ar_wide; rw [if_neg c1, if_neg c2, if_neg c3, if_neg c4, if_neg c6, if_pos c7]; try rfl), ht⟩, hS.F ht⟩) hS.2.2 dAr_wide_109
  by_cases c8 : a0 = (6 : Int32)
  · skip
    refine lv_tableIn (tgt := 110) (off := 109) hx hb dAr_wide_1 (by rw [c8]; decide) (by rw [c8]; decide) (by rw [c8]; rfl) (by decide) ?_
    refine lv_lload_n hx hb dAr_wide_110 rfl (lv_at hl 2 rfl) ?_
    refine lv_lload hx hb dAr_wide_111 (lv_at hl 3 rfl) ?_
    refine lv_ldc2 (v := (63 : Int64)) hx hb hown (hT _ mw_548) dAr_wide_113 ?_
    refine lv_land hx hb dAr_wide_116 ?_
    refine lv_l2i hx hb dAr_wide_117 rfl ?_
    refine lv_lshl (v := (j_lshl a2 ((a3 &&& (63 : Int64)).toInt32))) hx hb dAr_wide_118 rfl ?_
    exact W.lret (v := (j_lshl a2 ((a3 &&& (63 : Int64)).toInt32))) hx hb hr (fun t ht hW => ⟨⟨(j_lshl a2 ((a3 &&& (63 : Int64)).toInt32)), (), rfl, (by unfold f_Ar_wide; rw [if_neg c1, if_neg c2, if_neg c3, if_neg c4, if_neg c6, if_neg c7, if_pos c8]; try rfl), ht⟩, hS.F ht⟩) hS.2.2 dAr_wide_119
  by_cases c9 : a0 = (7 : Int32)
  · skip
    refine lv_tableIn (tgt := 120) (off := 119) hx hb dAr_wide_1 (by rw [c9]; decide) (by rw [c9]; decide) (by rw [c9]; rfl) (by decide) ?_
    refine lv_lload_n hx hb dAr_wide_120 rfl (lv_at hl 2 rfl) ?_
    refine lv_lload hx hb dAr_wide_121 (lv_at hl 3 rfl) ?_
    refine lv_ldc2 (v := (63 : Int64)) hx hb hown (hT _ mw_548) dAr_wide_123 ?_
    refine lv_land hx hb dAr_wide_126 ?_
    refine lv_l2i hx hb dAr_wide_127 rfl ?_
    refine lv_lushr (v := (j_lushr a2 ((a3 &&& (63 : Int64)).toInt32))) hx hb dAr_wide_128 rfl ?_
    exact W.lret (v := (j_lushr a2 ((a3 &&& (63 : Int64)).toInt32))) hx hb hr (fun t ht hW => ⟨⟨(j_lushr a2 ((a3 &&& (63 : Int64)).toInt32)), (), rfl, (by unfold f_Ar_wide; rw [if_neg c1, if_neg c2, if_neg c3, if_neg c4, if_neg c6, if_neg c7, if_neg c8, if_pos c9]; try rfl), ht⟩, hS.F ht⟩) hS.2.2 dAr_wide_129
  by_cases c10 : a0 = (8 : Int32)
  · skip
    refine lv_tableIn (tgt := 130) (off := 129) hx hb dAr_wide_1 (by rw [c10]; decide) (by rw [c10]; decide) (by rw [c10]; rfl) (by decide) ?_
    refine lv_lload_n hx hb dAr_wide_130 rfl (lv_at hl 2 rfl) ?_
    refine lv_lneg hx hb dAr_wide_131 ?_
    exact W.lret (v := (-a2)) hx hb hr (fun t ht hW => ⟨⟨(-a2), (), rfl, (by unfold f_Ar_wide; rw [if_neg c1, if_neg c2, if_neg c3, if_neg c4, if_neg c6, if_neg c7, if_neg c8, if_neg c9, if_pos c10]; try rfl), ht⟩, hS.F ht⟩) hS.2.2 dAr_wide_132
  by_cases c11 : a0 = (9 : Int32)
  · skip
    refine lv_tableIn (tgt := 133) (off := 132) hx hb dAr_wide_1 (by rw [c11]; decide) (by rw [c11]; decide) (by rw [c11]; rfl) (by decide) ?_
    refine lv_iload_n hx hb dAr_wide_133 rfl (lv_at hl 1 rfl) ?_
    refine lv_iconst (v := (1 : Int32)) hx hb dAr_wide_134 (by decide) ?_
    refine lv_icmp_ne (tgt := 142) hx hb dAr_wide_135 (by decide) (fun c12 => ?_) (fun c12 => ?_)
    · skip
      refine lv_iconst (v := (0 : Int32)) hx hb dAr_wide_142 (by decide) ?_
      refine lv_lload_n hx hb dAr_wide_143 rfl (lv_at hl 2 rfl) ?_
      refine lv_lload hx hb dAr_wide_144 (lv_at hl 3 rfl) ?_
      refine va_calll (va_runS (As := [.int (0 : Int32), .long a2, .long a3]) (rest := []) ⟨hx, hb, hml, hown, hT⟩ (c_Ar_rest l s.heap false a2 a3) (cwS 3 hT (gB_S mw_549 mw_550 mw_19 mw_551) rfl rfl rfl (by decide +kernel) ⟨Nat.le_of_ble_eq_true rfl, Nat.le_of_ble_eq_true rfl⟩) ⟨fun _ _ _ _ q => q, fun U hU hW => ⟨rfl, hU⟩⟩ rfl rfl hl.1 rfl (lv_room (Nat.le_of_ble_eq_true rfl)) dAr_wide_146 ⟨Nat.zero_le _, Nat.zero_le _⟩) hS (fun _ _ h => h.elim) (fun _ h => h.elim) (fun r u t H1 locs ht hvm hw hB hz8 hk8 hS => ?_)
      obtain rfl : s.heap = H1 := hB.symm.trans ht
      subst hw
      exact W.lret (v := (f_Ar_rest false a2 a3)) hx hb hr (fun t ht hW => ⟨⟨(f_Ar_rest false a2 a3), (), rfl, (by unfold f_Ar_wide; rw [if_neg c1, if_neg c2, if_neg c3, if_neg c4, if_neg c6, if_neg c7, if_neg c8, if_neg c9, if_neg c10, if_pos c11, if_neg c12]; try rfl), ht⟩, hS.F ht⟩) hS.2.2 dAr_wide_149
    · skip
      refine lv_iconst (v := (1 : Int32)) hx hb dAr_wide_138 (by decide) ?_
      refine lv_goto (tgt := 143) hx hb dAr_wide_139 (by decide) ?_
      refine lv_lload_n hx hb dAr_wide_143 rfl (lv_at hl 2 rfl) ?_
      refine lv_lload hx hb dAr_wide_144 (lv_at hl 3 rfl) ?_
      refine va_calll (va_runS (As := [.int (1 : Int32), .long a2, .long a3]) (rest := []) ⟨hx, hb, hml, hown, hT⟩ (c_Ar_rest l s.heap true a2 a3) (cwS 3 hT (gB_S mw_549 mw_550 mw_19 mw_551) rfl rfl rfl (by decide +kernel) ⟨Nat.le_of_ble_eq_true rfl, Nat.le_of_ble_eq_true rfl⟩) ⟨fun _ _ _ _ q => q, fun U hU hW => ⟨rfl, hU⟩⟩ rfl rfl hl.1 rfl (lv_room (Nat.le_of_ble_eq_true rfl)) dAr_wide_146 ⟨Nat.zero_le _, Nat.zero_le _⟩) hS (fun _ _ h => h.elim) (fun _ h => h.elim) (fun r u t H1 locs ht hvm hw hB hz8 hk8 hS => ?_)
      obtain rfl : s.heap = H1 := hB.symm.trans ht
      subst hw
      exact W.lret (v := (f_Ar_rest true a2 a3)) hx hb hr (fun t ht hW => ⟨⟨(f_Ar_rest true a2 a3), (), rfl, (by unfold f_Ar_wide; rw [if_neg c1, if_neg c2, if_neg c3, if_neg c4, if_neg c6, if_neg c7, if_neg c8, if_neg c9, if_neg c10, if_pos c11, if_pos c12]; try rfl), ht⟩, hS.F ht⟩) hS.2.2 dAr_wide_149
  by_cases c13 : a0 = (10 : Int32)
  · skip
    refine lv_tableIn (tgt := 150) (off := 149) hx hb dAr_wide_1 (by rw [c13]; decide) (by rw [c13]; decide) (by rw [c13]; rfl) (by decide) ?_
    refine lv_lload_n hx hb dAr_wide_150 rfl (lv_at hl 2 rfl) ?_
    refine lv_lload hx hb dAr_wide_151 (lv_at hl 3 rfl) ?_
    refine lv_lxor hx hb dAr_wide_153 ?_
    exact W.lret (v := (a2 ^^^ a3)) hx hb hr (fun t ht hW => ⟨⟨(a2 ^^^ a3), (), rfl, (by unfold f_Ar_wide; rw [if_neg c1, if_neg c2, if_neg c3, if_neg c4, if_neg c6, if_neg c7, if_neg c8, if_neg c9, if_neg c10, if_neg c11, if_pos c13]; try rfl), ht⟩, hS.F ht⟩) hS.2.2 dAr_wide_154
  by_cases c14 : a0 = (11 : Int32)
  · skip
    refine lv_tableIn (tgt := 155) (off := 154) hx hb dAr_wide_1 (by rw [c14]; decide) (by rw [c14]; decide) (by rw [c14]; rfl) (by decide) ?_
    refine lv_iload_n hx hb dAr_wide_155 rfl (lv_at hl 1 rfl) ?_
    refine lv_if_ne (tgt := 164) hx hb dAr_wide_156 (by decide) (fun c15 => ?_) (fun c15 => ?_)
    · skip
      refine lv_lload hx hb dAr_wide_164 (lv_at hl 3 rfl) ?_
      refine lv_iload_n hx hb dAr_wide_166 rfl (lv_at hl 1 rfl) ?_
      refine va_calll (va_runS (As := [.long a3, .int a1]) (rest := []) ⟨hx, hb, hml, hown, hT⟩ (c_Ar_signed l s.heap a3 a1) (cwS 2 hT (gB_S mw_552 mw_475 mw_19 mw_476) rfl rfl rfl (by decide +kernel) ⟨Nat.le_of_ble_eq_true rfl, Nat.le_of_ble_eq_true rfl⟩) ⟨fun _ _ _ _ q => q, fun U hU hW => ⟨rfl, hU⟩⟩ rfl rfl hl.1 rfl (lv_room (Nat.le_of_ble_eq_true rfl)) dAr_wide_167 ⟨Nat.zero_le _, Nat.zero_le _⟩) hS (fun _ _ h => h.elim) (fun _ h => h.elim) (fun r u t H1 locs ht hvm hw hB hz8 hk8 hS => ?_)
      obtain rfl : s.heap = H1 := hB.symm.trans ht
      subst hw
      exact W.lret (v := (f_Ar_signed a3 a1)) hx hb hr (fun t ht hW => ⟨⟨(f_Ar_signed a3 a1), (), rfl, (by unfold f_Ar_wide; rw [if_neg c1, if_neg c2, if_neg c3, if_neg c4, if_neg c6, if_neg c7, if_neg c8, if_neg c9, if_neg c10, if_neg c11, if_neg c13, if_pos c14, if_neg c15]; try rfl), ht⟩, hS.F ht⟩) hS.2.2 dAr_wide_170
    · skip
      refine lv_lload hx hb dAr_wide_159 (lv_at hl 3 rfl) ?_
      refine lv_goto (tgt := 170) hx hb dAr_wide_161 (by decide) ?_
      exact W.lret (v := a3) hx hb hr (fun t ht hW => ⟨⟨a3, (), rfl, (by unfold f_Ar_wide; rw [if_neg c1, if_neg c2, if_neg c3, if_neg c4, if_neg c6, if_neg c7, if_neg c8, if_neg c9, if_neg c10, if_neg c11, if_neg c13, if_pos c14, if_pos c15]; try rfl), ht⟩, hS.F ht⟩) hS.2.2 dAr_wide_170
  by_cases c16 : a0 = (12 : Int32)
  · skip
    refine lv_tableIn (tgt := 171) (off := 170) hx hb dAr_wide_1 (by rw [c16]; decide) (by rw [c16]; decide) (by rw [c16]; rfl) (by decide) ?_
    refine lv_lload_n hx hb dAr_wide_171 rfl (lv_at hl 2 rfl) ?_
    refine lv_lload hx hb dAr_wide_172 (lv_at hl 3 rfl) ?_
    refine lv_ldc2 (v := (63 : Int64)) hx hb hown (hT _ mw_548) dAr_wide_174 ?_
    refine lv_land hx hb dAr_wide_177 ?_
    refine lv_l2i hx hb dAr_wide_178 rfl ?_
    refine lv_lshr (v := (j_lshr a2 ((a3 &&& (63 : Int64)).toInt32))) hx hb dAr_wide_179 rfl ?_
    exact W.lret (v := (j_lshr a2 ((a3 &&& (63 : Int64)).toInt32))) hx hb hr (fun t ht hW => ⟨⟨(j_lshr a2 ((a3 &&& (63 : Int64)).toInt32)), (), rfl, (by unfold f_Ar_wide; rw [if_neg c1, if_neg c2, if_neg c3, if_neg c4, if_neg c6, if_neg c7, if_neg c8, if_neg c9, if_neg c10, if_neg c11, if_neg c13, if_neg c14, if_pos c16]; try rfl), ht⟩, hS.F ht⟩) hS.2.2 dAr_wide_180
  refine lv_tableOut (tgt := 181) hx hb dAr_wide_1 (by have h0 := lv_neT c1 (a := 0) (by decide); have h1 := lv_neT c2 (a := 1) (by decide); have h2 := lv_neT c3 (a := 2) (by decide); have h3 := lv_neT c4 (a := 3) (by decide); have h4 := lv_neT c6 (a := 4) (by decide); have h5 := lv_neT c7 (a := 5) (by decide); have h6 := lv_neT c8 (a := 6) (by decide); have h7 := lv_neT c9 (a := 7) (by decide); have h8 := lv_neT c10 (a := 8) (by decide); have h9 := lv_neT c11 (a := 9) (by decide); have h10 := lv_neT c13 (a := 10) (by decide); have h11 := lv_neT c14 (a := 11) (by decide); have h12 := lv_neT c16 (a := 12) (by decide); omega) (by decide) ?_
  refine lv_lload_n hx hb dAr_wide_181 rfl (lv_at hl 2 rfl) ?_
  exact W.lret (v := a2) hx hb hr (fun t ht hW => ⟨⟨a2, (), rfl, (by unfold f_Ar_wide; rw [if_neg c1, if_neg c2, if_neg c3, if_neg c4, if_neg c6, if_neg c7, if_neg c8, if_neg c9, if_neg c10, if_neg c11, if_neg c13, if_neg c14, if_neg c16]; try rfl), ht⟩, hS.F ht⟩) hS.2.2 dAr_wide_182

def f_Ar_narrow (a0 : Int32) (a1 : Int32) (a2 : Int32) (a3 : Int32) : Int64 :=
  if a0 = (3 : Int32) then
    if a1 = (1 : Int32) then
      (f_Ar_lowest (f_Ar_quotient true ((a2).toInt64) ((a3).toInt64)) (32 : Int32))
    else
      (f_Ar_lowest (f_Ar_quotient false (f_Ar_lowest ((a2).toInt64) (32 : Int32)) (f_Ar_lowest ((a3).toInt64) (32 : Int32))) (32 : Int32))
  else
    if a0 = (4 : Int32) then
      (f_Ar_lowest (f_Ar_wide a0 a1 ((a2).toInt64) ((a3).toInt64)) (32 : Int32))
    else
      if a0 = (5 : Int32) then
        (f_Ar_lowest (f_Ar_wide a0 a1 ((a2).toInt64) ((a3).toInt64)) (32 : Int32))
      else
        if a0 = (6 : Int32) then
          (f_Ar_lowest ((a2 <<< ((a3 &&& (31 : Int32)) &&& 31)).toInt64) (32 : Int32))
        else
          if a0 = (7 : Int32) then
            (f_Ar_lowest ((j_iushr a2 (a3 &&& (31 : Int32))).toInt64) (32 : Int32))
          else
            if a0 = (8 : Int32) then
              (f_Ar_lowest (f_Ar_wide a0 a1 ((a2).toInt64) ((a3).toInt64)) (32 : Int32))
            else
              if a0 = (9 : Int32) then
                if a1 = (1 : Int32) then
                  (f_Ar_lowest (f_Ar_rest true ((a2).toInt64) ((a3).toInt64)) (32 : Int32))
                else
                  (f_Ar_lowest (f_Ar_rest false (f_Ar_lowest ((a2).toInt64) (32 : Int32)) (f_Ar_lowest ((a3).toInt64) (32 : Int32))) (32 : Int32))
              else
                if a0 = (10 : Int32) then
                  (f_Ar_lowest (f_Ar_wide a0 a1 ((a2).toInt64) ((a3).toInt64)) (32 : Int32))
                else
                  if a0 = (11 : Int32) then
                    (f_Ar_lowest (f_Ar_wide a0 a1 ((a2).toInt64) ((a3).toInt64)) (32 : Int32))
                  else
                    if a0 = (12 : Int32) then
                      (f_Ar_lowest ((a2 >>> ((a3 &&& (31 : Int32)) &&& 31)).toInt64) (32 : Int32))
                    else
                      (f_Ar_lowest (f_Ar_wide a0 a1 ((a2).toInt64) ((a3).toInt64)) (32 : Int32))
set_option maxHeartbeats 4000000 in
set_option maxRecDepth 100000 in
theorem c_Ar_narrow (l : Launch) (Hp : Heap) (a0 : Int32) (a1 : Int32) (a2 : Int32) (a3 : Int32) : Met l yAr_narrow wsAr_narrow ({ frames := 4, cells := 0, slots := 0, locals := 100 }) (va_Pc [.int a0, .int a1, .int a2, .int a3] (fun U => U.heap = Hp)) (va_Ql (fun (r : Int64) (_ : Unit) => r = f_Ar_narrow a0 a1 a2 a3) (fun _ t => t.heap = Hp) (fun _ => False)) 0 0 (fun _ => False) := by
  refine Met.ofW (cc := cAr_narrow) (maxL := 4) (ret := (some .long)) (by decide) rfl ?_
  intro p e s m args below meth c s₁ B hml hv
  obtain ⟨rfl, rfl⟩ := hv
  have hx := B.exec
  have hb := B.bytes
  have hr := B.returns
  have hT : ∀ w ∈ tB, w.before _ s = true := fun w h => atoms_spec (ws := wsAr_narrow) B.pre w (List.mem_cons_of_mem _ h)
  have hown : s.vm.findClass "CompiledProgram$Arithmetic" = some m.cls := findClass_of_methodNamed B.named
  have hlocks := B.notSynchronized
  have hS : va_S (fun _ => False) s.heap s.heap [] := va_S.rf
  have hl := lv_entry ([.int a0, .int a1, .int a2, .int a3]) (n := 4) (Nat.le_of_ble_eq_true rfl)
  rw [lg_entry_eq]
  generalize (lg_sl ([.int a0, .int a1, .int a2, .int a3]) ++ List.replicate (4 - (lg_sl ([.int a0, .int a1, .int a2, .int a3])).length) Slot.unset).toArray = ls at hl ⊢
  have hl : lv_has ls 4 [(0, .int a0), (1, .int a1), (2, .int a2), (3, .int a3)] := hl
  refine lv_iload_n hx hb dAr_narrow_0 rfl (lv_at hl 0 rfl) ?_
  by_cases c1 : a0 = (3 : Int32)
  · skip
    refine lv_tableIn (tgt := 56) (off := 55) hx hb dAr_narrow_1 (by rw [c1]; decide) (by rw [c1]; decide) (by rw [c1]; rfl) (by decide) ?_
    refine lv_iload_n hx hb dAr_narrow_56 rfl (lv_at hl 1 rfl) ?_
    refine lv_iconst (v := (1 : Int32)) hx hb dAr_narrow_57 (by decide) ?_
    refine lv_icmp_ne (tgt := 72) hx hb dAr_narrow_58 (by decide) (fun c2 => ?_) (fun c2 => ?_)
    · skip
      refine lv_iconst (v := (0 : Int32)) hx hb dAr_narrow_72 (by decide) ?_
      refine lv_iload_n hx hb dAr_narrow_73 rfl (lv_at hl 2 rfl) ?_
      refine lv_i2l hx hb dAr_narrow_74 rfl ?_
      refine lv_bipush (v := (32 : Int32)) hx hb dAr_narrow_75 (by decide) ?_
      refine va_calll (va_runS (As := [.long ((a2).toInt64), .int (32 : Int32)]) (rest := [.int (0 : Int32)]) ⟨hx, hb, hml, hown, hT⟩ (c_Ar_lowest l s.heap ((a2).toInt64) (32 : Int32)) (cwS 2 hT (gB_S mw_556 mw_458 mw_19 mw_459) rfl rfl rfl (by decide +kernel) ⟨Nat.le_of_ble_eq_true rfl, Nat.le_of_ble_eq_true rfl⟩) ⟨fun _ _ _ _ q => q, fun U hU hW => ⟨rfl, hU⟩⟩ rfl rfl hl.1 rfl (lv_room (Nat.le_of_ble_eq_true rfl)) dAr_narrow_77 ⟨Nat.zero_le _, Nat.zero_le _⟩) hS (fun _ _ h => h.elim) (fun _ h => h.elim) (fun r u t H1 locs ht hvm hw hB hz8 hk8 hS => ?_)
      obtain rfl : s.heap = H1 := hB.symm.trans ht
      subst hw
      refine lv_iload_n hx hb dAr_narrow_80 rfl (lv_at hl 3 rfl) ?_
      refine lv_i2l hx hb dAr_narrow_81 rfl ?_
      refine lv_bipush (v := (32 : Int32)) hx hb dAr_narrow_82 (by decide) ?_
      refine va_calll (va_runS (As := [.long ((a3).toInt64), .int (32 : Int32)]) (rest := [.long (f_Ar_lowest ((a2).toInt64) (32 : Int32)), .int (0 : Int32)]) ⟨hx, hb, hml, hown, hT⟩ (c_Ar_lowest l s.heap ((a3).toInt64) (32 : Int32)) (cwS 2 hT (gB_S mw_556 mw_458 mw_19 mw_459) rfl rfl rfl (by decide +kernel) ⟨Nat.le_of_ble_eq_true rfl, Nat.le_of_ble_eq_true rfl⟩) ⟨fun _ _ _ _ q => q, fun U hU hW => ⟨rfl, hU⟩⟩ rfl rfl hl.1 rfl (lv_room (Nat.le_of_ble_eq_true rfl)) dAr_narrow_84 ⟨Nat.zero_le _, Nat.zero_le _⟩) hS (fun _ _ h => h.elim) (fun _ h => h.elim) (fun r u t H1 locs ht hvm hw hB hz8 hk8 hS => ?_)
      obtain rfl : s.heap = H1 := hB.symm.trans ht
      subst hw
      refine va_calll (va_runS (As := [.int (0 : Int32), .long (f_Ar_lowest ((a2).toInt64) (32 : Int32)), .long (f_Ar_lowest ((a3).toInt64) (32 : Int32))]) (rest := []) ⟨hx, hb, hml, hown, hT⟩ (c_Ar_quotient l s.heap false (f_Ar_lowest ((a2).toInt64) (32 : Int32)) (f_Ar_lowest ((a3).toInt64) (32 : Int32))) (cwS 3 hT (gB_S mw_542 mw_543 mw_19 mw_544) rfl rfl rfl (by decide +kernel) ⟨Nat.le_of_ble_eq_true rfl, Nat.le_of_ble_eq_true rfl⟩) ⟨fun _ _ _ _ q => q, fun U hU hW => ⟨rfl, hU⟩⟩ rfl rfl hl.1 rfl (lv_room (Nat.le_of_ble_eq_true rfl)) dAr_narrow_87 ⟨Nat.zero_le _, Nat.zero_le _⟩) hS (fun _ _ h => h.elim) (fun _ h => h.elim) (fun r u t H1 locs ht hvm hw hB hz8 hk8 hS => ?_)
      obtain rfl : s.heap = H1 := hB.symm.trans ht
      subst hw
      refine lv_bipush (v := (32 : Int32)) hx hb dAr_narrow_90 (by decide) ?_
      refine va_calll (va_runS (As := [.long (f_Ar_quotient false (f_Ar_lowest ((a2).toInt64) (32 : Int32)) (f_Ar_lowest ((a3).toInt64) (32 : Int32))), .int (32 : Int32)]) (rest := []) ⟨hx, hb, hml, hown, hT⟩ (c_Ar_lowest l s.heap (f_Ar_quotient false (f_Ar_lowest ((a2).toInt64) (32 : Int32)) (f_Ar_lowest ((a3).toInt64) (32 : Int32))) (32 : Int32)) (cwS 2 hT (gB_S mw_556 mw_458 mw_19 mw_459) rfl rfl rfl (by decide +kernel) ⟨Nat.le_of_ble_eq_true rfl, Nat.le_of_ble_eq_true rfl⟩) ⟨fun _ _ _ _ q => q, fun U hU hW => ⟨rfl, hU⟩⟩ rfl rfl hl.1 rfl (lv_room (Nat.le_of_ble_eq_true rfl)) dAr_narrow_92 ⟨Nat.zero_le _, Nat.zero_le _⟩) hS (fun _ _ h => h.elim) (fun _ h => h.elim) (fun r u t H1 locs ht hvm hw hB hz8 hk8 hS => ?_)
      obtain rfl : s.heap = H1 := hB.symm.trans ht
      subst hw
      exact W.lret (v := (f_Ar_lowest (f_Ar_quotient false (f_Ar_lowest ((a2).toInt64) (32 : Int32)) (f_Ar_lowest ((a3).toInt64) (32 : Int32))) (32 : Int32))) hx hb hr (fun t ht hW => ⟨⟨(f_Ar_lowest (f_Ar_quotient false (f_Ar_lowest ((a2).toInt64) (32 : Int32)) (f_Ar_lowest ((a3).toInt64) (32 : Int32))) (32 : Int32)), (), rfl, (by unfold f_Ar_narrow; rw [if_pos c1, if_neg c2]; try rfl), ht⟩, hS.F ht⟩) hS.2.2 dAr_narrow_95
    · skip
      refine lv_iconst (v := (1 : Int32)) hx hb dAr_narrow_61 (by decide) ?_
      refine lv_iload_n hx hb dAr_narrow_62 rfl (lv_at hl 2 rfl) ?_
      refine lv_i2l hx hb dAr_narrow_63 rfl ?_
      refine lv_iload_n hx hb dAr_narrow_64 rfl (lv_at hl 3 rfl) ?_
      refine lv_i2l hx hb dAr_narrow_65 rfl ?_
      refine va_calll (va_runS (As := [.int (1 : Int32), .long ((a2).toInt64), .long ((a3).toInt64)]) (rest := []) ⟨hx, hb, hml, hown, hT⟩ (c_Ar_quotient l s.heap true ((a2).toInt64) ((a3).toInt64)) (cwS 3 hT (gB_S mw_542 mw_543 mw_19 mw_544) rfl rfl rfl (by decide +kernel) ⟨Nat.le_of_ble_eq_true rfl, Nat.le_of_ble_eq_true rfl⟩) ⟨fun _ _ _ _ q => q, fun U hU hW => ⟨rfl, hU⟩⟩ rfl rfl hl.1 rfl (lv_room (Nat.le_of_ble_eq_true rfl)) dAr_narrow_66 ⟨Nat.zero_le _, Nat.zero_le _⟩) hS (fun _ _ h => h.elim) (fun _ h => h.elim) (fun r u t H1 locs ht hvm hw hB hz8 hk8 hS => ?_)
      obtain rfl : s.heap = H1 := hB.symm.trans ht
      subst hw
      refine lv_goto (tgt := 90) hx hb dAr_narrow_69 (by decide) ?_
      refine lv_bipush (v := (32 : Int32)) hx hb dAr_narrow_90 (by decide) ?_
      refine va_calll (va_runS (As := [.long (f_Ar_quotient true ((a2).toInt64) ((a3).toInt64)), .int (32 : Int32)]) (rest := []) ⟨hx, hb, hml, hown, hT⟩ (c_Ar_lowest l s.heap (f_Ar_quotient true ((a2).toInt64) ((a3).toInt64)) (32 : Int32)) (cwS 2 hT (gB_S mw_556 mw_458 mw_19 mw_459) rfl rfl rfl (by decide +kernel) ⟨Nat.le_of_ble_eq_true rfl, Nat.le_of_ble_eq_true rfl⟩) ⟨fun _ _ _ _ q => q, fun U hU hW => ⟨rfl, hU⟩⟩ rfl rfl hl.1 rfl (lv_room (Nat.le_of_ble_eq_true rfl)) dAr_narrow_92 ⟨Nat.zero_le _, Nat.zero_le _⟩) hS (fun _ _ h => h.elim) (fun _ h => h.elim) (fun r u t H1 locs ht hvm hw hB hz8 hk8 hS => ?_)
      obtain rfl : s.heap = H1 := hB.symm.trans ht
      subst hw
      exact W.lret (v := (f_Ar_lowest (f_Ar_quotient true ((a2).toInt64) ((a3).toInt64)) (32 : Int32))) hx hb hr (fun t ht hW => ⟨⟨(f_Ar_lowest (f_Ar_quotient true ((a2).toInt64) ((a3).toInt64)) (32 : Int32)), (), rfl, (by unfold f_Ar_narrow; rw [if_pos c1, if_pos c2]; try rfl), ht⟩, hS.F ht⟩) hS.2.2 dAr_narrow_95
  by_cases c3 : a0 = (4 : Int32)
  · skip
    refine lv_tableIn (tgt := 175) (off := 174) hx hb dAr_narrow_1 (by rw [c3]; decide) (by rw [c3]; decide) (by rw [c3]; rfl) (by decide) ?_
    refine lv_iload_n hx hb dAr_narrow_175 rfl (lv_at hl 0 rfl) ?_
    refine lv_iload_n hx hb dAr_narrow_176 rfl (lv_at hl 1 rfl) ?_
    refine lv_iload_n hx hb dAr_narrow_177 rfl (lv_at hl 2 rfl) ?_
    refine lv_i2l hx hb dAr_narrow_178 rfl ?_
    refine lv_iload_n hx hb dAr_narrow_179 rfl (lv_at hl 3 rfl) ?_
    refine lv_i2l hx hb dAr_narrow_180 rfl ?_
    refine va_calll (va_runS (As := [.int a0, .int a1, .long ((a2).toInt64), .long ((a3).toInt64)]) (rest := []) ⟨hx, hb, hml, hown, hT⟩ (c_Ar_wide l s.heap a0 a1 ((a2).toInt64) ((a3).toInt64)) (cwS 4 hT (gB_S mw_557 mw_540 mw_19 mw_541) rfl rfl rfl (by decide +kernel) ⟨Nat.le_of_ble_eq_true rfl, Nat.le_of_ble_eq_true rfl⟩) ⟨fun _ _ _ _ q => q, fun U hU hW => ⟨rfl, hU⟩⟩ rfl rfl hl.1 rfl (lv_room (Nat.le_of_ble_eq_true rfl)) dAr_narrow_181 ⟨Nat.zero_le _, Nat.zero_le _⟩) hS (fun _ _ h => h.elim) (fun _ h => h.elim) (fun r u t H1 locs ht hvm hw hB hz8 hk8 hS => ?_)
    obtain rfl : s.heap = H1 := hB.symm.trans ht
    subst hw
    refine lv_bipush (v := (32 : Int32)) hx hb dAr_narrow_184 (by decide) ?_
    refine va_calll (va_runS (As := [.long (f_Ar_wide a0 a1 ((a2).toInt64) ((a3).toInt64)), .int (32 : Int32)]) (rest := []) ⟨hx, hb, hml, hown, hT⟩ (c_Ar_lowest l s.heap (f_Ar_wide a0 a1 ((a2).toInt64) ((a3).toInt64)) (32 : Int32)) (cwS 2 hT (gB_S mw_556 mw_458 mw_19 mw_459) rfl rfl rfl (by decide +kernel) ⟨Nat.le_of_ble_eq_true rfl, Nat.le_of_ble_eq_true rfl⟩) ⟨fun _ _ _ _ q => q, fun U hU hW => ⟨rfl, hU⟩⟩ rfl rfl hl.1 rfl (lv_room (Nat.le_of_ble_eq_true rfl)) dAr_narrow_186 ⟨Nat.zero_le _, Nat.zero_le _⟩) hS (fun _ _ h => h.elim) (fun _ h => h.elim) (fun r u t H1 locs ht hvm hw hB hz8 hk8 hS => ?_)
    obtain rfl : s.heap = H1 := hB.symm.trans ht
    subst hw
    exact W.lret (v := (f_Ar_lowest (f_Ar_wide a0 a1 ((a2).toInt64) ((a3).toInt64)) (32 : Int32))) hx hb hr (fun t ht hW => ⟨⟨(f_Ar_lowest (f_Ar_wide a0 a1 ((a2).toInt64) ((a3).toInt64)) (32 : Int32)), (), rfl, (by unfold f_Ar_narrow; rw [if_neg c1, if_pos c3]; try rfl), ht⟩, hS.F ht⟩) hS.2.2 dAr_narrow_189
  by_cases c4 : a0 = (5 : Int32)
  · skip
    refine lv_tableIn (tgt := 175) (off := 174) hx hb dAr_narrow_1 (by rw [c4]; decide) (by rw [c4]; decide) (by rw [c4]; rfl) (by decide) ?_
    refine lv_iload_n hx hb dAr_narrow_175 rfl (lv_at hl 0 rfl) ?_
    refine lv_iload_n hx hb dAr_narrow_176 rfl (lv_at hl 1 rfl) ?_
    refine lv_iload_n hx hb dAr_narrow_177 rfl (lv_at hl 2 rfl) ?_
    refine lv_i2l hx hb dAr_narrow_178 rfl ?_
    refine lv_iload_n hx hb dAr_narrow_179 rfl (lv_at hl 3 rfl) ?_
    refine lv_i2l hx hb dAr_narrow_180 rfl ?_
    refine va_calll (va_runS (As := [.int a0, .int a1, .long ((a2).toInt64), .long ((a3).toInt64)]) (rest := []) ⟨hx, hb, hml, hown, hT⟩ (c_Ar_wide l s.heap a0 a1 ((a2).toInt64) ((a3).toInt64)) (cwS 4 hT (gB_S mw_557 mw_540 mw_19 mw_541) rfl rfl rfl (by decide +kernel) ⟨Nat.le_of_ble_eq_true rfl, Nat.le_of_ble_eq_true rfl⟩) ⟨fun _ _ _ _ q => q, fun U hU hW => ⟨rfl, hU⟩⟩ rfl rfl hl.1 rfl (lv_room (Nat.le_of_ble_eq_true rfl)) dAr_narrow_181 ⟨Nat.zero_le _, Nat.zero_le _⟩) hS (fun _ _ h => h.elim) (fun _ h => h.elim) (fun r u t H1 locs ht hvm hw hB hz8 hk8 hS => ?_)
    obtain rfl : s.heap = H1 := hB.symm.trans ht
    subst hw
    refine lv_bipush (v := (32 : Int32)) hx hb dAr_narrow_184 (by decide) ?_
    refine va_calll (va_runS (As := [.long (f_Ar_wide a0 a1 ((a2).toInt64) ((a3).toInt64)), .int (32 : Int32)]) (rest := []) ⟨hx, hb, hml, hown, hT⟩ (c_Ar_lowest l s.heap (f_Ar_wide a0 a1 ((a2).toInt64) ((a3).toInt64)) (32 : Int32)) (cwS 2 hT (gB_S mw_556 mw_458 mw_19 mw_459) rfl rfl rfl (by decide +kernel) ⟨Nat.le_of_ble_eq_true rfl, Nat.le_of_ble_eq_true rfl⟩) ⟨fun _ _ _ _ q => q, fun U hU hW => ⟨rfl, hU⟩⟩ rfl rfl hl.1 rfl (lv_room (Nat.le_of_ble_eq_true rfl)) dAr_narrow_186 ⟨Nat.zero_le _, Nat.zero_le _⟩) hS (fun _ _ h => h.elim) (fun _ h => h.elim) (fun r u t H1 locs ht hvm hw hB hz8 hk8 hS => ?_)
    obtain rfl : s.heap = H1 := hB.symm.trans ht
    subst hw
    exact W.lret (v := (f_Ar_lowest (f_Ar_wide a0 a1 ((a2).toInt64) ((a3).toInt64)) (32 : Int32))) hx hb hr (fun t ht hW => ⟨⟨(f_Ar_lowest (f_Ar_wide a0 a1 ((a2).toInt64) ((a3).toInt64)) (32 : Int32)), (), rfl, (by unfold f_Ar_narrow; rw [if_neg c1, if_neg c3, if_pos c4]; try rfl), ht⟩, hS.F ht⟩) hS.2.2 dAr_narrow_189
  by_cases c5 : a0 = (6 : Int32)
  · skip
    refine lv_tableIn (tgt := 96) (off := 95) hx hb dAr_narrow_1 (by rw [c5]; decide) (by rw [c5]; decide) (by rw [c5]; rfl) (by decide) ?_
    refine lv_iload_n hx hb dAr_narrow_96 rfl (lv_at hl 2 rfl) ?_
    refine lv_iload_n hx hb dAr_narrow_97 rfl (lv_at hl 3 rfl) ?_
    refine lv_bipush (v := (31 : Int32)) hx hb dAr_narrow_98 (by decide) ?_
    refine lv_iand hx hb dAr_narrow_100 ?_
    refine lv_ishl hx hb dAr_narrow_101 ?_
    refine lv_i2l hx hb dAr_narrow_102 rfl ?_
    refine lv_bipush (v := (32 : Int32)) hx hb dAr_narrow_103 (by decide) ?_
    refine va_calll (va_runS (As := [.long ((a2 <<< ((a3 &&& (31 : Int32)) &&& 31)).toInt64), .int (32 : Int32)]) (rest := []) ⟨hx, hb, hml, hown, hT⟩ (c_Ar_lowest l s.heap ((a2 <<< ((a3 &&& (31 : Int32)) &&& 31)).toInt64) (32 : Int32)) (cwS 2 hT (gB_S mw_556 mw_458 mw_19 mw_459) rfl rfl rfl (by decide +kernel) ⟨Nat.le_of_ble_eq_true rfl, Nat.le_of_ble_eq_true rfl⟩) ⟨fun _ _ _ _ q => q, fun U hU hW => ⟨rfl, hU⟩⟩ rfl rfl hl.1 rfl (lv_room (Nat.le_of_ble_eq_true rfl)) dAr_narrow_105 ⟨Nat.zero_le _, Nat.zero_le _⟩) hS (fun _ _ h => h.elim) (fun _ h => h.elim) (fun r u t H1 locs ht hvm hw hB hz8 hk8 hS => ?_)
    obtain rfl : s.heap = H1 := hB.symm.trans ht
    subst hw
    exact W.lret (v := (f_Ar_lowest ((a2 <<< ((a3 &&& (31 : Int32)) &&& 31)).toInt64) (32 : Int32))) hx hb hr (fun t ht hW => ⟨⟨(f_Ar_lowest ((a2 <<< ((a3 &&& (31 : Int32)) &&& 31)).toInt64) (32 : Int32)), (), rfl, (by unfold f_Ar_narrow; rw [if_neg c1, if_neg c3, if_neg c4, if_pos c5]; try rfl), ht⟩, hS.F ht⟩) hS.2.2 dAr_narrow_108
  by_cases c6 : a0 = (7 : Int32)
  · skip
    refine lv_tableIn (tgt := 109) (off := 108) hx hb dAr_narrow_1 (by rw [c6]; decide) (by rw [c6]; decide) (by rw [c6]; rfl) (by decide) ?_
    refine lv_iload_n hx hb dAr_narrow_109 rfl (lv_at hl 2 rfl) ?_
    refine lv_iload_n hx hb dAr_narrow_110 rfl (lv_at hl 3 rfl) ?_
    refine lv_bipush (v := (31 : Int32)) hx hb dAr_narrow_111 (by decide) ?_
    refine lv_iand hx hb dAr_narrow_113 ?_
    refine lv_iushr (v := (j_iushr a2 (a3 &&& (31 : Int32)))) hx hb dAr_narrow_114 rfl ?_
    refine lv_i2l hx hb dAr_narrow_115 rfl ?_
    refine lv_bipush (v := (32 : Int32)) hx hb dAr_narrow_116 (by decide) ?_
    refine va_calll (va_runS (As := [.long ((j_iushr a2 (a3 &&& (31 : Int32))).toInt64), .int (32 : Int32)]) (rest := []) ⟨hx, hb, hml, hown, hT⟩ (c_Ar_lowest l s.heap ((j_iushr a2 (a3 &&& (31 : Int32))).toInt64) (32 : Int32)) (cwS 2 hT (gB_S mw_556 mw_458 mw_19 mw_459) rfl rfl rfl (by decide +kernel) ⟨Nat.le_of_ble_eq_true rfl, Nat.le_of_ble_eq_true rfl⟩) ⟨fun _ _ _ _ q => q, fun U hU hW => ⟨rfl, hU⟩⟩ rfl rfl hl.1 rfl (lv_room (Nat.le_of_ble_eq_true rfl)) dAr_narrow_118 ⟨Nat.zero_le _, Nat.zero_le _⟩) hS (fun _ _ h => h.elim) (fun _ h => h.elim) (fun r u t H1 locs ht hvm hw hB hz8 hk8 hS => ?_)
    obtain rfl : s.heap = H1 := hB.symm.trans ht
    subst hw
    exact W.lret (v := (f_Ar_lowest ((j_iushr a2 (a3 &&& (31 : Int32))).toInt64) (32 : Int32))) hx hb hr (fun t ht hW => ⟨⟨(f_Ar_lowest ((j_iushr a2 (a3 &&& (31 : Int32))).toInt64) (32 : Int32)), (), rfl, (by unfold f_Ar_narrow; rw [if_neg c1, if_neg c3, if_neg c4, if_neg c5, if_pos c6]; try rfl), ht⟩, hS.F ht⟩) hS.2.2 dAr_narrow_121
  by_cases c7 : a0 = (8 : Int32)
  · skip
    refine lv_tableIn (tgt := 175) (off := 174) hx hb dAr_narrow_1 (by rw [c7]; decide) (by rw [c7]; decide) (by rw [c7]; rfl) (by decide) ?_
    refine lv_iload_n hx hb dAr_narrow_175 rfl (lv_at hl 0 rfl) ?_
    refine lv_iload_n hx hb dAr_narrow_176 rfl (lv_at hl 1 rfl) ?_
    refine lv_iload_n hx hb dAr_narrow_177 rfl (lv_at hl 2 rfl) ?_
    refine lv_i2l hx hb dAr_narrow_178 rfl ?_
    refine lv_iload_n hx hb dAr_narrow_179 rfl (lv_at hl 3 rfl) ?_
    refine lv_i2l hx hb dAr_narrow_180 rfl ?_
    refine va_calll (va_runS (As := [.int a0, .int a1, .long ((a2).toInt64), .long ((a3).toInt64)]) (rest := []) ⟨hx, hb, hml, hown, hT⟩ (c_Ar_wide l s.heap a0 a1 ((a2).toInt64) ((a3).toInt64)) (cwS 4 hT (gB_S mw_557 mw_540 mw_19 mw_541) rfl rfl rfl (by decide +kernel) ⟨Nat.le_of_ble_eq_true rfl, Nat.le_of_ble_eq_true rfl⟩) ⟨fun _ _ _ _ q => q, fun U hU hW => ⟨rfl, hU⟩⟩ rfl rfl hl.1 rfl (lv_room (Nat.le_of_ble_eq_true rfl)) dAr_narrow_181 ⟨Nat.zero_le _, Nat.zero_le _⟩) hS (fun _ _ h => h.elim) (fun _ h => h.elim) (fun r u t H1 locs ht hvm hw hB hz8 hk8 hS => ?_)
    obtain rfl : s.heap = H1 := hB.symm.trans ht
    subst hw
    refine lv_bipush (v := (32 : Int32)) hx hb dAr_narrow_184 (by decide) ?_
    refine va_calll (va_runS (As := [.long (f_Ar_wide a0 a1 ((a2).toInt64) ((a3).toInt64)), .int (32 : Int32)]) (rest := []) ⟨hx, hb, hml, hown, hT⟩ (c_Ar_lowest l s.heap (f_Ar_wide a0 a1 ((a2).toInt64) ((a3).toInt64)) (32 : Int32)) (cwS 2 hT (gB_S mw_556 mw_458 mw_19 mw_459) rfl rfl rfl (by decide +kernel) ⟨Nat.le_of_ble_eq_true rfl, Nat.le_of_ble_eq_true rfl⟩) ⟨fun _ _ _ _ q => q, fun U hU hW => ⟨rfl, hU⟩⟩ rfl rfl hl.1 rfl (lv_room (Nat.le_of_ble_eq_true rfl)) dAr_narrow_186 ⟨Nat.zero_le _, Nat.zero_le _⟩) hS (fun _ _ h => h.elim) (fun _ h => h.elim) (fun r u t H1 locs ht hvm hw hB hz8 hk8 hS => ?_)
    obtain rfl : s.heap = H1 := hB.symm.trans ht
    subst hw
    exact W.lret (v := (f_Ar_lowest (f_Ar_wide a0 a1 ((a2).toInt64) ((a3).toInt64)) (32 : Int32))) hx hb hr (fun t ht hW => ⟨⟨(f_Ar_lowest (f_Ar_wide a0 a1 ((a2).toInt64) ((a3).toInt64)) (32 : Int32)), (), rfl, (by unfold f_Ar_narrow; rw [if_neg c1, if_neg c3, if_neg c4, if_neg c5, if_neg c6, if_pos c7]; try rfl), ht⟩, hS.F ht⟩) hS.2.2 dAr_narrow_189
  by_cases c8 : a0 = (9 : Int32)
  · skip
    refine lv_tableIn (tgt := 122) (off := 121) hx hb dAr_narrow_1 (by rw [c8]; decide) (by rw [c8]; decide) (by rw [c8]; rfl) (by decide) ?_
    refine lv_iload_n hx hb dAr_narrow_122 rfl (lv_at hl 1 rfl) ?_
    refine lv_iconst (v := (1 : Int32)) hx hb dAr_narrow_123 (by decide) ?_
    refine lv_icmp_ne (tgt := 138) hx hb dAr_narrow_124 (by decide) (fun c9 => ?_) (fun c9 => ?_)
    · skip
      refine lv_iconst (v := (0 : Int32)) hx hb dAr_narrow_138 (by decide) ?_
      refine lv_iload_n hx hb dAr_narrow_139 rfl (lv_at hl 2 rfl) ?_
      refine lv_i2l hx hb dAr_narrow_140 rfl ?_
      refine lv_bipush (v := (32 : Int32)) hx hb dAr_narrow_141 (by decide) ?_
      refine va_calll (va_runS (As := [.long ((a2).toInt64), .int (32 : Int32)]) (rest := [.int (0 : Int32)]) ⟨hx, hb, hml, hown, hT⟩ (c_Ar_lowest l s.heap ((a2).toInt64) (32 : Int32)) (cwS 2 hT (gB_S mw_556 mw_458 mw_19 mw_459) rfl rfl rfl (by decide +kernel) ⟨Nat.le_of_ble_eq_true rfl, Nat.le_of_ble_eq_true rfl⟩) ⟨fun _ _ _ _ q => q, fun U hU hW => ⟨rfl, hU⟩⟩ rfl rfl hl.1 rfl (lv_room (Nat.le_of_ble_eq_true rfl)) dAr_narrow_143 ⟨Nat.zero_le _, Nat.zero_le _⟩) hS (fun _ _ h => h.elim) (fun _ h => h.elim) (fun r u t H1 locs ht hvm hw hB hz8 hk8 hS => ?_)
      obtain rfl : s.heap = H1 := hB.symm.trans ht
      subst hw
      refine lv_iload_n hx hb dAr_narrow_146 rfl (lv_at hl 3 rfl) ?_
      refine lv_i2l hx hb dAr_narrow_147 rfl ?_
      refine lv_bipush (v := (32 : Int32)) hx hb dAr_narrow_148 (by decide) ?_
      refine va_calll (va_runS (As := [.long ((a3).toInt64), .int (32 : Int32)]) (rest := [.long (f_Ar_lowest ((a2).toInt64) (32 : Int32)), .int (0 : Int32)]) ⟨hx, hb, hml, hown, hT⟩ (c_Ar_lowest l s.heap ((a3).toInt64) (32 : Int32)) (cwS 2 hT (gB_S mw_556 mw_458 mw_19 mw_459) rfl rfl rfl (by decide +kernel) ⟨Nat.le_of_ble_eq_true rfl, Nat.le_of_ble_eq_true rfl⟩) ⟨fun _ _ _ _ q => q, fun U hU hW => ⟨rfl, hU⟩⟩ rfl rfl hl.1 rfl (lv_room (Nat.le_of_ble_eq_true rfl)) dAr_narrow_150 ⟨Nat.zero_le _, Nat.zero_le _⟩) hS (fun _ _ h => h.elim) (fun _ h => h.elim) (fun r u t H1 locs ht hvm hw hB hz8 hk8 hS => ?_)
      obtain rfl : s.heap = H1 := hB.symm.trans ht
      subst hw
      refine va_calll (va_runS (As := [.int (0 : Int32), .long (f_Ar_lowest ((a2).toInt64) (32 : Int32)), .long (f_Ar_lowest ((a3).toInt64) (32 : Int32))]) (rest := []) ⟨hx, hb, hml, hown, hT⟩ (c_Ar_rest l s.heap false (f_Ar_lowest ((a2).toInt64) (32 : Int32)) (f_Ar_lowest ((a3).toInt64) (32 : Int32))) (cwS 3 hT (gB_S mw_549 mw_550 mw_19 mw_551) rfl rfl rfl (by decide +kernel) ⟨Nat.le_of_ble_eq_true rfl, Nat.le_of_ble_eq_true rfl⟩) ⟨fun _ _ _ _ q => q, fun U hU hW => ⟨rfl, hU⟩⟩ rfl rfl hl.1 rfl (lv_room (Nat.le_of_ble_eq_true rfl)) dAr_narrow_153 ⟨Nat.zero_le _, Nat.zero_le _⟩) hS (fun _ _ h => h.elim) (fun _ h => h.elim) (fun r u t H1 locs ht hvm hw hB hz8 hk8 hS => ?_)
      obtain rfl : s.heap = H1 := hB.symm.trans ht
      subst hw
      refine lv_bipush (v := (32 : Int32)) hx hb dAr_narrow_156 (by decide) ?_
      refine va_calll (va_runS (As := [.long (f_Ar_rest false (f_Ar_lowest ((a2).toInt64) (32 : Int32)) (f_Ar_lowest ((a3).toInt64) (32 : Int32))), .int (32 : Int32)]) (rest := []) ⟨hx, hb, hml, hown, hT⟩ (c_Ar_lowest l s.heap (f_Ar_rest false (f_Ar_lowest ((a2).toInt64) (32 : Int32)) (f_Ar_lowest ((a3).toInt64) (32 : Int32))) (32 : Int32)) (cwS 2 hT (gB_S mw_556 mw_458 mw_19 mw_459) rfl rfl rfl (by decide +kernel) ⟨Nat.le_of_ble_eq_true rfl, Nat.le_of_ble_eq_true rfl⟩) ⟨fun _ _ _ _ q => q, fun U hU hW => ⟨rfl, hU⟩⟩ rfl rfl hl.1 rfl (lv_room (Nat.le_of_ble_eq_true rfl)) dAr_narrow_158 ⟨Nat.zero_le _, Nat.zero_le _⟩) hS (fun _ _ h => h.elim) (fun _ h => h.elim) (fun r u t H1 locs ht hvm hw hB hz8 hk8 hS => ?_)
      obtain rfl : s.heap = H1 := hB.symm.trans ht
      subst hw
      exact W.lret (v := (f_Ar_lowest (f_Ar_rest false (f_Ar_lowest ((a2).toInt64) (32 : Int32)) (f_Ar_lowest ((a3).toInt64) (32 : Int32))) (32 : Int32))) hx hb hr (fun t ht hW => ⟨⟨(f_Ar_lowest (f_Ar_rest false (f_Ar_lowest ((a2).toInt64) (32 : Int32)) (f_Ar_lowest ((a3).toInt64) (32 : Int32))) (32 : Int32)), (), rfl, (by unfold f_Ar_narrow; rw [if_neg c1, if_neg c3, if_neg c4, if_neg c5, if_neg c6, if_neg c7, if_pos c8, if_neg c9]; try rfl), ht⟩, hS.F ht⟩) hS.2.2 dAr_narrow_161
    · skip
      refine lv_iconst (v := (1 : Int32)) hx hb dAr_narrow_127 (by decide) ?_
      refine lv_iload_n hx hb dAr_narrow_128 rfl (lv_at hl 2 rfl) ?_
      refine lv_i2l hx hb dAr_narrow_129 rfl ?_
      refine lv_iload_n hx hb dAr_narrow_130 rfl (lv_at hl 3 rfl) ?_
      refine lv_i2l hx hb dAr_narrow_131 rfl ?_
      refine va_calll (va_runS (As := [.int (1 : Int32), .long ((a2).toInt64), .long ((a3).toInt64)]) (rest := []) ⟨hx, hb, hml, hown, hT⟩ (c_Ar_rest l s.heap true ((a2).toInt64) ((a3).toInt64)) (cwS 3 hT (gB_S mw_549 mw_550 mw_19 mw_551) rfl rfl rfl (by decide +kernel) ⟨Nat.le_of_ble_eq_true rfl, Nat.le_of_ble_eq_true rfl⟩) ⟨fun _ _ _ _ q => q, fun U hU hW => ⟨rfl, hU⟩⟩ rfl rfl hl.1 rfl (lv_room (Nat.le_of_ble_eq_true rfl)) dAr_narrow_132 ⟨Nat.zero_le _, Nat.zero_le _⟩) hS (fun _ _ h => h.elim) (fun _ h => h.elim) (fun r u t H1 locs ht hvm hw hB hz8 hk8 hS => ?_)
      obtain rfl : s.heap = H1 := hB.symm.trans ht
      subst hw
      refine lv_goto (tgt := 156) hx hb dAr_narrow_135 (by decide) ?_
      refine lv_bipush (v := (32 : Int32)) hx hb dAr_narrow_156 (by decide) ?_
      refine va_calll (va_runS (As := [.long (f_Ar_rest true ((a2).toInt64) ((a3).toInt64)), .int (32 : Int32)]) (rest := []) ⟨hx, hb, hml, hown, hT⟩ (c_Ar_lowest l s.heap (f_Ar_rest true ((a2).toInt64) ((a3).toInt64)) (32 : Int32)) (cwS 2 hT (gB_S mw_556 mw_458 mw_19 mw_459) rfl rfl rfl (by decide +kernel) ⟨Nat.le_of_ble_eq_true rfl, Nat.le_of_ble_eq_true rfl⟩) ⟨fun _ _ _ _ q => q, fun U hU hW => ⟨rfl, hU⟩⟩ rfl rfl hl.1 rfl (lv_room (Nat.le_of_ble_eq_true rfl)) dAr_narrow_158 ⟨Nat.zero_le _, Nat.zero_le _⟩) hS (fun _ _ h => h.elim) (fun _ h => h.elim) (fun r u t H1 locs ht hvm hw hB hz8 hk8 hS => ?_)
      obtain rfl : s.heap = H1 := hB.symm.trans ht
      subst hw
      exact W.lret (v := (f_Ar_lowest (f_Ar_rest true ((a2).toInt64) ((a3).toInt64)) (32 : Int32))) hx hb hr (fun t ht hW => ⟨⟨(f_Ar_lowest (f_Ar_rest true ((a2).toInt64) ((a3).toInt64)) (32 : Int32)), (), rfl, (by unfold f_Ar_narrow; rw [if_neg c1, if_neg c3, if_neg c4, if_neg c5, if_neg c6, if_neg c7, if_pos c8, if_pos c9]; try rfl), ht⟩, hS.F ht⟩) hS.2.2 dAr_narrow_161
  by_cases c10 : a0 = (10 : Int32)
  · skip
    refine lv_tableIn (tgt := 175) (off := 174) hx hb dAr_narrow_1 (by rw [c10]; decide) (by rw [c10]; decide) (by rw [c10]; rfl) (by decide) ?_
    refine lv_iload_n hx hb dAr_narrow_175 rfl (lv_at hl 0 rfl) ?_
    refine lv_iload_n hx hb dAr_narrow_176 rfl (lv_at hl 1 rfl) ?_
    refine lv_iload_n hx hb dAr_narrow_177 rfl (lv_at hl 2 rfl) ?_
    refine lv_i2l hx hb dAr_narrow_178 rfl ?_
    refine lv_iload_n hx hb dAr_narrow_179 rfl (lv_at hl 3 rfl) ?_
    refine lv_i2l hx hb dAr_narrow_180 rfl ?_
    refine va_calll (va_runS (As := [.int a0, .int a1, .long ((a2).toInt64), .long ((a3).toInt64)]) (rest := []) ⟨hx, hb, hml, hown, hT⟩ (c_Ar_wide l s.heap a0 a1 ((a2).toInt64) ((a3).toInt64)) (cwS 4 hT (gB_S mw_557 mw_540 mw_19 mw_541) rfl rfl rfl (by decide +kernel) ⟨Nat.le_of_ble_eq_true rfl, Nat.le_of_ble_eq_true rfl⟩) ⟨fun _ _ _ _ q => q, fun U hU hW => ⟨rfl, hU⟩⟩ rfl rfl hl.1 rfl (lv_room (Nat.le_of_ble_eq_true rfl)) dAr_narrow_181 ⟨Nat.zero_le _, Nat.zero_le _⟩) hS (fun _ _ h => h.elim) (fun _ h => h.elim) (fun r u t H1 locs ht hvm hw hB hz8 hk8 hS => ?_)
    obtain rfl : s.heap = H1 := hB.symm.trans ht
    subst hw
    refine lv_bipush (v := (32 : Int32)) hx hb dAr_narrow_184 (by decide) ?_
    refine va_calll (va_runS (As := [.long (f_Ar_wide a0 a1 ((a2).toInt64) ((a3).toInt64)), .int (32 : Int32)]) (rest := []) ⟨hx, hb, hml, hown, hT⟩ (c_Ar_lowest l s.heap (f_Ar_wide a0 a1 ((a2).toInt64) ((a3).toInt64)) (32 : Int32)) (cwS 2 hT (gB_S mw_556 mw_458 mw_19 mw_459) rfl rfl rfl (by decide +kernel) ⟨Nat.le_of_ble_eq_true rfl, Nat.le_of_ble_eq_true rfl⟩) ⟨fun _ _ _ _ q => q, fun U hU hW => ⟨rfl, hU⟩⟩ rfl rfl hl.1 rfl (lv_room (Nat.le_of_ble_eq_true rfl)) dAr_narrow_186 ⟨Nat.zero_le _, Nat.zero_le _⟩) hS (fun _ _ h => h.elim) (fun _ h => h.elim) (fun r u t H1 locs ht hvm hw hB hz8 hk8 hS => ?_)
    obtain rfl : s.heap = H1 := hB.symm.trans ht
    subst hw
    exact W.lret (v := (f_Ar_lowest (f_Ar_wide a0 a1 ((a2).toInt64) ((a3).toInt64)) (32 : Int32))) hx hb hr (fun t ht hW => ⟨⟨(f_Ar_lowest (f_Ar_wide a0 a1 ((a2).toInt64) ((a3).toInt64)) (32 : Int32)), (), rfl, (by unfold f_Ar_narrow; rw [if_neg c1, if_neg c3, if_neg c4, if_neg c5, if_neg c6, if_neg c7, if_neg c8, if_pos c10]; try rfl), ht⟩, hS.F ht⟩) hS.2.2 dAr_narrow_189
  by_cases c11 : a0 = (11 : Int32)
  · skip
    refine lv_tableIn (tgt := 175) (off := 174) hx hb dAr_narrow_1 (by rw [c11]; decide) (by rw [c11]; decide) (by rw [c11]; rfl) (by decide) ?_
    refine lv_iload_n hx hb dAr_narrow_175 rfl (lv_at hl 0 rfl) ?_
    refine lv_iload_n hx hb dAr_narrow_176 rfl (lv_at hl 1 rfl) ?_
    refine lv_iload_n hx hb dAr_narrow_177 rfl (lv_at hl 2 rfl) ?_
    refine lv_i2l hx hb dAr_narrow_178 rfl ?_
    refine lv_iload_n hx hb dAr_narrow_179 rfl (lv_at hl 3 rfl) ?_
    refine lv_i2l hx hb dAr_narrow_180 rfl ?_
    refine va_calll (va_runS (As := [.int a0, .int a1, .long ((a2).toInt64), .long ((a3).toInt64)]) (rest := []) ⟨hx, hb, hml, hown, hT⟩ (c_Ar_wide l s.heap a0 a1 ((a2).toInt64) ((a3).toInt64)) (cwS 4 hT (gB_S mw_557 mw_540 mw_19 mw_541) rfl rfl rfl (by decide +kernel) ⟨Nat.le_of_ble_eq_true rfl, Nat.le_of_ble_eq_true rfl⟩) ⟨fun _ _ _ _ q => q, fun U hU hW => ⟨rfl, hU⟩⟩ rfl rfl hl.1 rfl (lv_room (Nat.le_of_ble_eq_true rfl)) dAr_narrow_181 ⟨Nat.zero_le _, Nat.zero_le _⟩) hS (fun _ _ h => h.elim) (fun _ h => h.elim) (fun r u t H1 locs ht hvm hw hB hz8 hk8 hS => ?_)
    obtain rfl : s.heap = H1 := hB.symm.trans ht
    subst hw
    refine lv_bipush (v := (32 : Int32)) hx hb dAr_narrow_184 (by decide) ?_
    refine va_calll (va_runS (As := [.long (f_Ar_wide a0 a1 ((a2).toInt64) ((a3).toInt64)), .int (32 : Int32)]) (rest := []) ⟨hx, hb, hml, hown, hT⟩ (c_Ar_lowest l s.heap (f_Ar_wide a0 a1 ((a2).toInt64) ((a3).toInt64)) (32 : Int32)) (cwS 2 hT (gB_S mw_556 mw_458 mw_19 mw_459) rfl rfl rfl (by decide +kernel) ⟨Nat.le_of_ble_eq_true rfl, Nat.le_of_ble_eq_true rfl⟩) ⟨fun _ _ _ _ q => q, fun U hU hW => ⟨rfl, hU⟩⟩ rfl rfl hl.1 rfl (lv_room (Nat.le_of_ble_eq_true rfl)) dAr_narrow_186 ⟨Nat.zero_le _, Nat.zero_le _⟩) hS (fun _ _ h => h.elim) (fun _ h => h.elim) (fun r u t H1 locs ht hvm hw hB hz8 hk8 hS => ?_)
    obtain rfl : s.heap = H1 := hB.symm.trans ht
    subst hw
    exact W.lret (v := (f_Ar_lowest (f_Ar_wide a0 a1 ((a2).toInt64) ((a3).toInt64)) (32 : Int32))) hx hb hr (fun t ht hW => ⟨⟨(f_Ar_lowest (f_Ar_wide a0 a1 ((a2).toInt64) ((a3).toInt64)) (32 : Int32)), (), rfl, (by unfold f_Ar_narrow; rw [if_neg c1, if_neg c3, if_neg c4, if_neg c5, if_neg c6, if_neg c7, if_neg c8, if_neg c10, if_pos c11]; try rfl), ht⟩, hS.F ht⟩) hS.2.2 dAr_narrow_189
  by_cases c12 : a0 = (12 : Int32)
  · skip
    refine lv_tableIn (tgt := 162) (off := 161) hx hb dAr_narrow_1 (by rw [c12]; decide) (by rw [c12]; decide) (by rw [c12]; rfl) (by decide) ?_
    refine lv_iload_n hx hb dAr_narrow_162 rfl (lv_at hl 2 rfl) ?_
    refine lv_iload_n hx hb dAr_narrow_163 rfl (lv_at hl 3 rfl) ?_
    refine lv_bipush (v := (31 : Int32)) hx hb dAr_narrow_164 (by decide) ?_
    refine lv_iand hx hb dAr_narrow_166 ?_
    refine lv_ishr hx hb dAr_narrow_167 ?_
    refine lv_i2l hx hb dAr_narrow_168 rfl ?_
    refine lv_bipush (v := (32 : Int32)) hx hb dAr_narrow_169 (by decide) ?_
    refine va_calll (va_runS (As := [.long ((a2 >>> ((a3 &&& (31 : Int32)) &&& 31)).toInt64), .int (32 : Int32)]) (rest := []) ⟨hx, hb, hml, hown, hT⟩ (c_Ar_lowest l s.heap ((a2 >>> ((a3 &&& (31 : Int32)) &&& 31)).toInt64) (32 : Int32)) (cwS 2 hT (gB_S mw_556 mw_458 mw_19 mw_459) rfl rfl rfl (by decide +kernel) ⟨Nat.le_of_ble_eq_true rfl, Nat.le_of_ble_eq_true rfl⟩) ⟨fun _ _ _ _ q => q, fun U hU hW => ⟨rfl, hU⟩⟩ rfl rfl hl.1 rfl (lv_room (Nat.le_of_ble_eq_true rfl)) dAr_narrow_171 ⟨Nat.zero_le _, Nat.zero_le _⟩) hS (fun _ _ h => h.elim) (fun _ h => h.elim) (fun r u t H1 locs ht hvm hw hB hz8 hk8 hS => ?_)
    obtain rfl : s.heap = H1 := hB.symm.trans ht
    subst hw
    exact W.lret (v := (f_Ar_lowest ((a2 >>> ((a3 &&& (31 : Int32)) &&& 31)).toInt64) (32 : Int32))) hx hb hr (fun t ht hW => ⟨⟨(f_Ar_lowest ((a2 >>> ((a3 &&& (31 : Int32)) &&& 31)).toInt64) (32 : Int32)), (), rfl, (by unfold f_Ar_narrow; rw [if_neg c1, if_neg c3, if_neg c4, if_neg c5, if_neg c6, if_neg c7, if_neg c8, if_neg c10, if_neg c11, if_pos c12]; try rfl), ht⟩, hS.F ht⟩) hS.2.2 dAr_narrow_174
  refine lv_tableOut (tgt := 175) hx hb dAr_narrow_1 (by have h0 := lv_neT c1 (a := 3) (by decide); have h1 := lv_neT c3 (a := 4) (by decide); have h2 := lv_neT c4 (a := 5) (by decide); have h3 := lv_neT c5 (a := 6) (by decide); have h4 := lv_neT c6 (a := 7) (by decide); have h5 := lv_neT c7 (a := 8) (by decide); have h6 := lv_neT c8 (a := 9) (by decide); have h7 := lv_neT c10 (a := 10) (by decide); have h8 := lv_neT c11 (a := 11) (by decide); have h9 := lv_neT c12 (a := 12) (by decide); omega) (by decide) ?_
  refine lv_iload_n hx hb dAr_narrow_175 rfl (lv_at hl 0 rfl) ?_
  refine lv_iload_n hx hb dAr_narrow_176 rfl (lv_at hl 1 rfl) ?_
  refine lv_iload_n hx hb dAr_narrow_177 rfl (lv_at hl 2 rfl) ?_
  refine lv_i2l hx hb dAr_narrow_178 rfl ?_
  refine lv_iload_n hx hb dAr_narrow_179 rfl (lv_at hl 3 rfl) ?_
  refine lv_i2l hx hb dAr_narrow_180 rfl ?_
  refine va_calll (va_runS (As := [.int a0, .int a1, .long ((a2).toInt64), .long ((a3).toInt64)]) (rest := []) ⟨hx, hb, hml, hown, hT⟩ (c_Ar_wide l s.heap a0 a1 ((a2).toInt64) ((a3).toInt64)) (cwS 4 hT (gB_S mw_557 mw_540 mw_19 mw_541) rfl rfl rfl (by decide +kernel) ⟨Nat.le_of_ble_eq_true rfl, Nat.le_of_ble_eq_true rfl⟩) ⟨fun _ _ _ _ q => q, fun U hU hW => ⟨rfl, hU⟩⟩ rfl rfl hl.1 rfl (lv_room (Nat.le_of_ble_eq_true rfl)) dAr_narrow_181 ⟨Nat.zero_le _, Nat.zero_le _⟩) hS (fun _ _ h => h.elim) (fun _ h => h.elim) (fun r u t H1 locs ht hvm hw hB hz8 hk8 hS => ?_)
  obtain rfl : s.heap = H1 := hB.symm.trans ht
  subst hw
  refine lv_bipush (v := (32 : Int32)) hx hb dAr_narrow_184 (by decide) ?_
  refine va_calll (va_runS (As := [.long (f_Ar_wide a0 a1 ((a2).toInt64) ((a3).toInt64)), .int (32 : Int32)]) (rest := []) ⟨hx, hb, hml, hown, hT⟩ (c_Ar_lowest l s.heap (f_Ar_wide a0 a1 ((a2).toInt64) ((a3).toInt64)) (32 : Int32)) (cwS 2 hT (gB_S mw_556 mw_458 mw_19 mw_459) rfl rfl rfl (by decide +kernel) ⟨Nat.le_of_ble_eq_true rfl, Nat.le_of_ble_eq_true rfl⟩) ⟨fun _ _ _ _ q => q, fun U hU hW => ⟨rfl, hU⟩⟩ rfl rfl hl.1 rfl (lv_room (Nat.le_of_ble_eq_true rfl)) dAr_narrow_186 ⟨Nat.zero_le _, Nat.zero_le _⟩) hS (fun _ _ h => h.elim) (fun _ h => h.elim) (fun r u t H1 locs ht hvm hw hB hz8 hk8 hS => ?_)
  obtain rfl : s.heap = H1 := hB.symm.trans ht
  subst hw
  exact W.lret (v := (f_Ar_lowest (f_Ar_wide a0 a1 ((a2).toInt64) ((a3).toInt64)) (32 : Int32))) hx hb hr (fun t ht hW => ⟨⟨(f_Ar_lowest (f_Ar_wide a0 a1 ((a2).toInt64) ((a3).toInt64)) (32 : Int32)), (), rfl, (by unfold f_Ar_narrow; rw [if_neg c1, if_neg c3, if_neg c4, if_neg c5, if_neg c6, if_neg c7, if_neg c8, if_neg c10, if_neg c11, if_neg c12]; try rfl), ht⟩, hS.F ht⟩) hS.2.2 dAr_narrow_189

def f_Ar_isTaken (a0 : Int32) (a1 : Int64) (a2 : Int64) : Bool :=
  if a0 = (1 : Int32) then
    if a1 = a2 then
      true
    else
      false
  else
    if a0 = (2 : Int32) then
      if (a1 ^^^ (-9223372036854775808 : Int64)) ≤ (a2 ^^^ (-9223372036854775808 : Int64)) then
        false
      else
        true
    else
      if a0 = (3 : Int32) then
        if (a1 ^^^ (-9223372036854775808 : Int64)) < (a2 ^^^ (-9223372036854775808 : Int64)) then
          false
        else
          true
      else
        if a0 = (4 : Int32) then
          if (a1 &&& a2) = (0 : Int64) then
            false
          else
            true
        else
          if a0 = (5 : Int32) then
            if a1 = a2 then
              false
            else
              true
          else
            if a0 = (6 : Int32) then
              if a1 ≤ a2 then
                false
              else
                true
            else
              if a0 = (7 : Int32) then
                if a1 < a2 then
                  false
                else
                  true
              else
                if a0 = (8 : Int32) then
                  false
                else
                  if a0 = (9 : Int32) then
                    false
                  else
                    if a0 = (10 : Int32) then
                      if (a2 ^^^ (-9223372036854775808 : Int64)) ≤ (a1 ^^^ (-9223372036854775808 : Int64)) then
                        false
                      else
                        true
                    else
                      if a0 = (11 : Int32) then
                        if (a2 ^^^ (-9223372036854775808 : Int64)) < (a1 ^^^ (-9223372036854775808 : Int64)) then
                          false
                        else
                          true
                      else
                        if a0 = (12 : Int32) then
                          if a2 ≤ a1 then
                            false
                          else
                            true
                        else
                          if a0 = (13 : Int32) then
                            if a2 < a1 then
                              false
                            else
                              true
                          else
                            false
set_option maxHeartbeats 4000000 in
set_option maxRecDepth 100000 in
theorem c_Ar_isTaken (l : Launch) (Hp : Heap) (a0 : Int32) (a1 : Int64) (a2 : Int64) : Met l yAr_isTaken wsAr_isTaken ({ frames := 0, cells := 0, slots := 0, locals := 0 }) (va_Pc [.int a0, .long a1, .long a2] (fun U => U.heap = Hp)) (va_Qi (fun (r : Int32) (_ : Unit) => r = (bI (f_Ar_isTaken a0 a1 a2))) (fun _ t => t.heap = Hp) (fun _ => False)) 0 0 (fun _ => False) := by
  refine Met.ofW (cc := cAr_isTaken) (maxL := 9) (ret := (some .boolean)) (by decide) rfl ?_
  intro p e s m args below meth c s₁ B hml hv
  obtain ⟨rfl, rfl⟩ := hv
  have hx := B.exec
  have hb := B.bytes
  have hr := B.returns
  have hT : ∀ w ∈ tB, w.before _ s = true := fun w h => atoms_spec (ws := wsAr_isTaken) B.pre w (List.mem_cons_of_mem _ h)
  have hown : s.vm.findClass "CompiledProgram$Arithmetic" = some m.cls := findClass_of_methodNamed B.named
  have hlocks := B.notSynchronized
  have hS : va_S (fun _ => False) s.heap s.heap [] := va_S.rf
  have hl := lv_entry ([.int a0, .long a1, .long a2]) (n := 9) (Nat.le_of_ble_eq_true rfl)
  rw [lg_entry_eq]
  generalize (lg_sl ([.int a0, .long a1, .long a2]) ++ List.replicate (9 - (lg_sl ([.int a0, .long a1, .long a2])).length) Slot.unset).toArray = ls at hl ⊢
  have hl : lv_has ls 9 [(0, .int a0), (1, .long a1), (3, .long a2)] := hl
  refine lv_lload_n hx hb dAr_isTaken_0 rfl (lv_at hl 1 rfl) ?_
  refine lv_ldc2 (v := (-9223372036854775808 : Int64)) hx hb hown (hT _ mw_521) dAr_isTaken_1 ?_
  refine lv_lxor hx hb dAr_isTaken_4 ?_
  refine lv_lstore (lv' := [(5, .long (a1 ^^^ (-9223372036854775808 : Int64))), (0, .int a0), (1, .long a1), (3, .long a2)]) hx hb dAr_isTaken_5 hl (by decide) rfl (fun ls hl => ?_)
  refine lv_lload_n hx hb dAr_isTaken_7 rfl (lv_at hl 3 rfl) ?_
  refine lv_ldc2 (v := (-9223372036854775808 : Int64)) hx hb hown (hT _ mw_521) dAr_isTaken_8 ?_
  refine lv_lxor hx hb dAr_isTaken_11 ?_
  refine lv_lstore (lv' := [(7, .long (a2 ^^^ (-9223372036854775808 : Int64))), (5, .long (a1 ^^^ (-9223372036854775808 : Int64))), (0, .int a0), (1, .long a1), (3, .long a2)]) hx hb dAr_isTaken_12 hl (by decide) rfl (fun ls hl => ?_)
  refine lv_iload_n hx hb dAr_isTaken_14 rfl (lv_at hl 2 rfl) ?_
  by_cases c1 : a0 = (1 : Int32)
  · skip
    refine lv_tableIn (tgt := 80) (off := 65) hx hb dAr_isTaken_15 (by rw [c1]; decide) (by rw [c1]; decide) (by rw [c1]; rfl) (by decide) ?_
    refine lv_lload_n hx hb dAr_isTaken_80 rfl (lv_at hl 3 rfl) ?_
    refine lv_lload_n hx hb dAr_isTaken_81 rfl (lv_at hl 4 rfl) ?_
    refine W.lcmp hx hb dAr_isTaken_82 ?_
    refine lv_if_ne (tgt := 90) hx hb dAr_isTaken_83 (by decide) (fun c2 => ?_) (fun c2 => ?_)
    · have c2 := mt (lg_cmp_eq _ _).mpr c2
      refine lv_iconst (v := (0 : Int32)) hx hb dAr_isTaken_90 (by decide) ?_
      exact W.zret (v := (0 : Int32)) hx hb hr rfl (fun t ht hW => ⟨⟨(0 : Int32), (), rfl, (by unfold f_Ar_isTaken; rw [if_pos c1, if_neg c2]; try rfl), ht⟩, hS.F ht⟩) hS.2.2 dAr_isTaken_91
    · have c2 := (lg_cmp_eq _ _).mp c2
      refine lv_iconst (v := (1 : Int32)) hx hb dAr_isTaken_86 (by decide) ?_
      refine lv_goto (tgt := 91) hx hb dAr_isTaken_87 (by decide) ?_
      exact W.zret (v := (1 : Int32)) hx hb hr rfl (fun t ht hW => ⟨⟨(1 : Int32), (), rfl, (by unfold f_Ar_isTaken; rw [if_pos c1, if_pos c2]; try rfl), ht⟩, hS.F ht⟩) hS.2.2 dAr_isTaken_91
  by_cases c3 : a0 = (2 : Int32)
  · skip
    refine lv_tableIn (tgt := 92) (off := 77) hx hb dAr_isTaken_15 (by rw [c3]; decide) (by rw [c3]; decide) (by rw [c3]; rfl) (by decide) ?_
    refine lv_lload hx hb dAr_isTaken_92 (lv_at hl 1 rfl) ?_
    refine lv_lload hx hb dAr_isTaken_94 (lv_at hl 0 rfl) ?_
    refine W.lcmp hx hb dAr_isTaken_96 ?_
    refine lv_if_le (tgt := 104) hx hb dAr_isTaken_97 (by decide) (fun c4 => ?_) (fun c4 => ?_)
    · have c4 := (lg_cmp_le _ _).mp c4
      refine lv_iconst (v := (0 : Int32)) hx hb dAr_isTaken_104 (by decide) ?_
      exact W.zret (v := (0 : Int32)) hx hb hr rfl (fun t ht hW => ⟨⟨(0 : Int32), (), rfl, (by unfold f_Ar_isTaken; rw [if_neg c1, if_pos c3, if_pos c4]; try rfl), ht⟩, hS.F ht⟩) hS.2.2 dAr_isTaken_105
    · have c4 := mt (lg_cmp_le _ _).mpr c4
      refine lv_iconst (v := (1 : Int32)) hx hb dAr_isTaken_100 (by decide) ?_
      refine lv_goto (tgt := 105) hx hb dAr_isTaken_101 (by decide) ?_
      exact W.zret (v := (1 : Int32)) hx hb hr rfl (fun t ht hW => ⟨⟨(1 : Int32), (), rfl, (by unfold f_Ar_isTaken; rw [if_neg c1, if_pos c3, if_neg c4]; try rfl), ht⟩, hS.F ht⟩) hS.2.2 dAr_isTaken_105
  by_cases c5 : a0 = (3 : Int32)
  · skip
    refine lv_tableIn (tgt := 106) (off := 91) hx hb dAr_isTaken_15 (by rw [c5]; decide) (by rw [c5]; decide) (by rw [c5]; rfl) (by decide) ?_
    refine lv_lload hx hb dAr_isTaken_106 (lv_at hl 1 rfl) ?_
    refine lv_lload hx hb dAr_isTaken_108 (lv_at hl 0 rfl) ?_
    refine W.lcmp hx hb dAr_isTaken_110 ?_
    refine lv_if_lt (tgt := 118) hx hb dAr_isTaken_111 (by decide) (fun c6 => ?_) (fun c6 => ?_)
    · have c6 := (lg_cmp_lt _ _).mp c6
      refine lv_iconst (v := (0 : Int32)) hx hb dAr_isTaken_118 (by decide) ?_
      exact W.zret (v := (0 : Int32)) hx hb hr rfl (fun t ht hW => ⟨⟨(0 : Int32), (), rfl, (by unfold f_Ar_isTaken; rw [if_neg c1, if_neg c3, if_pos c5, if_pos c6]; try rfl), ht⟩, hS.F ht⟩) hS.2.2 dAr_isTaken_119
    · have c6 := mt (lg_cmp_lt _ _).mpr c6
      refine lv_iconst (v := (1 : Int32)) hx hb dAr_isTaken_114 (by decide) ?_
      refine lv_goto (tgt := 119) hx hb dAr_isTaken_115 (by decide) ?_
      exact W.zret (v := (1 : Int32)) hx hb hr rfl (fun t ht hW => ⟨⟨(1 : Int32), (), rfl, (by unfold f_Ar_isTaken; rw [if_neg c1, if_neg c3, if_pos c5, if_neg c6]; try rfl), ht⟩, hS.F ht⟩) hS.2.2 dAr_isTaken_119
  by_cases c7 : a0 = (4 : Int32)
  · skip
    refine lv_tableIn (tgt := 120) (off := 105) hx hb dAr_isTaken_15 (by rw [c7]; decide) (by rw [c7]; decide) (by rw [c7]; rfl) (by decide) ?_
    refine lv_lload_n hx hb dAr_isTaken_120 rfl (lv_at hl 3 rfl) ?_
    refine lv_lload_n hx hb dAr_isTaken_121 rfl (lv_at hl 4 rfl) ?_
    refine lv_land hx hb dAr_isTaken_122 ?_
    refine lv_lconst (v := (0 : Int64)) hx hb dAr_isTaken_123 (by decide) ?_
    refine W.lcmp hx hb dAr_isTaken_124 ?_
    refine lv_if_eq (tgt := 132) hx hb dAr_isTaken_125 (by decide) (fun c8 => ?_) (fun c8 => ?_)
    · have c8 := (lg_cmp_eq _ _).mp c8
      refine lv_iconst (v := (0 : Int32)) hx hb dAr_isTaken_132 (by decide) ?_
      exact W.zret (v := (0 : Int32)) hx hb hr rfl (fun t ht hW => ⟨⟨(0 : Int32), (), rfl, (by unfold f_Ar_isTaken; rw [if_neg c1, if_neg c3, if_neg c5, if_pos c7, if_pos c8]; try rfl), ht⟩, hS.F ht⟩) hS.2.2 dAr_isTaken_133
    · have c8 := mt (lg_cmp_eq _ _).mpr c8
      refine lv_iconst (v := (1 : Int32)) hx hb dAr_isTaken_128 (by decide) ?_
      refine lv_goto (tgt := 133) hx hb dAr_isTaken_129 (by decide) ?_
      exact W.zret (v := (1 : Int32)) hx hb hr rfl (fun t ht hW => ⟨⟨(1 : Int32), (), rfl, (by unfold f_Ar_isTaken; rw [if_neg c1, if_neg c3, if_neg c5, if_pos c7, if_neg c8]; try rfl), ht⟩, hS.F ht⟩) hS.2.2 dAr_isTaken_133
  by_cases c9 : a0 = (5 : Int32)
  · skip
    refine lv_tableIn (tgt := 134) (off := 119) hx hb dAr_isTaken_15 (by rw [c9]; decide) (by rw [c9]; decide) (by rw [c9]; rfl) (by decide) ?_
    refine lv_lload_n hx hb dAr_isTaken_134 rfl (lv_at hl 3 rfl) ?_
    refine lv_lload_n hx hb dAr_isTaken_135 rfl (lv_at hl 4 rfl) ?_
    refine W.lcmp hx hb dAr_isTaken_136 ?_
    refine lv_if_eq (tgt := 144) hx hb dAr_isTaken_137 (by decide) (fun c10 => ?_) (fun c10 => ?_)
    · have c10 := (lg_cmp_eq _ _).mp c10
      refine lv_iconst (v := (0 : Int32)) hx hb dAr_isTaken_144 (by decide) ?_
      exact W.zret (v := (0 : Int32)) hx hb hr rfl (fun t ht hW => ⟨⟨(0 : Int32), (), rfl, (by unfold f_Ar_isTaken; rw [if_neg c1, if_neg c3, if_neg c5, if_neg c7, if_pos c9, if_pos c10]; try rfl), ht⟩, hS.F ht⟩) hS.2.2 dAr_isTaken_145
    · have c10 := mt (lg_cmp_eq _ _).mpr c10
      refine lv_iconst (v := (1 : Int32)) hx hb dAr_isTaken_140 (by decide) ?_
      refine lv_goto (tgt := 145) hx hb dAr_isTaken_141 (by decide) ?_
      exact W.zret (v := (1 : Int32)) hx hb hr rfl (fun t ht hW => ⟨⟨(1 : Int32), (), rfl, (by unfold f_Ar_isTaken; rw [if_neg c1, if_neg c3, if_neg c5, if_neg c7, if_pos c9, if_neg c10]; try rfl), ht⟩, hS.F ht⟩) hS.2.2 dAr_isTaken_145
  by_cases c11 : a0 = (6 : Int32)
  · skip
    refine lv_tableIn (tgt := 146) (off := 131) hx hb dAr_isTaken_15 (by rw [c11]; decide) (by rw [c11]; decide) (by rw [c11]; rfl) (by decide) ?_
    refine lv_lload_n hx hb dAr_isTaken_146 rfl (lv_at hl 3 rfl) ?_
    refine lv_lload_n hx hb dAr_isTaken_147 rfl (lv_at hl 4 rfl) ?_
    refine W.lcmp hx hb dAr_isTaken_148 ?_
    refine lv_if_le (tgt := 156) hx hb dAr_isTaken_149 (by decide) (fun c12 => ?_) (fun c12 => ?_)
    · have c12 := (lg_cmp_le _ _).mp c12
      refine lv_iconst (v := (0 : Int32)) hx hb dAr_isTaken_156 (by decide) ?_
      exact W.zret (v := (0 : Int32)) hx hb hr rfl (fun t ht hW => ⟨⟨(0 : Int32), (), rfl, (by unfold f_Ar_isTaken; rw [if_neg c1, if_neg c3, if_neg c5, if_neg c7, if_neg c9, if_pos c11, if_pos c12]; try rfl), ht⟩, hS.F ht⟩) hS.2.2 dAr_isTaken_157
    · have c12 := mt (lg_cmp_le _ _).mpr c12
      refine lv_iconst (v := (1 : Int32)) hx hb dAr_isTaken_152 (by decide) ?_
      refine lv_goto (tgt := 157) hx hb dAr_isTaken_153 (by decide) ?_
      exact W.zret (v := (1 : Int32)) hx hb hr rfl (fun t ht hW => ⟨⟨(1 : Int32), (), rfl, (by unfold f_Ar_isTaken; rw [if_neg c1, if_neg c3, if_neg c5, if_neg c7, if_neg c9, if_pos c11, if_neg c12]; try rfl), ht⟩, hS.F ht⟩) hS.2.2 dAr_isTaken_157
  by_cases c13 : a0 = (7 : Int32)
  · skip
    refine lv_tableIn (tgt := 158) (off := 143) hx hb dAr_isTaken_15 (by rw [c13]; decide) (by rw [c13]; decide) (by rw [c13]; rfl) (by decide) ?_
    refine lv_lload_n hx hb dAr_isTaken_158 rfl (lv_at hl 3 rfl) ?_
    refine lv_lload_n hx hb dAr_isTaken_159 rfl (lv_at hl 4 rfl) ?_
    refine W.lcmp hx hb dAr_isTaken_160 ?_
    refine lv_if_lt (tgt := 168) hx hb dAr_isTaken_161 (by decide) (fun c14 => ?_) (fun c14 => ?_)
    · have c14 := (lg_cmp_lt _ _).mp c14
      refine lv_iconst (v := (0 : Int32)) hx hb dAr_isTaken_168 (by decide) ?_
      exact W.zret (v := (0 : Int32)) hx hb hr rfl (fun t ht hW => ⟨⟨(0 : Int32), (), rfl, (by unfold f_Ar_isTaken; rw [if_neg c1, if_neg c3, if_neg c5, if_neg c7, if_neg c9, if_neg c11, if_pos c13, if_pos c14]; try rfl), ht⟩, hS.F ht⟩) hS.2.2 dAr_isTaken_169
    · have c14 := mt (lg_cmp_lt _ _).mpr c14
      refine lv_iconst (v := (1 : Int32)) hx hb dAr_isTaken_164 (by decide) ?_
      refine lv_goto (tgt := 169) hx hb dAr_isTaken_165 (by decide) ?_
      exact W.zret (v := (1 : Int32)) hx hb hr rfl (fun t ht hW => ⟨⟨(1 : Int32), (), rfl, (by unfold f_Ar_isTaken; rw [if_neg c1, if_neg c3, if_neg c5, if_neg c7, if_neg c9, if_neg c11, if_pos c13, if_neg c14]; try rfl), ht⟩, hS.F ht⟩) hS.2.2 dAr_isTaken_169
  by_cases c15 : a0 = (8 : Int32)
  · skip
    refine lv_tableIn (tgt := 222) (off := 207) hx hb dAr_isTaken_15 (by rw [c15]; decide) (by rw [c15]; decide) (by rw [c15]; rfl) (by decide) ?_
    refine lv_iconst (v := (0 : Int32)) hx hb dAr_isTaken_222 (by decide) ?_
    exact W.zret (v := (0 : Int32)) hx hb hr rfl (fun t ht hW => ⟨⟨(0 : Int32), (), rfl, (by unfold f_Ar_isTaken; rw [if_neg c1, if_neg c3, if_neg c5, if_neg c7, if_neg c9, if_neg c11, if_neg c13, if_pos c15]; try rfl), ht⟩, hS.F ht⟩) hS.2.2 dAr_isTaken_223
  by_cases c16 : a0 = (9 : Int32)
  · skip
    refine lv_tableIn (tgt := 222) (off := 207) hx hb dAr_isTaken_15 (by rw [c16]; decide) (by rw [c16]; decide) (by rw [c16]; rfl) (by decide) ?_
    refine lv_iconst (v := (0 : Int32)) hx hb dAr_isTaken_222 (by decide) ?_
    exact W.zret (v := (0 : Int32)) hx hb hr rfl (fun t ht hW => ⟨⟨(0 : Int32), (), rfl, (by unfold f_Ar_isTaken; rw [if_neg c1, if_neg c3, if_neg c5, if_neg c7, if_neg c9, if_neg c11, if_neg c13, if_neg c15, if_pos c16]; try rfl), ht⟩, hS.F ht⟩) hS.2.2 dAr_isTaken_223
  by_cases c17 : a0 = (10 : Int32)
  · skip
    refine lv_tableIn (tgt := 170) (off := 155) hx hb dAr_isTaken_15 (by rw [c17]; decide) (by rw [c17]; decide) (by rw [c17]; rfl) (by decide) ?_
    refine lv_lload hx hb dAr_isTaken_170 (lv_at hl 1 rfl) ?_
    refine lv_lload hx hb dAr_isTaken_172 (lv_at hl 0 rfl) ?_
    refine W.lcmp hx hb dAr_isTaken_174 ?_
    refine lv_if_ge (tgt := 182) hx hb dAr_isTaken_175 (by decide) (fun c18 => ?_) (fun c18 => ?_)
    · have c18 := (lg_cmp_ge _ _).mp c18
      refine lv_iconst (v := (0 : Int32)) hx hb dAr_isTaken_182 (by decide) ?_
      exact W.zret (v := (0 : Int32)) hx hb hr rfl (fun t ht hW => ⟨⟨(0 : Int32), (), rfl, (by unfold f_Ar_isTaken; rw [if_neg c1, if_neg c3, if_neg c5, if_neg c7, if_neg c9, if_neg c11, if_neg c13, if_neg c15, if_neg c16, if_pos c17, if_pos c18]; try rfl), ht⟩, hS.F ht⟩) hS.2.2 dAr_isTaken_183
    · have c18 := mt (lg_cmp_ge _ _).mpr c18
      refine lv_iconst (v := (1 : Int32)) hx hb dAr_isTaken_178 (by decide) ?_
      refine lv_goto (tgt := 183) hx hb dAr_isTaken_179 (by decide) ?_
      exact W.zret (v := (1 : Int32)) hx hb hr rfl (fun t ht hW => ⟨⟨(1 : Int32), (), rfl, (by unfold f_Ar_isTaken; rw [if_neg c1, if_neg c3, if_neg c5, if_neg c7, if_neg c9, if_neg c11, if_neg c13, if_neg c15, if_neg c16, if_pos c17, if_neg c18]; try rfl), ht⟩, hS.F ht⟩) hS.2.2 dAr_isTaken_183
  by_cases c19 : a0 = (11 : Int32)
  · skip
    refine lv_tableIn (tgt := 184) (off := 169) hx hb dAr_isTaken_15 (by rw [c19]; decide) (by rw [c19]; decide) (by rw [c19]; rfl) (by decide) ?_
    refine lv_lload hx hb dAr_isTaken_184 (lv_at hl 1 rfl) ?_
    refine lv_lload hx hb dAr_isTaken_186 (lv_at hl 0 rfl) ?_
    refine W.lcmp hx hb dAr_isTaken_188 ?_
    refine lv_if_gt (tgt := 196) hx hb dAr_isTaken_189 (by decide) (fun c20 => ?_) (fun c20 => ?_)
    · have c20 := (lg_cmp_gt _ _).mp c20
      refine lv_iconst (v := (0 : Int32)) hx hb dAr_isTaken_196 (by decide) ?_
      exact W.zret (v := (0 : Int32)) hx hb hr rfl (fun t ht hW => ⟨⟨(0 : Int32), (), rfl, (by unfold f_Ar_isTaken; rw [if_neg c1, if_neg c3, if_neg c5, if_neg c7, if_neg c9, if_neg c11, if_neg c13, if_neg c15, if_neg c16, if_neg c17, if_pos c19, if_pos c20]; try rfl), ht⟩, hS.F ht⟩) hS.2.2 dAr_isTaken_197
    · have c20 := mt (lg_cmp_gt _ _).mpr c20
      refine lv_iconst (v := (1 : Int32)) hx hb dAr_isTaken_192 (by decide) ?_
      refine lv_goto (tgt := 197) hx hb dAr_isTaken_193 (by decide) ?_
      exact W.zret (v := (1 : Int32)) hx hb hr rfl (fun t ht hW => ⟨⟨(1 : Int32), (), rfl, (by unfold f_Ar_isTaken; rw [if_neg c1, if_neg c3, if_neg c5, if_neg c7, if_neg c9, if_neg c11, if_neg c13, if_neg c15, if_neg c16, if_neg c17, if_pos c19, if_neg c20]; try rfl), ht⟩, hS.F ht⟩) hS.2.2 dAr_isTaken_197
  by_cases c21 : a0 = (12 : Int32)
  · skip
    refine lv_tableIn (tgt := 198) (off := 183) hx hb dAr_isTaken_15 (by rw [c21]; decide) (by rw [c21]; decide) (by rw [c21]; rfl) (by decide) ?_
    refine lv_lload_n hx hb dAr_isTaken_198 rfl (lv_at hl 3 rfl) ?_
    refine lv_lload_n hx hb dAr_isTaken_199 rfl (lv_at hl 4 rfl) ?_
    refine W.lcmp hx hb dAr_isTaken_200 ?_
    refine lv_if_ge (tgt := 208) hx hb dAr_isTaken_201 (by decide) (fun c22 => ?_) (fun c22 => ?_)
    · have c22 := (lg_cmp_ge _ _).mp c22
      refine lv_iconst (v := (0 : Int32)) hx hb dAr_isTaken_208 (by decide) ?_
      exact W.zret (v := (0 : Int32)) hx hb hr rfl (fun t ht hW => ⟨⟨(0 : Int32), (), rfl, (by unfold f_Ar_isTaken; rw [if_neg c1, if_neg c3, if_neg c5, if_neg c7, if_neg c9, if_neg c11, if_neg c13, if_neg c15, if_neg c16, if_neg c17, if_neg c19, if_pos c21, if_pos c22]; try rfl), ht⟩, hS.F ht⟩) hS.2.2 dAr_isTaken_209
    · have c22 := mt (lg_cmp_ge _ _).mpr c22
      refine lv_iconst (v := (1 : Int32)) hx hb dAr_isTaken_204 (by decide) ?_
      refine lv_goto (tgt := 209) hx hb dAr_isTaken_205 (by decide) ?_
      exact W.zret (v := (1 : Int32)) hx hb hr rfl (fun t ht hW => ⟨⟨(1 : Int32), (), rfl, (by unfold f_Ar_isTaken; rw [if_neg c1, if_neg c3, if_neg c5, if_neg c7, if_neg c9, if_neg c11, if_neg c13, if_neg c15, if_neg c16, if_neg c17, if_neg c19, if_pos c21, if_neg c22]; try rfl), ht⟩, hS.F ht⟩) hS.2.2 dAr_isTaken_209
  by_cases c23 : a0 = (13 : Int32)
  · skip
    refine lv_tableIn (tgt := 210) (off := 195) hx hb dAr_isTaken_15 (by rw [c23]; decide) (by rw [c23]; decide) (by rw [c23]; rfl) (by decide) ?_
    refine lv_lload_n hx hb dAr_isTaken_210 rfl (lv_at hl 3 rfl) ?_
    refine lv_lload_n hx hb dAr_isTaken_211 rfl (lv_at hl 4 rfl) ?_
    refine W.lcmp hx hb dAr_isTaken_212 ?_
    refine lv_if_gt (tgt := 220) hx hb dAr_isTaken_213 (by decide) (fun c24 => ?_) (fun c24 => ?_)
    · have c24 := (lg_cmp_gt _ _).mp c24
      refine lv_iconst (v := (0 : Int32)) hx hb dAr_isTaken_220 (by decide) ?_
      exact W.zret (v := (0 : Int32)) hx hb hr rfl (fun t ht hW => ⟨⟨(0 : Int32), (), rfl, (by unfold f_Ar_isTaken; rw [if_neg c1, if_neg c3, if_neg c5, if_neg c7, if_neg c9, if_neg c11, if_neg c13, if_neg c15, if_neg c16, if_neg c17, if_neg c19, if_neg c21, if_pos c23, if_pos c24]; try rfl), ht⟩, hS.F ht⟩) hS.2.2 dAr_isTaken_221
    · have c24 := mt (lg_cmp_gt _ _).mpr c24
      refine lv_iconst (v := (1 : Int32)) hx hb dAr_isTaken_216 (by decide) ?_
      refine lv_goto (tgt := 221) hx hb dAr_isTaken_217 (by decide) ?_
      exact W.zret (v := (1 : Int32)) hx hb hr rfl (fun t ht hW => ⟨⟨(1 : Int32), (), rfl, (by unfold f_Ar_isTaken; rw [if_neg c1, if_neg c3, if_neg c5, if_neg c7, if_neg c9, if_neg c11, if_neg c13, if_neg c15, if_neg c16, if_neg c17, if_neg c19, if_neg c21, if_pos c23, if_neg c24]; try rfl), ht⟩, hS.F ht⟩) hS.2.2 dAr_isTaken_221
  refine lv_tableOut (tgt := 222) hx hb dAr_isTaken_15 (by have h0 := lv_neT c1 (a := 1) (by decide); have h1 := lv_neT c3 (a := 2) (by decide); have h2 := lv_neT c5 (a := 3) (by decide); have h3 := lv_neT c7 (a := 4) (by decide); have h4 := lv_neT c9 (a := 5) (by decide); have h5 := lv_neT c11 (a := 6) (by decide); have h6 := lv_neT c13 (a := 7) (by decide); have h7 := lv_neT c15 (a := 8) (by decide); have h8 := lv_neT c16 (a := 9) (by decide); have h9 := lv_neT c17 (a := 10) (by decide); have h10 := lv_neT c19 (a := 11) (by decide); have h11 := lv_neT c21 (a := 12) (by decide); have h12 := lv_neT c23 (a := 13) (by decide); omega) (by decide) ?_
  refine lv_iconst (v := (0 : Int32)) hx hb dAr_isTaken_222 (by decide) ?_
  exact W.zret (v := (0 : Int32)) hx hb hr rfl (fun t ht hW => ⟨⟨(0 : Int32), (), rfl, (by unfold f_Ar_isTaken; rw [if_neg c1, if_neg c3, if_neg c5, if_neg c7, if_neg c9, if_neg c11, if_neg c13, if_neg c15, if_neg c16, if_neg c17, if_neg c19, if_neg c21, if_neg c23]; try rfl), ht⟩, hS.F ht⟩) hS.2.2 dAr_isTaken_223
