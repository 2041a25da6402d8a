def f_Mo_isThere  (a0 : Int64) (a1 : Int32) : Bool :=
  if a0 < (2147483648 : Int64) then
    false
  else
    if ((2147487744 : Int64) - ((a1).toInt64)) < a0 then
      false
    else
      true
set_option maxHeartbeats 4000000 in
set_option maxRecDepth 100000 in
theorem c_Mo_isThere (l : Launch) (G : va_G) (cB cL cI : ClassId) (Hp : Heap) (a0 : Int64) (a1 : Int32) (hP : va_P G vwCl [] Hp) : Met l yMo_isThere wsMo_isThere ({ frames := 0, cells := 0, slots := 0, locals := 0 }) (va_Pc [.long a0, .int a1] (fun U => U.heap = Hp ∧ va_K G vwCl [(cB, .byte), (cL, .long), (cI, .int)] U)) (va_Qi (fun (r : Int32) (_ : Unit) => r = bI (f_Mo_isThere a0 a1)) (fun _ t => t.heap = Hp) (fun _ => False)) 0 0 (fun _ => False) := by
  refine Met.ofW (cc := cMo_isThere) (maxL := 3) (ret := (some .boolean)) (by decide) rfl ?_
  intro p e s m args below meth c s₁ B hml hv
  obtain ⟨rfl, rfl, hK⟩ := hv
  have hx := B.exec
  have hb := B.bytes
  have hr := B.returns
  have hT : ∀ w ∈ tB, w.before _ s = true := fun w h => atoms_spec (ws := wsMo_isThere) B.pre w (List.mem_cons_of_mem _ h)
  have hown : s.vm.findClass "CompiledProgramModel" = some m.cls := findClass_of_methodNamed B.named
  have hlocks := B.notSynchronized
  have hA : ∀ q : Nat, (fun _ : Nat => False) q → False := fun _ h => h
  have hS : va_S (fun _ => False) s.heap s.heap [] := va_S.rf
  have hl := lv_entry ([.long a0, .int a1]) (n := 3) (Nat.le_of_ble_eq_true rfl)
  rw [lg_entry_eq]
  generalize (lg_sl ([.long a0, .int a1]) ++ List.replicate (3 - (lg_sl ([.long a0, .int a1])).length) Slot.unset).toArray = ls at hl ⊢
  have hl : lv_has ls 3 [(0, .long a0), (2, .int a1)] := hl
  refine lv_lload_n hx hb dMo_isThere_0 rfl (lv_at hl 0 rfl) ?_
  refine lv_ldc2 (v := (2147483648 : Int64)) hx hb hown (hT _ mw_710) dMo_isThere_1 ?_
  refine W.lcmp hx hb dMo_isThere_4 ?_
  refine lv_if_lt (tgt := 23) hx hb dMo_isThere_5 (by decide) (fun c1 => ?_) (fun c1 => ?_)
  · have c1 := (lg_cmp_lt _ _).mp c1
    refine lv_iconst (v := (0 : Int32)) hx hb dMo_isThere_23 (by decide) ?_
    exact W.zret (v := (0 : Int32)) hx hb hr rfl (fun t ht hW => ⟨⟨(0 : Int32), (), rfl, (by unfold f_Mo_isThere; rw [if_pos c1]; try rfl), ht⟩, hS.F ht⟩) hS.2.2 dMo_isThere_24
  · have c1 := mt (lg_cmp_lt _ _).mpr c1
    refine lv_lload_n hx hb dMo_isThere_8 rfl (lv_at hl 0 rfl) ?_
    refine lv_ldc2 (v := (2147487744 : Int64)) hx hb hown (hT _ mw_711) dMo_isThere_9 ?_
    refine lv_iload_n hx hb dMo_isThere_12 rfl (lv_at hl 1 rfl) ?_
    refine lv_i2l hx hb dMo_isThere_13 rfl ?_
    refine lv_lsub hx hb dMo_isThere_14 ?_
    refine W.lcmp hx hb dMo_isThere_15 ?_
    refine lv_if_gt (tgt := 23) hx hb dMo_isThere_16 (by decide) (fun c2 => ?_) (fun c2 => ?_)
    · have c2 := (lg_cmp_gt _ _).mp c2
      refine lv_iconst (v := (0 : Int32)) hx hb dMo_isThere_23 (by decide) ?_
      exact W.zret (v := (0 : Int32)) hx hb hr rfl (fun t ht hW => ⟨⟨(0 : Int32), (), rfl, (by unfold f_Mo_isThere; rw [if_neg c1, if_pos c2]; try rfl), ht⟩, hS.F ht⟩) hS.2.2 dMo_isThere_24
    · have c2 := mt (lg_cmp_gt _ _).mpr c2
      refine lv_iconst (v := (1 : Int32)) hx hb dMo_isThere_19 (by decide) ?_
      refine lv_goto (tgt := 24) hx hb dMo_isThere_20 (by decide) ?_
      exact W.zret (v := (1 : Int32)) hx hb hr rfl (fun t ht hW => ⟨⟨(1 : Int32), (), rfl, (by unfold f_Mo_isThere; rw [if_neg c1, if_neg c2]; try rfl), ht⟩, hS.F ht⟩) hS.2.2 dMo_isThere_24

def f_Mo_isLess  (a0 : Int64) (a1 : Int64) : Bool :=
  if (bI (if (0 : Int64) ≤ a0 then false else true)) = (bI (if (0 : Int64) ≤ a1 then false else true)) then
    if a1 ≤ a0 then
      false
    else
      true
  else
    if (0 : Int64) ≤ a1 then
      false
    else
      true
set_option maxHeartbeats 4000000 in
set_option maxRecDepth 100000 in
theorem c_Mo_isLess (l : Launch) (G : va_G) (cB cL cI : ClassId) (Hp : Heap) (a0 : Int64) (a1 : Int64) (hP : va_P G vwCl [] Hp) : Met l yMo_isLess wsMo_isLess ({ frames := 0, cells := 0, slots := 0, locals := 0 }) (va_Pc [.long a0, .long a1] (fun U => U.heap = Hp ∧ va_K G vwCl [(cB, .byte), (cL, .long), (cI, .int)] U)) (va_Qi (fun (r : Int32) (_ : Unit) => r = bI (f_Mo_isLess a0 a1)) (fun _ t => t.heap = Hp) (fun _ => False)) 0 0 (fun _ => False) := by
  refine Met.ofW (cc := cMo_isLess) (maxL := 4) (ret := (some .boolean)) (by decide) rfl ?_
  intro p e s m args below meth c s₁ B hml hv
  obtain ⟨rfl, rfl, hK⟩ := hv
  have hx := B.exec
  have hb := B.bytes
  have hr := B.returns
  have hT : ∀ w ∈ tB, w.before _ s = true := fun w h => atoms_spec (ws := wsMo_isLess) B.pre w (List.mem_cons_of_mem _ h)
  have hown : s.vm.findClass "CompiledProgramModel" = some m.cls := findClass_of_methodNamed B.named
  have hlocks := B.notSynchronized
  have hA : ∀ q : Nat, (fun _ : Nat => False) q → False := fun _ h => h
  have hS : va_S (fun _ => False) s.heap s.heap [] := va_S.rf
  have hl := lv_entry ([.long a0, .long a1]) (n := 4) (Nat.le_of_ble_eq_true rfl)
  rw [lg_entry_eq]
  generalize (lg_sl ([.long a0, .long a1]) ++ List.replicate (4 - (lg_sl ([.long a0, .long a1])).length) Slot.unset).toArray = ls at hl ⊢
  have hl : lv_has ls 4 [(0, .long a0), (2, .long a1)] := hl
  refine lv_lload_n hx hb dMo_isLess_0 rfl (lv_at hl 0 rfl) ?_
  refine lv_lconst (v := (0 : Int64)) hx hb dMo_isLess_1 (by decide) ?_
  refine W.lcmp hx hb dMo_isLess_2 ?_
  have jn1 : ∀ (x1 : Bool), x1 = (if (0 : Int64) ≤ a0 then false else true) → ∀ (locs : List Loc), va_S (fun _ => False) s.heap s.heap locs → W p l e (headSpec wsMo_isLess ({ frames := 0, cells := 0, slots := 0, locals := 0 })).room s m ([.long a0, .long a1] : List Value).toArray below meth c s.heap locs 0 0 (MQ below (va_Qi (fun (r : Int32) (_ : Unit) => r = bI (f_Mo_isLess a0 a1)) (fun _ t => t.heap = s.heap) (fun _ => False)) ([.long a0, .long a1] : List Value).toArray s 0 0 (fun _ => False)) (F0 m 11 ls [.int (bI x1)]) := by
    intro x1 hx1 locs hS
    subst hx1
    refine lv_lload_n hx hb dMo_isLess_11 rfl (lv_at hl 1 rfl) ?_
    refine lv_lconst (v := (0 : Int64)) hx hb dMo_isLess_12 (by decide) ?_
    refine W.lcmp hx hb dMo_isLess_13 ?_
    have jn2 : ∀ (x2 : Bool), x2 = (if (0 : Int64) ≤ a1 then false else true) → ∀ (locs : List Loc), va_S (fun _ => False) s.heap s.heap locs → W p l e (headSpec wsMo_isLess ({ frames := 0, cells := 0, slots := 0, locals := 0 })).room s m ([.long a0, .long a1] : List Value).toArray below meth c s.heap locs 0 0 (MQ below (va_Qi (fun (r : Int32) (_ : Unit) => r = bI (f_Mo_isLess a0 a1)) (fun _ t => t.heap = s.heap) (fun _ => False)) ([.long a0, .long a1] : List Value).toArray s 0 0 (fun _ => False)) (F0 m 22 ls [.int (bI x2), .int (bI (if (0 : Int64) ≤ a0 then false else true))]) := by
      intro x2 hx2 locs hS
      subst hx2
      refine lv_icmp_ne (tgt := 39) hx hb dMo_isLess_22 (by decide) (fun c3 => ?_) (fun c3 => ?_)
      · skip
        refine lv_lload_n hx hb dMo_isLess_39 rfl (lv_at hl 1 rfl) ?_
        refine lv_lconst (v := (0 : Int64)) hx hb dMo_isLess_40 (by decide) ?_
        refine W.lcmp hx hb dMo_isLess_41 ?_
        refine lv_if_ge (tgt := 49) hx hb dMo_isLess_42 (by decide) (fun c4 => ?_) (fun c4 => ?_)
        · have c4 := (lg_cmp_ge _ _).mp c4
          refine lv_iconst (v := (0 : Int32)) hx hb dMo_isLess_49 (by decide) ?_
          exact W.zret (v := (0 : Int32)) hx hb hr rfl (fun t ht hW => ⟨⟨(0 : Int32), (), rfl, (by unfold f_Mo_isLess; rw [if_neg c3, if_pos c4]; try rfl), ht⟩, hS.F ht⟩) hS.2.2 dMo_isLess_50
        · have c4 := mt (lg_cmp_ge _ _).mpr c4
          refine lv_iconst (v := (1 : Int32)) hx hb dMo_isLess_45 (by decide) ?_
          refine lv_goto (tgt := 50) hx hb dMo_isLess_46 (by decide) ?_
          exact W.zret (v := (1 : Int32)) hx hb hr rfl (fun t ht hW => ⟨⟨(1 : Int32), (), rfl, (by unfold f_Mo_isLess; rw [if_neg c3, if_neg c4]; try rfl), ht⟩, hS.F ht⟩) hS.2.2 dMo_isLess_50
      · skip
        refine lv_lload_n hx hb dMo_isLess_25 rfl (lv_at hl 0 rfl) ?_
        refine lv_lload_n hx hb dMo_isLess_26 rfl (lv_at hl 1 rfl) ?_
        refine W.lcmp hx hb dMo_isLess_27 ?_
        refine lv_if_ge (tgt := 35) hx hb dMo_isLess_28 (by decide) (fun c5 => ?_) (fun c5 => ?_)
        · have c5 := (lg_cmp_ge _ _).mp c5
          refine lv_iconst (v := (0 : Int32)) hx hb dMo_isLess_35 (by decide) ?_
          refine lv_goto (tgt := 50) hx hb dMo_isLess_36 (by decide) ?_
          exact W.zret (v := (0 : Int32)) hx hb hr rfl (fun t ht hW => ⟨⟨(0 : Int32), (), rfl, (by unfold f_Mo_isLess; rw [if_pos c3, if_pos c5]; try rfl), ht⟩, hS.F ht⟩) hS.2.2 dMo_isLess_50
        · have c5 := mt (lg_cmp_ge _ _).mpr c5
          refine lv_iconst (v := (1 : Int32)) hx hb dMo_isLess_31 (by decide) ?_
          refine lv_goto (tgt := 50) hx hb dMo_isLess_32 (by decide) ?_
          exact W.zret (v := (1 : Int32)) hx hb hr rfl (fun t ht hW => ⟨⟨(1 : Int32), (), rfl, (by unfold f_Mo_isLess; rw [if_pos c3, if_neg c5]; try rfl), ht⟩, hS.F ht⟩) hS.2.2 dMo_isLess_50
    refine lv_if_ge (tgt := 21) hx hb dMo_isLess_14 (by decide) (fun c6 => ?_) (fun c6 => ?_)
    · have c6 := (lg_cmp_ge _ _).mp c6
      refine lv_iconst (v := (0 : Int32)) hx hb dMo_isLess_21 (by decide) ?_
      exact jn2 false (by rw [if_pos c6]) _ hS
    · have c6 := mt (lg_cmp_ge _ _).mpr c6
      refine lv_iconst (v := (1 : Int32)) hx hb dMo_isLess_17 (by decide) ?_
      refine lv_goto (tgt := 22) hx hb dMo_isLess_18 (by decide) ?_
      exact jn2 true (by rw [if_neg c6]) _ hS
  refine lv_if_ge (tgt := 10) hx hb dMo_isLess_3 (by decide) (fun c7 => ?_) (fun c7 => ?_)
  · have c7 := (lg_cmp_ge _ _).mp c7
    refine lv_iconst (v := (0 : Int32)) hx hb dMo_isLess_10 (by decide) ?_
    exact jn1 false (by rw [if_pos c7]) _ hS
  · have c7 := mt (lg_cmp_ge _ _).mpr c7
    refine lv_iconst (v := (1 : Int32)) hx hb dMo_isLess_6 (by decide) ?_
    refine lv_goto (tgt := 11) hx hb dMo_isLess_7 (by decide) ?_
    exact jn1 true (by rw [if_neg c7]) _ hS

def f_Mo_signed  (a0 : Int64) (a1 : Int32) : Int64 :=
  if (64 : Int32) ≤ a1 then
    (if a1 = (64 : Int32) then a0 else (a0 &&& (((2 : Int64) * (j_lshl (1 : Int64) (a1 - (1 : Int32)))) - (1 : Int64))))
  else
    if (if a1 = (64 : Int32) then a0 else (a0 &&& (((2 : Int64) * (j_lshl (1 : Int64) (a1 - (1 : Int32)))) - (1 : Int64)))) < (j_lshl (1 : Int64) (a1 - (1 : Int32))) then
      (if a1 = (64 : Int32) then a0 else (a0 &&& (((2 : Int64) * (j_lshl (1 : Int64) (a1 - (1 : Int32)))) - (1 : Int64))))
    else
      ((if a1 = (64 : Int32) then a0 else (a0 &&& (((2 : Int64) * (j_lshl (1 : Int64) (a1 - (1 : Int32)))) - (1 : Int64)))) - ((2 : Int64) * (j_lshl (1 : Int64) (a1 - (1 : Int32)))))
set_option maxHeartbeats 4000000 in
set_option maxRecDepth 100000 in
theorem c_Mo_signed (l : Launch) (G : va_G) (cB cL cI : ClassId) (Hp : Heap) (a0 : Int64) (a1 : Int32) (hP : va_P G vwCl [] Hp) : Met l yMo_signed wsMo_signed ({ frames := 0, cells := 0, slots := 0, locals := 0 }) (va_Pc [.long a0, .int a1] (fun U => U.heap = Hp ∧ va_K G vwCl [(cB, .byte), (cL, .long), (cI, .int)] U)) (va_Ql (fun (r : Int64) (_ : Unit) => r = (f_Mo_signed a0 a1)) (fun _ t => t.heap = Hp) (fun _ => False)) 0 0 (fun _ => False) := by
  refine Met.ofW (cc := cMo_signed) (maxL := 7) (ret := (some .long)) (by decide) rfl ?_
  intro p e s m args below meth c s₁ B hml hv
  obtain ⟨rfl, rfl, hK⟩ := hv
  have hx := B.exec
  have hb := B.bytes
  have hr := B.returns
  have hT : ∀ w ∈ tB, w.before _ s = true := fun w h => atoms_spec (ws := wsMo_signed) B.pre w (List.mem_cons_of_mem _ h)
  have hown : s.vm.findClass "CompiledProgramModel" = some m.cls := findClass_of_methodNamed B.named
  have hlocks := B.notSynchronized
  have hA : ∀ q : Nat, (fun _ : Nat => False) q → False := fun _ h => h
  have hS : va_S (fun _ => False) s.heap s.heap [] := va_S.rf
  have hl := lv_entry ([.long a0, .int a1]) (n := 7) (Nat.le_of_ble_eq_true rfl)
  rw [lg_entry_eq]
  generalize (lg_sl ([.long a0, .int a1]) ++ List.replicate (7 - (lg_sl ([.long a0, .int a1])).length) Slot.unset).toArray = ls at hl ⊢
  have hl : lv_has ls 7 [(0, .long a0), (2, .int a1)] := hl
  refine lv_lconst (v := (1 : Int64)) hx hb dMo_signed_0 (by decide) ?_
  refine lv_iload_n hx hb dMo_signed_1 rfl (lv_at hl 1 rfl) ?_
  refine lv_iconst (v := (1 : Int32)) hx hb dMo_signed_2 (by decide) ?_
  refine lv_isub hx hb dMo_signed_3 ?_
  refine lv_lshl (v := (j_lshl (1 : Int64) (a1 - (1 : Int32)))) hx hb dMo_signed_4 rfl ?_
  refine lv_lstore_n (lv' := [(3, .long (j_lshl (1 : Int64) (a1 - (1 : Int32)))), (0, .long a0), (2, .int a1)]) hx hb dMo_signed_5 rfl hl (by decide) rfl (fun ls hl => ?_)
  refine lv_iload_n hx hb dMo_signed_6 rfl (lv_at hl 2 rfl) ?_
  refine lv_bipush (v := (64 : Int32)) hx hb dMo_signed_7 (by decide) ?_
  have jn1 : ∀ (x1 : Int64), x1 = (if a1 = (64 : Int32) then a0 else (a0 &&& (((2 : Int64) * (j_lshl (1 : Int64) (a1 - (1 : Int32)))) - (1 : Int64)))) → ∀ (locs : List Loc), va_S (fun _ => False) s.heap s.heap locs → W p l e (headSpec wsMo_signed ({ frames := 0, cells := 0, slots := 0, locals := 0 })).room s m ([.long a0, .int a1] : List Value).toArray below meth c s.heap locs 0 0 (MQ below (va_Ql (fun (r : Int64) (_ : Unit) => r = (f_Mo_signed a0 a1)) (fun _ t => t.heap = s.heap) (fun _ => False)) ([.long a0, .int a1] : List Value).toArray s 0 0 (fun _ => False)) (F0 m 25 ls [.long x1]) := by
    intro x1 hx1 locs hS
    subst hx1
    refine lv_lstore (lv' := [(5, .long (if a1 = (64 : Int32) then a0 else (a0 &&& (((2 : Int64) * (j_lshl (1 : Int64) (a1 - (1 : Int32)))) - (1 : Int64))))), (3, .long (j_lshl (1 : Int64) (a1 - (1 : Int32)))), (0, .long a0), (2, .int a1)]) hx hb dMo_signed_25 hl (by decide) rfl (fun ls hl => ?_)
    refine lv_iload_n hx hb dMo_signed_27 rfl (lv_at hl 3 rfl) ?_
    refine lv_bipush (v := (64 : Int32)) hx hb dMo_signed_28 (by decide) ?_
    refine lv_icmp_ge (tgt := 51) hx hb dMo_signed_30 (by decide) (fun c2 => ?_) (fun c2 => ?_)
    · skip
      refine lv_lload hx hb dMo_signed_51 (lv_at hl 0 rfl) ?_
      exact W.lret (v := (if a1 = (64 : Int32) then a0 else (a0 &&& (((2 : Int64) * (j_lshl (1 : Int64) (a1 - (1 : Int32)))) - (1 : Int64))))) hx hb hr (fun t ht hW => ⟨⟨(if a1 = (64 : Int32) then a0 else (a0 &&& (((2 : Int64) * (j_lshl (1 : Int64) (a1 - (1 : Int32)))) - (1 : Int64)))), (), rfl, (by unfold f_Mo_signed; rw [if_pos c2]; try rfl), ht⟩, hS.F ht⟩) hS.2.2 dMo_signed_53
    · skip
      refine lv_lload hx hb dMo_signed_33 (lv_at hl 0 rfl) ?_
      refine lv_lload_n hx hb dMo_signed_35 rfl (lv_at hl 1 rfl) ?_
      refine W.lcmp hx hb dMo_signed_36 ?_
      refine lv_if_lt (tgt := 51) hx hb dMo_signed_37 (by decide) (fun c3 => ?_) (fun c3 => ?_)
      · have c3 := (lg_cmp_lt _ _).mp c3
        refine lv_lload hx hb dMo_signed_51 (lv_at hl 0 rfl) ?_
        exact W.lret (v := (if a1 = (64 : Int32) then a0 else (a0 &&& (((2 : Int64) * (j_lshl (1 : Int64) (a1 - (1 : Int32)))) - (1 : Int64))))) hx hb hr (fun t ht hW => ⟨⟨(if a1 = (64 : Int32) then a0 else (a0 &&& (((2 : Int64) * (j_lshl (1 : Int64) (a1 - (1 : Int32)))) - (1 : Int64)))), (), rfl, (by unfold f_Mo_signed; rw [if_neg c2, if_pos c3]; try rfl), ht⟩, hS.F ht⟩) hS.2.2 dMo_signed_53
      · have c3 := mt (lg_cmp_lt _ _).mpr c3
        refine lv_lload hx hb dMo_signed_40 (lv_at hl 0 rfl) ?_
        refine lv_ldc2 (v := (2 : Int64)) hx hb hown (hT _ mw_755) dMo_signed_42 ?_
        refine lv_lload_n hx hb dMo_signed_45 rfl (lv_at hl 1 rfl) ?_
        refine lv_lmul hx hb dMo_signed_46 ?_
        refine lv_lsub hx hb dMo_signed_47 ?_
        refine lv_goto (tgt := 53) hx hb dMo_signed_48 (by decide) ?_
        exact W.lret (v := ((if a1 = (64 : Int32) then a0 else (a0 &&& (((2 : Int64) * (j_lshl (1 : Int64) (a1 - (1 : Int32)))) - (1 : Int64)))) - ((2 : Int64) * (j_lshl (1 : Int64) (a1 - (1 : Int32)))))) hx hb hr (fun t ht hW => ⟨⟨((if a1 = (64 : Int32) then a0 else (a0 &&& (((2 : Int64) * (j_lshl (1 : Int64) (a1 - (1 : Int32)))) - (1 : Int64)))) - ((2 : Int64) * (j_lshl (1 : Int64) (a1 - (1 : Int32))))), (), rfl, (by unfold f_Mo_signed; rw [if_neg c2, if_neg c3]; try rfl), ht⟩, hS.F ht⟩) hS.2.2 dMo_signed_53
  refine lv_icmp_ne (tgt := 16) hx hb dMo_signed_9 (by decide) (fun c4 => ?_) (fun c4 => ?_)
  · skip
    refine lv_lload_n hx hb dMo_signed_16 rfl (lv_at hl 1 rfl) ?_
    refine lv_ldc2 (v := (2 : Int64)) hx hb hown (hT _ mw_755) dMo_signed_17 ?_
    refine lv_lload_n hx hb dMo_signed_20 rfl (lv_at hl 0 rfl) ?_
    refine lv_lmul hx hb dMo_signed_21 ?_
    refine lv_lconst (v := (1 : Int64)) hx hb dMo_signed_22 (by decide) ?_
    refine lv_lsub hx hb dMo_signed_23 ?_
    refine lv_land hx hb dMo_signed_24 ?_
    exact jn1 (a0 &&& (((2 : Int64) * (j_lshl (1 : Int64) (a1 - (1 : Int32)))) - (1 : Int64))) (by rw [if_neg c4]) _ hS
  · skip
    refine lv_lload_n hx hb dMo_signed_12 rfl (lv_at hl 1 rfl) ?_
    refine lv_goto (tgt := 25) hx hb dMo_signed_13 (by decide) ?_
    exact jn1 a0 (by rw [if_pos c4]) _ hS

def f_Mo_lowest  (a0 : Int64) (a1 : Int32) : Int64 :=
  if a1 = (64 : Int32) then
    a0
  else
    (a0 &&& ((j_lshl (1 : Int64) a1) - (1 : Int64)))
set_option maxHeartbeats 4000000 in
set_option maxRecDepth 100000 in
theorem c_Mo_lowest (l : Launch) (G : va_G) (cB cL cI : ClassId) (Hp : Heap) (a0 : Int64) (a1 : Int32) (hP : va_P G vwCl [] Hp) : Met l yMo_lowest wsMo_lowest ({ frames := 0, cells := 0, slots := 0, locals := 0 }) (va_Pc [.long a0, .int a1] (fun U => U.heap = Hp ∧ va_K G vwCl [(cB, .byte), (cL, .long), (cI, .int)] U)) (va_Ql (fun (r : Int64) (_ : Unit) => r = (f_Mo_lowest a0 a1)) (fun _ t => t.heap = Hp) (fun _ => False)) 0 0 (fun _ => False) := by
  refine Met.ofW (cc := cMo_lowest) (maxL := 3) (ret := (some .long)) (by decide) rfl ?_
  intro p e s m args below meth c s₁ B hml hv
  obtain ⟨rfl, rfl, hK⟩ := hv
  have hx := B.exec
  have hb := B.bytes
  have hr := B.returns
  have hT : ∀ w ∈ tB, w.before _ s = true := fun w h => atoms_spec (ws := wsMo_lowest) B.pre w (List.mem_cons_of_mem _ h)
  have hown : s.vm.findClass "CompiledProgramModel" = some m.cls := findClass_of_methodNamed B.named
  have hlocks := B.notSynchronized
  have hA : ∀ q : Nat, (fun _ : Nat => False) q → False := fun _ h => h
  have hS : va_S (fun _ => False) s.heap s.heap [] := va_S.rf
  have hl := lv_entry ([.long a0, .int a1]) (n := 3) (Nat.le_of_ble_eq_true rfl)
  rw [lg_entry_eq]
  generalize (lg_sl ([.long a0, .int a1]) ++ List.replicate (3 - (lg_sl ([.long a0, .int a1])).length) Slot.unset).toArray = ls at hl ⊢
  have hl : lv_has ls 3 [(0, .long a0), (2, .int a1)] := hl
  refine lv_iload_n hx hb dMo_lowest_0 rfl (lv_at hl 1 rfl) ?_
  refine lv_bipush (v := (64 : Int32)) hx hb dMo_lowest_1 (by decide) ?_
  refine lv_icmp_ne (tgt := 10) hx hb dMo_lowest_3 (by decide) (fun c1 => ?_) (fun c1 => ?_)
  · skip
    refine lv_lload_n hx hb dMo_lowest_10 rfl (lv_at hl 0 rfl) ?_
    refine lv_lconst (v := (1 : Int64)) hx hb dMo_lowest_11 (by decide) ?_
    refine lv_iload_n hx hb dMo_lowest_12 rfl (lv_at hl 1 rfl) ?_
    refine lv_lshl (v := (j_lshl (1 : Int64) a1)) hx hb dMo_lowest_13 rfl ?_
    refine lv_lconst (v := (1 : Int64)) hx hb dMo_lowest_14 (by decide) ?_
    refine lv_lsub hx hb dMo_lowest_15 ?_
    refine lv_land hx hb dMo_lowest_16 ?_
    exact W.lret (v := (a0 &&& ((j_lshl (1 : Int64) a1) - (1 : Int64)))) hx hb hr (fun t ht hW => ⟨⟨(a0 &&& ((j_lshl (1 : Int64) a1) - (1 : Int64))), (), rfl, (by unfold f_Mo_lowest; rw [if_neg c1]; try rfl), ht⟩, hS.F ht⟩) hS.2.2 dMo_lowest_17
  · skip
    refine lv_lload_n hx hb dMo_lowest_6 rfl (lv_at hl 0 rfl) ?_
    refine lv_goto (tgt := 17) hx hb dMo_lowest_7 (by decide) ?_
    exact W.lret (v := a0) hx hb hr (fun t ht hW => ⟨⟨a0, (), rfl, (by unfold f_Mo_lowest; rw [if_pos c1]; try rfl), ht⟩, hS.F ht⟩) hS.2.2 dMo_lowest_17

def l_Mo_divided_10  (a0 : Int64) (a1 : Int64) : Nat → (Int32) → (Int64) → (Int64) → Int64
  | 0, _, _, _ => default
  | n + 1, k, q9, v =>
    if k < 0 then
      q9
    else
      if a1 = (0 : Int64) then
        q9
      else
        if (if (0 : Int64) ≤ v then false else true) = true then
          l_Mo_divided_10 a0 a1 n (k + (-1 : Int32)) (((2 : Int64) * q9) + (1 : Int64)) ((((2 : Int64) * v) + ((j_lshr a0 k) &&& (1 : Int64))) - a1)
        else
          if (f_Mo_isLess (((2 : Int64) * v) + ((j_lshr a0 k) &&& (1 : Int64))) a1) = true then
            l_Mo_divided_10 a0 a1 n (k + (-1 : Int32)) ((2 : Int64) * q9) (((2 : Int64) * v) + ((j_lshr a0 k) &&& (1 : Int64)))
          else
            l_Mo_divided_10 a0 a1 n (k + (-1 : Int32)) (((2 : Int64) * q9) + (1 : Int64)) ((((2 : Int64) * v) + ((j_lshr a0 k) &&& (1 : Int64))) - a1)
def f_Mo_divided  (a0 : Int64) (a1 : Int64) : Int64 :=
  l_Mo_divided_10 a0 a1 65 (63 : Int32) (0 : Int64) (0 : Int64)
set_option maxHeartbeats 4000000 in
set_option maxRecDepth 100000 in
theorem c_Mo_divided (l : Launch) (G : va_G) (cB cL cI : ClassId) (Hp : Heap) (a0 : Int64) (a1 : Int64) (hP : va_P G vwCl [] Hp) : Met l yMo_divided wsMo_divided ({ frames := 1, cells := 0, slots := 0, locals := 23 }) (va_Pc [.long a0, .long a1] (fun U => U.heap = Hp ∧ va_K G vwCl [(cB, .byte), (cL, .long), (cI, .int)] U)) (va_Ql (fun (r : Int64) (_ : Unit) => r = (f_Mo_divided a0 a1)) (fun _ t => t.heap = Hp) (fun _ => False)) 0 0 (fun _ => False) := by
  refine Met.ofW (cc := cMo_divided) (maxL := 10) (ret := (some .long)) (by decide) rfl ?_
  intro p e s m args below meth c s₁ B hml hv
  obtain ⟨rfl, rfl, hK⟩ := hv
  have hx := B.exec
  have hb := B.bytes
  have hr := B.returns
  have hT : ∀ w ∈ tB, w.before _ s = true := fun w h => atoms_spec (ws := wsMo_divided) B.pre w (List.mem_cons_of_mem _ h)
  have hown : s.vm.findClass "CompiledProgramModel" = some m.cls := findClass_of_methodNamed B.named
  have hlocks := B.notSynchronized
  have hA : ∀ q : Nat, (fun _ : Nat => False) q → False := fun _ h => h
  have hS : va_S (fun _ => False) s.heap s.heap [] := va_S.rf
  have hl := lv_entry ([.long a0, .long a1]) (n := 10) (Nat.le_of_ble_eq_true rfl)
  rw [lg_entry_eq]
  generalize (lg_sl ([.long a0, .long a1]) ++ List.replicate (10 - (lg_sl ([.long a0, .long a1])).length) Slot.unset).toArray = ls at hl ⊢
  have hl : lv_has ls 10 [(0, .long a0), (2, .long a1)] := hl
  refine lv_lconst (v := (0 : Int64)) hx hb dMo_divided_0 (by decide) ?_
  refine lv_lstore (lv' := [(4, .long (0 : Int64)), (0, .long a0), (2, .long a1)]) hx hb dMo_divided_1 hl (by decide) rfl (fun ls hl => ?_)
  refine lv_lconst (v := (0 : Int64)) hx hb dMo_divided_3 (by decide) ?_
  refine lv_lstore (lv' := [(6, .long (0 : Int64)), (4, .long (0 : Int64)), (0, .long a0), (2, .long a1)]) hx hb dMo_divided_4 hl (by decide) rfl (fun ls hl => ?_)
  refine lv_bipush (v := (63 : Int32)) hx hb dMo_divided_6 (by decide) ?_
  refine lv_istore (lv' := [(8, .int (63 : Int32)), (6, .long (0 : Int64)), (4, .long (0 : Int64)), (0, .long a0), (2, .long a1)]) hx hb dMo_divided_8 hl (by decide) rfl (fun ls hl => ?_)
  have loop : ∀ (n : Nat) (k : Int32) (q9 : Int64) (v : Int64), (-1 ≤ k.toInt) → (k.toInt + 1).toNat < n → (f_Mo_divided a0 a1) = l_Mo_divided_10 a0 a1 n k q9 v → ∀ (locs : List Loc), va_S (fun _ => False) s.heap s.heap locs → ∀ (ls : Array Slot), lv_has ls 10 [(8, .int k), (6, .long v), (4, .long q9), (0, .long a0), (2, .long a1)] → W p l e (headSpec wsMo_divided ({ frames := 1, cells := 0, slots := 0, locals := 23 })).room s m ([.long a0, .long a1] : List Value).toArray below meth c s.heap locs 0 0 (MQ below (va_Ql (fun (r : Int64) (_ : Unit) => r = (f_Mo_divided a0 a1)) (fun _ t => t.heap = s.heap) (fun _ => False)) ([.long a0, .long a1] : List Value).toArray s 0 0 (fun _ => False)) (F0 m 10 ls []) := by
    intro n
    induction n with
    | zero =>
      intro k q9 v hk1 hM
      exact absurd hM (Nat.not_lt_zero _)
    | succ n ih =>
      intro k q9 v hk1 hM hE locs hS ls hl
      refine lv_iload hx hb dMo_divided_10 (lv_at hl 0 rfl) ?_
      refine lv_if_lt (tgt := 90) hx hb dMo_divided_12 (by decide) (fun c1 => ?_) (fun c1 => ?_)
      · skip
        refine lv_lload hx hb dMo_divided_90 (lv_at hl 2 rfl) ?_
        exact W.lret (v := q9) hx hb hr (fun t ht hW => ⟨⟨q9, (), rfl, (by rw [hE, l_Mo_divided_10, if_pos c1]; try rfl), ht⟩, hS.F ht⟩) hS.2.2 dMo_divided_92
      · skip
        refine lv_lload_n hx hb dMo_divided_15 rfl (lv_at hl 4 rfl) ?_
        refine lv_lconst (v := (0 : Int64)) hx hb dMo_divided_16 (by decide) ?_
        refine W.lcmp hx hb dMo_divided_17 ?_
        refine lv_if_eq (tgt := 90) hx hb dMo_divided_18 (by decide) (fun c2 => ?_) (fun c2 => ?_)
        · have c2 := (lg_cmp_eq _ _).mp c2
          refine lv_lload hx hb dMo_divided_90 (lv_at hl 2 rfl) ?_
          exact W.lret (v := q9) hx hb hr (fun t ht hW => ⟨⟨q9, (), rfl, (by rw [hE, l_Mo_divided_10, if_neg c1, if_pos c2]; try rfl), ht⟩, hS.F ht⟩) hS.2.2 dMo_divided_92
        · have c2 := mt (lg_cmp_eq _ _).mpr c2
          refine lv_lload hx hb dMo_divided_21 (lv_at hl 1 rfl) ?_
          refine lv_lconst (v := (0 : Int64)) hx hb dMo_divided_23 (by decide) ?_
          refine W.lcmp hx hb dMo_divided_24 ?_
          have jn3 : ∀ (x3 : Bool), x3 = (if (0 : Int64) ≤ v then false else true) → ∀ (locs : List Loc), va_S (fun _ => False) s.heap s.heap locs → W p l e (headSpec wsMo_divided ({ frames := 1, cells := 0, slots := 0, locals := 23 })).room s m ([.long a0, .long a1] : List Value).toArray below meth c s.heap locs 0 0 (MQ below (va_Ql (fun (r : Int64) (_ : Unit) => r = (f_Mo_divided a0 a1)) (fun _ t => t.heap = s.heap) (fun _ => False)) ([.long a0, .long a1] : List Value).toArray s 0 0 (fun _ => False)) (F0 m 33 ls [.int (bI x3)]) := by
            intro x3 hx3 locs hS
            subst hx3
            refine lv_istore (lv' := [(9, .int (bI (if (0 : Int64) ≤ v then false else true))), (8, .int k), (6, .long v), (4, .long q9), (0, .long a0), (2, .long a1)]) hx hb dMo_divided_33 hl (by decide) rfl (fun ls hl => ?_)
            refine lv_ldc2 (v := (2 : Int64)) hx hb hown (hT _ mw_755) dMo_divided_35 ?_
            refine lv_lload hx hb dMo_divided_38 (lv_at hl 2 rfl) ?_
            refine lv_lmul hx hb dMo_divided_40 ?_
            refine lv_lload_n hx hb dMo_divided_41 rfl (lv_at hl 4 rfl) ?_
            refine lv_iload hx hb dMo_divided_42 (lv_at hl 1 rfl) ?_
            refine lv_lshr (v := (j_lshr a0 k)) hx hb dMo_divided_44 rfl ?_
            refine lv_lconst (v := (1 : Int64)) hx hb dMo_divided_45 (by decide) ?_
            refine lv_land hx hb dMo_divided_46 ?_
            refine lv_ladd hx hb dMo_divided_47 ?_
            refine lv_lstore (lv' := [(6, .long (((2 : Int64) * v) + ((j_lshr a0 k) &&& (1 : Int64)))), (9, .int (bI (if (0 : Int64) ≤ v then false else true))), (8, .int k), (4, .long q9), (0, .long a0), (2, .long a1)]) hx hb dMo_divided_48 hl (by decide) rfl (fun ls hl => ?_)
            refine lv_ldc2 (v := (2 : Int64)) hx hb hown (hT _ mw_755) dMo_divided_50 ?_
            refine lv_lload hx hb dMo_divided_53 (lv_at hl 3 rfl) ?_
            refine lv_lmul hx hb dMo_divided_55 ?_
            refine lv_lstore (lv' := [(4, .long ((2 : Int64) * q9)), (6, .long (((2 : Int64) * v) + ((j_lshr a0 k) &&& (1 : Int64)))), (9, .int (bI (if (0 : Int64) ≤ v then false else true))), (8, .int k), (0, .long a0), (2, .long a1)]) hx hb dMo_divided_56 hl (by decide) rfl (fun ls hl => ?_)
            refine lv_iload hx hb dMo_divided_58 (lv_at hl 2 rfl) ?_
            refine lv_if_ne (tgt := 72) hx hb dMo_divided_60 (by decide) (fun c4 => ?_) (fun c4 => ?_)
            · have c4 := bI_n c4
              refine lv_lload hx hb dMo_divided_72 (lv_at hl 1 rfl) ?_
              refine lv_lload_n hx hb dMo_divided_74 rfl (lv_at hl 5 rfl) ?_
              refine lv_lsub hx hb dMo_divided_75 ?_
              refine lv_lstore (lv' := [(6, .long ((((2 : Int64) * v) + ((j_lshr a0 k) &&& (1 : Int64))) - a1)), (4, .long ((2 : Int64) * q9)), (9, .int (bI (if (0 : Int64) ≤ v then false else true))), (8, .int k), (0, .long a0), (2, .long a1)]) hx hb dMo_divided_76 hl (by decide) rfl (fun ls hl => ?_)
              refine lv_lload hx hb dMo_divided_78 (lv_at hl 1 rfl) ?_
              refine lv_lconst (v := (1 : Int64)) hx hb dMo_divided_80 (by decide) ?_
              refine lv_ladd hx hb dMo_divided_81 ?_
              refine lv_lstore (lv' := [(4, .long (((2 : Int64) * q9) + (1 : Int64))), (6, .long ((((2 : Int64) * v) + ((j_lshr a0 k) &&& (1 : Int64))) - a1)), (9, .int (bI (if (0 : Int64) ≤ v then false else true))), (8, .int k), (0, .long a0), (2, .long a1)]) hx hb dMo_divided_82 hl (by decide) rfl (fun ls hl => ?_)
              refine lv_iinc (v := (k + (-1 : Int32))) (lv' := [(8, .int (k + (-1 : Int32))), (4, .long (((2 : Int64) * q9) + (1 : Int64))), (6, .long ((((2 : Int64) * v) + ((j_lshr a0 k) &&& (1 : Int64))) - a1)), (9, .int (bI (if (0 : Int64) ≤ v then false else true))), (0, .long a0), (2, .long a1)]) hx hb dMo_divided_84 hl (k := 3) rfl (by first | rfl | decide) (by decide) rfl (fun ls hl => ?_)
              refine lv_goto (tgt := 10) hx hb dMo_divided_87 (by decide) ?_
              exact ih (k + (-1 : Int32)) (((2 : Int64) * q9) + (1 : Int64)) ((((2 : Int64) * v) + ((j_lshr a0 k) &&& (1 : Int64))) - a1) (rd_b1 c1) (rd_b3 c1 hM) (by rw [hE, l_Mo_divided_10, if_neg c1, if_neg c2, if_pos c4]) _ hS ls (lv_sub hl [0, 2, 1, 4, 5] rfl)
            · have c4 := bI_z c4
              refine lv_lload hx hb dMo_divided_63 (lv_at hl 1 rfl) ?_
              refine lv_lload_n hx hb dMo_divided_65 rfl (lv_at hl 5 rfl) ?_
              have hPc := hP.sub (ws' := []) [] rfl
              refine va_calli (va_runS (As := [.long (((2 : Int64) * v) + ((j_lshr a0 k) &&& (1 : Int64))), .long a1]) (rest := []) ⟨hx, hb, hml, hown, hT⟩ (c_Mo_isLess l G cB cL cI s.heap (((2 : Int64) * v) + ((j_lshr a0 k) &&& (1 : Int64))) a1 hPc ) (cwS 2 hT (gB_S mw_756 mw_757 mw_6 mw_758) rfl rfl rfl (by decide +kernel) ⟨Nat.le_of_ble_eq_true rfl, Nat.le_of_ble_eq_true rfl⟩) ⟨fun a U g mk q => ⟨q.1, q.2.1, va_K.moved (u := U) (U := U.calling g mk a) (Vm.Alike.refl U.vm) q.2.2⟩, fun U hU hW => ⟨rfl, hU, va_K.moved hW.alike hK⟩⟩ rfl rfl hl.1 rfl (lv_room (Nat.le_of_ble_eq_true rfl)) dMo_divided_66 ⟨Nat.zero_le _, Nat.zero_le _⟩) hS (fun _ _ h => h.elim) (fun _ h => h.elim) (fun r u t H1 locs ht hvm hw hB hz8 hk8 hS => ?_)
              obtain rfl : s.heap = H1 := hB.symm.trans ht
              subst hw
              refine lv_if_ne (tgt := 84) hx hb dMo_divided_69 (by decide) (fun c5 => ?_) (fun c5 => ?_)
              · have c5 := bI_n c5
                refine lv_iinc (v := (k + (-1 : Int32))) (lv' := [(8, .int (k + (-1 : Int32))), (4, .long ((2 : Int64) * q9)), (6, .long (((2 : Int64) * v) + ((j_lshr a0 k) &&& (1 : Int64)))), (9, .int (bI (if (0 : Int64) ≤ v then false else true))), (0, .long a0), (2, .long a1)]) hx hb dMo_divided_84 hl (k := 3) rfl (by first | rfl | decide) (by decide) rfl (fun ls hl => ?_)
                refine lv_goto (tgt := 10) hx hb dMo_divided_87 (by decide) ?_
                exact ih (k + (-1 : Int32)) ((2 : Int64) * q9) (((2 : Int64) * v) + ((j_lshr a0 k) &&& (1 : Int64))) (rd_b1 c1) (rd_b3 c1 hM) (by rw [hE, l_Mo_divided_10, if_neg c1, if_neg c2, if_neg c4, if_pos c5]) _ hS ls (lv_sub hl [0, 2, 1, 4, 5] rfl)
              · have c5 := bI_z c5
                refine lv_lload hx hb dMo_divided_72 (lv_at hl 1 rfl) ?_
                refine lv_lload_n hx hb dMo_divided_74 rfl (lv_at hl 5 rfl) ?_
                refine lv_lsub hx hb dMo_divided_75 ?_
                refine lv_lstore (lv' := [(6, .long ((((2 : Int64) * v) + ((j_lshr a0 k) &&& (1 : Int64))) - a1)), (4, .long ((2 : Int64) * q9)), (9, .int (bI (if (0 : Int64) ≤ v then false else true))), (8, .int k), (0, .long a0), (2, .long a1)]) hx hb dMo_divided_76 hl (by decide) rfl (fun ls hl => ?_)
                refine lv_lload hx hb dMo_divided_78 (lv_at hl 1 rfl) ?_
                refine lv_lconst (v := (1 : Int64)) hx hb dMo_divided_80 (by decide) ?_
                refine lv_ladd hx hb dMo_divided_81 ?_
                refine lv_lstore (lv' := [(4, .long (((2 : Int64) * q9) + (1 : Int64))), (6, .long ((((2 : Int64) * v) + ((j_lshr a0 k) &&& (1 : Int64))) - a1)), (9, .int (bI (if (0 : Int64) ≤ v then false else true))), (8, .int k), (0, .long a0), (2, .long a1)]) hx hb dMo_divided_82 hl (by decide) rfl (fun ls hl => ?_)
                refine lv_iinc (v := (k + (-1 : Int32))) (lv' := [(8, .int (k + (-1 : Int32))), (4, .long (((2 : Int64) * q9) + (1 : Int64))), (6, .long ((((2 : Int64) * v) + ((j_lshr a0 k) &&& (1 : Int64))) - a1)), (9, .int (bI (if (0 : Int64) ≤ v then false else true))), (0, .long a0), (2, .long a1)]) hx hb dMo_divided_84 hl (k := 3) rfl (by first | rfl | decide) (by decide) rfl (fun ls hl => ?_)
                refine lv_goto (tgt := 10) hx hb dMo_divided_87 (by decide) ?_
                exact ih (k + (-1 : Int32)) (((2 : Int64) * q9) + (1 : Int64)) ((((2 : Int64) * v) + ((j_lshr a0 k) &&& (1 : Int64))) - a1) (rd_b1 c1) (rd_b3 c1 hM) (by rw [hE, l_Mo_divided_10, if_neg c1, if_neg c2, if_neg c4, if_neg c5]) _ hS ls (lv_sub hl [0, 2, 1, 4, 5] rfl)
          refine lv_if_ge (tgt := 32) hx hb dMo_divided_25 (by decide) (fun c6 => ?_) (fun c6 => ?_)
          · have c6 := (lg_cmp_ge _ _).mp c6
            refine lv_iconst (v := (0 : Int32)) hx hb dMo_divided_32 (by decide) ?_
            exact jn3 false (by rw [if_pos c6]) _ hS
          · have c6 := mt (lg_cmp_ge _ _).mpr c6
            refine lv_iconst (v := (1 : Int32)) hx hb dMo_divided_28 (by decide) ?_
            refine lv_goto (tgt := 33) hx hb dMo_divided_29 (by decide) ?_
            exact jn3 true (by rw [if_neg c6]) _ hS
  exact loop 65 (63 : Int32) (0 : Int64) (0 : Int64) (by decide) (by decide) rfl _ hS ls (lv_sub hl [0, 1, 2, 3, 4] rfl)

def f_Mo_quotient  (a0 : Int64) (a1 : Int64) (a2 : Bool) : Int64 :=
  if (bI (if a2 = true then (if (0 : Int64) ≤ a0 then false else true) else false)) = (bI (if a2 = true then (if (0 : Int64) ≤ a1 then false else true) else false)) then
    (f_Mo_divided (if (if a2 = true then (if (0 : Int64) ≤ a0 then false else true) else false) = true then (-a0) else a0) (if (if a2 = true then (if (0 : Int64) ≤ a1 then false else true) else false) = true then (-a1) else a1))
  else
    (-(f_Mo_divided (if (if a2 = true then (if (0 : Int64) ≤ a0 then false else true) else false) = true then (-a0) else a0) (if (if a2 = true then (if (0 : Int64) ≤ a1 then false else true) else false) = true then (-a1) else a1)))
set_option maxHeartbeats 4000000 in
set_option maxRecDepth 100000 in
theorem c_Mo_quotient (l : Launch) (G : va_G) (cB cL cI : ClassId) (Hp : Heap) (a0 : Int64) (a1 : Int64) (a2 : Bool) (hP : va_P G vwCl [] Hp) : Met l yMo_quotient wsMo_quotient ({ frames := 2, cells := 0, slots := 0, locals := 52 }) (va_Pc [.long a0, .long a1, .int (bI a2)] (fun U => U.heap = Hp ∧ va_K G vwCl [(cB, .byte), (cL, .long), (cI, .int)] U)) (va_Ql (fun (r : Int64) (_ : Unit) => r = (f_Mo_quotient a0 a1 a2)) (fun _ t => t.heap = Hp) (fun _ => False)) 0 0 (fun _ => False) := by
  refine Met.ofW (cc := cMo_quotient) (maxL := 9) (ret := (some .long)) (by decide) rfl ?_
  intro p e s m args below meth c s₁ B hml hv
  obtain ⟨rfl, rfl, hK⟩ := hv
  have hx := B.exec
  have hb := B.bytes
  have hr := B.returns
  have hT : ∀ w ∈ tB, w.before _ s = true := fun w h => atoms_spec (ws := wsMo_quotient) B.pre w (List.mem_cons_of_mem _ h)
  have hown : s.vm.findClass "CompiledProgramModel" = some m.cls := findClass_of_methodNamed B.named
  have hlocks := B.notSynchronized
  have hA : ∀ q : Nat, (fun _ : Nat => False) q → False := fun _ h => h
  have hS : va_S (fun _ => False) s.heap s.heap [] := va_S.rf
  have hl := lv_entry ([.long a0, .long a1, .int (bI a2)]) (n := 9) (Nat.le_of_ble_eq_true rfl)
  rw [lg_entry_eq]
  generalize (lg_sl ([.long a0, .long a1, .int (bI a2)]) ++ List.replicate (9 - (lg_sl ([.long a0, .long a1, .int (bI a2)])).length) Slot.unset).toArray = ls at hl ⊢
  have hl : lv_has ls 9 [(0, .long a0), (2, .long a1), (4, .int (bI a2))] := hl
  refine lv_iload hx hb dMo_quotient_0 (lv_at hl 2 rfl) ?_
  have jn1 : ∀ (x1 : Bool), x1 = (if a2 = true then (if (0 : Int64) ≤ a0 then false else true) else false) → ∀ (locs : List Loc), va_S (fun _ => False) s.heap s.heap locs → W p l e (headSpec wsMo_quotient ({ frames := 2, cells := 0, slots := 0, locals := 52 })).room s m ([.long a0, .long a1, .int (bI a2)] : List Value).toArray below meth c s.heap locs 0 0 (MQ below (va_Ql (fun (r : Int64) (_ : Unit) => r = (f_Mo_quotient a0 a1 a2)) (fun _ t => t.heap = s.heap) (fun _ => False)) ([.long a0, .long a1, .int (bI a2)] : List Value).toArray s 0 0 (fun _ => False)) (F0 m 16 ls [.int (bI x1)]) := by
    intro x1 hx1 locs hS
    subst hx1
    refine lv_istore (lv' := [(5, .int (bI (if a2 = true then (if (0 : Int64) ≤ a0 then false else true) else false))), (0, .long a0), (2, .long a1), (4, .int (bI a2))]) hx hb dMo_quotient_16 hl (by decide) rfl (fun ls hl => ?_)
    refine lv_iload hx hb dMo_quotient_18 (lv_at hl 3 rfl) ?_
    have jn2 : ∀ (x2 : Bool), x2 = (if a2 = true then (if (0 : Int64) ≤ a1 then false else true) else false) → ∀ (locs : List Loc), va_S (fun _ => False) s.heap s.heap locs → W p l e (headSpec wsMo_quotient ({ frames := 2, cells := 0, slots := 0, locals := 52 })).room s m ([.long a0, .long a1, .int (bI a2)] : List Value).toArray below meth c s.heap locs 0 0 (MQ below (va_Ql (fun (r : Int64) (_ : Unit) => r = (f_Mo_quotient a0 a1 a2)) (fun _ t => t.heap = s.heap) (fun _ => False)) ([.long a0, .long a1, .int (bI a2)] : List Value).toArray s 0 0 (fun _ => False)) (F0 m 34 ls [.int (bI x2)]) := by
      intro x2 hx2 locs hS
      subst hx2
      refine lv_istore (lv' := [(6, .int (bI (if a2 = true then (if (0 : Int64) ≤ a1 then false else true) else false))), (5, .int (bI (if a2 = true then (if (0 : Int64) ≤ a0 then false else true) else false))), (0, .long a0), (2, .long a1), (4, .int (bI a2))]) hx hb dMo_quotient_34 hl (by decide) rfl (fun ls hl => ?_)
      refine lv_iload hx hb dMo_quotient_36 (lv_at hl 1 rfl) ?_
      have jn3 : ∀ (x3 : Int64), x3 = (if (if a2 = true then (if (0 : Int64) ≤ a0 then false else true) else false) = true then (-a0) else a0) → ∀ (locs : List Loc), va_S (fun _ => False) s.heap s.heap locs → W p l e (headSpec wsMo_quotient ({ frames := 2, cells := 0, slots := 0, locals := 52 })).room s m ([.long a0, .long a1, .int (bI a2)] : List Value).toArray below meth c s.heap locs 0 0 (MQ below (va_Ql (fun (r : Int64) (_ : Unit) => r = (f_Mo_quotient a0 a1 a2)) (fun _ t => t.heap = s.heap) (fun _ => False)) ([.long a0, .long a1, .int (bI a2)] : List Value).toArray s 0 0 (fun _ => False)) (F0 m 47 ls [.long x3]) := by
        intro x3 hx3 locs hS
        subst hx3
        refine lv_iload hx hb dMo_quotient_47 (lv_at hl 0 rfl) ?_
        have jn4 : ∀ (x4 : Int64), x4 = (if (if a2 = true then (if (0 : Int64) ≤ a1 then false else true) else false) = true then (-a1) else a1) → ∀ (locs : List Loc), va_S (fun _ => False) s.heap s.heap locs → W p l e (headSpec wsMo_quotient ({ frames := 2, cells := 0, slots := 0, locals := 52 })).room s m ([.long a0, .long a1, .int (bI a2)] : List Value).toArray below meth c s.heap locs 0 0 (MQ below (va_Ql (fun (r : Int64) (_ : Unit) => r = (f_Mo_quotient a0 a1 a2)) (fun _ t => t.heap = s.heap) (fun _ => False)) ([.long a0, .long a1, .int (bI a2)] : List Value).toArray s 0 0 (fun _ => False)) (F0 m 58 ls [.long x4, .long (if (if a2 = true then (if (0 : Int64) ≤ a0 then false else true) else false) = true then (-a0) else a0)]) := by
          intro x4 hx4 locs hS
          subst hx4
          have hPc := hP.sub (ws' := []) [] rfl
          refine va_calll (va_runS (As := [.long (if (if a2 = true then (if (0 : Int64) ≤ a0 then false else true) else false) = true then (-a0) else a0), .long (if (if a2 = true then (if (0 : Int64) ≤ a1 then false else true) else false) = true then (-a1) else a1)]) (rest := []) ⟨hx, hb, hml, hown, hT⟩ (c_Mo_divided l G cB cL cI s.heap (if (if a2 = true then (if (0 : Int64) ≤ a0 then false else true) else false) = true then (-a0) else a0) (if (if a2 = true then (if (0 : Int64) ≤ a1 then false else true) else false) = true then (-a1) else a1) hPc ) (cwS 2 hT (gB_S mw_752 mw_753 mw_6 mw_754) rfl rfl rfl (by decide +kernel) ⟨Nat.le_of_ble_eq_true rfl, Nat.le_of_ble_eq_true rfl⟩) ⟨fun a U g mk q => ⟨q.1, q.2.1, va_K.moved (u := U) (U := U.calling g mk a) (Vm.Alike.refl U.vm) q.2.2⟩, fun U hU hW => ⟨rfl, hU, va_K.moved hW.alike hK⟩⟩ rfl rfl hl.1 rfl (lv_room (Nat.le_of_ble_eq_true rfl)) dMo_quotient_58 ⟨Nat.zero_le _, Nat.zero_le _⟩) hS (fun _ _ h => h.elim) (fun _ h => h.elim) (fun r u t H1 locs ht hvm hw hB hz8 hk8 hS => ?_)
          obtain rfl : s.heap = H1 := hB.symm.trans ht
          subst hw
          refine lv_lstore (lv' := [(7, .long (f_Mo_divided (if (if a2 = true then (if (0 : Int64) ≤ a0 then false else true) else false) = true then (-a0) else a0) (if (if a2 = true then (if (0 : Int64) ≤ a1 then false else true) else false) = true then (-a1) else a1))), (6, .int (bI (if a2 = true then (if (0 : Int64) ≤ a1 then false else true) else false))), (5, .int (bI (if a2 = true then (if (0 : Int64) ≤ a0 then false else true) else false))), (0, .long a0), (2, .long a1), (4, .int (bI a2))]) hx hb dMo_quotient_61 hl (by decide) rfl (fun ls hl => ?_)
          refine lv_iload hx hb dMo_quotient_63 (lv_at hl 2 rfl) ?_
          refine lv_iload hx hb dMo_quotient_65 (lv_at hl 1 rfl) ?_
          refine lv_icmp_eq (tgt := 76) hx hb dMo_quotient_67 (by decide) (fun c5 => ?_) (fun c5 => ?_)
          · skip
            refine lv_lload hx hb dMo_quotient_76 (lv_at hl 0 rfl) ?_
            exact W.lret (v := (f_Mo_divided (if (if a2 = true then (if (0 : Int64) ≤ a0 then false else true) else false) = true then (-a0) else a0) (if (if a2 = true then (if (0 : Int64) ≤ a1 then false else true) else false) = true then (-a1) else a1))) hx hb hr (fun t ht hW => ⟨⟨(f_Mo_divided (if (if a2 = true then (if (0 : Int64) ≤ a0 then false else true) else false) = true then (-a0) else a0) (if (if a2 = true then (if (0 : Int64) ≤ a1 then false else true) else false) = true then (-a1) else a1)), (), rfl, (by unfold f_Mo_quotient; rw [if_pos c5]; try rfl), ht⟩, hS.F ht⟩) hS.2.2 dMo_quotient_78
          · skip
            refine lv_lload hx hb dMo_quotient_70 (lv_at hl 0 rfl) ?_
            refine lv_lneg hx hb dMo_quotient_72 ?_
            refine lv_goto (tgt := 78) hx hb dMo_quotient_73 (by decide) ?_
            exact W.lret (v := (-(f_Mo_divided (if (if a2 = true then (if (0 : Int64) ≤ a0 then false else true) else false) = true then (-a0) else a0) (if (if a2 = true then (if (0 : Int64) ≤ a1 then false else true) else false) = true then (-a1) else a1)))) hx hb hr (fun t ht hW => ⟨⟨(-(f_Mo_divided (if (if a2 = true then (if (0 : Int64) ≤ a0 then false else true) else false) = true then (-a0) else a0) (if (if a2 = true then (if (0 : Int64) ≤ a1 then false else true) else false) = true then (-a1) else a1))), (), rfl, (by unfold f_Mo_quotient; rw [if_neg c5]; try rfl), ht⟩, hS.F ht⟩) hS.2.2 dMo_quotient_78
        refine lv_if_eq (tgt := 57) hx hb dMo_quotient_49 (by decide) (fun c6 => ?_) (fun c6 => ?_)
        · have c6 := bI_z c6
          refine lv_lload_n hx hb dMo_quotient_57 rfl (lv_at hl 3 rfl) ?_
          exact jn4 a1 (by rw [if_neg c6]) _ hS
        · have c6 := bI_n c6
          refine lv_lload_n hx hb dMo_quotient_52 rfl (lv_at hl 3 rfl) ?_
          refine lv_lneg hx hb dMo_quotient_53 ?_
          refine lv_goto (tgt := 58) hx hb dMo_quotient_54 (by decide) ?_
          exact jn4 (-a1) (by rw [if_pos c6]) _ hS
      refine lv_if_eq (tgt := 46) hx hb dMo_quotient_38 (by decide) (fun c7 => ?_) (fun c7 => ?_)
      · have c7 := bI_z c7
        refine lv_lload_n hx hb dMo_quotient_46 rfl (lv_at hl 2 rfl) ?_
        exact jn3 a0 (by rw [if_neg c7]) _ hS
      · have c7 := bI_n c7
        refine lv_lload_n hx hb dMo_quotient_41 rfl (lv_at hl 2 rfl) ?_
        refine lv_lneg hx hb dMo_quotient_42 ?_
        refine lv_goto (tgt := 47) hx hb dMo_quotient_43 (by decide) ?_
        exact jn3 (-a0) (by rw [if_pos c7]) _ hS
    refine lv_if_eq (tgt := 33) hx hb dMo_quotient_20 (by decide) (fun c8 => ?_) (fun c8 => ?_)
    · have c8 := bI_z c8
      refine lv_iconst (v := (0 : Int32)) hx hb dMo_quotient_33 (by decide) ?_
      exact jn2 false (by rw [if_neg c8]) _ hS
    · have c8 := bI_n c8
      refine lv_lload_n hx hb dMo_quotient_23 rfl (lv_at hl 2 rfl) ?_
      refine lv_lconst (v := (0 : Int64)) hx hb dMo_quotient_24 (by decide) ?_
      refine W.lcmp hx hb dMo_quotient_25 ?_
      refine lv_if_ge (tgt := 33) hx hb dMo_quotient_26 (by decide) (fun c9 => ?_) (fun c9 => ?_)
      · have c9 := (lg_cmp_ge _ _).mp c9
        refine lv_iconst (v := (0 : Int32)) hx hb dMo_quotient_33 (by decide) ?_
        exact jn2 false (by rw [if_pos c8, if_pos c9]) _ hS
      · have c9 := mt (lg_cmp_ge _ _).mpr c9
        refine lv_iconst (v := (1 : Int32)) hx hb dMo_quotient_29 (by decide) ?_
        refine lv_goto (tgt := 34) hx hb dMo_quotient_30 (by decide) ?_
        exact jn2 true (by rw [if_pos c8, if_neg c9]) _ hS
  refine lv_if_eq (tgt := 15) hx hb dMo_quotient_2 (by decide) (fun c10 => ?_) (fun c10 => ?_)
  · have c10 := bI_z c10
    refine lv_iconst (v := (0 : Int32)) hx hb dMo_quotient_15 (by decide) ?_
    exact jn1 false (by rw [if_neg c10]) _ hS
  · have c10 := bI_n c10
    refine lv_lload_n hx hb dMo_quotient_5 rfl (lv_at hl 0 rfl) ?_
    refine lv_lconst (v := (0 : Int64)) hx hb dMo_quotient_6 (by decide) ?_
    refine W.lcmp hx hb dMo_quotient_7 ?_
    refine lv_if_ge (tgt := 15) hx hb dMo_quotient_8 (by decide) (fun c11 => ?_) (fun c11 => ?_)
    · have c11 := (lg_cmp_ge _ _).mp c11
      refine lv_iconst (v := (0 : Int32)) hx hb dMo_quotient_15 (by decide) ?_
      exact jn1 false (by rw [if_pos c10, if_pos c11]) _ hS
    · have c11 := mt (lg_cmp_ge _ _).mpr c11
      refine lv_iconst (v := (1 : Int32)) hx hb dMo_quotient_11 (by decide) ?_
      refine lv_goto (tgt := 16) hx hb dMo_quotient_12 (by decide) ?_
      exact jn1 true (by rw [if_pos c10, if_neg c11]) _ hS

def l_Mo_turned_5  (a0 : Int64) (a1 : Int32) : Nat → (Int32) → (Int64) → Int64
  | 0, _, _ => default
  | n + 1, k, v =>
    if a1 ≤ k then
      v
    else
      l_Mo_turned_5 a0 a1 n (k + (8 : Int32)) (((256 : Int64) * v) + ((j_lushr a0 k) &&& (255 : Int64)))
def f_Mo_turned  (a0 : Int64) (a1 : Int32) : Int64 :=
  l_Mo_turned_5 a0 a1 65 (0 : Int32) (0 : Int64)
set_option maxHeartbeats 4000000 in
set_option maxRecDepth 100000 in
theorem c_Mo_turned (l : Launch) (G : va_G) (cB cL cI : ClassId) (Hp : Heap) (a0 : Int64) (a1 : Int32) (hP : va_P G vwCl [] Hp) (hbt : a1 = 16 ∨ a1 = 32 ∨ a1 = 64) : Met l yMo_turned wsMo_turned ({ frames := 0, cells := 0, slots := 0, locals := 0 }) (va_Pc [.long a0, .int a1] (fun U => U.heap = Hp ∧ va_K G vwCl [(cB, .byte), (cL, .long), (cI, .int)] U)) (va_Ql (fun (r : Int64) (_ : Unit) => r = (f_Mo_turned a0 a1)) (fun _ t => t.heap = Hp) (fun _ => False)) 0 0 (fun _ => False) := by
  refine Met.ofW (cc := cMo_turned) (maxL := 6) (ret := (some .long)) (by decide) rfl ?_
  intro p e s m args below meth c s₁ B hml hv
  obtain ⟨rfl, rfl, hK⟩ := hv
  have hx := B.exec
  have hb := B.bytes
  have hr := B.returns
  have hT : ∀ w ∈ tB, w.before _ s = true := fun w h => atoms_spec (ws := wsMo_turned) B.pre w (List.mem_cons_of_mem _ h)
  have hown : s.vm.findClass "CompiledProgramModel" = some m.cls := findClass_of_methodNamed B.named
  have hlocks := B.notSynchronized
  have hA : ∀ q : Nat, (fun _ : Nat => False) q → False := fun _ h => h
  have hS : va_S (fun _ => False) s.heap s.heap [] := va_S.rf
  have hl := lv_entry ([.long a0, .int a1]) (n := 6) (Nat.le_of_ble_eq_true rfl)
  rw [lg_entry_eq]
  generalize (lg_sl ([.long a0, .int a1]) ++ List.replicate (6 - (lg_sl ([.long a0, .int a1])).length) Slot.unset).toArray = ls at hl ⊢
  have hl : lv_has ls 6 [(0, .long a0), (2, .int a1)] := hl
  refine lv_lconst (v := (0 : Int64)) hx hb dMo_turned_0 (by decide) ?_
  refine lv_lstore_n (lv' := [(3, .long (0 : Int64)), (0, .long a0), (2, .int a1)]) hx hb dMo_turned_1 rfl hl (by decide) rfl (fun ls hl => ?_)
  refine lv_iconst (v := (0 : Int32)) hx hb dMo_turned_2 (by decide) ?_
  refine lv_istore (lv' := [(5, .int (0 : Int32)), (3, .long (0 : Int64)), (0, .long a0), (2, .int a1)]) hx hb dMo_turned_3 hl (by decide) rfl (fun ls hl => ?_)
  have loop : ∀ (n : Nat) (k : Int32) (v : Int64), (0 ≤ k.toInt) → (a1.toInt - k.toInt).toNat < n → (f_Mo_turned a0 a1) = l_Mo_turned_5 a0 a1 n k v → ∀ (locs : List Loc), va_S (fun _ => False) s.heap s.heap locs → ∀ (ls : Array Slot), lv_has ls 6 [(5, .int k), (3, .long v), (0, .long a0), (2, .int a1)] → W p l e (headSpec wsMo_turned ({ frames := 0, cells := 0, slots := 0, locals := 0 })).room s m ([.long a0, .int a1] : List Value).toArray below meth c s.heap locs 0 0 (MQ below (va_Ql (fun (r : Int64) (_ : Unit) => r = (f_Mo_turned a0 a1)) (fun _ t => t.heap = s.heap) (fun _ => False)) ([.long a0, .int a1] : List Value).toArray s 0 0 (fun _ => False)) (F0 m 5 ls []) := by
    intro n
    induction n with
    | zero =>
      intro k v hk0 hM
      exact absurd hM (Nat.not_lt_zero _)
    | succ n ih =>
      intro k v hk0 hM hE locs hS ls hl
      refine lv_iload hx hb dMo_turned_5 (lv_at hl 0 rfl) ?_
      refine lv_iload_n hx hb dMo_turned_7 rfl (lv_at hl 3 rfl) ?_
      refine lv_icmp_ge (tgt := 36) hx hb dMo_turned_8 (by decide) (fun c1 => ?_) (fun c1 => ?_)
      · skip
        refine lv_lload_n hx hb dMo_turned_36 rfl (lv_at hl 1 rfl) ?_
        exact W.lret (v := v) hx hb hr (fun t ht hW => ⟨⟨v, (), rfl, (by rw [hE, l_Mo_turned_5, if_pos c1]; try rfl), ht⟩, hS.F ht⟩) hS.2.2 dMo_turned_37
      · skip
        refine lv_ldc2 (v := (256 : Int64)) hx hb hown (hT _ mw_724) dMo_turned_11 ?_
        refine lv_lload_n hx hb dMo_turned_14 rfl (lv_at hl 1 rfl) ?_
        refine lv_lmul hx hb dMo_turned_15 ?_
        refine lv_lload_n hx hb dMo_turned_16 rfl (lv_at hl 2 rfl) ?_
        refine lv_iload hx hb dMo_turned_17 (lv_at hl 0 rfl) ?_
        refine lv_lushr (v := (j_lushr a0 k)) hx hb dMo_turned_19 rfl ?_
        refine lv_ldc2 (v := (255 : Int64)) hx hb hown (hT _ mw_741) dMo_turned_20 ?_
        refine lv_land hx hb dMo_turned_23 ?_
        refine lv_ladd hx hb dMo_turned_24 ?_
        refine lv_lstore_n (lv' := [(3, .long (((256 : Int64) * v) + ((j_lushr a0 k) &&& (255 : Int64)))), (5, .int k), (0, .long a0), (2, .int a1)]) hx hb dMo_turned_25 rfl hl (by decide) rfl (fun ls hl => ?_)
        refine lv_iload hx hb dMo_turned_26 (lv_at hl 1 rfl) ?_
        refine lv_bipush (v := (8 : Int32)) hx hb dMo_turned_28 (by decide) ?_
        refine lv_iadd hx hb dMo_turned_30 ?_
        refine lv_istore (lv' := [(5, .int (k + (8 : Int32))), (3, .long (((256 : Int64) * v) + ((j_lushr a0 k) &&& (255 : Int64)))), (0, .long a0), (2, .int a1)]) hx hb dMo_turned_31 hl (by decide) rfl (fun ls hl => ?_)
        refine lv_goto (tgt := 5) hx hb dMo_turned_33 (by decide) ?_
        exact ih (k + (8 : Int32)) (((256 : Int64) * v) + ((j_lushr a0 k) &&& (255 : Int64))) (tu_b1 hbt hk0 c1) (tu_b2 hbt hk0 c1 hM) (by rw [hE, l_Mo_turned_5, if_neg c1]) _ hS ls (lv_sub hl [0, 1, 2, 3] rfl)
  exact loop 65 (0 : Int32) (0 : Int64) (by decide) (tu_fuel hbt) rfl _ hS ls (lv_sub hl [0, 1, 2, 3] rfl)
